theorem abs_neg (x : Int32) : absV (-x) = absV x := by
  have h0 : (0 : Int32).toInt = 0 := rfl
  have hx := x.toInt_lt
  have hx2 := x.le_toInt
  by_cases hm : x.toInt = -2147483648
  · have e : -x = x := Int32.toInt_inj.mp (by rw [Int32.toInt_neg, hm]; decide)
    rw [e]
  · have e : (-x).toInt = -x.toInt := by
      rw [Int32.toInt_neg]
      exact Int.bmod_eq_of_le (by omega) (by omega)
    unfold absV
    by_cases a : 0 ≤ x
    · rw [if_pos a]
      rw [Int32.le_iff_toInt_le, h0] at a
      by_cases b : 0 ≤ -x
      · rw [if_pos b]
        rw [Int32.le_iff_toInt_le, e, h0] at b
        exact Int32.toInt_inj.mp (by rw [e]; omega)
      · rw [if_neg b, Int32.zero_sub, Int32.neg_neg]
    · rw [if_neg a]
      rw [Int32.le_iff_toInt_le, h0] at a
      rw [if_pos (by rw [Int32.le_iff_toInt_le, e, h0]; omega)]
      exact (Int32.zero_sub x).symm
theorem abs_sub (x y : Int32) : absV (x - y) = absV (y - x) := by rw [← Int32.neg_sub, abs_neg]
-- which text counts
theorem best_eq {a b : jm} {o : Nat} {w : Int32} (ht : a o 13 = b 141 1) : ∀ T, T ≤ 14 → rT a b 141 T → bestV a o w T = orN (cntR b w T)
  | 0, _, _ => rfl
  | n + 1, hn, h => by
    have ih := best_eq (w := w) ht n (by omega) (fun t hh => h t (by omega))
    obtain ⟨e1, e2, -⟩ := h n (by omega)
    rw [bestV, cntR, ih, e1, e2, ht]
    have key : ((orN (cntR b w n) = NONEv ∨ a 76 (tN (orN (cntR b w n))) ≤ b 141 (440 + 200 * n + 1)) ↔ (cntR b w n < 0 ∨ b 141 (440 + 200 * tN (cntR b w n) + 1) ≤ b 141 (440 + 200 * n + 1))) := by
      rcases cntR_in b w n (by omega) with z | ⟨t, h1, z, -⟩
      · rw [z]
        exact ⟨fun _ => Or.inl (by decide), fun _ => Or.inl rfl⟩
      · have eo : orN (cntR b w n) = nI t := by rw [z]; exact if_neg (nI_n0 (by omega))
        rw [eo, z, tN_n (by omega), (h t (by omega)).2.1]
        exact ⟨fun y => Or.inr (y.resolve_left (nI_NONE (by omega))), fun y => Or.inr (y.resolve_left (nI_n0 (by omega)))⟩
    by_cases c : (b 141 (440 + 200 * n) = w ∧ b 141 (440 + 200 * n + 1) ≤ b 141 1) ∧ (cntR b w n < 0 ∨ b 141 (440 + 200 * tN (cntR b w n) + 1) ≤ b 141 (440 + 200 * n + 1))
    · rw [if_pos c, if_pos ⟨c.1, key.mpr c.2⟩]
      exact (if_neg (nI_n0 (by omega))).symm
    · rw [if_neg c, if_neg (fun z => c ⟨z.1, key.mp z.2⟩)]
theorem wrun_n {f g : Nat → Int32} (x y z u : Int32) : ∀ n, (∀ k, k < n → g k = f k) → wrun x y z u g n = wrun x y z u f n
  | 0, _ => rfl
  | n + 1, h => by rw [wrun, wrun, wrun_n x y z u n (fun k hk => h k (by omega)), h n (by omega)]
theorem txV_eq {a b : jm} {T t : Nat} (h : rT a b 141 T) (hT : T ≤ 14) (ht : t < T) (x y z u : Int32) : textV a (nI t) x y z u = txV b (nI t) x y z u := by
  obtain ⟨-, -, -, n, hn, e1, e2, e3, -⟩ := h t ht
  unfold textV txV worthV
  rw [tN_n (by omega), e1, e2, tN_n (by omega), wrun_n x y z u n (fun k hk => (e3 k hk).1)]
  rfl
theorem snd_eq {a b : jm} {T t : Nat} (h : rT a b 141 T) (ht : t < T) : sndT b t := by
  obtain ⟨-, -, -, n, hn, e1, e2, e3, e4⟩ := h t ht
  exact ⟨n, hn, e2, fun k hk => (e3 k hk).2, e4⟩
theorem wfX_eq {a b : jm} {T t : Nat} (h : rT a b 141 T) (hT : T ≤ 14) (ht : t < T) : wfX a (nI t) := by
  obtain ⟨-, -, -, n, hn, e1, e2, e3, e4⟩ := h t ht
  refine Or.inr ⟨vp_in_nI (by omega) (by decide), n, hn, by rw [tN_n (by omega)]; exact e1, ?_⟩
  rw [tN_n (by omega)]
  exact wfC_n (fun k hk => (e3 k hk).1) e4
theorem wfX_best {a b : jm} {o T : Nat} {w : Int32} (ht : a o 13 = b 141 1) (hT : T ≤ 14) (h : rT a b 141 T) : wfX a (bestV a o w T) := by
  rw [best_eq ht T hT h]
  rcases cntR_in b w T hT with z | ⟨t, h1, z, -⟩
  · rw [z]; exact Or.inl rfl
  · rw [z, show orN (nI t) = nI t from if_neg (nI_n0 (by omega))]
    exact wfX_eq h hT h1
-- edges
theorem edg_way {F : Nat → Int32} {E : Int32} {p w : Nat} {c : Prop} [Decidable c] {q : Nat} (h : besW p w < 0 ↔ ¬ c) (hq : c → besW p w = nI q ∧ q < 48) : (if edF F E p w = true then 1 else 0) = if c ∧ E ≤ absV (F p - F q) then 1 else 0 := by
  unfold edF
  by_cases z : c
  · have hb := hq z
    rw [decide_eq_true (p := ¬ besW p w < 0) (fun y => h.mp y z), Bool.true_and, hb.1, tN_n (by omega), siz_abs]
    by_cases y : E ≤ absV (F p - F q)
    · rw [decide_eq_true y, if_pos rfl, if_pos ⟨z, y⟩]
    · rw [decide_eq_false y, if_neg Bool.false_ne_true, if_neg (fun x => y x.2)]
  · rw [decide_eq_false (p := ¬ besW p w < 0) (fun y => y (h.mpr z)), Bool.false_and, if_neg Bool.false_ne_true, if_neg (fun x => z x.1)]
theorem ifc {p q : Prop} [Decidable p] [Decidable q] (h : p ↔ q) : (if p then 1 else 0 : Nat) = if q then 1 else 0 := by
  by_cases y : q
  · rw [if_pos y, if_pos (h.mpr y)]
  · rw [if_neg y, if_neg (fun z => y (h.mp z))]
theorem cnt4 (c : Nat → Bool) : cnt c 4 = (if c 0 = true then 1 else 0) + (if c 1 = true then 1 else 0) + (if c 2 = true then 1 else 0) + (if c 3 = true then 1 else 0) := by
  have h : ∀ n, cnt c (n + 1) = cnt c n + (if c n = true then 1 else 0) := fun n => by
    cases e : c n with
    | true => rw [cnt_t e, if_pos rfl]
    | false => rw [cnt_f (by rw [e]; exact Bool.false_ne_true), if_neg Bool.false_ne_true]
  rw [h 3, h 2, h 1, h 0]
  show 0 + _ + _ + _ + _ = _
  rw [Nat.zero_add]
theorem edg_eq {F : Nat → Int32} {E : Int32} {p : Nat} (hp : p < 48) : edgN F E p = edcF F E p := by
  have n1 : (-1 : Int32) < 0 := by decide
  have w0 : (besW p 0 < 0 ↔ ¬ p % 8 < 7) ∧ (p % 8 < 7 → besW p 0 = nI (p + 1) ∧ p + 1 < 48) := by
    have e : besW p 0 = if p % 8 < 7 then nI (p + 1) else -1 := rfl
    by_cases c : p % 8 < 7
    · rw [e, if_pos c]; exact ⟨⟨fun z => absurd z (nI_n0 (by omega)), fun z => absurd c z⟩, fun _ => ⟨rfl, by omega⟩⟩
    · rw [e, if_neg c]; exact ⟨⟨fun _ => c, fun _ => n1⟩, fun z => absurd z c⟩
  have w1 : (besW p 1 < 0 ↔ ¬ 0 < p % 8) ∧ (0 < p % 8 → besW p 1 = nI (p - 1) ∧ p - 1 < 48) := by
    have e : besW p 1 = if 0 < p % 8 then nI (p - 1) else -1 := rfl
    by_cases c : 0 < p % 8
    · rw [e, if_pos c]; exact ⟨⟨fun z => absurd z (nI_n0 (by omega)), fun z => absurd c z⟩, fun _ => ⟨rfl, by omega⟩⟩
    · rw [e, if_neg c]; exact ⟨⟨fun _ => c, fun _ => n1⟩, fun z => absurd z c⟩
  have w2 : (besW p 2 < 0 ↔ ¬ p < 40) ∧ (p < 40 → besW p 2 = nI (p + 8) ∧ p + 8 < 48) := by
    have e : besW p 2 = if p + 8 < 48 then nI (p + 8) else -1 := rfl
    by_cases c : p < 40
    · rw [e, if_pos (by omega)]; exact ⟨⟨fun z => absurd z (nI_n0 (by omega)), fun z => absurd c z⟩, fun _ => ⟨rfl, by omega⟩⟩
    · rw [e, if_neg (by omega)]; exact ⟨⟨fun _ => c, fun _ => n1⟩, fun z => absurd z c⟩
  have w3 : (besW p 3 < 0 ↔ ¬ 8 ≤ p) ∧ (8 ≤ p → besW p 3 = nI (p - 8) ∧ p - 8 < 48) := by
    have e : besW p 3 = nI p - nI 8 := rfl
    by_cases c : 8 ≤ p
    · rw [e, pk_sub c]; exact ⟨⟨fun z => absurd z (nI_n0 (by omega)), fun z => absurd c z⟩, fun _ => ⟨rfl, by omega⟩⟩
    · have e2 : (nI p - nI 8).toInt = (p : Int) - 8 := by
        rw [Int32.toInt_sub, nI_toInt (by omega), nI_toInt (by decide)]
        exact Int.bmod_eq_of_le (by omega) (by omega)
      refine ⟨⟨fun _ => c, fun _ => ?_⟩, fun z => absurd z c⟩
      rw [e, Int32.lt_iff_toInt_lt, e2, show (0 : Int32).toInt = 0 from rfl]
      omega
  unfold edgN edgI edcF edgP
  rw [cnt4, edg_way w0.1 w0.2, edg_way w1.1 w1.2, edg_way w2.1 w2.2, edg_way w3.1 w3.2, abs_sub (F (p - 1)) (F p), abs_sub (F (p - 8)) (F p)]
  simp only [decide_eq_true_eq]
  have q0 : (p < 48 ∧ p % 8 < 7 ∧ E ≤ absV (F p - F (p + 1))) ↔ (p % 8 < 7 ∧ E ≤ absV (F p - F (p + 1))) := ⟨fun z => z.2, fun z => ⟨hp, z⟩⟩
  have q1 : (p < 48 ∧ p < 40 ∧ E ≤ absV (F p - F (p + 8))) ↔ (p < 40 ∧ E ≤ absV (F p - F (p + 8))) := ⟨fun z => z.2, fun z => ⟨hp, z⟩⟩
  have q2 : (1 ≤ p ∧ p - 1 < 48 ∧ (p - 1) % 8 < 7 ∧ E ≤ absV (F p - F (p - 1))) ↔ (0 < p % 8 ∧ E ≤ absV (F p - F (p - 1))) := ⟨fun z => ⟨by have := z.1; have := z.2.2.1; omega, z.2.2.2⟩, fun z => ⟨by have := z.1; omega, by omega, by have := z.1; omega, z.2⟩⟩
  have q3 : (8 ≤ p ∧ p - 8 < 48 ∧ E ≤ absV (F p - F (p - 8))) ↔ (8 ≤ p ∧ E ≤ absV (F p - F (p - 8))) := ⟨fun z => ⟨z.1, z.2.2⟩, fun z => ⟨z.1, by omega, z.2⟩⟩
  rw [ifc q0, ifc q1, ifc q2, ifc q3]
  omega
theorem saw_eq {a b : jm} {o T : Nat} (ht : a o 13 = b 141 1) (hT : T ≤ 14) (h : rT a b 141 T) (far gr mov ed : Int32) :
    (if bestV a o (nI 6) T = NONEv then decide (nI 9 < far) else decide (¬ textV a (bestV a o (nI 6) T) far gr mov ed = 0)) = sawF b (cntR b (nI 6) T) far gr mov ed := by
  rw [best_eq ht T hT h]
  unfold sawF
  rcases cntR_in b (nI 6) T hT with z | ⟨t, h1, z, -⟩
  · rw [z, show orN (-1) = NONEv from rfl, if_pos rfl, if_pos (by decide)]
  · rw [z, show orN (nI t) = nI t from if_neg (nI_n0 (by omega)), if_neg (nI_NONE (by omega)), if_neg (nI_n0 (by omega)), txV_eq h hT h1]
theorem see_eq {a b : jm} {o P T g p : Nat} (hS : rS a b o 141 P) (hX : rX a b) (hT : T ≤ 14) (h : rT a b 141 T) (hg : g < 4) (hp : p < 48) : seeG a o g (bestV a o (nI 6) T) p = seR b g P (cntR b (nI 6) T) p := by
  have ht := hS.2.2.2.1
  have hw := hS.2.2.2.2.2.2.1 p hp
  have he := hS.2.2.2.2.2.2.2.2.2.1 2 (by decide)
  unfold seeG movL seR seeF
  rw [saw_eq ht hT h, lit_eq hS hp, shd_eq hX hg hp, hw, he, edg_eq hp, siz_abs, siz_abs, edcF_c hp (fun q hq => lit_eq hS hq)]

-- questions
def dWQ (b : jm) (g : Nat) (q : Int32) (k w : Nat) : Int32 := if besW k w < 0 then nI 0 else addQ b q w (farQ b g k w)
theorem addQ_o (b : jm) (q v : Int32) {w : Nat} (h : w % 2 = 1) : addQ b q w v = nI 0 := if_pos h
theorem x0 (x : Int32) : x + nI 0 = x := Int32.add_zero x
theorem way_s (b : jm) (g : Nat) (q : Int32) (k : Nat) (s : Int32) (w : Nat) : wayQ b g q k s (w + 1) = wayQ b g q k s w + dWQ b g q k w := by
  unfold dWQ
  rw [wayQ]
  by_cases c : besW k w < 0
  · rw [if_pos c, if_pos c, x0]
  · rw [if_neg c, if_neg c]
theorem dWQ_o (b : jm) (g : Nat) (q : Int32) (k : Nat) {w : Nat} (h : w % 2 = 1) : dWQ b g q k w = nI 0 := by
  unfold dWQ
  by_cases c : besW k w < 0
  · rw [if_pos c]
  · rw [if_neg c, addQ_o b q _ h]
theorem way_4 (b : jm) (g : Nat) (q : Int32) (k : Nat) (s : Int32) : wayQ b g q k s 4 = s + dWQ b g q k 0 + dWQ b g q k 2 := by
  rw [way_s, way_s, way_s, way_s, dWQ_o b g q k (w := 3) rfl, dWQ_o b g q k (w := 1) rfl, x0, x0]
  rfl
theorem dif_W {f : Nat → Int32} {k s : Nat} (hk : k < 48) (hs : s < 4) : difV f k s = if besW k (swp s) < 0 then nI 0 else absV (f k - f (tN (besW k (swp s)))) := by
  unfold difV
  rcases bes_sw (p := k) (s := s) hk hs with q | q
  · rw [if_pos q.1, if_pos q.2]
  · obtain ⟨q1, p, hp, q2⟩ := q
    rw [if_neg (by rw [q2]; exact nI_NONE hp), ← q1, if_neg (by rw [q2]; exact nI_n0 (by omega))]
theorem dWQ_1 {b : jm} {g k s : Nat} (hk : k < 48) (hs : s < 4) (h2 : swp s % 2 = 0) : dWQ b g (nI 1) k (swp s) = difV (shdR b g) k s := by
  rw [dif_W hk hs]
  unfold dWQ
  by_cases c : besW k (swp s) < 0
  · rw [if_pos c, if_pos c]
  · rw [if_neg c, if_neg c]
    unfold addQ farQ
    rw [if_neg (by omega), if_pos rfl, siz_abs]
theorem dWQ_2 {b : jm} {g k s : Nat} (hk : k < 48) (hs : s < 4) (h2 : swp s % 2 = 0) (he : nI 1 ≤ b 141 4) : dWQ b g (nI 2) k (swp s) = nI (if edgB (shdR b g) (b 141 4) k s then 1 else 0) := by
  unfold edgB
  rw [dif_W hk hs]
  unfold dWQ
  by_cases c : besW k (swp s) < 0
  · rw [if_pos c, if_pos c, if_neg (fun z => absurd (Int32.le_trans he (of_decide_eq_true z)) (by decide))]
  · rw [if_neg c, if_neg c]
    unfold addQ farQ
    rw [if_neg (by omega), if_neg (by decide), if_pos rfl, siz_abs]
    by_cases y : b 141 4 ≤ absV (shdR b g k - shdR b g (tN (besW k (swp s))))
    · rw [if_pos y, if_pos (decide_eq_true y)]
    · rw [if_neg y, if_neg (fun z => y (of_decide_eq_true z))]
theorem dWQ_n {b : jm} {g k w : Nat} {q : Int32} (h1 : ¬ q = nI 1) (h2 : ¬ q = nI 2) : dWQ b g q k w = nI 0 := by
  unfold dWQ addQ
  by_cases c : besW k w < 0
  · rw [if_pos c]
  · rw [if_neg c]
    by_cases o : w % 2 = 1
    · rw [if_pos o]
    · rw [if_neg o, if_neg h1, if_neg h2]
theorem lst_n {b : jm} {g k : Nat} {q : Int32} (h : ¬ q = nI 3) : lstQ b g q k = nI 0 := if_neg (fun z => h z.1)
theorem sum_0 {b : jm} {g : Nat} : ∀ n, sumQ b g (nI 0) n = sumV (shdR b g) n
  | 0 => rfl
  | n + 1 => by
    rw [sumQ, way_4, dWQ_n (by decide) (by decide), dWQ_n (by decide) (by decide), lst_n (by decide), x0, x0, x0, sum_0 n]
    rfl
theorem own_n {b : jm} {g k : Nat} {q : Int32} (h : ¬ q = 0) : ownQ b g q k = nI 0 := if_neg h
theorem sum_1 {b : jm} {g : Nat} : ∀ n, n ≤ 48 → sumQ b g (nI 1) n = sumV (fun p => difV (shdR b g) p 1 + difV (shdR b g) p 3) n
  | 0, _ => rfl
  | n + 1, hn => by
    rw [sumQ, way_4, own_n (by decide), lst_n (by decide), x0, x0, sum_1 n (by omega), Int32.add_assoc, show dWQ b g (nI 1) n 0 = difV (shdR b g) n 1 from dWQ_1 (s := 1) (by omega) (by decide) (by decide), show dWQ b g (nI 1) n 2 = difV (shdR b g) n 3 from dWQ_1 (s := 3) (by omega) (by decide) (by decide)]
    rfl
theorem sum_2 {b : jm} {g : Nat} (he : nI 1 ≤ b 141 4) : ∀ n, n ≤ 48 → sumQ b g (nI 2) n = nI (ecnt (shdR b g) (b 141 4) n)
  | 0, _ => rfl
  | n + 1, hn => by
    rw [sumQ, way_4, own_n (by decide), lst_n (by decide), x0, x0, sum_2 he n (by omega), show dWQ b g (nI 2) n 0 = _ from dWQ_2 (s := 1) (by omega) (by decide) (by decide) he, show dWQ b g (nI 2) n 2 = _ from dWQ_2 (s := 3) (by omega) (by decide) (by decide) he, nI_add, nI_add]
    rfl
theorem bri_s (b : jm) (g k w : Nat) : briQ b g k (w + 1) = (briQ b g k w && decide (besW k w < 0 ∨ b 141 4 ≤ farQ b g k w)) := by
  rw [briQ]
  by_cases c : besW k w < 0
  · rw [if_pos c, decide_eq_true (Or.inl c), Bool.and_true]
  · rw [if_neg c]
    by_cases y : b 141 4 ≤ farQ b g k w
    · rw [decide_eq_true y, decide_eq_true (Or.inr y)]
    · rw [decide_eq_false y, decide_eq_false (fun z => z.elim c y)]
theorem brB_W {b : jm} {g k s : Nat} (hk : k < 48) (hs : s < 4) : brB (shdR b g) (b 141 4) k s = decide (besW k (swp s) < 0 ∨ b 141 4 ≤ farQ b g k (swp s)) := by
  unfold brB farQ
  rcases bes_sw (p := k) (s := s) hk hs with q | q
  · rw [decide_eq_true (Or.inl q.1), decide_eq_true (Or.inl q.2)]
  · obtain ⟨q1, p, hp, q2⟩ := q
    have n1 : ¬ besV k s = NONEv := by rw [q2]; exact nI_NONE hp
    have n2 : ¬ besW k (swp s) < 0 := by rw [← q1, q2]; exact nI_n0 (by omega)
    rw [← q1]
    rw [← q1] at n2
    by_cases y : b 141 4 ≤ shdR b g k - shdR b g (tN (besV k s))
    · rw [decide_eq_true (Or.inr y), decide_eq_true (Or.inr y)]
    · rw [decide_eq_false (fun z => z.elim n1 y), decide_eq_false (fun z => z.elim n2 y)]
theorem bri_4 {b : jm} {g k : Nat} (hk : k < 48) : allB (brB (shdR b g) (b 141 4) k) 4 = briQ b g k 4 := by
  rw [bri_s, bri_s, bri_s, bri_s]
  have b0 : briQ b g k 0 = true := rfl
  rw [b0]
  show ((((true && brB _ _ k 0) && brB _ _ k 1) && brB _ _ k 2) && brB _ _ k 3) = _
  rw [brB_W (s := 0) hk (by decide), brB_W (s := 1) hk (by decide), brB_W (s := 2) hk (by decide), brB_W (s := 3) hk (by decide)]
  show ((((true && decide (besW k 1 < 0 ∨ b 141 4 ≤ farQ b g k 1)) && decide (besW k 0 < 0 ∨ b 141 4 ≤ farQ b g k 0)) && decide (besW k 3 < 0 ∨ b 141 4 ≤ farQ b g k 3)) && decide (besW k 2 < 0 ∨ b 141 4 ≤ farQ b g k 2)) = _
  cases decide (besW k 0 < 0 ∨ b 141 4 ≤ farQ b g k 0) <;> cases decide (besW k 1 < 0 ∨ b 141 4 ≤ farQ b g k 1) <;> cases decide (besW k 2 < 0 ∨ b 141 4 ≤ farQ b g k 2) <;> cases decide (besW k 3 < 0 ∨ b 141 4 ≤ farQ b g k 3) <;> rfl
theorem sum_3 {b : jm} {g : Nat} : ∀ n, n ≤ 48 → sumQ b g (nI 3) n = nI (cnt (fun p => allB (brB (shdR b g) (b 141 4) p) 4) n)
  | 0, _ => rfl
  | n + 1, hn => by
    rw [sumQ, way_4, own_n (by decide), dWQ_n (by decide) (by decide), dWQ_n (by decide) (by decide), x0, x0, x0, sum_3 n (by omega)]
    unfold lstQ
    by_cases c : briQ b g n 4 = true
    · rw [if_pos ⟨rfl, c⟩, cnt_t (c := fun p => allB (brB (shdR b g) (b 141 4) p) 4) (by show allB _ 4 = true; rw [bri_4 (by omega)]; exact c), nI_add]
    · rw [if_neg (fun z => c z.2), cnt_f (c := fun p => allB (brB (shdR b g) (b 141 4) p) 4) (by show ¬ allB _ 4 = true; rw [bri_4 (by omega)]; exact c), x0]
      rfl
theorem qst_eq {a b : jm} {g : Nat} (hX : rX a b) (he : nI 1 ≤ b 141 4) (hg : g < 4) : q0V (shadeS a g) = qstR b g (nI 0) ∧ q1V (shadeS a g) = qstR b g (nI 1) ∧ q2V (shadeS a g) (b 141 4) = qstR b g (nI 2) ∧ q3V (shadeS a g) (b 141 4) = qstR b g (nI 3) := by
  have hs : ∀ p, p < 48 → shadeS a g p = shdR b g p := fun p hp => shd_eq hX hg hp
  rw [q0V_c hs, q1V_c hs, q2V_c hs, q3V_c hs]
  unfold qstR q0V q1V q2V q3V
  rw [if_pos (show nI 0 = 0 from rfl), if_neg (show ¬ nI 1 = 0 by decide), if_pos rfl, if_neg (show ¬ nI 2 = 0 by decide), if_neg (show ¬ nI 2 = nI 1 by decide), if_neg (show ¬ nI 3 = 0 by decide), if_neg (show ¬ nI 3 = nI 1 by decide), sum_0, sum_1 48 (Nat.le_refl _), sum_2 he 48 (Nat.le_refl _), sum_3 48 (Nat.le_refl _)]
  exact ⟨rfl, rfl, rfl, rfl⟩
theorem ask_v {a b : jm} {g q : Nat} (hX : rX a b) (he : nI 1 ≤ b 141 4) (hg : g < 4) (hq : q < 4) : askM a g (b 141 4) 69 q = qstR b g (nI q) := by
  obtain ⟨h0, h1, h2, h3⟩ := qst_eq hX he hg
  unfold askM
  rcases (show q = 0 ∨ q = 1 ∨ q = 2 ∨ q = 3 by omega) with rfl | rfl | rfl | rfl
  · rw [mup_j (by decide), mup_j (by decide), mup_j (by decide), mup_s]; exact h0
  · rw [mup_j (by decide), mup_j (by decide), mup_s]; exact h1
  · rw [mup_j (by decide), mup_s]; exact h2
  · rw [mup_s]; exact h3
