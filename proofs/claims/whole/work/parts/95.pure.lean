theorem at_ok {a b : jm} {o P : Nat} (h : rS a b o 141 P) : wfAtP a o P ∧ wfAt a o := by
  have hh : ∀ q, q < 48 → a (o + 7) q = NONEv ∨ vp_in (a (o + 7) q) P := fun q hq => by
    rw [h.2.2.2.2.2.2.2.2.2.2.1 q hq]
    rcases onP_lt (m := b) (r := 141) (q := nI q) P with z | ⟨p, hp, z, -⟩
    · exact Or.inl (if_pos z)
    · right
      have h1 := h.1
      rw [z, show orN (nI p) = nI p from if_neg (nI_n0 (by omega))]
      exact vp_in_nI hp (by omega)
  refine ⟨?_, fun q hq => (hh q hq).imp_right (fun z => ?_)⟩
  · exact hh
  · obtain ⟨j, hj, e⟩ := vp_in_of z (by have := h.1; omega)
    rw [e]
    exact vp_in_nI (by have := h.1; omega) (by decide)
theorem told_eq {m : jm} {P : Nat} (hS : rS m m 1 141 P) (p w : Int32) : F_told m p w = R_told m p w := by
  have hS0 := hS
  obtain ⟨s1, s2, s3, s4, s5, s6, s7, s8, s9, s10, s11, s12, s13, s14, s15⟩ := hS
  have e0 : m 141 0 = m 1 0 := s3.trans s2.symm
  unfold F_told R_told
  rw [e0]
  by_cases c : nI 0 ≤ p ∧ p ≤ m 1 0 - nI 1
  · obtain ⟨q, hq, hqe⟩ := w_sub s2 s1 c
    have htq : tN p = q := by rw [hqe]; exact tN_n (by omega)
    obtain ⟨e1, e2, e3, e4, e5, e6⟩ := s5 q hq
    rw [if_neg (Classical.not_not.mpr c), if_neg (Classical.not_not.mpr c), htq, show m 2 q = _ from e1, show m 3 q = _ from e2, show m 4 q = _ from e3, show m 5 q = _ from e4, show m 6 q = _ from e5, show m 7 q = _ from e6, aim_eq hS0 hq, pac_eq hS0 hq, giv_eq hS0 hq]
  · rw [if_pos c, if_pos c]
theorem as_k : ∀ i, i < 6 → ∀ j, j < 6 → (isOfP (nI i) (nI j) ↔ (nI j = 0 ∨ nI j = nI i ∨ (nI j = nI 2 ∧ nI i = nI 3))) := by
  unfold isOfP abvV
  decide +kernel
theorem as_eq {m : jm} {P : Nat} (hS : rS m m 1 141 P) (p k : Int32) : F_as m p k = R_as m p k := by
  obtain ⟨s1, s2, s3, s4, s5, s6, s7, s8, s9, s10, s11, s12, s13, s14, s15⟩ := hS
  have e0 : m 141 0 = m 1 0 := s3.trans s2.symm
  unfold F_as R_as
  rw [e0]
  by_cases c : nI 0 ≤ p ∧ p ≤ m 1 0 - nI 1
  · obtain ⟨q, hq, hqe⟩ := w_sub s2 s1 c
    have htq : tN p = q := by rw [hqe]; exact tN_n (by omega)
    obtain ⟨e1, e2, e3, e4, e5, e6⟩ := s5 q hq
    rw [if_neg (Classical.not_not.mpr c), if_neg (Classical.not_not.mpr c)]
    by_cases c2 : nI 0 ≤ k ∧ k ≤ nI 5
    · rw [if_neg (Classical.not_not.mpr c2), if_neg (Classical.not_not.mpr c2), htq, show m 2 q = _ from e1, show m 4 q = _ from e3]
      obtain ⟨i, hi, ei⟩ := vp_in_of (s6 q hq).1 (by decide)
      obtain ⟨j, hj, ej⟩ := w_of c2 (by decide)
      have hk := as_k i hi j (by omega)
      rw [ei, ej]
      by_cases y : isOfP (nI i) (nI j)
      · rw [if_pos y]
        rcases hk.mp y with z | z | z
        · rw [if_pos z]
        · by_cases z0 : nI j = 0
          · rw [if_pos z0]
          · rw [if_neg z0, if_pos z]
        · by_cases z0 : nI j = 0
          · rw [if_pos z0]
          · rw [if_neg z0]
            by_cases z1 : nI j = nI i
            · rw [if_pos z1]
            · rw [if_neg z1, if_neg (Classical.not_not.mpr z.1), if_neg (Classical.not_not.mpr z.2)]
      · have no := fun z => y (hk.mpr z)
        rw [if_neg y, if_neg (fun z => no (Or.inl z)), if_neg (fun z => no (Or.inr (Or.inl z)))]
        by_cases z1 : nI j = nI 2
        · rw [if_neg (Classical.not_not.mpr z1), if_pos (fun z2 => no (Or.inr (Or.inr ⟨z1, z2⟩)))]
        · rw [if_pos z1]
    · rw [if_pos c2, if_pos c2]
  · rw [if_pos c, if_pos c]
theorem R_told_2 (m : jm) (p w : Int32) : (R_told m p w).2 = m := by unfold R_told; (repeat' split) <;> rfl
theorem R_as_2 (m : jm) (p w : Int32) : (R_as m p w).2 = m := by unfold R_as; (repeat' split) <;> rfl
theorem F_ground_2 (m : jm) (g p : Int32) : (F_ground m g p).2 = m := by unfold F_ground; (repeat' split) <;> rfl
theorem F_of_2 (m : jm) (g p : Int32) : (F_of m g p).2 = m := by unfold F_of; (repeat' split) <;> rfl
theorem F_why_2 (m : jm) (g : Int32) : (F_why m g).2 = m := by unfold F_why; (repeat' split) <;> rfl
theorem F_show_2 (m : jm) (g p : Int32) : (F_show m g p).2 = m := by unfold F_show; (repeat' split) <;> rfl
theorem F_alike_2 (m : jm) (g p : Int32) : (F_alike m g p).2 = m := by unfold F_alike; (repeat' split) <;> rfl
theorem F_count_2 (m : jm) (P : Nat) (g : Int32) : (F_count m P g).2 = m := by unfold F_count; (repeat' split) <;> rfl
theorem F_apart_2 (m : jm) (g : Int32) : (F_apart m g).2 = m := by unfold F_apart; (repeat' split) <;> rfl
theorem Rel_s {a b : jm} {k : Nat} (h : RelA a b k) : RelA a b (k + 1) := Rel_cc h (Nat.le_succ k) (cA_rf a) (cB_rf b)
/-- both leave all as it was, and answer alike -/
theorem pr_same {x : jX} {D k : Nat} {y7 y8 : jMe} {as : List Value} {m : jm} {F R : Int32 × jm} (hR : RelA m m k) (h7 : Ct x D y7 (.ref (jxb x + 0) :: as) m (ji fun rv m' => (rv, m') = F)) (e : F = R) (e2 : F.2 = m) (h8 : Ct x D y8 (.ref (jxb x + 140) :: as) m (ji fun rv m' => (rv, m') = R)) : PrC x D k y7 y8 as m :=
  pr_FR h7 (by rw [e2]; exact h8) (by rw [e]) (by rw [← e, e2]; exact Rel_s hR)
theorem q_told {x : jX} {m : jm} {d k : Nat} (h : RelA m m k) (p w : Int32) : PrC x (d + 120) k eX7_told eX8_told [.int p, .int w] m := by
  have hR := h
  obtain ⟨P, T, L, W, hS, hC, hT, hL, hW, hX, hP, hQ, hH, hK, hF⟩ := h
  have hS0 := hS
  have hC0 := hC
  obtain ⟨s1, s2, s3, s4, s5, s6, s7, s8, s9, s10, s11, s12, s13, s14, s15⟩ := hS
  obtain ⟨c1, c2, c3, c4, c5, c6, c7, c8, c9⟩ := hC
  exact pr_same hR (p_told (d := d + 118) p w s2 s1 s12) (told_eq hS0 p w) (by rw [told_eq hS0 p w]; exact R_told_2 m p w) (m_told (d := d + 117) p w s3 s1 s13)
theorem q_as {x : jX} {m : jm} {d k : Nat} (h : RelA m m k) (p w : Int32) : PrC x (d + 120) k eX7_as eX8_as [.int p, .int w] m := by
  have hR := h
  obtain ⟨P, T, L, W, hS, hC, hT, hL, hW, hX, hP, hQ, hH, hK, hF⟩ := h
  have hS0 := hS
  have hC0 := hC
  obtain ⟨s1, s2, s3, s4, s5, s6, s7, s8, s9, s10, s11, s12, s13, s14, s15⟩ := hS
  obtain ⟨c1, c2, c3, c4, c5, c6, c7, c8, c9⟩ := hC
  exact pr_same hR (p_as (d := d + 119) p w s2 s1 (fun p hp => by rw [show m 2 p = _ from (s5 p hp).1]; exact (s6 p hp).1)) (as_eq hS0 p w) (by rw [as_eq hS0 p w]; exact R_as_2 m p w) (m_as (d := d + 118) p w s3 s1)
theorem ground_eq {m : jm} (hX : rX m m) (g p : Int32) : F_ground m g p = R_ground m g p := by
  unfold F_ground R_ground
  by_cases c : nI 0 ≤ g ∧ g ≤ nI 3
  · rw [if_neg (Classical.not_not.mpr c), if_neg (Classical.not_not.mpr c)]
    by_cases c2 : nI 0 ≤ p ∧ p ≤ nI 47
    · obtain ⟨q, hq, hqe⟩ := w_of c (by decide)
      obtain ⟨r, hr, hre⟩ := w_of c2 (by decide)
      rw [if_neg (Classical.not_not.mpr c2), if_neg (Classical.not_not.mpr c2), hqe, hre, tN_n (by omega), tN_n (by omega), shd_eq hX (by omega) (by omega)]
    · rw [if_pos c2, if_pos c2]
  · rw [if_pos c, if_pos c]
theorem of_eq {m : jm} {T : Nat} (h1 : m 1 14 = nI T) (h2 : m 141 6 = nI T) (hT14 : T ≤ 14) (hT : rT m m 141 T) (t w : Int32) : F_of m t w = R_of m t w := by
  have e0 : m 141 6 = m 1 14 := h2.trans h1.symm
  unfold F_of R_of
  rw [e0]
  by_cases c : nI 0 ≤ t ∧ t ≤ m 1 14 - nI 1
  · obtain ⟨q, hq, hqe⟩ := w_sub h1 (by omega) c
    have htq : tN t = q := by rw [hqe]; exact tN_n (by omega)
    obtain ⟨e1, e2, e3, -⟩ := hT q hq
    rw [if_neg (Classical.not_not.mpr c), if_neg (Classical.not_not.mpr c), htq, e1, e2, e3]
    by_cases c2 : nI 0 ≤ w ∧ w ≤ nI 2
    · obtain ⟨r, hr, hre⟩ := w_of c2 (by decide)
      rw [if_neg (Classical.not_not.mpr c2)]
      rcases (show r = 0 ∨ r = 1 ∨ r = 2 by omega) with rfl | rfl | rfl <;> subst hre <;> rfl
    · rw [if_pos c2, if_neg (fun z => c2 (by rw [z]; decide)), if_neg (fun z => c2 (by rw [z]; decide)), if_neg (fun z => c2 (by rw [z]; decide))]
  · rw [if_pos c, if_pos c]
theorem why_eq {m : jm} {T : Nat} (ht : m 1 13 = m 141 1) (h1 : m 1 14 = nI T) (h2 : m 141 6 = nI T) (hT14 : T ≤ 14) (hT : rT m m 141 T) (g : Int32) : F_why m g = R_why m g := by
  unfold F_why R_why
  rw [h1, h2, tN_n (by omega), best_eq ht T hT14 hT]
theorem q_ground {x : jX} {m : jm} {d k : Nat} (h : RelA m m k) (g p : Int32) : PrC x (d + 120) k eX7_ground eX8_ground [.int g, .int p] m := by
  have hR := h
  obtain ⟨P, T, L, W, hS, hC, hT, hL, hW, hX, hP, hQ, hH, hK, hF⟩ := h
  have hS0 := hS
  have hC0 := hC
  obtain ⟨s1, s2, s3, s4, s5, s6, s7, s8, s9, s10, s11, s12, s13, s14, s15⟩ := hS
  obtain ⟨c1, c2, c3, c4, c5, c6, c7, c8, c9⟩ := hC
  exact pr_same hR (p_ground (d := d + 117) g p) (ground_eq hX g p) (F_ground_2 m g p) (m_ground (d := d + 118) g p)
theorem q_of {x : jX} {m : jm} {d k : Nat} (h : RelA m m k) (t w : Int32) : PrC x (d + 120) k eX7_of eX8_of [.int t, .int w] m := by
  have hR := h
  obtain ⟨P, T, L, W, hS, hC, hT, hL, hW, hX, hP, hQ, hH, hK, hF⟩ := h
  have hS0 := hS
  have hC0 := hC
  obtain ⟨s1, s2, s3, s4, s5, s6, s7, s8, s9, s10, s11, s12, s13, s14, s15⟩ := hS
  obtain ⟨c1, c2, c3, c4, c5, c6, c7, c8, c9⟩ := hC
  exact pr_same hR (p_of (d := d + 119) t w c2 c1) (of_eq c2 c3 c1 hT t w) (F_of_2 m t w) (m_of (d := d + 118) t w c3 c1)
theorem q_why {x : jX} {m : jm} {d k : Nat} (h : RelA m m k) (g : Int32) : PrC x (d + 120) k eX7_why eX8_why [.int g] m := by
  have hR := h
  obtain ⟨P, T, L, W, hS, hC, hT, hL, hW, hX, hP, hQ, hH, hK, hF⟩ := h
  have hS0 := hS
  have hC0 := hC
  obtain ⟨s1, s2, s3, s4, s5, s6, s7, s8, s9, s10, s11, s12, s13, s14, s15⟩ := hS
  obtain ⟨c1, c2, c3, c4, c5, c6, c7, c8, c9⟩ := hC
  exact pr_same hR (p_why (d := d + 119) g c2 c1) (why_eq s4 c2 c3 c1 hT g) (F_why_2 m g) (m_why (d := d + 118) g c3 c1)
theorem bit_0 (v : Int32) : v &&& nI 1 = nI 1 ∨ v &&& nI 1 = nI 0 := by
  have h : (v &&& nI 1).toBitVec = v.toBitVec &&& 1#32 := rfl
  rw [BitVec.and_one_eq_setWidth_ofBool_getLsbD] at h
  cases z : v.toBitVec.getLsbD 0 with
  | false => right; rw [z] at h; exact Int32.toBitVec_inj.mp (h.trans (by decide))
  | true => left; rw [z] at h; exact Int32.toBitVec_inj.mp (h.trans (by decide))
theorem mk_eq {a b : jm} {r W p : Nat} {wa wb : Int32} (hW : rW a b r W) (h141 : r = 141) (hw : ∀ i, i < W → (nI i = wa ↔ nI i = wb)) : ∀ n, n ≤ W → mkV a p wa n = rwR b p wb n
  | 0, _ => rfl
  | n + 1, hn => by
    subst h141
    rw [mkV, rwR, mk_eq hW rfl hw n (by omega), hW n (by omega)]
    by_cases c : nI n = wa
    · rw [if_pos c, if_neg (fun z => z.1 ((hw n (by omega)).mp c))]
      exact (Int32.or_zero).symm
    · rw [if_neg c]
      have c' : ¬ nI n = wb := fun z => c ((hw n (by omega)).mpr z)
      rcases bit_0 (b 141 (420 + n) >>> (nI p &&& 31)) with z | z
      · rw [if_pos ⟨c', z⟩, z]
      · rw [if_neg (fun y => by rw [z] at y; exact absurd y.2 (by decide)), z]
        have e : nI 0 <<< (nI n &&& 31) = nI 0 := Int32.zero_shiftLeft
        rw [e]
theorem unl_eq {a b : jm} {W c : Nat} {wa wb : Int32} (hW : rW a b 141 W) (hw : ∀ i, i < W → (nI i = wa ↔ nI i = wb)) : unlV a wa W c = unlR b wb W c := by
  unfold unlV unlR
  refine cnt_c c fun p _ => allB_c p fun q _ => ?_
  unfold frB frR
  rw [mk_eq hW rfl hw W (Nat.le_refl _), mk_eq hW rfl hw W (Nat.le_refl _)]
theorem none_m1 {W : Nat} (h : W ≤ 12) : ∀ i, i < W → (nI i = NONEv ↔ nI i = -1) := fun i hi => ⟨fun z => absurd z (nI_NONE (by omega)), fun z => absurd z (nI_nm1 (by omega))⟩
theorem alike_eq {m : jm} {W : Nat} (h1 : m 1 16 = nI W) (h2 : m 141 8 = nI W) (h12 : W ≤ 12) (hW : rW m m 141 W) (a b : Int32) : F_alike m a b = R_alike m a b := by
  unfold F_alike R_alike
  rw [h1, h2, tN_n (by omega), mk_eq hW rfl (none_m1 h12) W (Nat.le_refl _), mk_eq hW rfl (none_m1 h12) W (Nat.le_refl _)]
theorem prt_eq {a b : jm} {P W : Nat} (hW : rW a b 141 W) (h12 : W ≤ 12) : ∀ w, w ≤ W → (prtV a P W w).1 = orN (prtR b P W w).1 ∧ (0 < w → (prtV a P W w).2 = (prtR b P W w).2 ∧ ¬ (prtR b P W w).1 < 0)
  | 0, _ => ⟨rfl, fun z => absurd z (Nat.lt_irrefl 0)⟩
  | w + 1, hw => by
    obtain ⟨i1, i2⟩ := prt_eq hW h12 w (by omega)
    have eu : unlV a (nI w) W (min P 29) = unlR b (nI w) W (min 29 P) := by
      rw [Nat.min_comm]
      exact unl_eq hW (fun i _ => Iff.rfl)
    have h29 := unlR_29 b P W (nI w)
    have ew : orN (nI w) = nI w := if_neg (nI_n0 (by omega))
    rw [prtV, prtR, eu]
    by_cases z : w = 0
    · subst z
      have e0 : prtV a P W 0 = (-1000000005, 30) := rfl
      have e1 : prtR b P W 0 = (-1, 0) := rfl
      rw [e0, e1, if_pos (show unlR b (nI 0) W (min 29 P) < 30 by omega), if_pos (Or.inl (show (-1 : Int32) < 0 by decide))]
      exact ⟨ew.symm, fun _ => ⟨rfl, nI_n0 (by omega)⟩⟩
    · obtain ⟨j1, j2⟩ := i2 (by omega)
      rw [j1]
      by_cases c : unlR b (nI w) W (min 29 P) < (prtR b P W w).2
      · rw [if_pos c, if_pos (Or.inr c)]
        exact ⟨ew.symm, fun _ => ⟨rfl, nI_n0 (by omega)⟩⟩
      · rw [if_neg c, if_neg (fun y => y.elim j2 c)]
        exact ⟨i1, fun _ => ⟨j1, j2⟩⟩
theorem q_alike {x : jX} {m : jm} {d k : Nat} (h : RelA m m k) (p w : Int32) : PrC x (d + 120) k eX7_alike eX8_alike [.int p, .int w] m := by
  have hR := h
  obtain ⟨P, T, L, W, hS, hC, hT, hL, hW, hX, hP, hQ, hH, hK, hF⟩ := h
  have hS0 := hS
  have hC0 := hC
  obtain ⟨s1, s2, s3, s4, s5, s6, s7, s8, s9, s10, s11, s12, s13, s14, s15⟩ := hS
  obtain ⟨c1, c2, c3, c4, c5, c6, c7, c8, c9⟩ := hC
  exact pr_same hR (p_alike (d := d + 119) p w c8 c7) (alike_eq c8 c9 c7 hW p w) (F_alike_2 m p w) (m_alike (d := d + 119) p w c9 c7)
theorem q_parts {x : jX} {m : jm} {d k : Nat} (h : RelA m m k) : PrC x (d + 120) k eX7_parts eX8_parts [] m := by
  have hR := h
  obtain ⟨P, T, L, W, hS, hC, hT, hL, hW, hX, hP, hQ, hH, hK, hF⟩ := h
  have hS0 := hS
  have hC0 := hC
  obtain ⟨s1, s2, s3, s4, s5, s6, s7, s8, s9, s10, s11, s12, s13, s14, s15⟩ := hS
  obtain ⟨c1, c2, c3, c4, c5, c6, c7, c8, c9⟩ := hC
  refine pr_mk (Q8 := fun _ m1 v' m2 => v' = orN (prtR m1 P W W).1 ∧ m2 = m1) (p_parts (d := d + 118) s2 s1 c8 c7) (fun v m1 hq => m_parts (d := d + 118) (by rw [hq.2 141 (by decide)]; exact s3) s1 (by rw [hq.2 141 (by decide)]; exact c9) c7) (fun v m1 v' m2 hq hq' => ?_)
  obtain ⟨rfl, hx⟩ := hq
  obtain ⟨rfl, rfl⟩ := hq'
  have hW1 : rW m m2 141 W := rW_c c7 hW rfl (fun j _ _ => by rw [hx 141 (by decide)])
  refine ⟨((prt_eq (P := P) hW1 c7 W (Nat.le_refl _)).1).symm, Rel_cc hR (Nat.le_succ k) (cA_exs hx (by decide)) (cB_exs hx (by decide))⟩
theorem kinds_m {m : jm} {P W : Nat} {w : Int32} (i : Nat) (h : i ≠ 138) : (F_kinds m P W w).2 i = m i := by
  unfold F_kinds
  by_cases c : -1 ≤ w ∧ w ≤ m 1 16 - nI 1
  · rw [if_neg (Classical.not_not.mpr c)]
    exact mfill_i' h
  · rw [if_pos c]
theorem q_kinds {x : jX} {m : jm} {d k : Nat} (h : RelA m m k) (w : Int32) : PrC x (d + 120) k eX7_kinds eX8_kinds [.int w] m := by
  have hR := h
  obtain ⟨P, T, L, W, hS, hC, hT, hL, hW, hX, hP, hQ, hH, hK, hF⟩ := h
  have hS0 := hS
  have hC0 := hC
  obtain ⟨s1, s2, s3, s4, s5, s6, s7, s8, s9, s10, s11, s12, s13, s14, s15⟩ := hS
  obtain ⟨c1, c2, c3, c4, c5, c6, c7, c8, c9⟩ := hC
  refine pr_FR (R := R_kinds (F_kinds m P W w).2 w) (p_kinds (d := d + 118) w s2 s1 c8 c7) (m_kinds (d := d + 118) w (by rw [kinds_m 141 (by decide)]; exact s3) s1 (by rw [kinds_m 141 (by decide)]; exact c9) c7) ?_ ?_
  · have e1 : (F_kinds m P W w).2 141 = m 141 := kinds_m 141 (by decide)
    have hW1 : rW m (F_kinds m P W w).2 141 W := rW_c c7 hW rfl (fun j _ _ => by rw [e1])
    unfold R_kinds
    rw [e1, c9, s3, tN_n (by omega), tN_n (by omega)]
    unfold F_kinds
    rw [c8]
    by_cases c : -1 ≤ w ∧ w ≤ nI W - nI 1
    · rw [if_neg (Classical.not_not.mpr c), if_neg (Classical.not_not.mpr c)]
      show nI (unlR _ w W (min 29 P)) = nI (unlV m w W (min P 29))
      rw [Nat.min_comm P 29, unl_eq hW1 (fun i _ => Iff.rfl)]
      unfold F_kinds
      rw [c8, if_neg (Classical.not_not.mpr c)]
    · rw [if_pos c, if_pos c]
  · have e2 : (R_kinds (F_kinds m P W w).2 w).2 = (F_kinds m P W w).2 := by unfold R_kinds; (repeat' split) <;> rfl
    rw [e2]
    exact Rel_cc hR (Nat.le_succ k) (cA_exs (S := [138]) (fun i hi => kinds_m i (fun z => hi (by rw [z]; decide))) (by decide)) (cB_exs (S := [138]) (fun i hi => kinds_m i (fun z => hi (by rw [z]; decide))) (by decide))
