/-- rows of pulls: the lights that each leads to -/
def wfAtP (m : jm) (o P : Nat) : Prop := ∀ q, q < 48 → m (o + 7) q = NONEv ∨ vp_in (m (o + 7) q) P
theorem vp_in_mono {v : Int32} {a b : Nat} (h : vp_in v a) (hab : a ≤ b) : vp_in v b := by
  rw [vp_in_iff] at h ⊢
  omega
theorem wfAtP.at {m : jm} {o P : Nat} (h : wfAtP m o P) (h48 : P ≤ 48) : wfAt m o := fun q hq => (h q hq).imp_right fun e => vp_in_mono e h48
theorem light_c {m m' : jm} {o P q : Nat} (h12 : m' (o + 12) = m (o + 12)) (h7 : m' (o + 7) = m (o + 7)) (h1 : m' (o + 1) = m (o + 1)) (h3 : m' (o + 3) = m (o + 3)) (h6 : ∀ p, p < P → m' (o + 6) p = m (o + 6) p) (hw : wfAtP m o P) (h48 : P ≤ 48) (hq : q < 48) : lightS m' o q = lightS m o q := by
  have hh : ∀ q, q < 48 → hgtS m' o q = hgtS m o q := by
    intro q hq
    unfold hgtS
    rw [h7, h1]
    rcases hw q hq with n | n
    · rw [if_pos n, if_pos n]
    · have hn : ¬ m (o + 7) q = NONEv := fun e => by rw [e] at n; exact absurd n (fun z => absurd ((vp_in_iff.mp z).1) (by decide))
      rw [if_neg hn, if_neg hn, h6 _ (tN_lt n (by omega))]
  have hu : hupS m' o q = hupS m o q := by
    unfold hupS
    by_cases h8 : q < 8
    · rw [if_pos h8, if_pos h8]
    · rw [if_neg h8, if_neg h8, hh _ (by omega)]
  have hg : gvnS m' o q = gvnS m o q := by
    unfold gvnS givenS
    rw [h7, h1, h3]
    rcases hw q hq with n | n
    · rw [if_pos n, if_pos n]
    · have hn : ¬ m (o + 7) q = NONEv := fun e => by rw [e] at n; exact absurd n (fun z => absurd ((vp_in_iff.mp z).1) (by decide))
      rw [if_neg hn, if_neg hn, h6 _ (tN_lt n (by omega))]
  unfold lightS
  rw [h12, hg, hh q hq, hu]
theorem held_in {v : Int32} : vp_in (heldV v (nI 99)) 100 := by
  rw [vp_in_iff]
  have e0 : (nI 0).toInt = 0 := nI_toInt (by decide)
  have e9 : (nI 99).toInt = 99 := nI_toInt (by decide)
  unfold heldV maxV minV
  by_cases h : v < nI 99
  · rw [if_pos h]
    rw [Int32.lt_iff_toInt_lt] at h
    by_cases h2 : nI 0 < v
    · rw [if_pos h2]
      rw [Int32.lt_iff_toInt_lt] at h2
      omega
    · rw [if_neg h2]
      omega
  · rw [if_neg h]
    rw [if_pos (by decide)]
    omega
theorem ptM_in {m : jm} {G r s : Nat} (hok : okG G) : ∀ t, t ≤ nG G → s < t → ptM m G r t 114 (chG G (nG G - 1 - s)) = nI (lf r s % 10)
  | 0, _, h => absurd h (Nat.not_lt_zero _)
  | t + 1, ht, h => by
    unfold ptM
    by_cases e : s = t
    · subst e
      exact mup_s
    · rw [mup_j (chG_ne hok (by omega) (by omega) (by omega))]
      exact ptM_in hok t (by omega) (by omega)
theorem ptM_out {m : jm} {G r g : Nat} (h : ∀ i, i < nG G → g ≠ chG G i) : ∀ t, t ≤ nG G → ptM m G r t 114 g = m 114 g
  | 0, _ => rfl
  | t + 1, ht => by
    unfold ptM
    rw [mup_j (h _ (by omega))]
    exact ptM_out h t (by omega)
theorem ptM_sk {B m : jm} {G r : Nat} (h : skI B m G) : ∀ t, t ≤ nG G → skI B (ptM m G r t) G
  | 0, _ => h
  | t + 1, ht => skI_pull (v := 0) (ptM_sk h t (by omega)) (by omega) _
/-- the lights of row r -/
def rowL (B : jm) (G P r : Nat) : Nat → Int32 := lookM B G P r 118
theorem rowL_eq {B : jm} {G P r q : Nat} (hq : q < 48) : rowL B G P r q = lightS (settleM (ptM B G r (nG G)) 103 P) 103 q := mfill_lt hq
theorem rowL_in {B : jm} {G P r q : Nat} (hq : q < 48) : vp_in (rowL B G P r q) 100 := by
  rw [rowL_eq hq]
  exact held_in
theorem set_6 {m : jm} {o P p : Nat} (hp : p < P) : settleM m o P (o + 6) p = aimS m o p := mfill_lt hp
theorem lk_c {B X Y : jm} {G P q : Nat} (hX : skI B X G) (hY : skI B Y G) (hs : ∀ p, p < P → X 109 p = Y 109 p) (hat : wfAtP B 103 P) (h48 : P ≤ 48) (hq : q < 48) : lightS X 103 q = lightS Y 103 q :=
  light_c (o := 103) ((hX.1 12 (by decide) (by decide) (by decide)).trans (hY.1 12 (by decide) (by decide) (by decide)).symm)
    ((hX.1 7 (by decide) (by decide) (by decide)).trans (hY.1 7 (by decide) (by decide) (by decide)).symm)
    ((hX.1 1 (by decide) (by decide) (by decide)).trans (hY.1 1 (by decide) (by decide) (by decide)).symm)
    ((hX.1 3 (by decide) (by decide) (by decide)).trans (hY.1 3 (by decide) (by decide) (by decide)).symm) hs
    (fun q hq => by rw [show Y (103 + 7) q = B 110 q from congrFun (hY.1 7 (by decide) (by decide) (by decide)) q]; exact hat q hq) h48 hq
theorem grpS_6 {B : jm} {p : Nat} (hw : wfPt B 103) (hp : p < 48) : grpS B p < 6 := tN_lt (wfPt.g hw hp) (by decide)
/-- whatever the skin was put to ahead, a row leads to the same lights -/
theorem row_eq {B m : jm} {G P r q : Nat} (hok : okG G) (h : skI B m G) (hw : wfPt B 103) (hat : wfAtP B 103 P) (h48 : P ≤ 48) (hq : q < 48) : lookM m G P r 118 q = rowL B G P r q := by
  have e : lookM m G P r 118 q = lightS (settleM (ptM m G r (nG G)) 103 P) 103 q := mfill_lt hq
  rw [e, rowL_eq hq]
  have s1 := ptM_sk (r := r) h (nG G) (Nat.le_refl _)
  have s2 := ptM_sk (r := r) (skI_rf B G) (nG G) (Nat.le_refl _)
  refine lk_c (skI_settle s1) (skI_settle s2) (fun p hp => ?_) hat h48 hq
  rw [show settleM (ptM m G r (nG G)) 103 P 109 p = _ from set_6 (o := 103) hp, show settleM (ptM B G r (nG G)) 103 P 109 p = _ from set_6 (o := 103) hp, aimS_sk s1 (by omega), aimS_sk s2 (by omega)]
  have hg : ptM m G r (nG G) 114 (grpS B p) = ptM B G r (nG G) 114 (grpS B p) := by
    by_cases hc : ∃ s, s < nG G ∧ grpS B p = chG G (nG G - 1 - s)
    · obtain ⟨s, hs, e⟩ := hc
      rw [e, ptM_in hok _ (Nat.le_refl _) hs, ptM_in hok _ (Nat.le_refl _) hs]
    · have hn : ∀ i, i < nG G → grpS B p ≠ chG G i := fun i hi e => hc ⟨nG G - 1 - i, by omega, by rw [e]; exact congrArg _ (by omega)⟩
      rw [ptM_out hn _ (Nat.le_refl _), ptM_out hn _ (Nat.le_refl _)]
      exact h.2.2 _ (grpS_6 hw (by omega)) hn
  rw [hg]
def ten : Nat → Nat
  | 0 => 1
  | t + 1 => ten t * 10
theorem lf_dec {r t s : Nat} (ht : t < 3) (hs : s < 3) (h : 1 ≤ lf r t % 10) : ten t ≤ r ∧ lf (r - ten t) s % 10 = if s = t then lf r s % 10 - 1 else lf r s % 10 := by
  rcases (show t = 0 ∨ t = 1 ∨ t = 2 by omega) with rfl | rfl | rfl <;> rcases (show s = 0 ∨ s = 1 ∨ s = 2 by omega) with rfl | rfl | rfl <;> simp only [lf, ten] at h ⊢ <;> simp <;> omega
theorem idle_row {B : jm} {G P r t q : Nat} (hok : okG G) (hw : wfPt B 103) (hat : wfAtP B 103 P) (h48 : P ≤ 48) (ht : t < nG G) (h1 : 1 ≤ lf r t % 10)
    (hi : ∀ p, p < P → grpS B p = chG G (nG G - 1 - t) → aimG B p (lf r t % 10) = aimG B p (lf r t % 10 - 1)) (hq : q < 48) : rowL B G P (r - ten t) q = rowL B G P r q := by
  have h3 := nG_3 G
  rw [rowL_eq hq, rowL_eq hq]
  have s1 := ptM_sk (r := r - ten t) (skI_rf B G) (nG G) (Nat.le_refl _)
  have s2 := ptM_sk (r := r) (skI_rf B G) (nG G) (Nat.le_refl _)
  refine lk_c (skI_settle s1) (skI_settle s2) (fun p hp => ?_) hat h48 hq
  rw [show settleM (ptM B G (r - ten t) (nG G)) 103 P 109 p = _ from set_6 (o := 103) hp, show settleM (ptM B G r (nG G)) 103 P 109 p = _ from set_6 (o := 103) hp, aimS_sk s1 (by omega), aimS_sk s2 (by omega)]
  by_cases hc : ∃ s, s < nG G ∧ grpS B p = chG G (nG G - 1 - s)
  · obtain ⟨s, hs, e⟩ := hc
    rw [e, ptM_in hok _ (Nat.le_refl _) hs, ptM_in hok _ (Nat.le_refl _) hs, (lf_dec (by omega) (by omega) h1).2]
    by_cases es : s = t
    · subst es
      rw [if_pos rfl]
      exact (hi p hp e).symm
    · rw [if_neg es]
  · have hn : ∀ i, i < nG G → grpS B p ≠ chG G i := fun i hi e => hc ⟨nG G - 1 - i, by omega, by rw [e]; exact congrArg _ (by omega)⟩
    rw [ptM_out hn _ (Nat.le_refl _), ptM_out hn _ (Nat.le_refl _)]
/-- the first of the least -/
def bst (f : Nat → Nat) : Nat → Nat × Nat
  | 0 => (4800, 0)
  | n + 1 => if f n < (bst f n).1 then (f n, n) else bst f n
theorem bst_le {f : Nat → Nat} : ∀ n r, r < n → (bst f n).1 ≤ f r
  | 0, r, h => absurd h (Nat.not_lt_zero _)
  | n + 1, r, h => by
    unfold bst
    by_cases e : r = n
    · subst e
      by_cases c : f r < (bst f r).1
      · rw [if_pos c]; exact Nat.le_refl _
      · rw [if_neg c]; omega
    · have := bst_le (f := f) n r (by omega)
      by_cases c : f n < (bst f n).1
      · rw [if_pos c]; show f n ≤ f r; omega
      · rw [if_neg c]; exact this
theorem bst_skip {f : Nat → Nat} {n r : Nat} (h : r < n) (he : f r = f n) : bst f (n + 1) = bst f n := by
  have := bst_le (f := f) n r h
  exact if_neg (by omega)
theorem bst_z {f : Nat → Nat} {n : Nat} (h : (bst f n).1 = 0) : ∀ k, bst f (n + k) = bst f n
  | 0 => rfl
  | k + 1 => by
    have e := bst_z h k
    show (if f (n + k) < (bst f (n + k)).1 then (f (n + k), n + k) else bst f (n + k)) = _
    rw [if_neg (by rw [e]; omega)]
    exact e
theorem bst_b {f : Nat → Nat} : ∀ n, (bst f n).1 ≤ 4800 ∧ (bst f n).2 ≤ n
  | 0 => ⟨Nat.le_refl _, Nat.le_refl _⟩
  | n + 1 => by
    have := bst_b (f := f) n
    unfold bst
    by_cases c : f n < (bst f n).1
    · rw [if_pos c]; exact ⟨by show f n ≤ _; omega, by show n ≤ _; omega⟩
    · rw [if_neg c]; omega
theorem edgN_c {F F' : Nat → Int32} {w : Int32} {p : Nat} (h : ∀ q, q < 48 → F' q = F q) (hp : p < 48) : edgN F' w p = edgN F w p := by
  have e : ∀ a b, a < 48 → b < 48 → edgP F' w a b = edgP F w a b := fun a b ha hb => by unfold edgP; rw [h a ha, h b hb]
  have i : ∀ (c : Prop) [Decidable c] (u v : Bool), (c → u = v) → (if c ∧ u = true then 1 else 0) = (if c ∧ v = true then (1 : Nat) else 0) := by
    intro c _ u v hh
    by_cases q : c
    · rw [hh q]
    · rw [if_neg (fun z => q z.1), if_neg (fun z => q z.1)]
  unfold edgN edgI
  have a1 := i (p < 48 ∧ p % 8 < 7) _ _ (fun q => e p (p + 1) hp (by omega))
  have a2 := i (p < 48 ∧ p < 40) _ _ (fun q => e p (p + 8) hp (by omega))
  have a3 := i (1 ≤ p ∧ p - 1 < 48 ∧ (p - 1) % 8 < 7) _ _ (fun q => e (p - 1) p (by omega) hp)
  have a4 := i (8 ≤ p ∧ p - 8 < 48) _ _ (fun q => e (p - 8) p (by omega) hp)
  simp only [and_assoc] at a1 a2 a3 a4
  rw [a1, a2, a3, a4]
/-- what a row scores: places seen, or differences -/
def fS (sq : Nat → Int32 → Int32 → Bool) (B : jm) (G P r : Nat) : Nat := cnt (allQ sq (rowL B G P r) (B 115 2)) 48
def dfF (L S : Nat → Int32) : Nat → Int32 := fun p => absV (L p - S p)
def fM (B : jm) (G P r : Nat) : Nat := tN (sumV (dfF (rowL B G P r) (B 117)) 48)
theorem fS_c {sq : Nat → Int32 → Int32 → Bool} {L L' : Nat → Int32} {w : Int32} (h : ∀ q, q < 48 → L' q = L q) : cnt (allQ sq L' w) 48 = cnt (allQ sq L w) 48 :=
  cnt_c 48 fun p hp => by unfold allQ; rw [h p hp, edgN_c h hp]
theorem fM_c {L L' S : Nat → Int32} (h : ∀ q, q < 48 → L' q = L q) : sumV (dfF L' S) 48 = sumV (dfF L S) 48 := sumV_c 48 fun p hp => by unfold dfF; rw [h p hp]
theorem abs_in {a b : Int32} (ha : vp_in a 100) (hb : vp_in b 100) : vp_in (absV (a - b)) 100 := by
  obtain ⟨i, hi, rfl⟩ := vp_in_of ha (by decide)
  obtain ⟨j, hj, rfl⟩ := vp_in_of hb (by decide)
  rw [vp_in_iff]
  have es : (nI i - nI j).toInt = (i : Int) - j := by
    rw [Int32.toInt_sub, nI_toInt (by omega), nI_toInt (by omega)]
    exact Int.bmod_eq_of_le (by omega) (by omega)
  have en : (0 - (nI i - nI j)).toInt = (j : Int) - i := by
    rw [Int32.toInt_sub, es, show (0 : Int32).toInt = 0 from rfl, Int.bmod_eq_of_le (by omega) (by omega)]
    omega
  unfold absV
  by_cases c : 0 ≤ nI i - nI j
  · rw [if_pos c]
    rw [Int32.le_iff_toInt_le, es, show (0 : Int32).toInt = 0 from rfl] at c
    omega
  · rw [if_neg c]
    rw [Int32.le_iff_toInt_le, es, show (0 : Int32).toInt = 0 from rfl] at c
    omega
theorem sum_in {f : Nat → Int32} : ∀ n, (∀ p, p < n → vp_in (f p) 100) → ∃ k, sumV f n = nI k ∧ k ≤ 99 * n
  | 0, _ => ⟨0, rfl, Nat.le_refl _⟩
  | n + 1, h => by
    obtain ⟨k, e, hk⟩ := sum_in n (fun p hp => h p (by omega))
    obtain ⟨j, hj, ej⟩ := vp_in_of (h n (by omega)) (by decide)
    exact ⟨k + j, by rw [sumV, e, ej]; exact nI_add _ _, by omega⟩
