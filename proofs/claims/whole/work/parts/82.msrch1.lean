/-- a row of pulls put, as the reference puts it -/
def pt1 (m : jm) (G r : Nat) : jm := mup m 141 (30 + G % 10) (nI (r % 10))
def pt2 (m : jm) (G r : Nat) : jm := if 1 < nG G then mup (pt1 m G r) 141 (30 + G / 10 % 10) (nI (r / 10 % 10)) else pt1 m G r
def pt3 (m : jm) (G r : Nat) : jm := if 2 < nG G then mup (pt2 m G r) 141 (30 + G / 100) (nI (r / 100)) else pt2 m G r
theorem pt3_i {m : jm} {G r i : Nat} (h : i ≠ 141) : pt3 m G r i = m i := by
  have e1 : pt1 m G r i = m i := mup_i' h
  have e2 : pt2 m G r i = m i := by
    unfold pt2
    by_cases c : 1 < nG G
    · rw [if_pos c, mup_i' h, e1]
    · rw [if_neg c, e1]
  unfold pt3
  by_cases c : 2 < nG G
  · rw [if_pos c, mup_i' h, e2]
  · rw [if_neg c, e2]
theorem pt3_j {m : jm} {G r j : Nat} (h : j < 30 ∨ 36 ≤ j) (hG : okG G) (h9 : G ≤ 999) : pt3 m G r 141 j = m 141 j := by
  have hd : G / 10 / 10 % 10 = G / 100 := by omega
  have hb : G % 10 < 6 ∧ (1 < nG G → G / 10 % 10 < 6) ∧ (2 < nG G → G / 100 < 6) := by
    unfold okG at hG
    unfold nG
    by_cases a : 99 < G
    · rw [if_pos a, hd] at hG
      rw [if_pos a]
      omega
    · rw [if_neg a] at hG
      rw [if_neg a]
      by_cases c : 9 < G
      · rw [if_pos c] at hG
        rw [if_pos c]
        omega
      · rw [if_neg c] at hG
        rw [if_neg c]
        omega
  have e1 : pt1 m G r 141 j = m 141 j := mup_j (by omega)
  have e2 : pt2 m G r 141 j = m 141 j := by
    unfold pt2
    by_cases c : 1 < nG G
    · have := hb.2.1 c
      rw [if_pos c, mup_j (by omega), e1]
    · rw [if_neg c, e1]
  unfold pt3
  by_cases c : 2 < nG G
  · have := hb.2.2 c
    rw [if_pos c, mup_j (by omega), e2]
  · rw [if_neg c, e2]
/-- places of pulls that no row puts -/
def nch (G j : Nat) : Prop := j ≠ 30 + G % 10 ∧ (1 < nG G → j ≠ 30 + G / 10 % 10) ∧ (2 < nG G → j ≠ 30 + G / 100)
theorem pt3_eq {m m' : jm} {G r : Nat} (h : ∀ j, 30 ≤ j → j < 36 → nch G j → m' 141 j = m 141 j) (j : Nat) (hj : 30 ≤ j) (hj2 : j < 36) : pt3 m' G r 141 j = pt3 m G r 141 j := by
  unfold pt3 pt2 pt1
  by_cases c1 : j = 30 + G % 10
  · subst c1
    by_cases a : 2 < nG G
    · rw [if_pos a, if_pos a]
      by_cases b : 30 + G % 10 = 30 + G / 100
      · rw [b, mup_s, mup_s]
      · rw [mup_j b, mup_j b, if_pos (by omega), if_pos (by omega)]
        by_cases c : 30 + G % 10 = 30 + G / 10 % 10
        · rw [c, mup_s, mup_s]
        · rw [mup_j c, mup_j c, mup_s, mup_s]
    · rw [if_neg a, if_neg a]
      by_cases b : 1 < nG G
      · rw [if_pos b, if_pos b]
        by_cases c : 30 + G % 10 = 30 + G / 10 % 10
        · rw [c, mup_s, mup_s]
        · rw [mup_j c, mup_j c, mup_s, mup_s]
      · rw [if_neg b, if_neg b, mup_s, mup_s]
  · by_cases a : 2 < nG G
    · rw [if_pos a, if_pos a]
      by_cases b : j = 30 + G / 100
      · rw [b, mup_s, mup_s]
      · rw [mup_j b, mup_j b, if_pos (by omega), if_pos (by omega)]
        by_cases c : j = 30 + G / 10 % 10
        · rw [c, mup_s, mup_s]
        · rw [mup_j c, mup_j c, mup_j c1, mup_j c1]
          exact h j hj hj2 ⟨c1, fun _ => c, fun _ => b⟩
    · rw [if_neg a, if_neg a]
      by_cases b : 1 < nG G
      · rw [if_pos b, if_pos b]
        by_cases c : j = 30 + G / 10 % 10
        · rw [c, mup_s, mup_s]
        · rw [mup_j c, mup_j c, mup_j c1, mup_j c1]
          exact h j hj hj2 ⟨c1, fun _ => c, fun q => absurd q a⟩
      · rw [if_neg b, if_neg b, mup_j c1, mup_j c1]
        exact h j hj hj2 ⟨c1, fun q => absurd q b, fun q => absurd q a⟩
theorem pt3_n {m : jm} {G r j : Nat} (h : nch G j) : pt3 m G r 141 j = m 141 j := by
  obtain ⟨h1, h2, h3⟩ := h
  have e1 : pt1 m G r 141 j = m 141 j := mup_j h1
  have e2 : pt2 m G r 141 j = m 141 j := by
    unfold pt2
    by_cases c : 1 < nG G
    · rw [if_pos c, mup_j (h2 c), e1]
    · rw [if_neg c, e1]
  unfold pt3
  by_cases c : 2 < nG G
  · rw [if_pos c, mup_j (h3 c), e2]
  · rw [if_neg c, e2]
/-- a skin when it has settled on a row's pulls -/
def LR (m : jm) (G P r : Nat) : Nat → Int32 := finR (setR (pt3 m G r) P) P
/-- what a search leaves between two rows -/
def sHR (m : jm) (G P : Nat) (m' : jm) : Prop :=
  (∀ j, ¬ (30 ≤ j ∧ j < 36) → (∀ p, p < P → j ≠ 90 + 6 * p + 5) → m' 141 j = m 141 j) ∧ (∀ j, 30 ≤ j → j < 36 → nch G j → m' 141 j = m 141 j) ∧ ∀ p, p < P → m 141 (90 + 6 * p) = nI 5 → m' 141 (90 + 6 * p + 5) = m 141 (90 + 6 * p + 5)
theorem sHR_0 (m : jm) (G P : Nat) : sHR m G P m := ⟨fun _ _ _ => rfl, fun _ _ _ _ => rfl, fun _ _ _ => rfl⟩
theorem setR_s {m : jm} : ∀ P p, p < P → setR m P 141 (90 + 6 * p + 5) = aimR m 141 p
  | 0, p, h => absurd h (Nat.not_lt_zero _)
  | P + 1, p, h => by
    by_cases e : p = P
    · subst e; exact mup_s
    · exact (mup_j (by omega)).trans (setR_s P p (by omega))
theorem aimR_d {a b : jm} {p : Nat} (hw : wfR a 141) (hp : p < 48) (h : ∀ j, j < 40 ∨ (90 + 6 * p ≤ j ∧ j ≤ 90 + 6 * p + 4) → b 141 j = a 141 j) (h5 : a 141 (90 + 6 * p) = nI 5 → b 141 (90 + 6 * p + 5) = a 141 (90 + 6 * p + 5)) : aimR b 141 p = aimR a 141 p := by
  have h1 := nrv_10 hw hp
  have e1 : nrv b 141 p = nrv a 141 p := by unfold nrv; rw [h _ (by omega)]
  have h2 := grp_6 hw hp
  have e2 : grp b 141 p = grp a 141 p := by unfold grp; rw [e1, h _ (by omega)]
  have e3 : drwR b 141 p = drwR a 141 p := by
    unfold drwR
    rw [e1, e2, h _ (by omega), h _ (by omega), h _ (by omega)]
  unfold aimR
  rw [e3, h _ (by omega), h _ (by omega)]
  by_cases k5 : a 141 (90 + 6 * p) = nI 5
  · rw [h5 k5]
  · unfold aimV
    by_cases c2 : a 141 (90 + 6 * p) = nI 2
    · rw [if_pos c2, if_pos c2]
    rw [if_neg c2, if_neg c2]
    by_cases c3 : a 141 (90 + 6 * p) = nI 3
    · rw [if_pos c3, if_pos c3]
    rw [if_neg c3, if_neg c3]
    by_cases c4 : a 141 (90 + 6 * p) = nI 4
    · rw [if_pos c4, if_pos c4]
    rw [if_neg c4, if_neg c4, if_neg k5, if_neg k5]
theorem aimR_5 {m : jm} {p : Nat} (h : m 141 (90 + 6 * p) = nI 5) : aimR m 141 p = m 141 (90 + 6 * p + 5) := by
  unfold aimR aimV
  rw [h, if_neg (by decide), if_neg (by decide), if_neg (by decide), if_pos rfl]
theorem lgtR_d {m m' : jm} : ∀ P, (∀ j, j < 10 ∨ (90 ≤ j ∧ j < 90 + 6 * P) → m' 141 j = m 141 j) → lgtR m' P = lgtR m P
  | 0, h => by unfold lgtR; rw [h 2 (by omega)]
  | p + 1, h => by
    have e : plR m' p = plR m p := by unfold plR; rw [h _ (by omega)]
    unfold lgtR givR
    rw [lgtR_d p (fun j hj => h j (by omega)), e, h _ (by omega), h _ (by omega), h _ (by omega)]
theorem hgtR_d {m m' : jm} : ∀ P, (∀ j, j < 10 ∨ (90 ≤ j ∧ j < 90 + 6 * P) → m' 141 j = m 141 j) → hgtR m' P = hgtR m P
  | 0, _ => rfl
  | p + 1, h => by
    have e : plR m' p = plR m p := by unfold plR; rw [h _ (by omega)]
    unfold hgtR
    rw [hgtR_d p (fun j hj => h j (by omega)), e, h _ (by omega), h _ (by omega)]
theorem finR_d {m m' : jm} {P : Nat} (h : ∀ j, j < 10 ∨ (90 ≤ j ∧ j < 90 + 6 * P) → m' 141 j = m 141 j) (k : Nat) : finR m' P k = finR m P k := by
  unfold finR
  rw [lgtR_d P h, hgtR_d P h, h 3 (by omega)]
theorem sHR_w {m m' : jm} {G P : Nat} (h : sHR m G P m') (hw : wfR m 141) : wfR m' 141 := ⟨fun p hp => by rw [h.1 _ (by omega) (fun q hq => by omega)]; exact hw.1 p hp, fun j hj => by rw [h.1 _ (by omega) (fun q hq => by omega)]; exact hw.2 j hj⟩
theorem pt3_w {m : jm} {G r : Nat} (hG : okG G) (h9 : G ≤ 999) (hw : wfR m 141) : wfR (pt3 m G r) 141 := ⟨fun p hp => by rw [pt3_j (by omega) hG h9]; exact hw.1 p hp, fun j hj => by rw [pt3_j (by omega) hG h9]; exact hw.2 j hj⟩
theorem sHR_aim {m m' : jm} {G P r p : Nat} (h : sHR m G P m') (hG : okG G) (h9 : G ≤ 999) (hw : wfR m 141) (h48 : P ≤ 48) (hp : p < P) : aimR (pt3 m' G r) 141 p = aimR (pt3 m G r) 141 p := by
  refine aimR_d (pt3_w hG h9 hw) (by omega) (fun j hj => ?_) (fun h5 => ?_)
  · by_cases c : 30 ≤ j ∧ j < 36
    · exact pt3_eq h.2.1 j c.1 c.2
    · rw [pt3_j (by omega) hG h9, pt3_j (by omega) hG h9]
      exact h.1 j c (fun q hq => by omega)
  · rw [pt3_j (by omega) hG h9] at h5
    rw [pt3_j (by omega) hG h9, pt3_j (by omega) hG h9]
    exact h.2.2 p hp h5
theorem sHR_fin {m m' : jm} {G P r : Nat} (h : sHR m G P m') (hG : okG G) (h9 : G ≤ 999) (hw : wfR m 141) (h48 : P ≤ 48) (k : Nat) : finR (setR (pt3 m' G r) P) P k = LR m G P r k := by
  refine finR_d (fun j hj => ?_) k
  by_cases c : ∃ p, p < P ∧ j = 90 + 6 * p + 5
  · obtain ⟨p, hp, e⟩ := c
    subst e
    rw [setR_s P p hp, setR_s P p hp, sHR_aim h hG h9 hw h48 hp]
  · have c' : ∀ p, p < P → j ≠ 90 + 6 * p + 5 := fun p hp e => c ⟨p, hp, e⟩
    rw [setR_j P c', setR_j P c', pt3_j (by omega) hG h9, pt3_j (by omega) hG h9]
    exact h.1 j (by omega) c'
theorem sHR_s {m m' : jm} {G P r : Nat} (h : sHR m G P m') (hG : okG G) (h9 : G ≤ 999) (h48 : P ≤ 48) : sHR m G P (setR (pt3 m' G r) P) := by
  refine ⟨fun j h1 h2 => ?_, fun j h1 h2 h3 => ?_, fun p hp h5 => ?_⟩
  · rw [setR_j P h2, pt3_j (by omega) hG h9]
    exact h.1 j h1 h2
  · rw [setR_j P (fun q hq => by omega), pt3_n h3]
    exact h.2.1 j h1 h2 h3
  · have e5 : pt3 m' G r 141 (90 + 6 * p) = nI 5 := by
      rw [pt3_j (by omega) hG h9, h.1 _ (by omega) (fun q hq => by omega)]
      exact h5
    rw [setR_s P p hp, aimR_5 e5, pt3_j (by omega) hG h9]
    exact h.2.2 p hp h5
theorem sHR_c {m m' m2 : jm} {G P : Nat} (h : sHR m G P m') (e : m2 141 = m' 141) : sHR m G P m2 := ⟨fun j h1 h2 => by rw [e]; exact h.1 j h1 h2, fun j h1 h2 h3 => by rw [e]; exact h.2.1 j h1 h2 h3, fun p hp h5 => by rw [e]; exact h.2.2 p hp h5⟩
/-- what a row is worth -/
def misF (m : jm) (g G P r : Nat) : Nat := tN (sumV (fun k => sizV (LR m G P r k - shdR m g k)) 48)
def hidF (m : jm) (g G P : Nat) (tx : Int32) (r : Nat) : Nat := cnt (stlF m tx (LR m G P r) (shdR m g) (m 141 4)) 48
def bs1 (f : Nat → Nat) (n : Nat) : Int32 := if n = 0 then -1 else nI (bst f n).1
theorem bst_48 {f : Nat → Nat} : ∀ n, (bst f n).1 ≤ 4800
  | 0 => Nat.le_refl _
  | n + 1 => by
    unfold bst
    by_cases h : f n < (bst f n).1
    · rw [if_pos h]; have := bst_48 (f := f) n; show f n ≤ 4800; omega
    · rw [if_neg h]; exact bst_48 n
theorem bst_2 {f : Nat → Nat} : ∀ n, (bst f n).2 ≤ n
  | 0 => Nat.le_refl _
  | n + 1 => by
    unfold bst
    by_cases h : f n < (bst f n).1
    · rw [if_pos h]; exact Nat.le_succ _
    · rw [if_neg h]; exact Nat.le_succ_of_le (bst_2 n)
theorem bs1_lt {f : Nat → Nat} {n : Nat} (h : bs1 f n < 0) : n = 0 := by
  unfold bs1 at h
  by_cases c : n = 0
  · exact c
  · rw [if_neg c] at h
    have := bst_48 (f := f) n
    exact absurd h (nI_n0 (by omega))
theorem bs1_up {f : Nat → Nat} {n : Nat} (hf : f n < 4800) (h : bs1 f n < 0 ∨ nI (f n) < bs1 f n) : bs1 f (n + 1) = nI (f n) ∧ (bst f (n + 1)).2 = n := by
  have e : f n < (bst f n).1 := by
    rcases h with h | h
    · rw [bs1_lt h]; rw [bs1_lt h] at hf; exact hf
    · unfold bs1 at h
      by_cases c : n = 0
      · rw [if_pos c] at h
        rw [Int32.lt_iff_toInt_lt, nI_toInt (by omega), show (-1 : Int32).toInt = -1 from rfl] at h
        omega
      · rw [if_neg c] at h
        have := bst_48 (f := f) n
        rw [Int32.lt_iff_toInt_lt, nI_toInt (by omega), nI_toInt (by omega)] at h
        omega
  have e2 : bst f (n + 1) = (f n, n) := if_pos e
  unfold bs1
  rw [if_neg (by omega), e2]
  exact ⟨rfl, rfl⟩
theorem bs1_no {f : Nat → Nat} {n : Nat} (hf : f n < 4800) (h : ¬ bs1 f n < 0) (h2 : ¬ nI (f n) < bs1 f n) : bs1 f (n + 1) = bs1 f n ∧ (bst f (n + 1)).2 = (bst f n).2 := by
  have c : ¬ n = 0 := fun c => h (by unfold bs1; rw [if_pos c]; decide)
  have e : ¬ f n < (bst f n).1 := by
    unfold bs1 at h2
    rw [if_neg c] at h2
    have := bst_48 (f := f) n
    rw [Int32.lt_iff_toInt_lt, nI_toInt (by omega), nI_toInt (by omega)] at h2
    omega
  have e2 : bst f (n + 1) = bst f n := if_neg e
  unfold bs1
  rw [if_neg (by omega), if_neg c, e2]
  exact ⟨rfl, rfl⟩
theorem finR_in {m : jm} {P k : Nat} : vp_in (finR m P k) 100 := by
  unfold finR
  rw [hld_held (by decide)]
  exact held_in
theorem shdR_in {m : jm} {g k : Nat} : vp_in (shdR m g k) 100 := by
  unfold shdR
  by_cases a : m 144 (6 * g + k / 8) < 0
  · rw [if_pos a]; exact vp_in_nI (by decide) (by decide)
  · rw [if_neg a]
    by_cases b : m 145 (6 * g + k / 8) ≤ nI (k % 8)
    · rw [if_pos b]; exact vp_in_nI (by decide) (by decide)
    · rw [if_neg b, hld_held (by decide)]; exact held_in
theorem misF_lt {m : jm} {g G P r : Nat} : sumV (fun k => sizV (LR m G P r k - shdR m g k)) 48 = nI (misF m g G P r) ∧ misF m g G P r < 4800 := by
  obtain ⟨k, e, hk⟩ := sum_in (f := fun k => sizV (LR m G P r k - shdR m g k)) 48 (fun p _ => by rw [siz_abs]; exact abs_in finR_in shdR_in)
  have e2 : misF m g G P r = k := by unfold misF; rw [e]; exact tN_n (by omega)
  rw [e2]
  exact ⟨e, by omega⟩
theorem hidF_lt {m : jm} {g G P r : Nat} {tx : Int32} : hidF m g G P tx r < 4800 := by
  have := cnt_le (stlF m tx (LR m G P r) (shdR m g) (m 141 4)) 48
  unfold hidF
  omega
