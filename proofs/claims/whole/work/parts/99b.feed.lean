theorem and255 (x : Int32) : (x &&& nI 255).toInt = x.toInt % 256 := by
  have h : (x &&& nI 255).toBitVec = x.toBitVec &&& 255#32 := rfl
  have h2 : (x.toBitVec &&& 255#32).toNat = x.toBitVec.toNat % 256 := by
    rw [BitVec.toNat_and]
    show x.toBitVec.toNat &&& 255 = _
    exact Nat.and_two_pow_sub_one_eq_mod x.toBitVec.toNat 8
  show (x &&& nI 255).toBitVec.toInt = x.toBitVec.toInt % 256
  have hl := x.toBitVec.isLt
  rw [h, BitVec.toInt_eq_toNat_bmod, h2, BitVec.toInt_eq_toNat_bmod]
  simp only [Int.bmod_def]
  omega
theorem by_bR (x : Int32) : bR (x &&& nI 255) x.toInt8.toInt32 := by
  have h1 := and255 x
  have h2 : x.toInt8.toInt32.toInt = x.toInt.bmod (2 ^ 8) := by rw [Int8.toInt_toInt32, Int32.toInt_toInt8]
  have h0 : (0 : Int32).toInt = 0 := rfl
  have h127 : (nI 127).toInt = 127 := rfl
  have hb : x.toInt.bmod (2 ^ 8) = if x.toInt % 256 < 128 then x.toInt % 256 else x.toInt % 256 - 256 := by
    rw [Int.bmod_def]
    rfl
  by_cases c : x.toInt % 256 < 128
  · rw [if_pos c] at hb
    refine Or.inl ⟨Int32.toInt_inj.mp (by rw [h1, h2, hb]), ?_, ?_⟩
    · rw [Int32.le_iff_toInt_le, h2, hb, h0]; omega
    · rw [Int32.le_iff_toInt_le, h2, hb, h127]; omega
  · rw [if_neg c] at hb
    refine Or.inr ⟨?_, ?_⟩
    · rw [Int32.lt_iff_toInt_lt, h2, hb, h0]; omega
    · rw [Int32.lt_iff_toInt_lt, h1, h127]; omega
theorem tk_at {m : jm} {n : Nat} {a : Int32} : ∀ i, i < 4 → takeM m n a 71 (n + i) = byt a (24 - 8 * i) := fun i hi => by
  unfold takeM
  rcases (show i = 0 ∨ i = 1 ∨ i = 2 ∨ i = 3 by omega) with rfl | rfl | rfl | rfl
  · rw [mup_j (by omega), mup_i (by decide), mup_j (by omega), mup_i (by decide), mup_j (by omega), mup_i (by decide)]; exact mup_s
  · rw [mup_j (by omega), mup_i (by decide), mup_j (by omega), mup_i (by decide)]; exact mup_s
  · rw [mup_j (by omega), mup_i (by decide)]; exact mup_s
  · exact mup_s
theorem tk_out {m : jm} {n j : Nat} {a : Int32} (h : j < n ∨ n + 4 ≤ j) : takeM m n a 71 j = m 71 j := by
  unfold takeM
  rw [mup_j (by omega), mup_i (by decide), mup_j (by omega), mup_i (by decide), mup_j (by omega), mup_i (by decide), mup_j (by omega), mup_i (by decide)]
theorem tk_i {m : jm} {n i : Nat} {a : Int32} (h : i ≠ 70) (h2 : i ≠ 71) : takeM m n a i = m i := by
  unfold takeM
  rw [mup_i' h2, mup_i' h, mup_i' h2, mup_i' h, mup_i' h2, mup_i' h, mup_i' h2, mup_i' h]
theorem fd_i {m : jm} {n i : Nat} {a b c : Int32} (h : i ≠ 70) (h2 : i ≠ 71) : feedM m n a b c i = m i := by
  unfold feedM
  rw [tk_i h h2, tk_i h h2, tk_i h h2]
theorem fd_out {m : jm} {n j : Nat} {a b c : Int32} (h : j < n) : feedM m n a b c 71 j = m 71 j := by
  unfold feedM
  rw [tk_out (by omega), tk_out (by omega), tk_out (by omega)]
theorem fd_at {m : jm} {n i : Nat} {a b c : Int32} (h : i < 12) : feedM m n a b c 71 (n + i) = byt (if i < 4 then a else if i < 8 then b else c) (24 - 8 * (i % 4)) := by
  unfold feedM
  by_cases c1 : i < 4
  · rw [if_pos c1, tk_out (by omega), tk_out (by omega), tk_at i c1, show i % 4 = i by omega]
  · rw [if_neg c1]
    by_cases c2 : i < 8
    · rw [if_pos c2, tk_out (by omega), show n + i = n + 4 + (i - 4) by omega, tk_at (i - 4) (by omega), show i % 4 = i - 4 by omega]
    · rw [if_neg c2, show n + i = n + 8 + (i - 8) by omega, tk_at (i - 8) (by omega), show i % 4 = i - 8 by omega]
theorem fd_n {m : jm} {n : Nat} {a b c : Int32} : feedM m n a b c 70 1 = nI (n + 12) := takeM_1
theorem fR_i {m : jm} {n i : Nat} {a b c : Int32} (h : i ≠ 140) (h2 : i ≠ 150) : ∀ k, fdR m n a b c k i = m i
  | 0 => rfl
  | k + 1 => (mup_i' h).trans ((mup_i' h2).trans (fR_i h h2 k))
theorem fR_j {m : jm} {n j : Nat} {a b c : Int32} (h : j ≠ 11) : ∀ k, fdR m n a b c k 140 j = m 140 j
  | 0 => rfl
  | k + 1 => (mup_j h).trans ((mup_i (by decide)).trans (fR_j h k))
theorem fR_out {m : jm} {n j : Nat} {a b c : Int32} (h : j < n) : ∀ k, fdR m n a b c k 150 j = m 150 j
  | 0 => rfl
  | k + 1 => (mup_i (by decide)).trans ((mup_j (by omega)).trans (fR_out h k))
theorem fR_at {m : jm} {n i : Nat} {a b c : Int32} : ∀ k, i < k → fdR m n a b c k 150 (n + i) = byR a b c i
  | 0, h => absurd h (Nat.not_lt_zero i)
  | k + 1, h => by
    by_cases e : i = k
    · subst e; exact (mup_i (by decide)).trans mup_s
    · exact (mup_i (by decide)).trans ((mup_j (by omega)).trans (fR_at k (by omega)))
/-- only the tape has changed -/
theorem Rel_p {m M : jm} {k P T L W : Nat} (hS : rS m m 1 141 P) (hC : rC m m 1 141 T L W) (hT : rT m m 141 T) (hL : rL m m 141 L) (hW : rW m m 141 W) (hX : rX m m) (hQ : rQ m m) (hH : rH m k) (hK : rK m m T L W) (hF : fdOK m P T)
    (h1 : ∀ i, kA i = true → i ≠ 70 → i ≠ 71 → M i = m i) (h2 : ∀ i, i = 141 ∨ i = 142 ∨ i = 144 ∨ i = 145 ∨ i = 146 ∨ i = 157 → M i = m i) (h3 : ∀ j, j < 11 ∨ 21 < j → M 140 j = m 140 j) (hP : rP M M) : RelA M M (k + 1) := by
  have A : ∀ i, (i ≤ 26 ∨ i = 41 ∨ i = 42 ∨ (44 ≤ i ∧ i ≤ 67) ∨ (75 ≤ i ∧ i ≤ 78) ∨ (80 ≤ i ∧ i ≤ 93) ∨ i = 102 ∨ i = 120 ∨ i = 124 ∨ i = 125 ∨ i = 127 ∨ (129 ≤ i ∧ i ≤ 137) ∨ i = 139) → M i = m i := fun i hi => h1 i (kA_iff.mpr (by omega)) (by omega) (by omega)
  refine ⟨P, T, L, W, rS_c hS (fun i h1 h2 => A i (by omega)) (fun j _ => by rw [h2 141 (by omega)]), rC_c hC (A 1 (by omega)) (fun j _ _ => by rw [h2 141 (by omega)]), rT_c hC.1 hT (fun i hi => A i (by omega)) (fun j _ _ => by rw [h2 141 (by omega)]), rL_c hC.2.2.2.1 hL (fun i hi => A i (by omega)) (fun j _ _ => by rw [h2 141 (by omega)]), rW_c hC.2.2.2.2.2.2.1 hW (A 137 (by omega)) (fun j _ _ => by rw [h2 141 (by omega)]),
    rX_c hX (fun i hi => A i (by omega)) (h2 144 (by omega)) (h2 145 (by omega)) (h2 146 (by omega)), hP, rQ_c hQ (by rw [A 0 (by omega)]) (A 139 (by omega)) (h3 35 (by omega)) (h2 157 (by omega)), rH_c hH (Nat.le_succ k) (A 124 (by omega)) (A 120 (by omega)) (by rw [A 102 (by omega)]) (A 125 (by omega)),
    rK_c hK (Nat.le_refl _) (Nat.le_refl _) (Nat.le_refl _) (by rw [A 0 (by omega)]) (h3 3 (by omega)) (fun i h1 h2 => A i (by omega)) (fun i hi t _ => by rw [A i (by omega)]) (fun t ht => A (80 + t) (by have := hC.1; omega)) (fun i hi => ⟨by rw [A 127 (by omega)], A (129 + i) (by have := hC.2.2.2.1; omega)⟩) (fun i hi => by rw [A 137 (by omega)]) (h2 142 (by omega)), ?_⟩
  rcases hF with z | ⟨g, G, z, f1, f2, f3, f4, f5, f6, f7, f8⟩
  · exact Or.inl (by rw [h3 33 (by omega)]; exact z)
  · refine Or.inr ⟨g, G, z, f1, f2, f3, by rw [h3 28 (by omega)]; exact f4, by rw [h3 29 (by omega)]; exact f5, by rw [h3 30 (by omega)]; exact f6, ?_, ?_⟩
    · rw [h3 31 (by omega), fdF_c (h2 141 (by omega)) (h2 144 (by omega)) (h2 145 (by omega)) (h2 146 (by omega))]; exact f7
    · rw [h3 32 (by omega), fdF_c (h2 141 (by omega)) (h2 144 (by omega)) (h2 145 (by omega)) (h2 146 (by omega))]; exact f8
theorem F_feed_i {m : jm} {a b c : Int32} (i : Nat) (h : i ≠ 70) (h2 : i ≠ 71) : (F_feed m a b c).2 i = m i := by
  unfold F_feed
  (repeat' split) <;> first | rfl | exact fd_i h h2
theorem F_trim_i {m : jm} {a : Int32} (i : Nat) (h : i ≠ 70) : (F_trim m a).2 i = m i := by
  unfold F_trim
  (repeat' split) <;> first | rfl | exact mup_i' h
theorem q_feed {x : jX} {m : jm} {d k : Nat} (h : RelA m m k) (a b c : Int32) : PrC x (d + 120) k eX7_feed eX8_feed [.int a, .int b, .int c] m := by
  have hR := h
  obtain ⟨P, T, L, W, hS, hC, hT, hL, hW, hX, hP, hQ, hH, hK, hF⟩ := h
  have hS0 := hS
  have hC0 := hC
  obtain ⟨s1, s2, s3, s4, s5, s6, s7, s8, s9, s10, s11, s12, s13, s14, s15⟩ := hS
  obtain ⟨c1, c2, c3, c4, c5, c6, c7, c8, c9⟩ := hC
  obtain ⟨n, n1, n2, n3, n4⟩ := hP
  have hP : rP m m := ⟨n, n1, n2, n3, n4⟩
  refine pr_R2 (R := R_feed (F_feed m a b c).2 a b c) (p_feed (d := d + 119) a b c n2 n1) (m_feed (d := d + 120) a b c (by rw [F_feed_i 140 (by decide) (by decide)]; exact n3) n1) ?_
  have htn : tN (m 70 1) = n := by rw [n2]; exact tN_n (by omega)
  by_cases y : 96 < n + 12
  · have ef : F_feed m a b c = (-1000000003, m) := by unfold F_feed; rw [htn, if_pos y]
    have er : R_feed m a b c = (-1000000003, m) := by unfold R_feed; rw [n3, tN_n (by omega), if_pos y]
    rw [ef, er]; exact ⟨rfl, Rel_s hR⟩
  · have ef : F_feed m a b c = (nI (n + 12), feedM m n a b c) := by unfold F_feed; rw [htn, if_neg y]
    have er : R_feed (feedM m n a b c) a b c = (nI (n + 12), fdR (feedM m n a b c) n a b c 12) := by unfold R_feed; rw [fd_i (by decide) (by decide), n3, tN_n (by omega), if_neg y]
    rw [ef, er]
    refine ⟨rfl, ?_⟩
    dsimp only
    refine Rel_p hS0 hC0 hT hL hW hX hQ hH hK hF (fun i hi h1 h2 => by have := kA_iff.mp hi; rw [fR_i (by omega) (by omega) 12, fd_i h1 h2]) (fun i hi => by rw [fR_i (by omega) (by omega) 12, fd_i (by omega) (by omega)]) (fun j hj => by rw [fR_j (by omega) 12, fd_i (by decide) (by decide)]) ?_
    refine ⟨n + 12, by omega, by rw [fR_i (by decide) (by decide) 12]; exact fd_n, ?_, fun i hi => ?_⟩
    · have h := fdR_11 (m := feedM m n a b c) (n := n) (a := a) (b := b) (c := c) (by rw [fd_i (by decide) (by decide)]; exact n3) 12
      exact h
    · rw [fR_i (i := 71) (by decide) (by decide) 12]
      by_cases z : i < n
      · rw [fR_out z 12, fd_out z, fd_i (by decide) (by decide)]; exact n4 i z
      · obtain ⟨u, rfl⟩ : ∃ u, i = n + u := ⟨i - n, by omega⟩
        rw [fR_at 12 (by omega), fd_at (by omega)]
        unfold byR byt
        rw [show nI 24 - nI (8 * (u % 4)) = nI (24 - 8 * (u % 4)) from pk_sub (by omega)]
        exact by_bR _
theorem q_trim {x : jX} {m : jm} {d k : Nat} (h : RelA m m k) (a : Int32) : PrC x (d + 120) k eX7_trim eX8_trim [.int a] m := by
  have hR := h
  obtain ⟨P, T, L, W, hS, hC, hT, hL, hW, hX, hP, hQ, hH, hK, hF⟩ := h
  have hS0 := hS
  have hC0 := hC
  obtain ⟨s1, s2, s3, s4, s5, s6, s7, s8, s9, s10, s11, s12, s13, s14, s15⟩ := hS
  obtain ⟨c1, c2, c3, c4, c5, c6, c7, c8, c9⟩ := hC
  obtain ⟨n, n1, n2, n3, n4⟩ := hP
  have hP : rP m m := ⟨n, n1, n2, n3, n4⟩
  refine pr_R2 (R := R_trim (F_trim m a).2 a) (p_trim (d := d + 119) a) (m_trim (d := d + 119) a) ?_
  by_cases y : nI 0 ≤ a ∧ a ≤ m 70 1
  · obtain ⟨u, hu, hue⟩ := w_of (n2 ▸ y) (by omega)
    have ef : F_trim m a = (a, mup m 70 1 a) := by unfold F_trim; rw [if_neg (Classical.not_not.mpr y)]
    have er : R_trim (mup m 70 1 a) a = (a, mup (mup m 70 1 a) 140 11 a) := by unfold R_trim; rw [mup_i (by decide), n3, ← n2, if_neg (Classical.not_not.mpr y)]
    rw [ef, er]
    refine ⟨rfl, ?_⟩
    dsimp only
    refine Rel_p hS0 hC0 hT hL hW hX hQ hH hK hF (fun i hi h1 h2 => by have := kA_iff.mp hi; rw [mup_i' (by omega), mup_i' h1]) (fun i hi => by rw [mup_i' (by omega), mup_i' (by omega)]) (fun j hj => by rw [mup_j (by omega), mup_i (by decide)]) ?_
    refine ⟨u, by omega, by rw [mup_i (by decide), hue]; exact mup_s, by rw [hue]; exact mup_s, fun i hi => ?_⟩
    rw [mup_i' (by decide), mup_i' (by decide), mup_i' (by decide), mup_i' (by decide)]
    exact n4 i (by omega)
  · have ef : F_trim m a = (-1000000001, m) := by unfold F_trim; rw [if_pos y]
    have er : R_trim m a = (-1000000001, m) := by unfold R_trim; rw [n3, ← n2, if_pos y]
    rw [ef, er]; exact ⟨rfl, Rel_s hR⟩
theorem lgtR_e {m m' : jm} : ∀ P, (∀ j, j = 2 ∨ (90 ≤ j ∧ j < 90 + 6 * P) → m' 141 j = m 141 j) → lgtR m' P = lgtR m P
  | 0, h => by unfold lgtR; rw [h 2 (by omega)]
  | p + 1, h => by
    have e : plR m' p = plR m p := by unfold plR; rw [h _ (by omega)]
    unfold lgtR givR
    rw [lgtR_e p (fun j hj => h j (by omega)), e, h _ (by omega), h _ (by omega), h _ (by omega)]
theorem hgtR_e {m m' : jm} : ∀ P, (∀ j, (90 ≤ j ∧ j < 90 + 6 * P) → m' 141 j = m 141 j) → hgtR m' P = hgtR m P
  | 0, _ => rfl
  | p + 1, h => by
    have e : plR m' p = plR m p := by unfold plR; rw [h _ (by omega)]
    unfold hgtR
    rw [hgtR_e p (fun j hj => h j (by omega)), e, h _ (by omega), h _ (by omega)]
theorem finR_e {m m' : jm} {P : Nat} (h : ∀ j, j = 2 ∨ j = 3 ∨ (90 ≤ j ∧ j < 90 + 6 * P) → m' 141 j = m 141 j) (k : Nat) : finR m' P k = finR m P k := by
  unfold finR
  rw [lgtR_e P (fun j hj => h j (by omega)), hgtR_e P (fun j hj => h j (by omega)), h 3 (by omega)]
theorem aimR_e {a b : jm} {p : Nat} (hw : wfR a 141) (hp : p < 48) (h : ∀ j, (10 ≤ j ∧ j < 40) ∨ (90 + 6 * p ≤ j ∧ j ≤ 90 + 6 * p + 5) → b 141 j = a 141 j) : aimR b 141 p = aimR a 141 p := by
  have h1 := nrv_10 hw hp
  have e1 : nrv b 141 p = nrv a 141 p := by unfold nrv; rw [h _ (by omega)]
  have h2 := grp_6 hw hp
  have e2 : grp b 141 p = grp a 141 p := by unfold grp; rw [e1, h _ (by omega)]
  unfold aimR drwR
  rw [e1, e2, h _ (by omega), h _ (by omega), h _ (by omega), h _ (by omega), h _ (by omega)]
theorem pt3_cj {m m' : jm} {G r j : Nat} (h : m' 141 j = m 141 j) : pt3 m' G r 141 j = pt3 m G r 141 j := by
  have e1 : pt1 m' G r 141 j = pt1 m G r 141 j := by
    unfold pt1
    by_cases c : j = 30 + G % 10
    · rw [c, mup_s, mup_s]
    · rw [mup_j c, mup_j c, h]
  have e2 : pt2 m' G r 141 j = pt2 m G r 141 j := by
    unfold pt2
    by_cases a : 1 < nG G
    · rw [if_pos a, if_pos a]
      by_cases c : j = 30 + G / 10 % 10
      · rw [c, mup_s, mup_s]
      · rw [mup_j c, mup_j c, e1]
    · rw [if_neg a, if_neg a, e1]
  unfold pt3
  by_cases a : 2 < nG G
  · rw [if_pos a, if_pos a]
    by_cases c : j = 30 + G / 100
    · rw [c, mup_s, mup_s]
    · rw [mup_j c, mup_j c, e2]
  · rw [if_neg a, if_neg a, e2]
theorem pt3_o {m : jm} {G r j : Nat} (h9 : G ≤ 999) (h : j < 30 ∨ 40 ≤ j) : pt3 m G r 141 j = m 141 j := by
  have e1 : pt1 m G r 141 j = m 141 j := mup_j (by omega)
  have e2 : pt2 m G r 141 j = m 141 j := by
    unfold pt2
    by_cases a : 1 < nG G
    · rw [if_pos a, mup_j (by omega), e1]
    · rw [if_neg a, e1]
  unfold pt3
  by_cases a : 2 < nG G
  · rw [if_pos a, mup_j (by omega), e2]
  · rw [if_neg a, e2]
theorem LR_e {b b' : jm} {G P r k : Nat} (h9 : G ≤ 999) (hw : wfR b 141) (h48 : P ≤ 48) (h : ∀ j, j < 380 → j ≠ 7 → j ≠ 8 → b' 141 j = b 141 j) : LR b' G P r k = LR b G P r k := by
  have hp : ∀ j, j < 380 → j ≠ 7 → j ≠ 8 → pt3 b' G r 141 j = pt3 b G r 141 j := fun j h1 h2 h3 => pt3_cj (h j h1 h2 h3)
  have hwp : wfR (pt3 b G r) 141 := ⟨fun p hp => by rw [pt3_o h9 (by omega)]; exact hw.1 p hp, fun j hj => by rw [pt3_o h9 (by omega)]; exact hw.2 j hj⟩
  unfold LR
  refine finR_e (fun j hj => ?_) k
  by_cases c : ∃ p, p < P ∧ j = 90 + 6 * p + 5
  · obtain ⟨p, hpp, e⟩ := c
    subst e
    rw [setR_s P p hpp, setR_s P p hpp]
    exact aimR_e hwp (by omega) (fun j hj => hp j (by omega) (by omega) (by omega))
  · have c' : ∀ p, p < P → j ≠ 90 + 6 * p + 5 := fun p hp e => c ⟨p, hp, e⟩
    rw [setR_j P c', setR_j P c']
    exact hp j (by omega) (by omega) (by omega)
theorem fd_e {b b' : jm} {P T : Nat} (h48 : P ≤ 48) (hw : wfR b 141) (h : fdOK b P T) (hj : ∀ j, (j < 380 ∧ j ≠ 7 ∧ j ≠ 8) ∨ 440 ≤ j → b' 141 j = b 141 j) (h4 : ∀ i, i = 144 ∨ i = 145 ∨ i = 146 → b' i = b i) (h140 : ∀ j, 28 ≤ j → j ≤ 33 → b' 140 j = b 140 j) : fdOK b' P T := by
  rcases h with z | ⟨g, G, z, f1, f2, f3, f4, f5, f6, f7, f8⟩
  · exact Or.inl (by rw [h140 33 (by omega) (by omega)]; exact z)
  · have e : fdF b' z g G P T = fdF b z g G P T := by
      funext r
      have e1 : ∀ k, LR b' G P r k = LR b G P r k := fun k => LR_e f2 hw h48 (fun j h1 h2 h3 => hj j (by omega))
      have e2 : shdR b' g = shdR b g := funext fun k => shdR_c (h4 144 (by omega)) (h4 145 (by omega)) (h4 146 (by omega)) g k
      unfold fdF
      by_cases c : z = 1
      · rw [if_pos c, if_pos c]
        unfold hidF
        rw [show LR b' G P r = LR b G P r from funext e1, e2, hj 4 (by omega), cntR_c (hj 1 (by omega)) (fun j hj' => hj j (by omega))]
        exact cnt_c 48 fun p _ => by unfold stlF; rw [sawF_c (fun j hj' => hj j (by omega))]
      · rw [if_neg c, if_neg c]
        unfold misF
        rw [show LR b' G P r = LR b G P r from funext e1, e2]
    refine Or.inr ⟨g, G, z, f1, f2, f3, by rw [h140 28 (by omega) (by omega)]; exact f4, by rw [h140 29 (by omega) (by omega)]; exact f5, by rw [h140 30 (by omega) (by omega)]; exact f6, ?_, ?_⟩
    · rw [h140 31 (by omega) (by omega), e]; exact f7
    · rw [h140 32 (by omega) (by omega), e]; exact f8
/-- what is learnt or watched has changed -/
theorem Rel_l {m M : jm} {k P T L W L' W' : Nat} (hS : rS m m 1 141 P) (hC : rC m m 1 141 T L W) (hT : rT m m 141 T) (hX : rX m m) (hP : rP m m) (hQ : rQ m m) (hH : rH m k) (hK : rK m m T L W) (hF : fdOK m P T)
    (h1 : ∀ i, kA i = true → ¬ (i = 1 ∨ i = 127 ∨ (129 ≤ i ∧ i ≤ 137)) → M i = m i) (h1j : ∀ j, j ≠ 15 → j ≠ 16 → M 1 j = m 1 j) (h2 : ∀ i, i = 142 ∨ i = 144 ∨ i = 145 ∨ i = 146 ∨ i = 150 ∨ i = 157 → M i = m i) (h3 : M 140 = m 140) (h4 : ∀ j, (j < 380 ∧ j ≠ 7 ∧ j ≠ 8) ∨ 440 ≤ j → M 141 j = m 141 j)
    (hLL : L ≤ L' ∧ L' ≤ 8 ∧ M 1 15 = nI L' ∧ M 141 7 = nI L') (hWW : W ≤ W' ∧ W' ≤ 12 ∧ M 1 16 = nI W' ∧ M 141 8 = nI W') (hL : rL M M 141 L') (hW : rW M M 141 W') (hl : ∀ i, i < L → M 127 i = m 127 i ∧ M (129 + i) = m (129 + i)) (hw : ∀ i, i < W → M 137 i = m 137 i) : RelA M M (k + 1) := by
  have A : ∀ i, (i = 0 ∨ (2 ≤ i ∧ i ≤ 26) ∨ i = 41 ∨ i = 42 ∨ (44 ≤ i ∧ i ≤ 67) ∨ i = 70 ∨ i = 71 ∨ (75 ≤ i ∧ i ≤ 78) ∨ (80 ≤ i ∧ i ≤ 93) ∨ i = 102 ∨ i = 120 ∨ i = 124 ∨ i = 125 ∨ i = 139) → M i = m i := fun i hi => h1 i (kA_iff.mpr (by omega)) (by omega)
  have hS' : rS M M 1 141 P := by
    have h0 := hS
    obtain ⟨s1, s2, s3, s4, s5, s6, s7, s8, s9, s10, s11, s12, s13, s14, s15⟩ := hS
    refine rS_up h0 (fun i hi => A i (by omega)) (h1j 0 (by decide) (by decide)) (fun j hj => h4 j (by omega)) (fun p hp => by rw [A (1 + 1) (by omega), h4 _ (by omega)]; exact ⟨(s5 p hp).1, (s6 p hp).1⟩) (fun p hp => by rw [A (1 + 6) (by omega), h4 _ (by omega)]; exact (s5 p hp).2.2.2.2.2) (by rw [h1j 13 (by decide) (by decide), h4 1 (by omega)]; exact s4) (fun j hj => by rw [A (1 + 8) (by omega), h4 _ (by omega)]; exact s7 j hj) (fun j hj => by rw [A (1 + 9) (by omega), A (1 + 10) (by omega), h4 _ (by omega), h4 _ (by omega)]; exact ⟨(s8 j hj).1, (s8 j hj).2, s13.2 j hj⟩) (fun j hj => by rw [A (1 + 11) (by omega), h4 _ (by omega)]; exact s9 j hj) (fun j hj => by rw [A (1 + 12) (by omega), h4 _ (by omega)]; exact s10 j hj) (by rw [h4 4 (by omega)]; exact s15.1) ⟨fun p hp => by rw [h4 _ (by omega), h4 _ (by omega)]; exact s15.2.1 p hp, fun j hj => by rw [h4 _ (by omega)]; exact s15.2.2.1 j hj, fun j hj => by rw [h4 _ (by omega)]; exact s15.2.2.2 j hj⟩
  obtain ⟨c1, c2, c3, c4, c5, c6, c7, c8, c9⟩ := hC
  exact ⟨P, T, L', W', hS', ⟨c1, (h1j 14 (by decide) (by decide)).trans c2, (h4 6 (by omega)).trans c3, hLL.2.1, hLL.2.2.1, hLL.2.2.2, hWW.2.1, hWW.2.2.1, hWW.2.2.2⟩, rT_c c1 hT (fun i hi => A i (by omega)) (fun j h1 _ => h4 j (by omega)), hL, hW,
    rX_c hX (fun i hi => A i (by omega)) (h2 144 (by omega)) (h2 145 (by omega)) (h2 146 (by omega)), rP_c hP (by rw [A 70 (by omega)]) (A 71 (by omega)) (by rw [h3]) (h2 150 (by omega)), rQ_c hQ (by rw [A 0 (by omega)]) (A 139 (by omega)) (by rw [h3]) (h2 157 (by omega)), rH_c hH (Nat.le_succ k) (A 124 (by omega)) (A 120 (by omega)) (by rw [A 102 (by omega)]) (A 125 (by omega)),
    rK_c hK (Nat.le_refl _) hLL.1 hWW.1 (by rw [A 0 (by omega)]) (by rw [h3]) (fun i h1 h2 => A i (by omega)) (fun i hi t _ => by rw [A i (by omega)]) (fun t ht => A (80 + t) (by omega)) hl hw (h2 142 (by omega)), fd_e hS.1 hS.2.2.2.2.2.2.2.2.2.2.2.2.1 hF h4 (fun i hi => h2 i (by omega)) (fun j _ _ => by rw [h3])⟩
theorem F_learn_i {m : jm} {a b : Int32} {n : Nat} (hn : m 1 15 = nI n) (h8 : n ≤ 8) (i : Nat) (h : i ≠ 1) (h2 : i ≠ 68) (h3 : i ≠ 69) (h4 : ¬ (127 ≤ i ∧ i ≤ 137)) : (F_learn m a b).2 i = m i := by
  unfold F_learn
  rw [hn, tN_n (by omega)]
  by_cases c1 : nI 0 ≤ a ∧ a ≤ nI 3
  · rw [if_neg (Classical.not_not.mpr c1)]
    by_cases c2 : nI 0 ≤ b ∧ b ≤ nI 9
    · rw [if_neg (Classical.not_not.mpr c2)]
      by_cases c3 : 8 ≤ n
      · rw [if_pos c3]
      · rw [if_neg c3]
        show lrnM _ _ _ _ i = _
        unfold lrnM
        rw [mup_i' h, mcpy_i (by omega), askM_i h2 h3, mup_i' (by omega)]
    · rw [if_pos c2]
  · rw [if_pos c1]
theorem F_watch_i {m : jm} {w : Int32} (i : Nat) (h : i ≠ 1) (h2 : i ≠ 137) : (F_watch m w).2 i = m i := by
  unfold F_watch
  (repeat' split) <;> first | rfl | (dsimp only; rw [mup_i' h, mup_i' h2])
theorem F_tell_i {m : jm} {w : Int32} (i : Nat) (h : i ≠ 0) (h2 : i ≠ 139) : (F_tell m w).2 i = m i := by
  unfold F_tell
  (repeat' split) <;> first | rfl | (dsimp only; rw [mup_i' h2, mup_i' h])
theorem q_learn {x : jX} {m : jm} {d k : Nat} (h : RelA m m k) (g a : Int32) : PrC x (d + 120) k eX7_learn eX8_learn [.int g, .int a] m := by
  have hR := h
  obtain ⟨P, T, L, W, hS, hC, hT, hL, hW, hX, hP, hQ, hH, hK, hF⟩ := h
  have hS0 := hS
  have hC0 := hC
  obtain ⟨s1, s2, s3, s4, s5, s6, s7, s8, s9, s10, s11, s12, s13, s14, s15⟩ := hS
  obtain ⟨c1, c2, c3, c4, c5, c6, c7, c8, c9⟩ := hC
  have hi := fun i h1 h2 h3 h4 => F_learn_i (m := m) (a := g) (b := a) c5 c4 i h1 h2 h3 h4
  have e141 : (F_learn m g a).2 141 = m 141 := hi 141 (by decide) (by decide) (by decide) (by decide)
  refine pr_R2 (R := R_learn (F_learn m g a).2 g a) (p_learn (d := d + 116) g a c5 c4) (m_learn (d := d + 117) g a (by rw [e141]; exact c6) c4) ?_
  by_cases y1 : nI 0 ≤ g ∧ g ≤ nI 3
  · obtain ⟨r, hr, hre⟩ := w_of y1 (by decide)
    have htr : tN g = r := by rw [hre]; exact tN_n (by omega)
    by_cases y2 : nI 0 ≤ a ∧ a ≤ nI 9
    · by_cases y3 : L = 8
      · have ef : F_learn m g a = (-1000000003, m) := by unfold F_learn; rw [if_neg (Classical.not_not.mpr y1), if_neg (Classical.not_not.mpr y2), c5, tN_n (by omega), if_pos (by omega)]
        have er : R_learn m g a = (-1000000003, m) := by unfold R_learn; rw [if_neg (Classical.not_not.mpr y1), if_neg (Classical.not_not.mpr y2), c6, tN_n (by omega), if_pos y3]
        rw [ef, er]; exact ⟨rfl, Rel_s hR⟩
      · have ef : F_learn m g a = (nI L, lrnM m r L a) := by unfold F_learn; rw [if_neg (Classical.not_not.mpr y1), if_neg (Classical.not_not.mpr y2), c5, tN_n (by omega), if_neg (by omega), htr]
        rw [ef] at e141 hi
        have er : R_learn (lrnM m r L a) g a = (nI L, lrnR (lrnM m r L a) r L a) := by unfold R_learn; rw [if_neg (Classical.not_not.mpr y1), if_neg (Classical.not_not.mpr y2), show (lrnM m r L a) 141 = m 141 from e141, c6, tN_n (by omega), if_neg y3, htr]
        rw [ef, er]
        refine ⟨rfl, ?_⟩
        dsimp only
        dsimp only at hi e141
        have eq : ∀ q, qstR (lrnM m r L a) r q = qstR m r q := fun q => qstR_c (hi 144 (by decide) (by decide) (by decide) (by decide)) (hi 145 (by decide) (by decide) (by decide) (by decide)) (hi 146 (by decide) (by decide) (by decide) (by decide)) (by rw [e141]) r q
        have l127 : ∀ i, lrnM m r L a 127 i = if i = L then a else m 127 i := fun i => by
          unfold lrnM
          rw [mup_i (by decide), mcpy_i (by omega), askM_i (by decide) (by decide)]
          by_cases c : i = L
          · rw [if_pos c, c]; exact mup_s
          · rw [if_neg c, mup_j c]
        have l129 : ∀ q, q < 4 → lrnM m r L a (129 + L) q = qstR m r (nI q) := fun q hq => by
          unfold lrnM
          rw [mup_i (by omega), mcpy_s hq]
          have e5 : m 13 2 = m 141 4 := s10 2 (by decide)
          rw [e5]
          have hx : rX (mup m 127 L a) m := rX_c hX (fun i hi => mup_i' (by omega)) rfl rfl rfl
          exact ask_v hx s15.1 (by omega) hq
        have l129o : ∀ i, i < 8 → i ≠ L → lrnM m r L a (129 + i) = m (129 + i) := fun i hi2 hne => by
          unfold lrnM
          rw [mup_i' (by omega), mcpy_i (by omega), askM_i (by omega) (by omega), mup_i' (by omega)]
        have l137 : lrnM m r L a 137 = m 137 := by
          unfold lrnM
          rw [mup_i' (by decide), mcpy_i (by omega), askM_i (by decide) (by decide), mup_i' (by decide)]
        have l1 : ∀ j, j ≠ 15 → lrnM m r L a 1 j = m 1 j := fun j hj => by
          unfold lrnM
          rw [mup_j hj, mcpy_i (by omega), askM_i (by decide) (by decide), mup_i' (by decide)]
        have l15 : lrnM m r L a 1 15 = nI (L + 1) := mup_s
        generalize hM : lrnR (lrnM m r L a) r L a = M
        have r0 : ∀ i, i ≠ 141 → M i = lrnM m r L a i := fun i h => by rw [← hM]; unfold lrnR; rw [mup_i' h, mup_i' h, mrun_i h 4]
        have r7 : M 141 7 = nI (L + 1) := by rw [← hM]; exact mup_s
        have r4 : M 141 (380 + 5 * L + 4) = a := by rw [← hM]; unfold lrnR; rw [mup_j (by omega)]; exact mup_s
        have rq : ∀ q, q < 4 → M 141 (380 + 5 * L + q) = qstR m r (nI q) := fun q hq => by
          rw [← hM]; unfold lrnR
          rw [mup_j (by omega), mup_j (by omega), mrun_in 4 hq, eq]
        have ro : ∀ j, j ≠ 7 → (j < 380 + 5 * L ∨ 385 + 5 * L ≤ j) → M 141 j = m 141 j := fun j h7 hj => by
          rw [← hM]; unfold lrnR
          rw [mup_j h7, mup_j (by omega), mrun_out 4 (by omega), e141]
        refine Rel_l (L' := L + 1) (W' := W) hS0 hC0 hT hX hP hQ hH hK hF (fun i hk h => by have := kA_iff.mp hk; rw [r0 i (by omega), hi i (by omega) (by omega) (by omega) (by omega)]) (fun j h1 h2 => by rw [r0 1 (by decide), l1 j h1]) (fun i hk => by rw [r0 i (by omega), hi i (by omega) (by omega) (by omega) (by omega)]) (by rw [r0 140 (by decide), hi 140 (by decide) (by decide) (by decide) (by decide)]) (fun j hj => ro j (by omega) (by omega)) ⟨by omega, by omega, by rw [r0 1 (by decide)]; exact l15, r7⟩ ⟨Nat.le_refl _, c7, by rw [r0 1 (by decide), l1 16 (by decide)]; exact c8, by rw [ro 8 (by decide) (by omega)]; exact c9⟩ (fun i hi2 => ?_) (fun i hi2 => ?_) (fun i hi2 => ⟨by rw [r0 127 (by decide), l127, if_neg (by omega)], by rw [r0 _ (by omega), l129o i (by omega) (by omega)]⟩) (fun i hi2 => by rw [r0 137 (by decide), l137])
        · rw [r0 127 (by decide), r0 (129 + i) (by omega), l127]
          by_cases c : i = L
          · subst c
            rw [if_pos rfl, r4]
            exact ⟨rfl, fun q hq => by rw [rq q hq]; exact l129 q hq⟩
          · rw [if_neg c, l129o i (by omega) c, ro _ (by omega) (by omega)]
            refine ⟨(hL i (by omega)).1, fun q hq => ?_⟩
            rw [ro _ (by omega) (by omega)]
            exact (hL i (by omega)).2 q hq
        · rw [r0 137 (by decide), l137, ro _ (by omega) (by omega)]
          exact hW i hi2
    · have ef : F_learn m g a = (-1000000001, m) := by unfold F_learn; rw [if_neg (Classical.not_not.mpr y1), if_pos y2]
      have er : R_learn m g a = (-1000000001, m) := by unfold R_learn; rw [if_neg (Classical.not_not.mpr y1), if_pos y2]
      rw [ef, er]; exact ⟨rfl, Rel_s hR⟩
  · have ef : F_learn m g a = (-1000000001, m) := by unfold F_learn; rw [if_pos y1]
    have er : R_learn m g a = (-1000000001, m) := by unfold R_learn; rw [if_pos y1]
    rw [ef, er]; exact ⟨rfl, Rel_s hR⟩
theorem q_watch {x : jX} {m : jm} {d k : Nat} (h : RelA m m k) (w : Int32) : PrC x (d + 120) k eX7_watch eX8_watch [.int w] m := by
  have hR := h
  obtain ⟨P, T, L, W, hS, hC, hT, hL, hW, hX, hP, hQ, hH, hK, hF⟩ := h
  have hS0 := hS
  have hC0 := hC
  obtain ⟨s1, s2, s3, s4, s5, s6, s7, s8, s9, s10, s11, s12, s13, s14, s15⟩ := hS
  obtain ⟨c1, c2, c3, c4, c5, c6, c7, c8, c9⟩ := hC
  have e141 : (F_watch m w).2 141 = m 141 := F_watch_i 141 (by decide) (by decide)
  refine pr_R2 (R := R_watch (F_watch m w).2 w) (p_watch (d := d + 119) w c8 c7) (m_watch (d := d + 119) w (by rw [e141]; exact c9) c7) ?_
  by_cases y1 : nI 0 ≤ w ∧ w ≤ 536870911
  · by_cases y3 : W = 12
    · have ef : F_watch m w = (-1000000003, m) := by unfold F_watch; rw [if_neg (Classical.not_not.mpr y1), c8, tN_n (by omega), if_pos (by omega)]
      have er : R_watch m w = (-1000000003, m) := by unfold R_watch; rw [if_neg (Classical.not_not.mpr y1), c9, tN_n (by omega), if_pos y3]
      rw [ef, er]; exact ⟨rfl, Rel_s hR⟩
    · have ef : F_watch m w = (nI W, mup (mup m 137 W w) 1 16 (nI (W + 1))) := by unfold F_watch; rw [if_neg (Classical.not_not.mpr y1), c8, tN_n (by omega), if_neg (by omega)]
      have er : R_watch (mup (mup m 137 W w) 1 16 (nI (W + 1))) w = (nI W, mup (mup (mup (mup m 137 W w) 1 16 (nI (W + 1))) 141 (420 + W) w) 141 8 (nI (W + 1))) := by unfold R_watch; rw [mup_i (by decide), mup_i (by decide), if_neg (Classical.not_not.mpr y1), c9, tN_n (by omega), if_neg y3]
      rw [ef, er]
      refine ⟨rfl, ?_⟩
      dsimp only
      generalize hM : mup (mup (mup (mup m 137 W w) 1 16 (nI (W + 1))) 141 (420 + W) w) 141 8 (nI (W + 1)) = M
      have r0 : ∀ i, i ≠ 1 → i ≠ 137 → i ≠ 141 → M i = m i := fun i h1 h2 h3 => by rw [← hM, mup_i' h3, mup_i' h3, mup_i' h1, mup_i' h2]
      have r1 : ∀ j, j ≠ 16 → M 1 j = m 1 j := fun j hj => by rw [← hM, mup_i (by decide), mup_i (by decide), mup_j hj, mup_i (by decide)]
      have r16 : M 1 16 = nI (W + 1) := by rw [← hM, mup_i (by decide), mup_i (by decide)]; exact mup_s
      have r8 : M 141 8 = nI (W + 1) := by rw [← hM]; exact mup_s
      have rw' : M 141 (420 + W) = w := by rw [← hM, mup_j (by omega)]; exact mup_s
      have ro : ∀ j, j ≠ 8 → j ≠ 420 + W → M 141 j = m 141 j := fun j h1 h2 => by rw [← hM, mup_j h1, mup_j h2, mup_i (by decide), mup_i (by decide)]
      have r137 : ∀ i, M 137 i = if i = W then w else m 137 i := fun i => by
        rw [← hM, mup_i (by decide), mup_i (by decide), mup_i (by decide)]
        by_cases c : i = W
        · rw [if_pos c, c]; exact mup_s
        · rw [if_neg c, mup_j c]
      refine Rel_l (L' := L) (W' := W + 1) hS0 hC0 hT hX hP hQ hH hK hF (fun i hk h => by have := kA_iff.mp hk; exact r0 i (by omega) (by omega) (by omega)) (fun j h1 h2 => r1 j h2) (fun i hk => r0 i (by omega) (by omega) (by omega)) (r0 140 (by decide) (by decide) (by decide)) (fun j hj => ro j (by omega) (by omega)) ⟨Nat.le_refl _, c4, by rw [r1 15 (by decide)]; exact c5, by rw [ro 7 (by decide) (by omega)]; exact c6⟩ ⟨by omega, by omega, r16, r8⟩ (fun i hi2 => ?_) (fun i hi2 => ?_) (fun i hi2 => ⟨by rw [r0 127 (by decide) (by decide) (by decide)], r0 _ (by omega) (by omega) (by omega)⟩) (fun i hi2 => by rw [r137, if_neg (by omega)])
      · rw [r0 127 (by decide) (by decide) (by decide), r0 (129 + i) (by omega) (by omega) (by omega), ro _ (by omega) (by omega)]
        refine ⟨(hL i hi2).1, fun q hq => ?_⟩
        rw [ro _ (by omega) (by omega)]
        exact (hL i hi2).2 q hq
      · rw [r137]
        by_cases c : i = W
        · rw [if_pos c, c, rw']
        · rw [if_neg c, ro _ (by omega) (by omega)]; exact hW i (by omega)
  · have ef : F_watch m w = (-1000000001, m) := by unfold F_watch; rw [if_pos y1]
    have er : R_watch m w = (-1000000001, m) := by unfold R_watch; rw [if_pos y1]
    rw [ef, er]; exact ⟨rfl, Rel_s hR⟩
theorem q_tell {x : jX} {m : jm} {d k : Nat} (h : RelA m m k) (v : Int32) : PrC x (d + 120) k eX7_tell eX8_tell [.int v] m := by
  have hR := h
  obtain ⟨P, T, L, W, hS, hC, hT, hL, hW, hX, hP, hQ, hH, hK, hF⟩ := h
  have hS0 := hS
  have hC0 := hC
  obtain ⟨s1, s2, s3, s4, s5, s6, s7, s8, s9, s10, s11, s12, s13, s14, s15⟩ := hS
  obtain ⟨c1, c2, c3, c4, c5, c6, c7, c8, c9⟩ := hC
  obtain ⟨n, n1, n2, n3, n4⟩ := hQ
  refine pr_R2 (R := R_tell (F_tell m v).2 v) (p_tell (d := d + 120) v n2 n1) (m_tell (d := d + 120) v (by rw [F_tell_i 140 (by decide) (by decide)]; exact n3) n1) ?_
  by_cases y : n = 60
  · have ef : F_tell m v = (-1000000003, m) := by unfold F_tell; rw [n2, tN_n (by omega), if_pos (by omega)]
    have er : R_tell m v = (-1000000003, m) := by unfold R_tell; rw [n3, tN_n (by omega), if_pos y]
    rw [ef, er]; exact ⟨rfl, Rel_s hR⟩
  · have ef : F_tell m v = (nI (n + 1), mup (mup m 0 10 (nI (n + 1))) 139 n v) := by unfold F_tell; rw [n2, tN_n (by omega), if_neg (by omega)]
    have er : R_tell (mup (mup m 0 10 (nI (n + 1))) 139 n v) v = (nI (n + 1), mup (mup (mup (mup m 0 10 (nI (n + 1))) 139 n v) 157 n v) 140 35 (nI (n + 1))) := by unfold R_tell; rw [mup_i (by decide), mup_i (by decide), n3, tN_n (by omega), if_neg y]
    rw [ef, er]
    refine ⟨rfl, ?_⟩
    dsimp only
    generalize hM : mup (mup (mup (mup m 0 10 (nI (n + 1))) 139 n v) 157 n v) 140 35 (nI (n + 1)) = M
    have r0 : ∀ i, i ≠ 0 → i ≠ 139 → i ≠ 157 → i ≠ 140 → M i = m i := fun i h1 h2 h3 h4 => by rw [← hM, mup_i' h4, mup_i' h3, mup_i' h2, mup_i' h1]
    have r10 : M 0 10 = nI (n + 1) := by rw [← hM, mup_i (by decide), mup_i (by decide), mup_i (by decide)]; exact mup_s
    have r0j : ∀ j, j ≠ 10 → M 0 j = m 0 j := fun j hj => by rw [← hM, mup_i (by decide), mup_i (by decide), mup_i (by decide), mup_j hj]
    have r35 : M 140 35 = nI (n + 1) := by rw [← hM]; exact mup_s
    have r140 : ∀ j, j ≠ 35 → M 140 j = m 140 j := fun j hj => by rw [← hM, mup_j hj, mup_i (by decide), mup_i (by decide), mup_i (by decide)]
    have r139 : ∀ i, M 139 i = if i = n then v else m 139 i := fun i => by
      rw [← hM, mup_i (by decide), mup_i (by decide)]
      by_cases c : i = n
      · rw [if_pos c, c]; exact mup_s
      · rw [if_neg c, mup_j c, mup_i (by decide)]
    have r157 : ∀ i, M 157 i = if i = n then v else m 157 i := fun i => by
      rw [← hM, mup_i (by decide)]
      by_cases c : i = n
      · rw [if_pos c, c]; exact mup_s
      · rw [if_neg c, mup_j c, mup_i (by decide), mup_i (by decide)]
    have A : ∀ i, i ≠ 0 → i ≠ 139 → i ≠ 157 → i ≠ 140 → M i = m i := r0
    exact ⟨P, T, L, W, rS_c hS0 (fun i h1 h2 => A i (by omega) (by omega) (by omega) (by omega)) (fun j _ => by rw [A 141 (by decide) (by decide) (by decide) (by decide)]), rC_c hC0 (A 1 (by decide) (by decide) (by decide) (by decide)) (fun j _ _ => by rw [A 141 (by decide) (by decide) (by decide) (by decide)]), rT_c c1 hT (fun i hi => A i (by omega) (by omega) (by omega) (by omega)) (fun j _ _ => by rw [A 141 (by decide) (by decide) (by decide) (by decide)]), rL_c c4 hL (fun i hi => A i (by omega) (by omega) (by omega) (by omega)) (fun j _ _ => by rw [A 141 (by decide) (by decide) (by decide) (by decide)]), rW_c c7 hW (A 137 (by decide) (by decide) (by decide) (by decide)) (fun j _ _ => by rw [A 141 (by decide) (by decide) (by decide) (by decide)]),
      rX_c hX (fun i hi => A i (by omega) (by omega) (by omega) (by omega)) (A 144 (by decide) (by decide) (by decide) (by decide)) (A 145 (by decide) (by decide) (by decide) (by decide)) (A 146 (by decide) (by decide) (by decide) (by decide)), rP_c hP (by rw [A 70 (by decide) (by decide) (by decide) (by decide)]) (A 71 (by decide) (by decide) (by decide) (by decide)) (r140 11 (by decide)) (A 150 (by decide) (by decide) (by decide) (by decide)), ⟨n + 1, by omega, r10, r35, fun i hi => by
        rw [r139, r157]
        by_cases c : i = n
        · rw [if_pos c, if_pos c]
        · rw [if_neg c, if_neg c]; exact n4 i (by omega)⟩, rH_c hH (Nat.le_succ k) (A 124 (by decide) (by decide) (by decide) (by decide)) (A 120 (by decide) (by decide) (by decide) (by decide)) (by rw [A 102 (by decide) (by decide) (by decide) (by decide)]) (A 125 (by decide) (by decide) (by decide) (by decide)),
      rK_c hK (Nat.le_refl _) (Nat.le_refl _) (Nat.le_refl _) (r0j 11 (by decide)) (r140 3 (by decide)) (fun i h1 h2 => A i (by omega) (by omega) (by omega) (by omega)) (fun i hi t _ => by rw [A i (by omega) (by omega) (by omega) (by omega)]) (fun t ht => A (80 + t) (by omega) (by omega) (by omega) (by omega)) (fun i hi => ⟨by rw [A 127 (by decide) (by decide) (by decide) (by decide)], A (129 + i) (by omega) (by omega) (by omega) (by omega)⟩) (fun i hi => by rw [A 137 (by decide) (by decide) (by decide) (by decide)]) (A 142 (by decide) (by decide) (by decide) (by decide)),
      fd_e s1 s13 hF (fun j _ => by rw [A 141 (by decide) (by decide) (by decide) (by decide)]) (fun i hi => A i (by omega) (by omega) (by omega) (by omega)) (fun j h1 h2 => r140 j (by omega))⟩
