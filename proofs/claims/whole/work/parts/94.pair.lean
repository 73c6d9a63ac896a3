/-- a call of both, one after the other -/
def PrC (x : jX) (D k : Nat) (y7 y8 : jMe) (as : List Value) (m : jm) : Prop := Ct x D y7 (.ref (jxb x + 0) :: as) m (ji fun v m1 => Ct x D y8 (.ref (jxb x + 140) :: as) m1 (ji fun v' m2 => v' = v ∧ RelA m2 m2 (k + 1)))
theorem pr_mk {x : jX} {D k : Nat} {y7 y8 : jMe} {as : List Value} {m : jm} {Q7 : Int32 → jm → Prop} {Q8 : Int32 → jm → Int32 → jm → Prop} (h7 : Ct x D y7 (.ref (jxb x + 0) :: as) m (ji Q7)) (h8 : ∀ v m1, Q7 v m1 → Ct x D y8 (.ref (jxb x + 140) :: as) m1 (ji (Q8 v m1))) (h : ∀ v m1 v' m2, Q7 v m1 → Q8 v m1 v' m2 → v' = v ∧ RelA m2 m2 (k + 1)) : PrC x D k y7 y8 as m := by
  refine Ct_mono (fun r m1 q => ?_) h7
  obtain ⟨v, rfl, hq⟩ := q
  refine ⟨v, rfl, Ct_mono (fun r m2 q => ?_) (h8 v m1 hq)⟩
  obtain ⟨v', rfl, hq'⟩ := q
  exact ⟨v', rfl, h v m1 v' m2 hq hq'⟩
theorem pr_FR {x : jX} {D k : Nat} {y7 y8 : jMe} {as : List Value} {m : jm} {F R : Int32 × jm} (h7 : Ct x D y7 (.ref (jxb x + 0) :: as) m (ji fun rv m' => (rv, m') = F)) (h8 : Ct x D y8 (.ref (jxb x + 140) :: as) F.2 (ji fun rv m' => (rv, m') = R)) (h1 : R.1 = F.1) (h2 : RelA R.2 R.2 (k + 1)) : PrC x D k y7 y8 as m :=
  pr_mk (Q8 := fun _ _ v' m2 => (v', m2) = R) h7 (fun v m1 q => by rw [show m1 = F.2 from congrArg Prod.snd q]; exact h8) (fun v m1 v' m2 q q' => by
    rw [show m2 = R.2 from congrArg Prod.snd q', show v' = R.1 from congrArg Prod.fst q', show v = F.1 from congrArg Prod.fst q]
    exact ⟨h1, h2⟩)
/-- cells that count -/
def kA (i : Nat) : Bool := decide (i ≤ 26) || decide (i = 41) || decide (i = 42) || (decide (44 ≤ i) && decide (i ≤ 67)) || decide (i = 70) || decide (i = 71) || (decide (75 ≤ i) && decide (i ≤ 78)) || (decide (80 ≤ i) && decide (i ≤ 93)) || decide (i = 102) || decide (i = 120) || decide (i = 124) || decide (i = 125) || decide (i = 127) || (decide (129 ≤ i) && decide (i ≤ 137)) || decide (i = 139)
theorem kA_iff {i : Nat} : kA i = true ↔ (i ≤ 26 ∨ i = 41 ∨ i = 42 ∨ (44 ≤ i ∧ i ≤ 67) ∨ i = 70 ∨ i = 71 ∨ (75 ≤ i ∧ i ≤ 78) ∨ (80 ≤ i ∧ i ≤ 93) ∨ i = 102 ∨ i = 120 ∨ i = 124 ∨ i = 125 ∨ i = 127 ∨ (129 ≤ i ∧ i ≤ 137) ∨ i = 139) := by
  unfold kA
  simp only [Bool.or_eq_true, Bool.and_eq_true, decide_eq_true_eq]
  omega
def cA (a a' : jm) : Prop := ∀ i, kA i = true → a' i = a i
def cB (b b' : jm) : Prop := (∀ i, i = 141 ∨ i = 142 ∨ i = 144 ∨ i = 145 ∨ i = 146 ∨ i = 150 ∨ i = 157 → b' i = b i) ∧ (∀ j, j = 3 ∨ j = 11 ∨ j = 35 → b' 140 j = b 140 j) ∧ (b' 140 33 = 0 ∨ ∀ j, 28 ≤ j → j ≤ 33 → b' 140 j = b 140 j)
theorem LR_c {b b' : jm} (h : b' 141 = b 141) (G P r k : Nat) : LR b' G P r k = LR b G P r k := by
  unfold LR
  have e1 : ∀ j, pt3 b' G r 141 j = pt3 b G r 141 j := fun j => by
    have : pt3 b' G r 141 = pt3 b G r 141 := by
      have p1 : pt1 b' G r 141 = pt1 b G r 141 := by unfold pt1; rw [mup_row, mup_row, h]
      have p2 : pt2 b' G r 141 = pt2 b G r 141 := by
        unfold pt2
        by_cases c : 1 < nG G
        · rw [if_pos c, if_pos c, mup_row, mup_row, p1]
        · rw [if_neg c, if_neg c, p1]
      unfold pt3
      by_cases c : 2 < nG G
      · rw [if_pos c, if_pos c, mup_row, mup_row, p2]
      · rw [if_neg c, if_neg c, p2]
    rw [this]
  have e2 : ∀ n, setR (pt3 b' G r) n 141 = setR (pt3 b G r) n 141 := fun n => by
    induction n with
    | zero => exact funext e1
    | succ n ih =>
      show mup (setR (pt3 b' G r) n) 141 _ (aimR (pt3 b' G r) 141 n) 141 = mup (setR (pt3 b G r) n) 141 _ (aimR (pt3 b G r) 141 n) 141
      rw [mup_row, mup_row, ih, aimR_r (funext e1) n]
  exact finR_c (e2 P) P k
theorem fdF_c {b b' : jm} (h : b' 141 = b 141) (h4 : b' 144 = b 144) (h5 : b' 145 = b 145) (h6 : b' 146 = b 146) (z g G P T : Nat) : fdF b' z g G P T = fdF b z g G P T := by
  funext r
  have e1 : LR b' G P r = LR b G P r := funext fun k => LR_c h G P r k
  have e2 : shdR b' g = shdR b g := funext fun k => shdR_c h4 h5 h6 g k
  unfold fdF
  by_cases c : z = 1
  · rw [if_pos c, if_pos c]
    unfold hidF
    rw [e1, e2, h, cntR_c (congrFun h 1) (fun j _ => congrFun h j)]
    exact cnt_c 48 fun p _ => by unfold stlF; rw [sawF_c (fun j _ => congrFun h j)]
  · rw [if_neg c, if_neg c]
    unfold misF
    rw [e1, e2]
theorem fd_c {b b' : jm} {P T : Nat} (h : fdOK b P T) (hb : cB b b') : fdOK b' P T := by
  obtain ⟨h1, h2, h3⟩ := hb
  rcases h3 with h3 | h3
  · exact Or.inl h3
  rcases h with h | ⟨g, G, z, q1, q2, q3, q4, q5, q6, q7, q8⟩
  · exact Or.inl (by rw [h3 33 (by decide) (by decide)]; exact h)
  · refine Or.inr ⟨g, G, z, q1, q2, q3, by rw [h3 28 (by decide) (by decide)]; exact q4, by rw [h3 29 (by decide) (by decide)]; exact q5, by rw [h3 30 (by decide) (by decide)]; exact q6, ?_, ?_⟩
    · rw [h3 31 (by decide) (by decide), fdF_c (h1 141 (by omega)) (h1 144 (by omega)) (h1 145 (by omega)) (h1 146 (by omega))]; exact q7
    · rw [h3 32 (by decide) (by decide), fdF_c (h1 141 (by omega)) (h1 144 (by omega)) (h1 145 (by omega)) (h1 146 (by omega))]; exact q8
theorem Rel_cc {a b a' b' : jm} {k k' : Nat} (h : RelA a b k) (hk : k ≤ k') (ha : cA a a') (hb : cB b b') : RelA a' b' k' := by
  obtain ⟨P, T, L, W, hS, hC, hT, hL, hW, hX, hP, hQ, hH, hK, hF⟩ := h
  have A : ∀ i, (i ≤ 26 ∨ i = 41 ∨ i = 42 ∨ (44 ≤ i ∧ i ≤ 67) ∨ i = 70 ∨ i = 71 ∨ (75 ≤ i ∧ i ≤ 78) ∨ (80 ≤ i ∧ i ≤ 93) ∨ i = 102 ∨ i = 120 ∨ i = 124 ∨ i = 125 ∨ i = 127 ∨ (129 ≤ i ∧ i ≤ 137) ∨ i = 139) → a' i = a i := fun i hi => ha i (kA_iff.mpr hi)
  have B := hb.1
  exact ⟨P, T, L, W, rS_c hS (fun i h1 h2 => A i (by omega)) (fun j _ => by rw [B 141 (by omega)]), rC_c hC (A 1 (by omega)) (fun j _ _ => by rw [B 141 (by omega)]), rT_c hC.1 hT (fun i hi => A i (by omega)) (fun j _ _ => by rw [B 141 (by omega)]), rL_c hC.2.2.2.1 hL (fun i hi => A i (by omega)) (fun j _ _ => by rw [B 141 (by omega)]), rW_c hC.2.2.2.2.2.2.1 hW (A 137 (by omega)) (fun j _ _ => by rw [B 141 (by omega)]),
    rX_c hX (fun i hi => A i (by omega)) (B 144 (by omega)) (B 145 (by omega)) (B 146 (by omega)), rP_c hP (by rw [A 70 (by omega)]) (A 71 (by omega)) (hb.2.1 11 (by omega)) (B 150 (by omega)), rQ_c hQ (by rw [A 0 (by omega)]) (A 139 (by omega)) (hb.2.1 35 (by omega)) (B 157 (by omega)), rH_c hH hk (A 124 (by omega)) (A 120 (by omega)) (by rw [A 102 (by omega)]) (A 125 (by omega)),
    rK_c hK (Nat.le_refl _) (Nat.le_refl _) (Nat.le_refl _) (by rw [A 0 (by omega)]) (hb.2.1 3 (by omega)) (fun i h1 h2 => A i (by omega)) (fun i hi t _ => by rw [A i (by omega)]) (fun t ht => A (80 + t) (by have := hC.1; omega)) (fun i hi => ⟨by rw [A 127 (by omega)], A (129 + i) (by have := hC.2.2.2.1; omega)⟩) (fun i hi => by rw [A 137 (by omega)]) (B 142 (by omega)), fd_c hF hb⟩
/-- the class has changed nothing that counts -/
theorem cA_exs {S : List Nat} {m m' : jm} (h : exs S m m') (hs : S.all (fun i => !kA i) = true) : cA m m' := fun i hi => h i fun z => by
  have := List.all_eq_true.mp hs i z
  rw [hi] at this
  exact absurd this (by decide)
theorem cA_rf (m : jm) : cA m m := fun _ _ => rfl
theorem cA_tr {a b c : jm} (h1 : cA a b) (h2 : cA b c) : cA a c := fun i hi => (h2 i hi).trans (h1 i hi)
/-- the reference has changed nothing that counts -/
theorem cA_hi {m m' : jm} (h : ∀ i, i < 140 → m' i = m i) : cA m m' := fun i hi => h i (by have := kA_iff.mp hi; omega)
theorem cB_rf (m : jm) : cB m m := ⟨fun _ _ => rfl, fun _ _ => rfl, Or.inr fun _ _ _ => rfl⟩
theorem cB_lo {m m' : jm} (h : ∀ i, 140 ≤ i → m' i = m i) : cB m m' := ⟨fun i hi => h i (by omega), fun j _ => by rw [h 140 (by decide)], Or.inr fun j _ _ => by rw [h 140 (by decide)]⟩
theorem cB_exs {S : List Nat} {m m' : jm} (h : exs S m m') (hs : S.all (fun i => decide (i ≠ 140 ∧ i ≠ 141 ∧ i ≠ 142 ∧ i ≠ 144 ∧ i ≠ 145 ∧ i ≠ 146 ∧ i ≠ 150 ∧ i ≠ 157)) = true) : cB m m' := by
  have hn : ∀ i, i = 140 ∨ i = 141 ∨ i = 142 ∨ i = 144 ∨ i = 145 ∨ i = 146 ∨ i = 150 ∨ i = 157 → m' i = m i := fun i hi => h i fun z => by
    have := of_decide_eq_true (List.all_eq_true.mp hs i z)
    omega
  exact ⟨fun i hi => hn i (by omega), fun j _ => by rw [hn 140 (by omega)], Or.inr fun j _ _ => by rw [hn 140 (by omega)]⟩
theorem cB_tr {a b c : jm} (h1 : cB a b) (h2 : cB b c) : cB a c := ⟨fun i hi => (h2.1 i hi).trans (h1.1 i hi), fun j hj => (h2.2.1 j hj).trans (h1.2.1 j hj), by
  rcases h2.2.2 with z | z
  · exact Or.inl z
  · rcases h1.2.2 with y | y
    · exact Or.inl ((z 33 (by decide) (by decide)).trans y)
    · exact Or.inr fun j p q => (z j p q).trans (y j p q)⟩
/-- a state that has changed -/
theorem rS_up {a b a' b' : jm} {o r P : Nat} (h : rS a b o r P) (hr : ∀ i, i = o + 2 ∨ i = o + 3 ∨ i = o + 4 ∨ i = o + 5 ∨ i = o + 7 → a' i = a i) (h0 : a' o 0 = a o 0) (hb : ∀ j, j = 0 ∨ (90 ≤ j ∧ j < 380 ∧ j % 6 ≠ 0 ∧ j % 6 ≠ 5) → b' r j = b r j)
    (hk : ∀ p, p < P → a' (o + 1) p = b' r (90 + 6 * p) ∧ vp_in (b' r (90 + 6 * p)) 6) (hz : ∀ p, p < P → a' (o + 6) p = b' r (90 + 6 * p + 5)) (ht : a' o 13 = b' r 1) (hw : ∀ k, k < 48 → a' (o + 8) k = b' r (40 + k))
    (hn : ∀ j, j < 10 → a' (o + 9) j = b' r (10 + 2 * j) ∧ a' (o + 10) j = b' r (10 + 2 * j + 1) ∧ vp_in (b' r (10 + 2 * j)) 6) (hp : ∀ j, j < 6 → a' (o + 11) j = b' r (30 + j)) (hu : ∀ j, j < 4 → a' (o + 12) j = b' r (2 + j)) (he : nI 1 ≤ b' r 4) (hg : rG b' r P) : rS a' b' o r P := by
  obtain ⟨h1, h2, h3, h4, h5, h6, h7, h8, h9, h10, h11, h12, h13, h14, h15⟩ := h
  refine ⟨h1, h0.trans h2, (hb 0 (by omega)).trans h3, ht, fun p hpp => ?_, fun p hpp => ⟨(hk p hpp).2, by rw [hb _ (by omega)]; exact (h6 p hpp).2⟩, hw, fun j hj => ⟨(hn j hj).1, (hn j hj).2.1⟩, hp, hu, fun q hq => ?_, ⟨fun p hpp => ?_, fun j hj => ?_⟩, ⟨fun p hpp => ?_, fun j hj => (hn j hj).2.2⟩, fun p q hp1 hq1 e => ?_, he, hg⟩
  · rw [hr (o + 2) (by omega), hr (o + 3) (by omega), hr (o + 4) (by omega), hr (o + 5) (by omega), hb (90 + 6 * p + 1) (by omega), hb (90 + 6 * p + 2) (by omega), hb (90 + 6 * p + 3) (by omega), hb (90 + 6 * p + 4) (by omega)]
    exact ⟨(hk p hpp).1, (h5 p hpp).2.1, (h5 p hpp).2.2.1, (h5 p hpp).2.2.2.1, (h5 p hpp).2.2.2.2.1, hz p hpp⟩
  · rw [hr (o + 7) (by omega), onP_row (fun p hpp => hb _ (by omega))]; exact h11 q hq
  · rw [hr (o + 5) (by omega)]; exact h12.1 p hpp
  · rw [(hn j hj).1]; exact (hn j hj).2.2
  · rw [hb _ (by omega)]; exact h13.1 p hpp
  · rw [hb _ (by omega), hb _ (by omega)] at e; exact h14 p q hp1 hq1 e
theorem Rel_st {a b a' b' : jm} {k P' T L W : Nat} (hC : rC a b 1 141 T L W) (hT : rT a b 141 T) (hL : rL a b 141 L) (hW : rW a b 141 W) (hX : rX a b) (hP : rP a b) (hQ : rQ a b) (hH : rH a k) (hK : rK a b T L W)
    (ha : ∀ i, kA i = true → ¬ (1 ≤ i ∧ i ≤ 13) → a' i = a i) (h1 : ∀ j, 14 ≤ j → j ≤ 16 → a' 1 j = a 1 j) (hb : ∀ i, i = 142 ∨ i = 144 ∨ i = 145 ∨ i = 146 ∨ i = 150 ∨ i = 157 → b' i = b i) (h140 : ∀ j, j = 3 ∨ j = 11 ∨ j = 35 → b' 140 j = b 140 j) (h141 : ∀ j, (6 ≤ j ∧ j ≤ 8) ∨ 380 ≤ j → b' 141 j = b 141 j) (hfd : fdOK b' P' T) (hS : rS a' b' 1 141 P') : RelA a' b' (k + 1) := by
  have A : ∀ i, (i = 0 ∨ (14 ≤ i ∧ i ≤ 26) ∨ i = 41 ∨ i = 42 ∨ (44 ≤ i ∧ i ≤ 67) ∨ i = 70 ∨ i = 71 ∨ (75 ≤ i ∧ i ≤ 78) ∨ (80 ≤ i ∧ i ≤ 93) ∨ i = 102 ∨ i = 120 ∨ i = 124 ∨ i = 125 ∨ i = 127 ∨ (129 ≤ i ∧ i ≤ 137) ∨ i = 139) → a' i = a i := fun i hi => ha i (kA_iff.mpr (by omega)) (by omega)
  obtain ⟨c1, c2, c3, c4, c5, c6, c7, c8, c9⟩ := hC
  have hC : rC a b 1 141 T L W := ⟨c1, c2, c3, c4, c5, c6, c7, c8, c9⟩
  exact ⟨P', T, L, W, hS, ⟨c1, (h1 14 (by omega) (by omega)).trans c2, (h141 6 (by omega)).trans c3, c4, (h1 15 (by omega) (by omega)).trans c5, (h141 7 (by omega)).trans c6, c7, (h1 16 (by omega) (by omega)).trans c8, (h141 8 (by omega)).trans c9⟩, rT_c c1 hT (fun i hi => A i (by omega)) (fun j _ _ => h141 j (by omega)), rL_c c4 hL (fun i hi => A i (by omega)) (fun j _ _ => h141 j (by omega)), rW_c c7 hW (A 137 (by omega)) (fun j _ _ => h141 j (by omega)),
    rX_c hX (fun i hi => A i (by omega)) (hb 144 (by omega)) (hb 145 (by omega)) (hb 146 (by omega)), rP_c hP (by rw [A 70 (by omega)]) (A 71 (by omega)) (h140 11 (by omega)) (hb 150 (by omega)), rQ_c hQ (by rw [A 0 (by omega)]) (A 139 (by omega)) (h140 35 (by omega)) (hb 157 (by omega)), rH_c hH (Nat.le_succ k) (A 124 (by omega)) (A 120 (by omega)) (by rw [A 102 (by omega)]) (A 125 (by omega)),
    rK_c hK (Nat.le_refl _) (Nat.le_refl _) (Nat.le_refl _) (by rw [A 0 (by omega)]) (h140 3 (by omega)) (fun i h1 h2 => A i (by omega)) (fun i hi t _ => by rw [A i (by omega)]) (fun t ht => A (80 + t) (by omega)) (fun i hi => ⟨by rw [A 127 (by omega)], A (129 + i) (by omega)⟩) (fun i hi => by rw [A 137 (by omega)]) (hb 142 (by omega)), hfd⟩
