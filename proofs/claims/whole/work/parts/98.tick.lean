theorem onP_yes {m : jm} {r p : Nat} {q : Int32} : ∀ P, P ≤ 48 → p < P → m r (90 + 6 * p + 1) = q → ¬ onP m r q P < 0
  | 0, _, h, _ => absurd h (Nat.not_lt_zero p)
  | P + 1, h48, h, e => by
    unfold onP
    by_cases c : m r (90 + 6 * P + 1) = q
    · rw [if_pos c]; exact nI_n0 (by omega)
    · rw [if_neg c]
      refine onP_yes P (by omega) ?_ e
      rcases Nat.lt_or_ge p P with y | y
      · exact y
      · have : p = P := by omega
        subst this
        exact absurd e c
/-- a part told -/
theorem Rel_add {m : jm} {k P T L W r : Nat} {kd ar sp nv : Int32} (hS : rS m m 1 141 P) (hC : rC m m 1 141 T L W) (hT : rT m m 141 T) (hL : rL m m 141 L) (hW : rW m m 141 W) (hX : rX m m) (hP : rP m m) (hQ : rQ m m) (hH : rH m k) (hK : rK m m T L W)
    (h48 : P < 48) (hr : r < 48) (hno : onP m 141 (nI r) P < 0) (hk : vp_in kd 6) (hs : vp_in sp 10) (hn : vp_in nv 10) : RelA (addR (addM m 1 P r kd ar sp nv) P kd (nI r) ar sp nv) (addR (addM m 1 P r kd ar sp nv) P kd (nI r) ar sp nv) (k + 1) := by
  have hS0 := hS
  obtain ⟨s1, s2, s3, s4, s5, s6, s7, s8, s9, s10, s11, s12, s13, s14, s15⟩ := hS
  generalize hM : addR (addM m 1 P r kd ar sp nv) P kd (nI r) ar sp nv = M
  have a141 : (addM m 1 P r kd ar sp nv) 141 = m 141 := by
    unfold addM
    rw [mup_i' (by decide), mup_i' (by decide), mup_i' (by decide), mup_i' (by decide), mup_i' (by decide), mup_i' (by decide), mup_i' (by decide), mup_i' (by decide)]
  have r141 : ∀ j, M 141 j = if j = 0 then nI (P + 1) else if j = 90 + 6 * P + 5 then nI 0 else if j = 90 + 6 * P + 4 then nv else if j = 90 + 6 * P + 3 then sp else if j = 90 + 6 * P + 2 then ar else if j = 90 + 6 * P + 1 then nI r else if j = 90 + 6 * P then kd else m 141 j := fun j => by
    rw [← hM]
    unfold addR
    rw [mup_i (by decide)]
    by_cases c0 : j = 0
    · rw [if_pos c0, c0]; exact mup_s
    rw [if_neg c0, mup_j c0]
    by_cases c5 : j = 90 + 6 * P + 5
    · rw [if_pos c5, c5]; exact mup_s
    rw [if_neg c5, mup_j c5]
    by_cases c4 : j = 90 + 6 * P + 4
    · rw [if_pos c4, c4]; exact mup_s
    rw [if_neg c4, mup_j c4]
    by_cases c3 : j = 90 + 6 * P + 3
    · rw [if_pos c3, c3]; exact mup_s
    rw [if_neg c3, mup_j c3]
    by_cases c2 : j = 90 + 6 * P + 2
    · rw [if_pos c2, c2]; exact mup_s
    rw [if_neg c2, mup_j c2]
    by_cases c1 : j = 90 + 6 * P + 1
    · rw [if_pos c1, c1]; exact mup_s
    rw [if_neg c1, mup_j c1]
    by_cases c6 : j = 90 + 6 * P
    · rw [if_pos c6, c6]; exact mup_s
    rw [if_neg c6, mup_j c6, a141]
  have old : ∀ j, j ≠ 0 → (j < 90 + 6 * P ∨ 96 + 6 * P ≤ j) → M 141 j = m 141 j := fun j h0 h1 => by
    rw [r141, if_neg h0, if_neg (by omega), if_neg (by omega), if_neg (by omega), if_neg (by omega), if_neg (by omega), if_neg (by omega)]
  have rowc : ∀ i, i ≠ 140 → i ≠ 141 → M i = addM m 1 P r kd ar sp nv i := fun i h1 h2 => by
    rw [← hM]
    unfold addR
    rw [mup_i' h1, mup_i' h2, mup_i' h2, mup_i' h2, mup_i' h2, mup_i' h2, mup_i' h2, mup_i' h2]
  have rowo : ∀ i, i ≠ 140 → i ≠ 141 → ¬ (1 ≤ i ∧ i ≤ 8) → M i = m i := fun i h1 h2 h3 => by
    rw [rowc i h1 h2]
    unfold addM
    rw [mup_i' (by omega), mup_i' (by omega), mup_i' (by omega), mup_i' (by omega), mup_i' (by omega), mup_i' (by omega), mup_i' (by omega), mup_i' (by omega)]
  have e2 : ∀ p, M (1 + 1) p = if p = P then kd else m (1 + 1) p := fun p => by
    rw [rowc _ (by decide) (by decide)]
    unfold addM
    rw [mup_i (by decide), mup_i (by decide), mup_i (by decide), mup_i (by decide), mup_i (by decide), mup_i (by decide), mup_i (by decide)]
    by_cases c : p = P
    · rw [if_pos c, c]; exact mup_s
    · rw [if_neg c, mup_j c]
  have e3 : ∀ p, M (1 + 2) p = if p = P then nI r else m (1 + 2) p := fun p => by
    rw [rowc _ (by decide) (by decide)]
    unfold addM
    rw [mup_i (by decide), mup_i (by decide), mup_i (by decide), mup_i (by decide), mup_i (by decide), mup_i (by decide)]
    by_cases c : p = P
    · rw [if_pos c, c]; exact mup_s
    · rw [if_neg c, mup_j c, mup_i (by decide)]
  have e4 : ∀ p, M (1 + 3) p = if p = P then ar else m (1 + 3) p := fun p => by
    rw [rowc _ (by decide) (by decide)]
    unfold addM
    rw [mup_i (by decide), mup_i (by decide), mup_i (by decide), mup_i (by decide), mup_i (by decide)]
    by_cases c : p = P
    · rw [if_pos c, c]; exact mup_s
    · rw [if_neg c, mup_j c, mup_i (by decide), mup_i (by decide)]
  have e5 : ∀ p, M (1 + 4) p = if p = P then sp else m (1 + 4) p := fun p => by
    rw [rowc _ (by decide) (by decide)]
    unfold addM
    rw [mup_i (by decide), mup_i (by decide), mup_i (by decide), mup_i (by decide)]
    by_cases c : p = P
    · rw [if_pos c, c]; exact mup_s
    · rw [if_neg c, mup_j c, mup_i (by decide), mup_i (by decide), mup_i (by decide)]
  have e6 : ∀ p, M (1 + 5) p = if p = P then nv else m (1 + 5) p := fun p => by
    rw [rowc _ (by decide) (by decide)]
    unfold addM
    rw [mup_i (by decide), mup_i (by decide), mup_i (by decide)]
    by_cases c : p = P
    · rw [if_pos c, c]; exact mup_s
    · rw [if_neg c, mup_j c, mup_i (by decide), mup_i (by decide), mup_i (by decide), mup_i (by decide)]
  have e7 : ∀ p, M (1 + 6) p = if p = P then nI 0 else m (1 + 6) p := fun p => by
    rw [rowc _ (by decide) (by decide)]
    unfold addM
    rw [mup_i (by decide), mup_i (by decide)]
    by_cases c : p = P
    · rw [if_pos c, c]; exact mup_s
    · rw [if_neg c, mup_j c, mup_i (by decide), mup_i (by decide), mup_i (by decide), mup_i (by decide), mup_i (by decide)]
  have e8 : ∀ p, M (1 + 7) p = if p = r then nI P else m (1 + 7) p := fun p => by
    rw [rowc _ (by decide) (by decide)]
    unfold addM
    rw [mup_i (by decide)]
    by_cases c : p = r
    · rw [if_pos c, c]; exact mup_s
    · rw [if_neg c, mup_j c, mup_i (by decide), mup_i (by decide), mup_i (by decide), mup_i (by decide), mup_i (by decide), mup_i (by decide)]
  have e10 : M 1 0 = nI (P + 1) := by rw [rowc _ (by decide) (by decide)]; exact mup_s
  have e1j : ∀ j, j ≠ 0 → M 1 j = m 1 j := fun j hj => by
    rw [rowc _ (by decide) (by decide)]
    unfold addM
    rw [mup_j hj, mup_i (by decide), mup_i (by decide), mup_i (by decide), mup_i (by decide), mup_i (by decide), mup_i (by decide), mup_i (by decide)]
  have p0 : M 141 (90 + 6 * P) = kd := by rw [r141, if_neg (by omega), if_neg (by omega), if_neg (by omega), if_neg (by omega), if_neg (by omega), if_neg (by omega), if_pos rfl]
  have p1 : M 141 (90 + 6 * P + 1) = nI r := by rw [r141, if_neg (by omega), if_neg (by omega), if_neg (by omega), if_neg (by omega), if_neg (by omega), if_pos rfl]
  have p2 : M 141 (90 + 6 * P + 2) = ar := by rw [r141, if_neg (by omega), if_neg (by omega), if_neg (by omega), if_neg (by omega), if_pos rfl]
  have p3 : M 141 (90 + 6 * P + 3) = sp := by rw [r141, if_neg (by omega), if_neg (by omega), if_neg (by omega), if_pos rfl]
  have p4 : M 141 (90 + 6 * P + 4) = nv := by rw [r141, if_neg (by omega), if_neg (by omega), if_pos rfl]
  have p5 : M 141 (90 + 6 * P + 5) = nI 0 := by rw [r141, if_neg (by omega), if_pos rfl]
  have m140 : ∀ j, j ≠ 33 → M 140 j = m 140 j := fun j hj => by
    rw [← hM]
    unfold addR addM
    rw [mup_j hj, mup_i (by decide), mup_i (by decide), mup_i (by decide), mup_i (by decide), mup_i (by decide), mup_i (by decide), mup_i (by decide), mup_i (by decide), mup_i (by decide), mup_i (by decide), mup_i (by decide), mup_i (by decide), mup_i (by decide), mup_i (by decide), mup_i (by decide)]
  have m33 : M 140 33 = 0 := by rw [← hM]; exact mup_s
  refine Rel_st (P' := P + 1) hC hT hL hW hX hP hQ hH hK (fun j hj h => by have := kA_iff.mp hj; exact rowo j (by omega) (by omega) (by omega)) (fun j h1 h2 => e1j j (by omega)) (fun j hj => rowo j (by omega) (by omega) (by omega)) (fun j hj => m140 j (by omega)) (fun j hj => old j (by omega) (by omega)) (Or.inl m33) ?_
  have eo : ∀ x, onP M 141 x P = onP m 141 x P := fun x => onP_row (fun p hp => old _ (by omega) (by omega)) x
  refine ⟨by omega, e10, by rw [r141, if_pos rfl], by rw [e1j 13 (by decide), old 1 (by omega) (by omega)]; exact s4, fun p hp => ?_, fun p hp => ?_, fun j hj => by rw [rowo (1 + 8) (by decide) (by decide) (by decide), old _ (by omega) (by omega)]; exact s7 j hj, fun j hj => by rw [rowo (1 + 9) (by decide) (by decide) (by decide), rowo (1 + 10) (by decide) (by decide) (by decide), old _ (by omega) (by omega), old _ (by omega) (by omega)]; exact s8 j hj, fun j hj => by rw [rowo (1 + 11) (by decide) (by decide) (by decide), old _ (by omega) (by omega)]; exact s9 j hj, fun j hj => by rw [rowo (1 + 12) (by decide) (by decide) (by decide), old _ (by omega) (by omega)]; exact s10 j hj, fun x hx => ?_, ⟨fun p hp => ?_, fun j hj => by rw [rowo (1 + 9) (by decide) (by decide) (by decide)]; exact s12.2 j hj⟩, ⟨fun p hp => ?_, fun j hj => by rw [old _ (by omega) (by omega)]; exact s13.2 j hj⟩, fun p x hp hx e => ?_, by rw [old 4 (by omega) (by omega)]; exact s15.1, ⟨fun p hp => ?_, fun j hj => by rw [old _ (by omega) (by omega)]; exact s15.2.2.1 j hj, fun j hj => by rw [old _ (by omega) (by omega)]; exact s15.2.2.2 j hj⟩⟩
  · rw [e2, e3, e4, e5, e6, e7]
    by_cases c : p = P
    · subst c
      rw [if_pos rfl, if_pos rfl, if_pos rfl, if_pos rfl, if_pos rfl, if_pos rfl, p0, p1, p2, p3, p4, p5]
      exact ⟨rfl, rfl, rfl, rfl, rfl, rfl⟩
    · rw [if_neg c, if_neg c, if_neg c, if_neg c, if_neg c, if_neg c, old _ (by omega) (by omega), old _ (by omega) (by omega), old _ (by omega) (by omega), old _ (by omega) (by omega), old _ (by omega) (by omega), old _ (by omega) (by omega)]
      exact s5 p (by omega)
  · by_cases c : p = P
    · subst c
      rw [p0, p1]
      exact ⟨hk, vp_in_nI hr (by decide)⟩
    · rw [old _ (by omega) (by omega), old _ (by omega) (by omega)]
      exact s6 p (by omega)
  · rw [e8, onP, eo, p1]
    by_cases c : x = r
    · subst c
      rw [if_pos rfl, if_pos rfl]
      exact (if_neg (nI_n0 (by omega))).symm
    · rw [if_neg c, if_neg (fun z => c ((nI_eq (by omega) (by omega)).mp z).symm)]
      exact s11 x hx
  · rw [e6]
    by_cases c : p = P
    · rw [if_pos c]; exact hn
    · rw [if_neg c]; exact s12.1 p hp
  · by_cases c : p = P
    · subst c; rw [p4]; exact hn
    · rw [old _ (by omega) (by omega)]; exact s13.1 p hp
  · by_cases c : p = P
    · subst c
      by_cases c2 : x = p
      · exact c2.symm
      · rw [p1, old _ (by omega) (by omega)] at e
        exact absurd hno (onP_yes p (by omega) (p := x) (by omega) e.symm)
    · by_cases c2 : x = P
      · subst c2
        rw [p1, old _ (by omega) (by omega)] at e
        exact absurd hno (onP_yes x (by omega) (p := p) (by omega) e)
      · rw [old _ (by omega) (by omega), old _ (by omega) (by omega)] at e
        exact s14 p x (by omega) (by omega) e
  · by_cases c : p = P
    · subst c
      rw [p3, p5]
      exact ⟨hs, vp_in_nI (by decide) (by decide)⟩
    · rw [old _ (by omega) (by omega), old _ (by omega) (by omega)]
      exact s15.2.1 p (by omega)
theorem F_part_i {m : jm} {a b c e f : Int32} (i : Nat) (h : ¬ (1 ≤ i ∧ i ≤ 8)) : (F_part m a b c e f).2 i = m i := by
  unfold F_part
  (repeat' split) <;> first | rfl | (unfold addM; dsimp only; rw [mup_i' (by omega), mup_i' (by omega), mup_i' (by omega), mup_i' (by omega), mup_i' (by omega), mup_i' (by omega), mup_i' (by omega), mup_i' (by omega)])
theorem q_part {x : jX} {m : jm} {d k : Nat} (h : RelA m m k) (a b c e f : Int32) : PrC x (d + 120) k eX7_part eX8_part [.int a, .int b, .int c, .int e, .int f] m := by
  have hR := h
  obtain ⟨P, T, L, W, hS, hC, hT, hL, hW, hX, hP, hQ, hH, hK, hF⟩ := h
  have hS0 := hS
  have hC0 := hC
  obtain ⟨s1, s2, s3, s4, s5, s6, s7, s8, s9, s10, s11, s12, s13, s14, s15⟩ := hS
  obtain ⟨c1, c2, c3, c4, c5, c6, c7, c8, c9⟩ := hC
  have e1 : (F_part m a b c e f).2 141 = m 141 := F_part_i 141 (by decide)
  refine pr_R2 (R := R_part (F_part m a b c e f).2 a b c e f) (p_part (d := d + 119) a b c e f s2 s1) (m_part (d := d + 118) a b c e f (by rw [e1]; exact s3) s1) ?_
  have htP : tN (m 1 0) = P := by rw [s2]; exact tN_n (by omega)
  have htP2 : tN (m 141 0) = P := by rw [s3]; exact tN_n (by omega)
  by_cases x1 : nI 0 ≤ a ∧ a ≤ nI 5
  · by_cases x2 : nI 0 ≤ b ∧ b ≤ nI 47
    · by_cases x3 : nI 0 ≤ c ∧ c ≤ nI 9
      · by_cases x4 : nI 0 ≤ e ∧ e ≤ nI 9
        · by_cases x5 : nI 0 ≤ f ∧ f ≤ nI 9
          · obtain ⟨r, hr, hre⟩ := w_of x2 (by decide)
            have htr : tN b = r := by rw [hre]; exact tN_n (by omega)
            have g8 : m 8 r = orN (onP m 141 (nI r) P) := s11 r (by omega)
            by_cases x6 : onP m 141 (nI r) P < 0
            · have y6 : m 8 r = -1000000005 := g8.trans (if_pos x6)
              by_cases x7 : P = 48
              · have ef : F_part m a b c e f = (-1000000003, m) := by unfold F_part; rw [if_neg (Classical.not_not.mpr x1), if_neg (Classical.not_not.mpr x2), if_neg (Classical.not_not.mpr x3), if_neg (Classical.not_not.mpr x4), if_neg (Classical.not_not.mpr x5), htr, htP, if_neg (Classical.not_not.mpr y6), if_pos (by omega)]
                have er : R_part m a b c e f = (-1000000003, m) := by unfold R_part; rw [if_neg (Classical.not_not.mpr x1), if_neg (Classical.not_not.mpr x2), if_neg (Classical.not_not.mpr x3), if_neg (Classical.not_not.mpr x4), if_neg (Classical.not_not.mpr x5), htP2, hre, if_neg (Classical.not_not.mpr x6), if_pos x7]
                rw [ef, er]
                exact ⟨rfl, Rel_s hR⟩
              · have ef : F_part m a b c e f = (nI P, addM m 1 P r a c e f) := by unfold F_part; rw [if_neg (Classical.not_not.mpr x1), if_neg (Classical.not_not.mpr x2), if_neg (Classical.not_not.mpr x3), if_neg (Classical.not_not.mpr x4), if_neg (Classical.not_not.mpr x5), htr, htP, if_neg (Classical.not_not.mpr y6), if_neg (by omega), s2]
                have a141 : (addM m 1 P r a c e f) 141 = m 141 := by rw [← e1, ef]
                have er : R_part (addM m 1 P r a c e f) a b c e f = (nI P, addR (addM m 1 P r a c e f) P a b c e f) := by unfold R_part; rw [if_neg (Classical.not_not.mpr x1), if_neg (Classical.not_not.mpr x2), if_neg (Classical.not_not.mpr x3), if_neg (Classical.not_not.mpr x4), if_neg (Classical.not_not.mpr x5), a141, htP2, onP_c a141, hre, if_neg (Classical.not_not.mpr x6), if_neg x7]
                rw [ef, er, hre]
                obtain ⟨z1, hz1, ez1⟩ := w_of x1 (by decide)
                obtain ⟨z4, hz4, ez4⟩ := w_of x4 (by decide)
                obtain ⟨z5, hz5, ez5⟩ := w_of x5 (by decide)
                exact ⟨rfl, Rel_add hS0 hC0 hT hL hW hX hP hQ hH hK (by omega) (by omega) x6 (by rw [ez1]; exact vp_in_nI (by omega) (by decide)) (by rw [ez4]; exact vp_in_nI (by omega) (by decide)) (by rw [ez5]; exact vp_in_nI (by omega) (by decide))⟩
            · have y6 : ¬ m 8 r = -1000000005 := by
                rw [g8]
                rcases onP_lt (m := m) (r := 141) (q := nI r) P with z | ⟨p, hp, z, -⟩
                · exact absurd z x6
                · rw [z, show orN (nI p) = nI p from if_neg (nI_n0 (by omega))]
                  exact nI_NONE (by omega)
              have ef : F_part m a b c e f = (-1000000002, m) := by unfold F_part; rw [if_neg (Classical.not_not.mpr x1), if_neg (Classical.not_not.mpr x2), if_neg (Classical.not_not.mpr x3), if_neg (Classical.not_not.mpr x4), if_neg (Classical.not_not.mpr x5), htr, if_pos y6]
              have er : R_part m a b c e f = (-1000000002, m) := by unfold R_part; rw [if_neg (Classical.not_not.mpr x1), if_neg (Classical.not_not.mpr x2), if_neg (Classical.not_not.mpr x3), if_neg (Classical.not_not.mpr x4), if_neg (Classical.not_not.mpr x5), htP2, hre, if_pos x6]
              rw [ef, er]
              exact ⟨rfl, Rel_s hR⟩
          · have ef : F_part m a b c e f = (-1000000001, m) := by unfold F_part; rw [if_neg (Classical.not_not.mpr x1), if_neg (Classical.not_not.mpr x2), if_neg (Classical.not_not.mpr x3), if_neg (Classical.not_not.mpr x4), if_pos x5]
            have er : R_part m a b c e f = (-1000000001, m) := by unfold R_part; rw [if_neg (Classical.not_not.mpr x1), if_neg (Classical.not_not.mpr x2), if_neg (Classical.not_not.mpr x3), if_neg (Classical.not_not.mpr x4), if_pos x5]
            rw [ef, er]
            exact ⟨rfl, Rel_s hR⟩
        · have ef : F_part m a b c e f = (-1000000001, m) := by unfold F_part; rw [if_neg (Classical.not_not.mpr x1), if_neg (Classical.not_not.mpr x2), if_neg (Classical.not_not.mpr x3), if_pos x4]
          have er : R_part m a b c e f = (-1000000001, m) := by unfold R_part; rw [if_neg (Classical.not_not.mpr x1), if_neg (Classical.not_not.mpr x2), if_neg (Classical.not_not.mpr x3), if_pos x4]
          rw [ef, er]
          exact ⟨rfl, Rel_s hR⟩
      · have ef : F_part m a b c e f = (-1000000001, m) := by unfold F_part; rw [if_neg (Classical.not_not.mpr x1), if_neg (Classical.not_not.mpr x2), if_pos x3]
        have er : R_part m a b c e f = (-1000000001, m) := by unfold R_part; rw [if_neg (Classical.not_not.mpr x1), if_neg (Classical.not_not.mpr x2), if_pos x3]
        rw [ef, er]
        exact ⟨rfl, Rel_s hR⟩
    · have ef : F_part m a b c e f = (-1000000001, m) := by unfold F_part; rw [if_neg (Classical.not_not.mpr x1), if_pos x2]
      have er : R_part m a b c e f = (-1000000001, m) := by unfold R_part; rw [if_neg (Classical.not_not.mpr x1), if_pos x2]
      rw [ef, er]
      exact ⟨rfl, Rel_s hR⟩
  · have ef : F_part m a b c e f = (-1000000001, m) := by unfold F_part; rw [if_pos x1]
    have er : R_part m a b c e f = (-1000000001, m) := by unfold R_part; rw [if_pos x1]
    rw [ef, er]
    exact ⟨rfl, Rel_s hR⟩
def okSt (s a pc : Nat) : Bool := decide (nI s + stepV (nI pc) (nI a - nI s) = nI s + (if nI a - nI s < 0 then -lstV (sizV (nI a - nI s)) (nI pc) else lstV (sizV (nI a - nI s)) (nI pc))) && (decide (nI s + stepV (nI pc) (nI a - nI s) ≤ nI 9) && decide (nI 0 ≤ nI s + stepV (nI pc) (nI a - nI s)))
theorem okSt_0 : ∀ s, s < 10 → ∀ a, a < 10 → okSt s a 0 = true := by decide +kernel
theorem okSt_1 : ∀ s, s < 10 → ∀ a, a < 10 → okSt s a 1 = true := by decide +kernel
theorem okSt_2 : ∀ s, s < 10 → ∀ a, a < 10 → okSt s a 2 = true := by decide +kernel
theorem okSt_9 : ∀ s, s < 10 → ∀ a, a < 10 → okSt s a 9 = true := by decide +kernel
theorem stp_eq {s a pc : Nat} (hs : s ≤ 9) (ha : a ≤ 9) (hp : pc = 0 ∨ pc = 1 ∨ pc = 2 ∨ pc = 9) : nI s + stepV (nI pc) (nI a - nI s) = nI s + (if nI a - nI s < 0 then -lstV (sizV (nI a - nI s)) (nI pc) else lstV (sizV (nI a - nI s)) (nI pc)) ∧ vp_in (nI s + stepV (nI pc) (nI a - nI s)) 10 := by
  have key : okSt s a pc = true := by
    rcases hp with rfl | rfl | rfl | rfl
    · exact okSt_0 s (by omega) a (by omega)
    · exact okSt_1 s (by omega) a (by omega)
    · exact okSt_2 s (by omega) a (by omega)
    · exact okSt_9 s (by omega) a (by omega)
  unfold okSt at key
  rw [Bool.and_eq_true, Bool.and_eq_true] at key
  refine ⟨of_decide_eq_true key.1, ?_⟩
  obtain ⟨q, hq, e⟩ := w_of ⟨of_decide_eq_true key.2.2, of_decide_eq_true key.2.1⟩ (by decide)
  rw [e]
  exact vp_in_nI (by omega) (by decide)
theorem pac_n (kd a : Int32) : ∃ pc, (pc = 0 ∨ pc = 1 ∨ pc = 2 ∨ pc = 9) ∧ paceV kd a = nI pc := by
  rcases pac_1 kd a with y | y | y | y
  · exact ⟨0, by decide, y⟩
  · exact ⟨1, by decide, y⟩
  · exact ⟨2, by decide, y⟩
  · exact ⟨9, by decide, y⟩
theorem stpR_z {m : jm} {P : Nat} : ∀ n p, p < n → stpR m P n 141 (90 + 6 * p + 5) = newR m p
  | 0, p, h => absurd h (Nat.not_lt_zero p)
  | n + 1, p, h => by
    by_cases e : p = n
    · subst e; exact mup_s
    · exact (mup_j (by omega)).trans (stpR_z n p (by omega))
theorem wasR_w {m : jm} {P : Nat} : ∀ n k, k < n → wasR m P n 141 (40 + k) = finR m P k
  | 0, k, h => absurd h (Nat.not_lt_zero k)
  | n + 1, k, h => by
    by_cases e : k = n
    · subst e; exact mup_s
    · exact (mup_j (by omega)).trans (wasR_w n k (by omega))
theorem stpR_w {m : jm} {P k : Nat} (hk : k < 48) : ∀ n, stpR m P n 141 (40 + k) = finR m P k
  | 0 => wasR_w 48 k hk
  | n + 1 => (mup_j (by omega)).trans (stpR_w hk n)
theorem tck_row {m : jm} {P : Nat} : (∀ k, k < 48 → tckR m P 141 (40 + k) = finR m P k) ∧ ∀ p, p < P → tckR m P 141 (90 + 6 * p + 5) = newR m p := by
  unfold tckR
  exact ⟨fun k hk => by rw [mup_i (by decide), mup_j (by omega)]; exact stpR_w hk P, fun p hp => by rw [mup_i (by decide), mup_j (by omega)]; exact stpR_z P p hp⟩
/-- a tick of both -/
theorem rS_tick {a b : jm} {o P : Nat} (ho : o + 12 < 140) (h : rS a b o 141 P) : rS (goOnM a o P) (tckR b P) o 141 P := by
  have h0 := h
  obtain ⟨s1, s2, s3, s4, s5, s6, s7, s8, s9, s10, s11, s12, s13, s14, s15⟩ := h
  have ri : ∀ i, i ≠ o → i ≠ o + 6 → i ≠ o + 8 → goOnM a o P i = a i := fun i h1 h2 h3 => goOn_i h1 h2 h3
  have rj : ∀ j, j ≠ 13 → goOnM a o P o j = a o j := fun j hj => by
    unfold goOnM markM
    rw [mup_j hj, mfill_i (by omega), mfill_i (by omega)]
  have r13 : goOnM a o P o 13 = a o 13 + nI 1 := mup_s
  have r8 : ∀ k, k < 48 → goOnM a o P (o + 8) k = lightS a o k := fun k hk => by
    unfold goOnM markM
    rw [mup_i (by omega), mfill_i (by omega), mfill_lt hk]
  have r6 : ∀ p, p < P → goOnM a o P (o + 6) p = a (o + 6) p + stepV (paceS a o p) (aimS a o p - a (o + 6) p) := fun p hp => by
    unfold goOnM
    rw [mup_i (by omega), mfill_lt hp]
    have e : ∀ i, i ≠ o + 8 → markM a o i = a i := fun i hi => markM_i hi
    unfold sizeS paceS aimS
    rw [e (o + 6) (by omega), e (o + 1) (by omega), e (o + 3) (by omega), e (o + 4) (by omega), e (o + 5) (by omega), e (o + 9) (by omega), e (o + 10) (by omega), e (o + 11) (by omega)]
  have nz : ∀ p, p < P → goOnM a o P (o + 6) p = newR b p ∧ vp_in (newR b p) 10 := fun p hp => by
    obtain ⟨x, hx, ex⟩ := vp_in_of (aim_in s1 s13 s15.2 hp) (by decide)
    obtain ⟨y, hy, ey⟩ := vp_in_of (s15.2.1 p hp).2 (by decide)
    obtain ⟨z, hz, ez⟩ := pac_n (b 141 (90 + 6 * p)) (b 141 (90 + 6 * p + 2))
    have ep : pacR b 141 p = nI z := ez
    obtain ⟨k1, k2⟩ := stp_eq (s := y) (a := x) (pc := z) (by omega) (by omega) hz
    have e : goOnM a o P (o + 6) p = nI y + stepV (nI z) (nI x - nI y) := by rw [r6 p hp, aim_eq h0 hp, pac_eq h0 hp, (s5 p hp).2.2.2.2.2, ex, ey, ep]
    have e2 : newR b p = nI y + stepV (nI z) (nI x - nI y) := by
      unfold newR
      rw [ex, ey, ep]
      exact k1.symm
    rw [e, e2]
    exact ⟨rfl, k2⟩
  have tj : ∀ j, (j < 40 ∨ 88 ≤ j) → j ≠ 1 → (∀ q, q < P → j ≠ 90 + 6 * q + 5) → tckR b P 141 j = b 141 j := fun j h1 h2 h3 => tck_j h1 h2 h3
  refine rS_up h0 (fun i hi => ri i (by omega) (by omega) (by omega)) (rj 0 (by decide)) (fun j hj => tj j (by omega) (by omega) (fun q hq => by omega)) (fun p hp => ?_) (fun p hp => ?_) ?_ (fun k hk => ?_) (fun j hj => ?_) (fun j hj => ?_) (fun j hj => ?_) ?_ ⟨fun p hp => ?_, fun j hj => ?_, fun j hj => ?_⟩
  · rw [ri (o + 1) (by omega) (by omega) (by omega), tj _ (by omega) (by omega) (fun q hq => by omega)]; exact ⟨(s5 p hp).1, (s6 p hp).1⟩
  · rw [(nz p hp).1]; exact (tck_row.2 p hp).symm
  · rw [r13, tck_1, s4]
  · rw [r8 k hk, tck_row.1 k hk]; exact lit_eq h0 hk
  · rw [ri (o + 9) (by omega) (by omega) (by omega), ri (o + 10) (by omega) (by omega) (by omega), tj _ (by omega) (by omega) (fun q hq => by omega), tj _ (by omega) (by omega) (fun q hq => by omega)]
    exact ⟨(s8 j hj).1, (s8 j hj).2, s13.2 j hj⟩
  · rw [ri (o + 11) (by omega) (by omega) (by omega), tj _ (by omega) (by omega) (fun q hq => by omega)]; exact s9 j hj
  · rw [ri (o + 12) (by omega) (by omega) (by omega), tj _ (by omega) (by omega) (fun q hq => by omega)]; exact s10 j hj
  · rw [tj 4 (by omega) (by omega) (fun q hq => by omega)]; exact s15.1
  · rw [tj _ (by omega) (by omega) (fun q hq => by omega), tck_row.2 p hp]
    exact ⟨(s15.2.1 p hp).1, (nz p hp).2⟩
  · rw [tj _ (by omega) (by omega) (fun q hq => by omega)]; exact s15.2.2.1 j hj
  · rw [tj _ (by omega) (by omega) (fun q hq => by omega)]; exact s15.2.2.2 j hj
theorem rS_ticks {a b : jm} {o P : Nat} (ho : o + 12 < 140) (h : rS a b o 141 P) : ∀ k, rS (goN a o P k) (tckN b P k) o 141 P
  | 0 => h
  | k + 1 => rS_tick ho (rS_ticks ho h k)
theorem goN_i2 {m : jm} {o P i : Nat} (h : i ≠ o) (h6 : i ≠ o + 6) (h8 : i ≠ o + 8) : ∀ k, goN m o P k i = m i
  | 0 => rfl
  | k + 1 => (goOn_i h h6 h8).trans (goN_i2 h h6 h8 k)
theorem goN_j2 {m : jm} {o P j : Nat} (hj : j ≠ 13) : ∀ k, goN m o P k o j = m o j
  | 0 => rfl
  | k + 1 => by
    show goOnM (goN m o P k) o P o j = _
    unfold goOnM markM
    rw [mup_j hj, mfill_i (by omega), mfill_i (by omega)]
    exact goN_j2 hj k
theorem tckN_140 {m : jm} {P j : Nat} (hj : j ≠ 33) : ∀ k, tckN m P k 140 j = m 140 j
  | 0 => rfl
  | k + 1 => stp_140.trans ((if_neg hj).trans (tckN_140 hj k))
theorem tckN_33 {m : jm} {P k : Nat} (hk : 0 < k) : tckN m P k 140 33 = nI 0 := by
  obtain ⟨j, rfl⟩ : ∃ j, k = j + 1 := ⟨k - 1, by omega⟩
  exact stp_140.trans (if_pos rfl)
theorem F_tick_i {m : jm} {P : Nat} {n : Int32} (i : Nat) (h : i ≠ 1) (h6 : i ≠ 7) (h8 : i ≠ 9) : (F_tick m P n).2 i = m i := by
  unfold F_tick
  (repeat' split) <;> first | rfl | exact goN_i2 h h6 h8 _
theorem q_tick {x : jX} {m : jm} {d k : Nat} (h : RelA m m k) (n : Int32) : PrC x (d + 120) k eX7_tick eX8_tick [.int n] m := by
  have hR := h
  obtain ⟨P, T, L, W, hS, hC, hT, hL, hW, hX, hP, hQ, hH, hK, hF⟩ := h
  have hS0 := hS
  have hC0 := hC
  obtain ⟨s1, s2, s3, s4, s5, s6, s7, s8, s9, s10, s11, s12, s13, s14, s15⟩ := hS
  obtain ⟨c1, c2, c3, c4, c5, c6, c7, c8, c9⟩ := hC
  have e1 : (F_tick m P n).2 141 = m 141 := F_tick_i 141 (by decide) (by decide) (by decide)
  refine pr_R2 (R := R_tick (F_tick m P n).2 n) (p_tick (d := d + 115) n s2 s1 (at_ok hS0).2 s12) (m_tick (d := d + 115) n (by rw [e1]; exact s3) s1 (fun p hp => by rw [e1]; exact (s6 p hp).2) ⟨fun p hp => by rw [e1]; exact s13.1 p hp, fun j hj => by rw [e1]; exact s13.2 j hj⟩) ?_
  have e0 : m 1 13 = m 141 1 := s4
  by_cases y1 : nI 1 ≤ n ∧ n ≤ nI 60
  · by_cases y2 : m 1 13 + n ≤ nI 9999
    · obtain ⟨r, hr1, hr, hre⟩ := w_of1 y1 (by decide)
      have htr : tN n = r := by rw [hre]; exact tN_n (by omega)
      have ef : F_tick m P n = (goN m 1 P r 1 13, goN m 1 P r) := by unfold F_tick; rw [if_neg (Classical.not_not.mpr y1), if_neg (Classical.not_not.mpr y2), htr]
      have g141 : goN m 1 P r 141 = m 141 := goN_i2 (by decide) (by decide) (by decide) r
      have er : R_tick (goN m 1 P r) n = (tckN (goN m 1 P r) P r 141 1, tckN (goN m 1 P r) P r) := by unfold R_tick; rw [g141, if_neg (Classical.not_not.mpr y1), if_neg (Classical.not_not.mpr (e0 ▸ y2)), htr, s3, tN_n (by omega)]
      rw [ef, er]
      dsimp only
      have hS1 : rS m (goN m 1 P r) 1 141 P := rS_c hS0 (fun _ _ _ => rfl) (fun j _ => by rw [g141])
      have hS2 := rS_ticks (by decide) hS1 r
      refine ⟨hS2.2.2.2.1.symm, ?_⟩
      refine Rel_st (P' := P) hC0 hT hL hW hX hP hQ hH hK (fun i hi h => ?_) (fun j h1 h2 => ?_) (fun i hi => ?_) (fun j hj => ?_) (fun j hj => ?_) (Or.inl (tckN_33 (by omega))) ?_
      · have := kA_iff.mp hi
        rw [tckN_i (by omega) (by omega) (by omega) (by omega) r, goN_i2 (by omega) (by omega) (by omega) r]
      · rw [tckN_i (by decide) (by decide) (by decide) (by decide) r, goN_j2 (by omega) r]
      · rw [tckN_i (by omega) (by omega) (by omega) (by omega) r, goN_i2 (by omega) (by omega) (by omega) r]
      · rw [tckN_140 (by omega) r, goN_i2 (by omega) (by omega) (by omega) r]
      · rw [tckN_j (by omega) (by omega) (fun q hq => by omega) r, g141]
      · exact rS_c hS2 (fun i h1 h2 => tckN_i (by omega) (by omega) (by omega) (by omega) r) (fun j _ => rfl)
    · have ef : F_tick m P n = (-1000000003, m) := by unfold F_tick; rw [if_neg (Classical.not_not.mpr y1), if_pos y2]
      have er : R_tick m n = (-1000000003, m) := by unfold R_tick; rw [if_neg (Classical.not_not.mpr y1), if_pos (e0 ▸ y2)]
      rw [ef, er]
      exact ⟨rfl, Rel_s hR⟩
  · have ef : F_tick m P n = (-1000000001, m) := by unfold F_tick; rw [if_pos y1]
    have er : R_tick m n = (-1000000001, m) := by unfold R_tick; rw [if_pos y1]
    rw [ef, er]
    exact ⟨rfl, Rel_s hR⟩
