/-- lines have changed -/
theorem Rel_x {m M : jm} {k P T L W : Nat} (hS : rS m m 1 141 P) (hC : rC m m 1 141 T L W) (hT : rT m m 141 T) (hL : rL m m 141 L) (hW : rW m m 141 W) (hP : rP m m) (hQ : rQ m m) (hH : rH m k) (hK : rK m m T L W)
    (h1 : ∀ i, kA i = true → ¬ (i = 41 ∨ i = 42 ∨ (44 ≤ i ∧ i ≤ 67)) → M i = m i) (h2 : ∀ i, i = 141 ∨ i = 142 ∨ i = 150 ∨ i = 157 → M i = m i) (h3 : ∀ j, j = 3 ∨ j = 11 ∨ j = 35 → M 140 j = m 140 j) (h33 : M 140 33 = 0) (hX : rX M M) : RelA M M (k + 1) := by
  have A : ∀ i, (i ≤ 26 ∨ i = 70 ∨ i = 71 ∨ (75 ≤ i ∧ i ≤ 78) ∨ (80 ≤ i ∧ i ≤ 93) ∨ i = 102 ∨ i = 120 ∨ i = 124 ∨ i = 125 ∨ i = 127 ∨ (129 ≤ i ∧ i ≤ 137) ∨ i = 139) → M i = m i := fun i hi => h1 i (kA_iff.mpr (by omega)) (by omega)
  exact ⟨P, T, L, W, rS_c hS (fun i h1 h2 => A i (by omega)) (fun j _ => by rw [h2 141 (by omega)]), rC_c hC (A 1 (by omega)) (fun j _ _ => by rw [h2 141 (by omega)]), rT_c hC.1 hT (fun i hi => A i (by omega)) (fun j _ _ => by rw [h2 141 (by omega)]), rL_c hC.2.2.2.1 hL (fun i hi => A i (by omega)) (fun j _ _ => by rw [h2 141 (by omega)]), rW_c hC.2.2.2.2.2.2.1 hW (A 137 (by omega)) (fun j _ _ => by rw [h2 141 (by omega)]),
    hX, rP_c hP (by rw [A 70 (by omega)]) (A 71 (by omega)) (h3 11 (by omega)) (h2 150 (by omega)), rQ_c hQ (by rw [A 0 (by omega)]) (A 139 (by omega)) (h3 35 (by omega)) (h2 157 (by omega)), rH_c hH (Nat.le_succ k) (A 124 (by omega)) (A 120 (by omega)) (by rw [A 102 (by omega)]) (A 125 (by omega)),
    rK_c hK (Nat.le_refl _) (Nat.le_refl _) (Nat.le_refl _) (by rw [A 0 (by omega)]) (h3 3 (by omega)) (fun i h1 h2 => A i (by omega)) (fun i hi t _ => by rw [A i (by omega)]) (fun t ht => A (80 + t) (by have := hC.1; omega)) (fun i hi => ⟨by rw [A 127 (by omega)], A (129 + i) (by have := hC.2.2.2.1; omega)⟩) (fun i hi => by rw [A 137 (by omega)]) (h2 142 (by omega)), Or.inl h33⟩
theorem Rel_line {m : jm} {k P T L W l n : Nat} {s : Int32} (hS : rS m m 1 141 P) (hC : rC m m 1 141 T L W) (hT : rT m m 141 T) (hL : rL m m 141 L) (hW : rW m m 141 W) (hX : rX m m) (hP : rP m m) (hQ : rQ m m) (hH : rH m k) (hK : rK m m T L W) (hl : l < 24) (hn : n ≤ 24) (hs : s = -1 ∨ s = nI 0 ∨ s = nI 1) : RelA (linR (makeM m l s (nI n)) l s (nI n)) (linR (makeM m l s (nI n)) l s (nI n)) (k + 1) := by
  generalize hM : linR (makeM m l s (nI n)) l s (nI n) = M
  have c1 : ∀ i, i ≠ 140 → i ≠ 144 → i ≠ 145 → i ≠ 146 → M i = makeM m l s (nI n) i := fun i h0 h4 h5 h6 => by
    rw [← hM]; unfold linR
    rw [mrun_i h6 24, mup_i' h5, mup_i' h4, mup_i' h0]
  have c2 : ∀ i, i ≠ 41 → i ≠ 42 → i ≠ 44 + l → makeM m l s (nI n) i = m i := fun i h1 h2 h3 => by
    unfold makeM
    rw [mfill_i' h3, mup_i' h2, mup_i' h1]
  have m140 : ∀ j, j ≠ 33 → M 140 j = m 140 j := fun j hj => by
    rw [← hM]; unfold linR
    rw [mrun_v (by decide), mup_i (by decide), mup_i (by decide), mup_j hj, c2 140 (by decide) (by decide) (by omega)]
  have m33 : M 140 33 = 0 := by
    rw [← hM]; unfold linR
    rw [mrun_v (by decide), mup_i (by decide), mup_i (by decide)]
    exact mup_s
  refine Rel_x hS hC hT hL hW hP hQ hH hK (fun i hi h => by have := kA_iff.mp hi; rw [c1 i (by omega) (by omega) (by omega) (by omega), c2 i (by omega) (by omega) (by omega)]) (fun i hi => by rw [c1 i (by omega) (by omega) (by omega) (by omega), c2 i (by omega) (by omega) (by omega)]) (fun j hj => m140 j (by omega)) m33 ?_
  intro l' hl'
  obtain ⟨x1, x2, x3, x4, x5⟩ := hX l' hl'
  have b41 : M 41 l' = if l' = l then s else m 41 l' := by
    rw [c1 41 (by decide) (by decide) (by decide) (by decide)]; unfold makeM
    rw [mfill_i (by omega), mup_i (by decide)]
    by_cases c : l' = l
    · rw [if_pos c, c]; exact mup_s
    · rw [if_neg c, mup_j c]
  have b42 : M 42 l' = if l' = l then nI n else m 42 l' := by
    rw [c1 42 (by decide) (by decide) (by decide) (by decide)]; unfold makeM
    rw [mfill_i (by omega)]
    by_cases c : l' = l
    · rw [if_pos c, c]; exact mup_s
    · rw [if_neg c, mup_j c, mup_i (by decide)]
  have b44 : ∀ j, j < 24 → M (44 + l') j = if l' = l then nI 0 else m (44 + l') j := fun j hj => by
    rw [c1 _ (by omega) (by omega) (by omega) (by omega)]; unfold makeM
    by_cases c : l' = l
    · rw [if_pos c, c]; exact mfill_lt hj
    · rw [if_neg c, mfill_i (by omega), mup_i (by omega), mup_i (by omega)]
  have r144 : M 144 l' = if l' = l then s else m 144 l' := by
    rw [← hM]; unfold linR
    rw [mrun_v (by decide), mup_i (by decide)]
    by_cases c : l' = l
    · rw [if_pos c, c]; exact mup_s
    · rw [if_neg c, mup_j c, mup_i (by decide), c2 144 (by decide) (by decide) (by omega)]
  have r145 : M 145 l' = if l' = l then nI n else m 145 l' := by
    rw [← hM]; unfold linR
    rw [mrun_v (by decide)]
    by_cases c : l' = l
    · rw [if_pos c, c]; exact mup_s
    · rw [if_neg c, mup_j c, mup_i (by decide), mup_i (by decide), c2 145 (by decide) (by decide) (by omega)]
  have r146 : ∀ j, j < 24 → M 146 (24 * l' + j) = if l' = l then nI 0 else m 146 (24 * l' + j) := fun j hj => by
    rw [← hM]; unfold linR
    by_cases c : l' = l
    · rw [if_pos c, c]; exact mrun_in 24 hj
    · rw [if_neg c, mrun_out 24 (by omega), mup_i (by decide), mup_i (by decide), mup_i (by decide), c2 146 (by decide) (by decide) (by omega)]
  rw [b41, b42, r144, r145]
  by_cases c : l' = l
  · rw [if_pos c, if_pos c, if_pos c, if_pos c]
    exact ⟨rfl, hs, rfl, ⟨n, hn, rfl⟩, fun j hj => by rw [b44 j hj, r146 j hj, if_pos c, if_pos c]⟩
  · rw [if_neg c, if_neg c, if_neg c, if_neg c]
    exact ⟨x1, x2, x3, x4, fun j hj => by rw [b44 j hj, r146 j hj, if_neg c, if_neg c]; exact x5 j hj⟩
theorem s_in {s : Int32} (h : -1 ≤ s ∧ s ≤ nI 1) : s = -1 ∨ s = nI 0 ∨ s = nI 1 := by
  obtain ⟨h1, h2⟩ := h
  rw [Int32.le_iff_toInt_le, show (-1 : Int32).toInt = -1 from rfl] at h1
  rw [Int32.le_iff_toInt_le, nI_toInt (by decide)] at h2
  rcases (show s.toInt = -1 ∨ s.toInt = 0 ∨ s.toInt = 1 by omega) with e | e | e
  · exact Or.inl (Int32.toInt_inj.mp e)
  · exact Or.inr (Or.inl (Int32.toInt_inj.mp e))
  · exact Or.inr (Or.inr (Int32.toInt_inj.mp e))
theorem Rel_num {m : jm} {k P T L W : Nat} {M : jm} (hS : rS m m 1 141 P) (hC : rC m m 1 141 T L W) (hT : rT m m 141 T) (hL : rL m m 141 L) (hW : rW m m 141 W) (hX : rX m m) (hP : rP m m) (hQ : rQ m m) (hH : rH m k) (hK : rK m m T L W) (h1 : ∀ i, i < 140 → ¬ (44 ≤ i ∧ i ≤ 67) → M i = m i) (h2 : ∀ i, i = 141 ∨ i = 142 ∨ i = 144 ∨ i = 145 ∨ i = 150 ∨ i = 157 → M i = m i) (h3 : ∀ j, j ≠ 33 → M 140 j = m 140 j) (h33 : M 140 33 = 0) (hn : ∀ l, l < 24 → ∀ j, j < 24 → M (44 + l) j = M 146 (24 * l + j)) : RelA M M (k + 1) := by
  refine Rel_x hS hC hT hL hW hP hQ hH hK (fun i hi h => by have := kA_iff.mp hi; exact h1 i (by omega) (by omega)) (fun i hi => h2 i (by omega)) (fun j hj => h3 j (by omega)) h33 (fun l hl => ?_)
  obtain ⟨x1, x2, x3, x4, x5⟩ := hX l hl
  rw [h1 41 (by decide) (by decide), h1 42 (by decide) (by decide), h2 144 (by omega), h2 145 (by omega)]
  exact ⟨x1, x2, x3, x4, hn l hl⟩
theorem mcpy_g {m : jm} {a b sp dp n j : Nat} : mcpy m a b sp dp n b j = if dp ≤ j ∧ j < dp + n then m a (sp + (j - dp)) else m b j := by
  unfold mcpy va_cpy
  rw [if_pos rfl]
theorem F_put_i {m : jm} {l p v : Int32} (i : Nat) (h : 68 ≤ i) : (F_put m l p v).2 i = m i := by
  unfold F_put
  by_cases c : nI 0 ≤ l ∧ l ≤ nI 23
  · obtain ⟨r, hr, hre⟩ := w_of c (by decide)
    have htr : tN l = r := by rw [hre]; exact tN_n (by omega)
    rw [if_neg (Classical.not_not.mpr c), htr]
    by_cases c2 : m 41 r = -1
    · rw [if_pos c2]
    · rw [if_neg c2]
      by_cases c3 : nI 0 ≤ p ∧ p ≤ m 42 r - nI 1
      · rw [if_neg (Classical.not_not.mpr c3)]; exact mup_i' (by omega)
      · rw [if_pos c3]
  · rw [if_pos c]
theorem F_line_i {m : jm} {l s n : Int32} (i : Nat) (h : 68 ≤ i) : (F_line m l s n).2 i = m i := by
  have key : ∀ s' n', l = nI (tN l) → tN l < 24 → makeM m (tN l) s' n' i = m i := fun s' n' _ hl => by
    unfold makeM
    rw [mfill_i' (by omega), mup_i' (by omega), mup_i' (by omega)]
  unfold F_line
  by_cases c : nI 0 ≤ l ∧ l ≤ nI 23
  · obtain ⟨r, hr, hre⟩ := w_of c (by decide)
    have htr : tN l = r := by rw [hre]; exact tN_n (by omega)
    rw [if_neg (Classical.not_not.mpr c)]
    (repeat' split) <;> first | rfl | exact key _ _ (by rw [htr]; exact hre) (by omega)
  · rw [if_pos c]
theorem F_copy_i {m : jm} {f a t b z : Int32} (i : Nat) (h : 68 ≤ i) : (F_copy m f a t b z).2 i = m i := by
  unfold F_copy
  by_cases c : nI 0 ≤ t ∧ t ≤ nI 23
  · obtain ⟨r, hr, hre⟩ := w_of c (by decide)
    have htr : tN t = r := by rw [hre]; exact tN_n (by omega)
    (repeat' split) <;> first | rfl | exact mcpy_i (by omega)
  · (repeat' split) <;> first | rfl | contradiction
theorem q_line {x : jX} {m : jm} {d k : Nat} (h : RelA m m k) (l s n : Int32) : PrC x (d + 120) k eX7_line eX8_line [.int l, .int s, .int n] m := by
  have hR := h
  obtain ⟨P, T, L, W, hS, hC, hT, hL, hW, hX, hP, hQ, hH, hK, hF⟩ := h
  have hS0 := hS
  have hC0 := hC
  obtain ⟨s1, s2, s3, s4, s5, s6, s7, s8, s9, s10, s11, s12, s13, s14, s15⟩ := hS
  obtain ⟨c1, c2, c3, c4, c5, c6, c7, c8, c9⟩ := hC
  refine pr_R2 (R := R_line (F_line m l s n).2 l s n) (p_line (d := d + 119) l s n) (m_line (d := d + 118) l s n) ?_
  by_cases y1 : nI 0 ≤ l ∧ l ≤ nI 23
  · obtain ⟨r, hr, hre⟩ := w_of y1 (by decide)
    have htr : tN l = r := by rw [hre]; exact tN_n (by omega)
    by_cases y2 : -1 ≤ s ∧ s ≤ nI 1
    · have hsi := s_in y2
      by_cases y3 : s = -1
      · have ef : F_line m l s n = (nI 0, makeM m r (-1) (nI 0)) := by unfold F_line; rw [if_neg (Classical.not_not.mpr y1), if_neg (Classical.not_not.mpr y2), if_pos y3, htr]
        have er : R_line (makeM m r (-1) (nI 0)) l s n = (nI 0, linR (makeM m r (-1) (nI 0)) r (-1) (nI 0)) := by unfold R_line; rw [if_neg (Classical.not_not.mpr y1), if_neg (Classical.not_not.mpr y2), if_pos (by rw [y3]; decide), htr, y3]
        rw [ef, er]
        exact ⟨rfl, Rel_line hS0 hC0 hT hL hW hX hP hQ hH hK (by omega) (by decide) (Or.inl rfl)⟩
      · have y4 : ¬ s < 0 := by
          rcases hsi with e | e | e
          · exact absurd e y3
          · rw [e]; decide
          · rw [e]; decide
        by_cases y5 : n ≤ nI 24
        · by_cases y6 : 0 ≤ n
          · obtain ⟨x, hx, hxe⟩ := w_of (w := n) (k := 24) ⟨y6, y5⟩ (by decide)
            have ef : F_line m l s n = (nI x, makeM m r s (nI x)) := by unfold F_line; rw [if_neg (Classical.not_not.mpr y1), if_neg (Classical.not_not.mpr y2), if_neg y3, if_neg (Classical.not_not.mpr y5), if_neg (Classical.not_not.mpr y6), htr, hxe]
            have er : R_line (makeM m r s (nI x)) l s n = (nI x, linR (makeM m r s (nI x)) r s (nI x)) := by unfold R_line; rw [if_neg (Classical.not_not.mpr y1), if_neg (Classical.not_not.mpr y2), if_neg y4, if_neg (Classical.not_not.mpr y5), if_neg (Classical.not_not.mpr y6), htr, hxe]
            rw [ef, er]
            exact ⟨rfl, Rel_line hS0 hC0 hT hL hW hX hP hQ hH hK (by omega) (by omega) hsi⟩
          · have ef : F_line m l s n = (-1000000014, m) := by unfold F_line; rw [if_neg (Classical.not_not.mpr y1), if_neg (Classical.not_not.mpr y2), if_neg y3, if_neg (Classical.not_not.mpr y5), if_pos y6]
            have er : R_line m l s n = (-1000000014, m) := by unfold R_line; rw [if_neg (Classical.not_not.mpr y1), if_neg (Classical.not_not.mpr y2), if_neg y4, if_neg (Classical.not_not.mpr y5), if_pos y6]
            rw [ef, er]; exact ⟨rfl, Rel_s hR⟩
        · have ef : F_line m l s n = (-1000000001, m) := by unfold F_line; rw [if_neg (Classical.not_not.mpr y1), if_neg (Classical.not_not.mpr y2), if_neg y3, if_pos y5]
          have er : R_line m l s n = (-1000000001, m) := by unfold R_line; rw [if_neg (Classical.not_not.mpr y1), if_neg (Classical.not_not.mpr y2), if_neg y4, if_pos y5]
          rw [ef, er]; exact ⟨rfl, Rel_s hR⟩
    · have ef : F_line m l s n = (-1000000001, m) := by unfold F_line; rw [if_neg (Classical.not_not.mpr y1), if_pos y2]
      have er : R_line m l s n = (-1000000001, m) := by unfold R_line; rw [if_neg (Classical.not_not.mpr y1), if_pos y2]
      rw [ef, er]; exact ⟨rfl, Rel_s hR⟩
  · have ef : F_line m l s n = (-1000000001, m) := by unfold F_line; rw [if_pos y1]
    have er : R_line m l s n = (-1000000001, m) := by unfold R_line; rw [if_pos y1]
    rw [ef, er]; exact ⟨rfl, Rel_s hR⟩
theorem q_put {x : jX} {m : jm} {d k : Nat} (h : RelA m m k) (l p v : Int32) : PrC x (d + 120) k eX7_put eX8_put [.int l, .int p, .int v] m := by
  have hR := h
  obtain ⟨P, T, L, W, hS, hC, hT, hL, hW, hX, hP, hQ, hH, hK, hF⟩ := h
  have hS0 := hS
  have hC0 := hC
  obtain ⟨s1, s2, s3, s4, s5, s6, s7, s8, s9, s10, s11, s12, s13, s14, s15⟩ := hS
  obtain ⟨c1, c2, c3, c4, c5, c6, c7, c8, c9⟩ := hC
  have e145 : (F_put m l p v).2 145 = m 145 := F_put_i 145 (by decide)
  refine pr_R2 (R := R_put (F_put m l p v).2 l p v) (p_put (d := d + 119) l p v (fun l hl => by obtain ⟨x1, x2, x3, ⟨n, hn, e⟩, x5⟩ := hX l hl; exact ⟨n, hn, x3.trans e⟩)) (m_put (d := d + 118) l p v (fun l hl => by rw [e145]; exact (hX l hl).2.2.2.1)) ?_
  by_cases y1 : nI 0 ≤ l ∧ l ≤ nI 23
  · obtain ⟨r, hr, hre⟩ := w_of y1 (by decide)
    have htr : tN l = r := by rw [hre]; exact tN_n (by omega)
    obtain ⟨x1, x2, x3, ⟨ln, hln, x4⟩, x5⟩ := hX r (by omega)
    by_cases y2 : m 41 r = -1
    · have ef : F_put m l p v = (-1000000011, m) := by unfold F_put; rw [if_neg (Classical.not_not.mpr y1), htr, if_pos y2]
      have er : R_put m l p v = (-1000000011, m) := by unfold R_put; rw [if_neg (Classical.not_not.mpr y1), htr, ← x1, if_pos (by rw [y2]; decide)]
      rw [ef, er]; exact ⟨rfl, Rel_s hR⟩
    · have y3 : ¬ m 144 r < 0 := by
        rw [← x1]
        rcases x2 with e | e | e
        · exact absurd e y2
        · rw [e]; decide
        · rw [e]; decide
      by_cases y4 : nI 0 ≤ p ∧ p ≤ m 42 r - nI 1
      · obtain ⟨u, hu, hue⟩ := w_sub (x3.trans x4) (by omega) y4
        have htu : tN p = u := by rw [hue]; exact tN_n (by omega)
        generalize hw : (if m 41 r = 0 then v.toInt8.toInt32 else v) = w
        have ef : F_put m l p v = (m (44 + r) u, mup m (44 + r) u w) := by unfold F_put; rw [if_neg (Classical.not_not.mpr y1), htr, if_neg y2, if_neg (Classical.not_not.mpr y4), htu, hw]
        have er : R_put (mup m (44 + r) u w) l p v = (m 146 (24 * r + u), mup (mup (mup m (44 + r) u w) 140 33 (nI 0)) 146 (24 * r + u) w) := by
          unfold R_put
          rw [mup_i (by omega), mup_i (by omega), mup_i (by omega), if_neg (Classical.not_not.mpr y1), htr, if_neg y3, ← x3, if_neg (Classical.not_not.mpr y4), htu, ← x1, shl8_eq, hw]
        rw [ef, er]
        refine ⟨(x5 u (by omega)).symm, ?_⟩
        dsimp only
        generalize hM : mup (mup (mup m (44 + r) u w) 140 33 (nI 0)) 146 (24 * r + u) w = M
        have c1 : ∀ i, i ≠ 44 + r → i ≠ 140 → i ≠ 146 → M i = m i := fun i h1 h2 h3 => by rw [← hM, mup_i' h3, mup_i' h2, mup_i' h1]
        refine Rel_num hS0 hC0 hT hL hW hX hP hQ hH hK (fun i hi h => c1 i (by omega) (by omega) (by omega)) (fun i hi => c1 i (by omega) (by omega) (by omega)) (fun j hj => by rw [← hM, mup_i (by decide), mup_j hj, mup_i (by omega)]) (by rw [← hM, mup_i (by decide)]; exact mup_s) (fun l' hl' j hj => ?_)
        rw [← hM, mup_i (by omega), mup_i (by omega)]
        by_cases c : l' = r ∧ j = u
        · obtain ⟨rfl, rfl⟩ := c
          rw [mup_s, mup_s]
        · have e1 : mup m (44 + r) u w (44 + l') j = m (44 + l') j := by
            by_cases z : l' = r
            · subst z; exact mup_j (fun e => c ⟨rfl, e⟩)
            · exact mup_i (by omega)
          rw [e1, mup_j (by omega), mup_i (by decide), mup_i (by omega)]
          exact (hX l' hl').2.2.2.2 j hj
      · have ef : F_put m l p v = (-1000000013, m) := by unfold F_put; rw [if_neg (Classical.not_not.mpr y1), htr, if_neg y2, if_pos y4]
        have er : R_put m l p v = (-1000000013, m) := by unfold R_put; rw [if_neg (Classical.not_not.mpr y1), htr, if_neg y3, ← x3, if_pos y4]
        rw [ef, er]; exact ⟨rfl, Rel_s hR⟩
  · have ef : F_put m l p v = (-1000000001, m) := by unfold F_put; rw [if_pos y1]
    have er : R_put m l p v = (-1000000001, m) := by unfold R_put; rw [if_pos y1]
    rw [ef, er]; exact ⟨rfl, Rel_s hR⟩
theorem has_iff {a z y : Int32} {n : Nat} (hy : y = nI n) (hn : n ≤ 24) : (0 ≤ z ∧ 0 ≤ a ∧ a ≤ y - z) ↔ (0 ≤ z ∧ 0 ≤ a ∧ a.toInt + z.toInt ≤ y.toInt) := by
  have h0 : (0 : Int32).toInt = 0 := rfl
  have hz := z.toInt_lt
  have ha := a.toInt_lt
  constructor
  · rintro ⟨h1, h2, h3⟩
    refine ⟨h1, h2, ?_⟩
    rw [Int32.le_iff_toInt_le, h0] at h1 h2
    have e : (y - z).toInt = (n : Int) - z.toInt := by
      rw [Int32.toInt_sub, hy, nI_toInt (by omega)]
      exact Int.bmod_eq_of_le (by omega) (by omega)
    rw [Int32.le_iff_toInt_le, e] at h3
    rw [hy, nI_toInt (by omega)]
    omega
  · rintro ⟨h1, h2, h3⟩
    refine ⟨h1, h2, ?_⟩
    rw [Int32.le_iff_toInt_le, h0] at h1 h2
    rw [hy, nI_toInt (by omega)] at h3
    have e : (y - z).toInt = (n : Int) - z.toInt := by
      rw [Int32.toInt_sub, hy, nI_toInt (by omega)]
      exact Int.bmod_eq_of_le (by omega) (by omega)
    rw [Int32.le_iff_toInt_le, e]
    omega
theorem q_copy {x : jX} {m : jm} {d k : Nat} (h : RelA m m k) (f a t b z : Int32) : PrC x (d + 120) k eX7_copy eX8_copy [.int f, .int a, .int t, .int b, .int z] m := by
  have hR := h
  obtain ⟨P, T, L, W, hS, hC, hT, hL, hW, hX, hP, hQ, hH, hK, hF⟩ := h
  have hS0 := hS
  have hC0 := hC
  obtain ⟨s1, s2, s3, s4, s5, s6, s7, s8, s9, s10, s11, s12, s13, s14, s15⟩ := hS
  obtain ⟨c1, c2, c3, c4, c5, c6, c7, c8, c9⟩ := hC
  have e145 : (F_copy m f a t b z).2 145 = m 145 := F_copy_i 145 (by decide)
  refine pr_R2 (R := R_copy (F_copy m f a t b z).2 f a t b z) (p_copy (d := d + 119) f a t b z (fun l hl => by obtain ⟨x1, x2, x3, ⟨n, hn, e⟩, x5⟩ := hX l hl; exact ⟨n, hn, x3.trans e⟩)) (m_copy (d := d + 118) f a t b z (fun l hl => by rw [e145]; exact (hX l hl).2.2.2.1)) ?_
  by_cases y1 : nI 0 ≤ f ∧ f ≤ nI 23
  · obtain ⟨r, hr, hre⟩ := w_of y1 (by decide)
    have htr : tN f = r := by rw [hre]; exact tN_n (by omega)
    obtain ⟨x1, x2, x3, ⟨ln, hln, x4⟩, x5⟩ := hX r (by omega)
    have k1 : (m 41 r = -1 ↔ m 144 r < 0) := by
      rw [← x1]
      rcases x2 with e | e | e <;> rw [e] <;> decide
    by_cases y2 : nI 0 ≤ t ∧ t ≤ nI 23
    · obtain ⟨u, hu, hue⟩ := w_of y2 (by decide)
      have htu : tN t = u := by rw [hue]; exact tN_n (by omega)
      obtain ⟨w1, w2, w3, ⟨lm, hlm, w4⟩, w5⟩ := hX u (by omega)
      have k2 : (m 41 u = -1 ↔ m 144 u < 0) := by
        rw [← w1]
        rcases w2 with e | e | e <;> rw [e] <;> decide
      by_cases y3 : m 41 r = -1
      · have ef : F_copy m f a t b z = (-1000000011, m) := by unfold F_copy; rw [if_neg (Classical.not_not.mpr y1), if_neg (Classical.not_not.mpr y2), htr, if_pos y3]
        have er : R_copy m f a t b z = (-1000000011, m) := by unfold R_copy; rw [if_neg (Classical.not_not.mpr y1), if_neg (Classical.not_not.mpr y2), htr, if_pos (k1.mp y3)]
        rw [ef, er]; exact ⟨rfl, Rel_s hR⟩
      · by_cases y4 : m 41 u = -1
        · have ef : F_copy m f a t b z = (-1000000011, m) := by unfold F_copy; rw [if_neg (Classical.not_not.mpr y1), if_neg (Classical.not_not.mpr y2), htr, htu, if_neg y3, if_pos y4]
          have er : R_copy m f a t b z = (-1000000011, m) := by unfold R_copy; rw [if_neg (Classical.not_not.mpr y1), if_neg (Classical.not_not.mpr y2), htr, htu, if_neg (fun q => y3 (k1.mpr q)), if_pos (k2.mp y4)]
          rw [ef, er]; exact ⟨rfl, Rel_s hR⟩
        · have n3 : ¬ m 144 r < 0 := fun q => y3 (k1.mpr q)
          have n4 : ¬ m 144 u < 0 := fun q => y4 (k2.mpr q)
          by_cases y5 : m 41 r = m 41 u
          · have y5' : m 144 r = m 144 u := by rw [← x1, ← w1]; exact y5
            have i1 := has_iff (a := a) (z := z) (x3.trans x4) hln
            have i2 := has_iff (a := b) (z := z) (w3.trans w4) hlm
            by_cases y6 : 0 ≤ z ∧ 0 ≤ a ∧ a ≤ m 42 r - z
            · by_cases y7 : 0 ≤ z ∧ 0 ≤ b ∧ b ≤ m 42 u - z
              · obtain ⟨i, n, hin, hie, hne⟩ := has_n (x3.trans x4) hln y6
                obtain ⟨j, n2, hjn, hje, hne2⟩ := has_n (w3.trans w4) hlm y7
                have hnn : n = n2 := (nI_eq (by omega) (by omega)).mp (hne.symm.trans hne2)
                subst hnn
                have ti : tN a = i := by rw [hie]; exact tN_n (by omega)
                have tj : tN b = j := by rw [hje]; exact tN_n (by omega)
                have tn : tN z = n := by rw [hne]; exact tN_n (by omega)
                have hok : 0 ≤ a ∧ 0 ≤ b ∧ 0 ≤ z ∧ a.toInt + z.toInt ≤ (m 145 r).toInt ∧ b.toInt + z.toInt ≤ (m 145 u).toInt := ⟨y6.2.1, y7.2.1, y6.1, by rw [← x3]; exact (i1.mp y6).2.2, by rw [← w3]; exact (i2.mp y7).2.2⟩
                have ef : F_copy m f a t b z = (z, mcpy m (44 + r) (44 + u) i j n) := by unfold F_copy; rw [if_neg (Classical.not_not.mpr y1), if_neg (Classical.not_not.mpr y2), htr, htu, if_neg y3, if_neg y4, if_neg (Classical.not_not.mpr y5), if_neg (Classical.not_not.mpr y6), if_neg (Classical.not_not.mpr y7), ti, tj, tn]
                have ci : ∀ i', i' ≠ 44 + u → mcpy m (44 + r) (44 + u) i j n i' = m i' := fun i' h => mcpy_i h
                have er : R_copy (mcpy m (44 + r) (44 + u) i j n) f a t b z = (z, mrun (mup (mfill (mcpy m (44 + r) (44 + u) i j n) 149 n (fun y => m 146 (24 * r + i + y))) 140 33 (nI 0)) 146 (24 * u + j) (fun y => m 146 (24 * r + i + y)) n) := by
                  unfold R_copy
                  rw [ci 144 (by omega), ci 145 (by omega), ci 146 (by omega), if_neg (Classical.not_not.mpr y1), if_neg (Classical.not_not.mpr y2), htr, htu, if_neg n3, if_neg n4, if_neg (Classical.not_not.mpr y5'), if_pos hok, ti, tj, tn]
                rw [ef, er]
                refine ⟨rfl, ?_⟩
                dsimp only
                generalize hM : mrun (mup (mfill (mcpy m (44 + r) (44 + u) i j n) 149 n (fun y => m 146 (24 * r + i + y))) 140 33 (nI 0)) 146 (24 * u + j) (fun y => m 146 (24 * r + i + y)) n = M
                have c1 : ∀ i', i' ≠ 44 + u → i' ≠ 140 → i' ≠ 146 → i' ≠ 149 → M i' = m i' := fun i' h1 h2 h3 h4 => by rw [← hM, mrun_i h3, mup_i' h2, mfill_i' h4, ci i' h1]
                refine Rel_num hS0 hC0 hT hL hW hX hP hQ hH hK (fun i' hi h => c1 i' (by omega) (by omega) (by omega) (by omega)) (fun i' hi => c1 i' (by omega) (by omega) (by omega) (by omega)) (fun y hj => by rw [← hM, mrun_v (by decide), mup_j hj, mfill_i (by decide), ci 140 (by omega)]) (by rw [← hM, mrun_v (by decide)]; exact mup_s) (fun l' hl' y hy => ?_)
                by_cases c : l' = u
                · subst c
                  have e1 : M (44 + l') y = if j ≤ y ∧ y < j + n then m (44 + r) (i + (y - j)) else m (44 + l') y := by rw [← hM, mrun_v (by omega), mup_i (by omega), mfill_i (by omega)]; exact mcpy_g
                  rw [e1]
                  by_cases c2 : j ≤ y ∧ y < j + n
                  · rw [if_pos c2, ← hM, show 24 * l' + y = 24 * l' + j + (y - j) by omega, mrun_in n (by omega), x5 _ (by omega)]
                    show m 146 _ = m 146 _
                    rw [show 24 * r + (i + (y - j)) = 24 * r + i + (y - j) by omega]
                  · rw [if_neg c2, ← hM, mrun_out n (by omega), mup_i (by decide), mfill_i (by decide), ci 146 (by omega)]
                    exact (hX l' hl').2.2.2.2 y hy
                · rw [c1 (44 + l') (by omega) (by omega) (by omega) (by omega), ← hM, mrun_out n (by omega), mup_i (by decide), mfill_i (by decide), ci 146 (by omega)]
                  exact (hX l' hl').2.2.2.2 y hy
              · have no : ¬ (0 ≤ a ∧ 0 ≤ b ∧ 0 ≤ z ∧ a.toInt + z.toInt ≤ (m 145 r).toInt ∧ b.toInt + z.toInt ≤ (m 145 u).toInt) := fun q => y7 (i2.mpr ⟨q.2.2.1, q.2.1, by rw [w3]; exact q.2.2.2.2⟩)
                have ef : F_copy m f a t b z = (-1000000013, m) := by unfold F_copy; rw [if_neg (Classical.not_not.mpr y1), if_neg (Classical.not_not.mpr y2), htr, htu, if_neg y3, if_neg y4, if_neg (Classical.not_not.mpr y5), if_neg (Classical.not_not.mpr y6), if_pos y7]
                have er : R_copy m f a t b z = (-1000000013, m) := by unfold R_copy; rw [if_neg (Classical.not_not.mpr y1), if_neg (Classical.not_not.mpr y2), htr, htu, if_neg n3, if_neg n4, if_neg (Classical.not_not.mpr y5'), if_neg no]
                rw [ef, er]; exact ⟨rfl, Rel_s hR⟩
            · have no : ¬ (0 ≤ a ∧ 0 ≤ b ∧ 0 ≤ z ∧ a.toInt + z.toInt ≤ (m 145 r).toInt ∧ b.toInt + z.toInt ≤ (m 145 u).toInt) := fun q => y6 (i1.mpr ⟨q.2.2.1, q.1, by rw [x3]; exact q.2.2.2.1⟩)
              have ef : F_copy m f a t b z = (-1000000013, m) := by unfold F_copy; rw [if_neg (Classical.not_not.mpr y1), if_neg (Classical.not_not.mpr y2), htr, htu, if_neg y3, if_neg y4, if_neg (Classical.not_not.mpr y5), if_pos y6]
              have er : R_copy m f a t b z = (-1000000013, m) := by unfold R_copy; rw [if_neg (Classical.not_not.mpr y1), if_neg (Classical.not_not.mpr y2), htr, htu, if_neg n3, if_neg n4, if_neg (Classical.not_not.mpr y5'), if_neg no]
              rw [ef, er]; exact ⟨rfl, Rel_s hR⟩
          · have y5' : ¬ m 144 r = m 144 u := by rw [← x1, ← w1]; exact y5
            have ef : F_copy m f a t b z = (-1000000012, m) := by unfold F_copy; rw [if_neg (Classical.not_not.mpr y1), if_neg (Classical.not_not.mpr y2), htr, htu, if_neg y3, if_neg y4, if_pos y5]
            have er : R_copy m f a t b z = (-1000000012, m) := by unfold R_copy; rw [if_neg (Classical.not_not.mpr y1), if_neg (Classical.not_not.mpr y2), htr, htu, if_neg n3, if_neg n4, if_pos y5']
            rw [ef, er]; exact ⟨rfl, Rel_s hR⟩
    · have ef : F_copy m f a t b z = (-1000000001, m) := by unfold F_copy; rw [if_neg (Classical.not_not.mpr y1), if_pos y2]
      have er : R_copy m f a t b z = (-1000000001, m) := by unfold R_copy; rw [if_neg (Classical.not_not.mpr y1), if_pos y2]
      rw [ef, er]; exact ⟨rfl, Rel_s hR⟩
  · have ef : F_copy m f a t b z = (-1000000001, m) := by unfold F_copy; rw [if_pos y1]
    have er : R_copy m f a t b z = (-1000000001, m) := by unfold R_copy; rw [if_pos y1]
    rw [ef, er]; exact ⟨rfl, Rel_s hR⟩
