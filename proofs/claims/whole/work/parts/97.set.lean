theorem pr_R2 {x : jX} {D k : Nat} {y7 y8 : jMe} {as : List Value} {m : jm} {F R : Int32 × jm} (h7 : Ct x D y7 (.ref (jxb x + 0) :: as) m (ji fun rv m' => (rv, m') = F)) (h8 : Ct x D y8 (.ref (jxb x + 140) :: as) F.2 (ji fun rv m' => (rv, m') = R)) (h : R.1 = F.1 ∧ RelA R.2 R.2 (k + 1)) : PrC x D k y7 y8 as m := pr_FR h7 h8 h.1 h.2
theorem shl8_eq (v : Int32) : shl8 v = v.toInt8.toInt32 := by
  apply Int32.toInt_inj.mp
  unfold shl8
  have e24 : nI 24 &&& 31 = 24 := by decide
  rw [e24, Int8.toInt_toInt32, Int32.toInt_toInt8]
  have h1 : (v <<< 24 >>> 24).toBitVec = (v.toBitVec <<< 24).sshiftRight 24 := rfl
  show (v <<< 24 >>> 24).toBitVec.toInt = _
  rw [h1, BitVec.toInt_sshiftRight, BitVec.toInt_shiftLeft]
  show ((v.toBitVec.toNat <<< 24 : Nat) : Int).bmod (2 ^ 32) >>> 24 = v.toBitVec.toInt.bmod (2 ^ 8)
  rw [Nat.shiftLeft_eq, Int.shiftRight_eq_div_pow, BitVec.toInt_eq_toNat_bmod]
  have hv := v.toBitVec.isLt
  simp only [Int.bmod_def]
  omega
theorem F_dies_i {m : jm} {p : Int32} (i : Nat) (h : i ≠ 2) : (F_dies m p).2 i = m i := by
  unfold F_dies
  (repeat' split) <;> first | rfl | exact mup_i' h
theorem F_nerve_i {m : jm} {n w v : Int32} (i : Nat) (h : i ≠ 10) (h2 : i ≠ 11) : (F_nerve m n w v).2 i = m i := by
  unfold F_nerve
  (repeat' split) <;> first | rfl | exact mup_i' h | exact mup_i' h2
theorem F_pull_i {m : jm} {g v : Int32} (i : Nat) (h : i ≠ 12) : (F_pull m g v).2 i = m i := by
  unfold F_pull
  (repeat' split) <;> first | rfl | exact mup_i' h
theorem F_rule_i {m : jm} {g v : Int32} (i : Nat) (h : i ≠ 13) : (F_rule m g v).2 i = m i := by
  unfold F_rule
  (repeat' split) <;> first | rfl | exact mup_i' h
theorem q_dies {x : jX} {m : jm} {d k : Nat} (h : RelA m m k) (p : Int32) : PrC x (d + 120) k eX7_dies eX8_dies [.int p] m := by
  have hR := h
  obtain ⟨P, T, L, W, hS, hC, hT, hL, hW, hX, hP, hQ, hH, hK, hF⟩ := h
  have hS0 := hS
  have hC0 := hC
  obtain ⟨s1, s2, s3, s4, s5, s6, s7, s8, s9, s10, s11, s12, s13, s14, s15⟩ := hS
  obtain ⟨c1, c2, c3, c4, c5, c6, c7, c8, c9⟩ := hC
  have e1 : (F_dies m p).2 141 = m 141 := F_dies_i 141 (by decide)
  refine pr_R2 (R := R_dies (F_dies m p).2 p) (p_dies (d := d + 119) p s2 s1) (m_dies (d := d + 118) p (by rw [e1]; exact s3) s1) ?_
  have e0 : m 141 0 = m 1 0 := s3.trans s2.symm
  by_cases c : nI 0 ≤ p ∧ p ≤ m 1 0 - nI 1
  · obtain ⟨r, hr, hre⟩ := w_sub s2 s1 c
    have htr : tN p = r := by rw [hre]; exact tN_n (by omega)
    obtain ⟨g1, g2, g3, g4, g5, g6⟩ := s5 r hr
    by_cases c2 : m 141 (90 + 6 * r) = nI 5
    · have ef : F_dies m p = (-1000000002, m) := by unfold F_dies; rw [if_neg (Classical.not_not.mpr c), htr, show m 2 r = _ from g1, if_pos c2]
      have er : R_dies m p = (-1000000002, m) := by unfold R_dies; rw [e0, if_neg (Classical.not_not.mpr c), htr, if_pos c2]
      rw [ef, er]
      exact ⟨rfl, Rel_s hR⟩
    · have ef : F_dies m p = (nI 1, mup m 2 r (nI 5)) := by unfold F_dies; rw [if_neg (Classical.not_not.mpr c), htr, show m 2 r = _ from g1, if_neg c2]
      have er : R_dies (mup m 2 r (nI 5)) p = (nI 1, mup (mup (mup m 2 r (nI 5)) 141 (90 + 6 * r) (nI 5)) 140 33 (nI 0)) := by unfold R_dies; rw [mup_i (by decide), mup_i (by decide), e0, if_neg (Classical.not_not.mpr c), htr, if_neg c2]
      rw [ef, er]
      dsimp only
      refine ⟨rfl, Rel_st (P' := P) hC0 hT hL hW hX hP hQ hH hK (fun i hi h => by have := kA_iff.mp hi; rw [mup_i' (by omega), mup_i' (by omega), mup_i' (by omega)]) (fun j h1 h2 => by rw [mup_i (by decide), mup_i (by decide), mup_i (by decide)]) (fun i hi => by rw [mup_i' (by omega), mup_i' (by omega), mup_i' (by omega)]) (fun j hj => by rw [mup_j (by omega), mup_i (by decide), mup_i (by decide)]) (fun j hj => by rw [mup_i (by decide), mup_j (by omega), mup_i (by decide)]) (Or.inl mup_s) ?_⟩
      have hk : ∀ j, j ≠ 90 + 6 * r → (mup (mup (mup m 2 r (nI 5)) 141 (90 + 6 * r) (nI 5)) 140 33 (nI 0)) 141 j = m 141 j := fun j hj => by rw [mup_i (by decide), mup_j hj, mup_i (by decide)]
      have hr2 : ∀ i, i ≤ 13 → i ≠ 2 → (mup (mup (mup m 2 r (nI 5)) 141 (90 + 6 * r) (nI 5)) 140 33 (nI 0)) i = m i := fun i h h2 => by rw [mup_i' (by omega), mup_i' (by omega), mup_i' h2]
      refine rS_up hS0 (fun i hi => hr2 i (by omega) (by omega)) (by rw [hr2 1 (by decide) (by decide)]) (fun j hj => hk j (by omega)) (fun p hp => ?_) (fun p hp => by rw [hr2 (1 + 6) (by decide) (by decide), hk _ (by omega)]; exact (s5 p hp).2.2.2.2.2) (by rw [hr2 1 (by decide) (by decide), hk 1 (by omega)]; exact s4) (fun j hj => by rw [hr2 (1 + 8) (by decide) (by decide), hk _ (by omega)]; exact s7 j hj) (fun j hj => by rw [hr2 (1 + 9) (by decide) (by decide), hr2 (1 + 10) (by decide) (by decide), hk _ (by omega), hk _ (by omega)]; exact ⟨(s8 j hj).1, (s8 j hj).2, s13.2 j hj⟩) (fun j hj => by rw [hr2 (1 + 11) (by decide) (by decide), hk _ (by omega)]; exact s9 j hj) (fun j hj => by rw [hr2 (1 + 12) (by decide) (by decide), hk _ (by omega)]; exact s10 j hj) (by rw [hk 4 (by omega)]; exact s15.1) ⟨fun p hp => by rw [hk _ (by omega), hk _ (by omega)]; exact s15.2.1 p hp, fun j hj => by rw [hk _ (by omega)]; exact s15.2.2.1 j hj, fun j hj => by rw [hk _ (by omega)]; exact s15.2.2.2 j hj⟩
      by_cases e : p = r
      · subst e
        have a1 : (mup (mup (mup m 2 p (nI 5)) 141 (90 + 6 * p) (nI 5)) 140 33 (nI 0)) (1 + 1) p = nI 5 := by rw [mup_i (by decide), mup_i (by decide)]; exact mup_s
        have a2 : (mup (mup (mup m 2 p (nI 5)) 141 (90 + 6 * p) (nI 5)) 140 33 (nI 0)) 141 (90 + 6 * p) = nI 5 := by rw [mup_i (by decide)]; exact mup_s
        rw [a1, a2]
        exact ⟨rfl, vp_in_nI (by decide) (by decide)⟩
      · have a1 : (mup (mup (mup m 2 r (nI 5)) 141 (90 + 6 * r) (nI 5)) 140 33 (nI 0)) (1 + 1) p = m 2 p := by rw [mup_i (by decide), mup_i (by decide), mup_j e]
        rw [a1, hk _ (by omega)]
        exact ⟨(s5 p hp).1, (s6 p hp).1⟩
  · have ef : F_dies m p = (-1000000001, m) := by unfold F_dies; rw [if_pos c]
    have er : R_dies m p = (-1000000001, m) := by unfold R_dies; rw [e0, if_pos c]
    rw [ef, er]
    exact ⟨rfl, Rel_s hR⟩
/-- one number of a state put -/
theorem Rel_put {m : jm} {k P T L W c i a : Nat} {v : Int32} (hS : rS m m 1 141 P) (hC : rC m m 1 141 T L W) (hT : rT m m 141 T) (hL : rL m m 141 L) (hW : rW m m 141 W) (hX : rX m m) (hP : rP m m) (hQ : rQ m m) (hH : rH m k) (hK : rK m m T L W)
    (h : (c = 10 ∧ i < 10 ∧ a = 10 + 2 * i ∧ vp_in v 6) ∨ (c = 11 ∧ i < 10 ∧ a = 10 + 2 * i + 1 ∧ vp_in v 10) ∨ (c = 12 ∧ i < 6 ∧ a = 30 + i ∧ vp_in v 10) ∨ (c = 13 ∧ i < 4 ∧ a = 2 + i ∧ (i = 2 → nI 1 ≤ v))) : RelA (becR (mup m c i v) a v) (becR (mup m c i v) a v) (k + 1) := by
  have hc : 10 ≤ c ∧ c ≤ 13 := by omega
  have ha : 2 ≤ a ∧ a < 40 ∧ a ≠ 6 ∧ a ≠ 7 ∧ a ≠ 8 := by omega
  have r1 : ∀ j, j ≠ 140 → j ≠ 141 → j ≠ c → becR (mup m c i v) a v j = m j := fun j h1 h2 h3 => (mup_i' h2).trans ((mup_i' h1).trans (mup_i' h3))
  have r2 : ∀ j, j ≠ a → becR (mup m c i v) a v 141 j = m 141 j := fun j hj => (mup_j hj).trans ((mup_i (by decide)).trans (mup_i (by omega)))
  have r3 : becR (mup m c i v) a v 141 a = v := mup_s
  have r4 : ∀ j, j ≠ i → becR (mup m c i v) a v c j = m c j := fun j hj => (mup_i (by omega)).trans ((mup_i (by omega)).trans (mup_j hj))
  have r5 : becR (mup m c i v) a v c i = v := (mup_i (by omega)).trans ((mup_i (by omega)).trans mup_s)
  have r6 : becR (mup m c i v) a v 140 33 = 0 := (mup_i (by decide)).trans mup_s
  have r7 : ∀ j, j ≠ 33 → becR (mup m c i v) a v 140 j = m 140 j := fun j hj => (mup_i (by decide)).trans ((mup_j hj).trans (mup_i (by omega)))
  have hS0 := hS
  obtain ⟨s1, s2, s3, s4, s5, s6, s7, s8, s9, s10, s11, s12, s13, s14, s15⟩ := hS
  refine Rel_st (P' := P) hC hT hL hW hX hP hQ hH hK (fun j hj h => by have := kA_iff.mp hj; exact r1 j (by omega) (by omega) (by omega)) (fun j h1 h2 => by rw [r1 1 (by omega) (by omega) (by omega)]) (fun j hj => r1 j (by omega) (by omega) (by omega)) (fun j hj => r7 j (by omega)) (fun j hj => r2 j (by omega)) (Or.inl r6) ?_
  refine rS_up hS0 (fun j hj => r1 j (by omega) (by omega) (by omega)) (by rw [r1 1 (by omega) (by omega) (by omega)]) (fun j hj => r2 j (by omega)) (fun p hp => by rw [r1 (1 + 1) (by omega) (by omega) (by omega), r2 _ (by omega)]; exact ⟨(s5 p hp).1, (s6 p hp).1⟩) (fun p hp => by rw [r1 (1 + 6) (by omega) (by omega) (by omega), r2 _ (by omega)]; exact (s5 p hp).2.2.2.2.2) (by rw [r1 1 (by omega) (by omega) (by omega), r2 1 (by omega)]; exact s4) (fun j hj => by rw [r1 (1 + 8) (by omega) (by omega) (by omega), r2 _ (by omega)]; exact s7 j hj) (fun j hj => ?_) (fun j hj => ?_) (fun j hj => ?_) ?_ ⟨fun p hp => by rw [r2 _ (by omega), r2 _ (by omega)]; exact s15.2.1 p hp, fun j hj => ?_, fun j hj => ?_⟩
  · refine ⟨?_, ?_, ?_⟩
    · by_cases z : c = 10 ∧ j = i
      · obtain ⟨rfl, rfl⟩ := z
        have e : a = 10 + 2 * j := by omega
        rw [← e, r3]; exact r5
      · have e : a ≠ 10 + 2 * j := by omega
        rw [r2 _ (fun y => e y.symm)]
        have : becR (mup m c i v) a v (1 + 9) j = m (1 + 9) j := by
          by_cases y : c = 10
          · subst y; exact r4 j (by omega)
          · rw [r1 (1 + 9) (by omega) (by omega) (by omega)]
        rw [this]; exact (s8 j hj).1
    · by_cases z : c = 11 ∧ j = i
      · obtain ⟨rfl, rfl⟩ := z
        have e : a = 10 + 2 * j + 1 := by omega
        rw [← e, r3]; exact r5
      · have e : a ≠ 10 + 2 * j + 1 := by omega
        rw [r2 _ (fun y => e y.symm)]
        have : becR (mup m c i v) a v (1 + 10) j = m (1 + 10) j := by
          by_cases y : c = 11
          · subst y; exact r4 j (by omega)
          · rw [r1 (1 + 10) (by omega) (by omega) (by omega)]
        rw [this]; exact (s8 j hj).2
    · by_cases z : a = 10 + 2 * j
      · rw [← z, r3]
        rcases h with h | h | h | h
        · exact h.2.2.2
        · omega
        · omega
        · omega
      · rw [r2 _ (fun y => z y.symm)]; exact s13.2 j hj
  · by_cases z : c = 12 ∧ j = i
    · obtain ⟨rfl, rfl⟩ := z
      have e : a = 30 + j := by omega
      rw [← e, r3]; exact r5
    · have e : a ≠ 30 + j := by omega
      rw [r2 _ (fun y => e y.symm)]
      have : becR (mup m c i v) a v (1 + 11) j = m (1 + 11) j := by
        by_cases y : c = 12
        · subst y; exact r4 j (by omega)
        · rw [r1 (1 + 11) (by omega) (by omega) (by omega)]
      rw [this]; exact s9 j hj
  · by_cases z : c = 13 ∧ j = i
    · obtain ⟨rfl, rfl⟩ := z
      have e : a = 2 + j := by omega
      rw [← e, r3]; exact r5
    · have e : a ≠ 2 + j := by omega
      rw [r2 _ (fun y => e y.symm)]
      have : becR (mup m c i v) a v (1 + 12) j = m (1 + 12) j := by
        by_cases y : c = 13
        · subst y; exact r4 j (by omega)
        · rw [r1 (1 + 12) (by omega) (by omega) (by omega)]
      rw [this]; exact s10 j hj
  · by_cases z : a = 4
    · rw [← z, r3]
      rcases h with h | h | h | h
      · omega
      · omega
      · omega
      · exact h.2.2.2 (by omega)
    · rw [r2 4 (fun y => z y.symm)]; exact s15.1
  · by_cases z : a = 30 + j
    · rw [← z, r3]
      rcases h with h | h | h | h
      · omega
      · omega
      · exact h.2.2.2
      · omega
    · rw [r2 _ (fun y => z y.symm)]; exact s15.2.2.1 j hj
  · by_cases z : a = 10 + 2 * j + 1
    · rw [← z, r3]
      rcases h with h | h | h | h
      · omega
      · exact h.2.2.2
      · omega
      · omega
    · rw [r2 _ (fun y => z y.symm)]; exact s15.2.2.2 j hj
theorem q_nerve {x : jX} {m : jm} {d k : Nat} (h : RelA m m k) (n w v : Int32) : PrC x (d + 120) k eX7_nerve eX8_nerve [.int n, .int w, .int v] m := by
  have hR := h
  obtain ⟨P, T, L, W, hS, hC, hT, hL, hW, hX, hP, hQ, hH, hK, hF⟩ := h
  have hS0 := hS
  have hC0 := hC
  obtain ⟨s1, s2, s3, s4, s5, s6, s7, s8, s9, s10, s11, s12, s13, s14, s15⟩ := hS
  obtain ⟨c1, c2, c3, c4, c5, c6, c7, c8, c9⟩ := hC
  refine pr_R2 (R := R_nerve (F_nerve m n w v).2 n w v) (p_nerve (d := d + 119) n w v) (m_nerve (d := d + 118) n w v) ?_
  by_cases c : nI 0 ≤ n ∧ n ≤ nI 9
  · obtain ⟨r, hr, hre⟩ := w_of c (by decide)
    have htr : tN n = r := by rw [hre]; exact tN_n (by omega)
    by_cases c1' : w = 0 ∧ nI 0 ≤ v ∧ v ≤ nI 5
    · have ef : F_nerve m n w v = (m 10 r, mup m 10 r v) := by unfold F_nerve; rw [if_neg (Classical.not_not.mpr c), if_pos c1', htr]
      have er : R_nerve (mup m 10 r v) n w v = (m 141 (10 + 2 * r), becR (mup m 10 r v) (10 + 2 * r) v) := by unfold R_nerve; rw [if_neg (Classical.not_not.mpr c), if_pos c1', htr, mup_i (by decide)]
      rw [ef, er]
      obtain ⟨y, hy, hye⟩ := w_of c1'.2 (by decide)
      exact ⟨(s8 r (by omega)).1.symm, Rel_put hS0 hC0 hT hL hW hX hP hQ hH hK (Or.inl ⟨rfl, by omega, rfl, by rw [hye]; exact vp_in_nI (by omega) (by decide)⟩)⟩
    · by_cases c2' : w = nI 1 ∧ nI 1 ≤ v ∧ v ≤ nI 9
      · have ef : F_nerve m n w v = (m 11 r, mup m 11 r v) := by unfold F_nerve; rw [if_neg (Classical.not_not.mpr c), if_neg c1', if_pos c2', htr]
        have er : R_nerve (mup m 11 r v) n w v = (m 141 (10 + 2 * r + 1), becR (mup m 11 r v) (10 + 2 * r + 1) v) := by unfold R_nerve; rw [if_neg (Classical.not_not.mpr c), if_neg c1', if_pos c2', htr, mup_i (by decide)]
        rw [ef, er]
        exact ⟨(s8 r (by omega)).2.symm, Rel_put hS0 hC0 hT hL hW hX hP hQ hH hK (Or.inr (Or.inl ⟨rfl, by omega, rfl, by obtain ⟨y, hy, hy2, hye⟩ := w_of1 c2'.2 (by decide); rw [hye]; exact vp_in_nI (by omega) (by decide)⟩))⟩
      · have ef : F_nerve m n w v = (-1000000001, m) := by unfold F_nerve; rw [if_neg (Classical.not_not.mpr c), if_neg c1', if_neg c2']
        have er : R_nerve m n w v = (-1000000001, m) := by unfold R_nerve; rw [if_neg (Classical.not_not.mpr c), if_neg c1', if_neg c2']
        rw [ef, er]
        exact ⟨rfl, Rel_s hR⟩
  · have ef : F_nerve m n w v = (-1000000001, m) := by unfold F_nerve; rw [if_pos c]
    have er : R_nerve m n w v = (-1000000001, m) := by unfold R_nerve; rw [if_pos c]
    rw [ef, er]
    exact ⟨rfl, Rel_s hR⟩
theorem q_pull {x : jX} {m : jm} {d k : Nat} (h : RelA m m k) (g v : Int32) : PrC x (d + 120) k eX7_pull eX8_pull [.int g, .int v] m := by
  have hR := h
  obtain ⟨P, T, L, W, hS, hC, hT, hL, hW, hX, hP, hQ, hH, hK, hF⟩ := h
  have hS0 := hS
  have hC0 := hC
  obtain ⟨s1, s2, s3, s4, s5, s6, s7, s8, s9, s10, s11, s12, s13, s14, s15⟩ := hS
  obtain ⟨c1, c2, c3, c4, c5, c6, c7, c8, c9⟩ := hC
  refine pr_R2 (R := R_pull (F_pull m g v).2 g v) (p_pull (d := d + 119) g v) (m_pull (d := d + 118) g v) ?_
  by_cases c : nI 0 ≤ g ∧ g ≤ nI 5
  · obtain ⟨r, hr, hre⟩ := w_of c (by decide)
    have htr : tN g = r := by rw [hre]; exact tN_n (by omega)
    by_cases c1' : nI 0 ≤ v ∧ v ≤ nI 9
    · have ef : F_pull m g v = (m 12 r, mup m 12 r v) := by unfold F_pull; rw [if_neg (Classical.not_not.mpr c), if_neg (Classical.not_not.mpr c1'), htr]
      have er : R_pull (mup m 12 r v) g v = (m 141 (30 + r), becR (mup m 12 r v) (30 + r) v) := by unfold R_pull; rw [if_neg (Classical.not_not.mpr c), if_neg (Classical.not_not.mpr c1'), htr, mup_i (by decide)]
      rw [ef, er]
      exact ⟨(s9 r (by omega)).symm, Rel_put hS0 hC0 hT hL hW hX hP hQ hH hK (Or.inr (Or.inr (Or.inl ⟨rfl, by omega, rfl, by obtain ⟨y, hy, hye⟩ := w_of c1' (by decide); rw [hye]; exact vp_in_nI (by omega) (by decide)⟩)))⟩
    · have ef : F_pull m g v = (-1000000001, m) := by unfold F_pull; rw [if_neg (Classical.not_not.mpr c), if_pos c1']
      have er : R_pull m g v = (-1000000001, m) := by unfold R_pull; rw [if_neg (Classical.not_not.mpr c), if_pos c1']
      rw [ef, er]
      exact ⟨rfl, Rel_s hR⟩
  · have ef : F_pull m g v = (-1000000001, m) := by unfold F_pull; rw [if_pos c]
    have er : R_pull m g v = (-1000000001, m) := by unfold R_pull; rw [if_pos c]
    rw [ef, er]
    exact ⟨rfl, Rel_s hR⟩
theorem q_rule {x : jX} {m : jm} {d k : Nat} (h : RelA m m k) (w v : Int32) : PrC x (d + 120) k eX7_rule eX8_rule [.int w, .int v] m := by
  have hR := h
  obtain ⟨P, T, L, W, hS, hC, hT, hL, hW, hX, hP, hQ, hH, hK, hF⟩ := h
  have hS0 := hS
  have hC0 := hC
  obtain ⟨s1, s2, s3, s4, s5, s6, s7, s8, s9, s10, s11, s12, s13, s14, s15⟩ := hS
  obtain ⟨c1, c2, c3, c4, c5, c6, c7, c8, c9⟩ := hC
  refine pr_R2 (R := R_rule (F_rule m w v).2 w v) (p_rule (d := d + 119) w v) (m_rule (d := d + 118) w v) ?_
  have key : ∀ r, r < 4 → w = nI r → ((jtb 2).getD r 0 ≤ v ∧ v ≤ (jtb 3).getD r 0) → ((w = 0 ∧ nI 0 ≤ v ∧ v ≤ nI 99) ∨ (w = nI 1 ∧ nI 0 ≤ v ∧ v ≤ nI 9) ∨ (w = nI 2 ∧ nI 1 ≤ v ∧ v ≤ nI 99) ∨ (w = nI 3 ∧ nI 1 ≤ v ∧ v ≤ nI 48)) := fun r hr e y => by
    rcases (show r = 0 ∨ r = 1 ∨ r = 2 ∨ r = 3 by omega) with rfl | rfl | rfl | rfl
    · exact Or.inl ⟨e, y⟩
    · exact Or.inr (Or.inl ⟨e, y⟩)
    · exact Or.inr (Or.inr (Or.inl ⟨e, y⟩))
    · exact Or.inr (Or.inr (Or.inr ⟨e, y⟩))
  have yek : ((w = 0 ∧ nI 0 ≤ v ∧ v ≤ nI 99) ∨ (w = nI 1 ∧ nI 0 ≤ v ∧ v ≤ nI 9) ∨ (w = nI 2 ∧ nI 1 ≤ v ∧ v ≤ nI 99) ∨ (w = nI 3 ∧ nI 1 ≤ v ∧ v ≤ nI 48)) → ∃ r, r < 4 ∧ w = nI r ∧ ((jtb 2).getD r 0 ≤ v ∧ v ≤ (jtb 3).getD r 0) := fun z => by
    rcases z with z | z | z | z
    · exact ⟨0, by decide, z.1, z.2⟩
    · exact ⟨1, by decide, z.1, z.2⟩
    · exact ⟨2, by decide, z.1, z.2⟩
    · exact ⟨3, by decide, z.1, z.2⟩
  by_cases c : (w = 0 ∧ nI 0 ≤ v ∧ v ≤ nI 99) ∨ (w = nI 1 ∧ nI 0 ≤ v ∧ v ≤ nI 9) ∨ (w = nI 2 ∧ nI 1 ≤ v ∧ v ≤ nI 99) ∨ (w = nI 3 ∧ nI 1 ≤ v ∧ v ≤ nI 48)
  · obtain ⟨r, hr, hre, hb⟩ := yek c
    have htr : tN w = r := by rw [hre]; exact tN_n (by omega)
    have cw : nI 0 ≤ w ∧ w ≤ nI 3 := by
      rw [hre]
      rcases (show r = 0 ∨ r = 1 ∨ r = 2 ∨ r = 3 by omega) with rfl | rfl | rfl | rfl <;> decide
    have ef : F_rule m w v = (m 13 r, mup m 13 r v) := by unfold F_rule; rw [if_neg (Classical.not_not.mpr cw), htr, if_neg (Classical.not_not.mpr hb)]
    have er : R_rule (mup m 13 r v) w v = (m 141 (2 + r), becR (mup m 13 r v) (2 + r) v) := by unfold R_rule; rw [if_pos c, htr, mup_i (by decide)]
    rw [ef, er]
    exact ⟨(s10 r hr).symm, Rel_put hS0 hC0 hT hL hW hX hP hQ hH hK (Or.inr (Or.inr (Or.inr ⟨rfl, hr, rfl, fun z => by subst z; exact hb.1⟩)))⟩
  · have er : R_rule m w v = (-1000000001, m) := by unfold R_rule; rw [if_neg c]
    have ef : F_rule m w v = (-1000000001, m) := by
      unfold F_rule
      by_cases cw : nI 0 ≤ w ∧ w ≤ nI 3
      · obtain ⟨r, hr, hre⟩ := w_of cw (by decide)
        have htr : tN w = r := by rw [hre]; exact tN_n (by omega)
        rw [if_neg (Classical.not_not.mpr cw), htr, if_pos (fun z => c (key r (by omega) hre z))]
      · rw [if_pos cw]
    rw [ef, er]
    exact ⟨rfl, Rel_s hR⟩
