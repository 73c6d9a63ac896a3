theorem onP_mv {b b' : jm} {r r2 : Nat} {q : Int32} : ∀ P, (∀ p, p < P → b' r2 (90 + 6 * p + 1) = b r (90 + 6 * p + 1)) → onP b' r2 q P = onP b r q P
  | 0, _ => rfl
  | P + 1, h => by unfold onP; rw [h P (by omega), onP_mv P (fun p hp => h p (by omega))]
/-- a state copied -/
theorem rS_mv {a a' b b' : jm} {o o2 r r2 P : Nat} (h : rS a b o r P) (h0 : a' o2 0 = a o 0) (h13 : a' o2 13 = a o 13) (hk : ∀ c, 1 ≤ c → c ≤ 8 → ∀ j, j < 48 → a' (o2 + c) j = a (o + c) j) (h9 : ∀ c, c = 9 ∨ c = 10 → ∀ j, j < 10 → a' (o2 + c) j = a (o + c) j) (h11 : ∀ j, j < 6 → a' (o2 + 11) j = a (o + 11) j) (h12 : ∀ j, j < 4 → a' (o2 + 12) j = a (o + 12) j) (hb : ∀ j, j < 380 → b' r2 j = b r j) : rS a' b' o2 r2 P := by
  obtain ⟨s1, s2, s3, s4, s5, s6, s7, s8, s9, s10, s11, s12, s13, s14, s15⟩ := h
  refine ⟨s1, h0.trans s2, (hb 0 (by omega)).trans s3, by rw [h13, hb 1 (by omega)]; exact s4, fun p hp => ?_, fun p hp => ?_, fun j hj => ?_, fun j hj => ?_, fun j hj => ?_, fun j hj => ?_, fun x hx => ?_, ⟨fun p hp => ?_, fun j hj => ?_⟩, ⟨fun p hp => ?_, fun j hj => ?_⟩, fun p x hp hx e => ?_, by rw [hb 4 (by omega)]; exact s15.1, ⟨fun p hp => ?_, fun j hj => ?_, fun j hj => ?_⟩⟩
  · rw [hk 1 (by omega) (by omega) p (by omega), hk 2 (by omega) (by omega) p (by omega), hk 3 (by omega) (by omega) p (by omega), hk 4 (by omega) (by omega) p (by omega), hk 5 (by omega) (by omega) p (by omega), hk 6 (by omega) (by omega) p (by omega), hb _ (by omega), hb _ (by omega), hb _ (by omega), hb _ (by omega), hb _ (by omega), hb _ (by omega)]
    exact s5 p hp
  · rw [hb _ (by omega), hb _ (by omega)]; exact s6 p hp
  · rw [hk 8 (by omega) (by omega) j hj, hb _ (by omega)]; exact s7 j hj
  · rw [h9 9 (by omega) j hj, h9 10 (by omega) j hj, hb _ (by omega), hb _ (by omega)]; exact s8 j hj
  · rw [h11 j hj, hb _ (by omega)]; exact s9 j hj
  · rw [h12 j hj, hb _ (by omega)]; exact s10 j hj
  · rw [hk 7 (by omega) (by omega) x hx, onP_mv P (fun p hp => hb _ (by omega))]; exact s11 x hx
  · rw [hk 5 (by omega) (by omega) p hp]; exact s12.1 p hp
  · rw [h9 9 (by omega) j hj]; exact s12.2 j hj
  · rw [hb _ (by omega)]; exact s13.1 p hp
  · rw [hb _ (by omega)]; exact s13.2 j hj
  · rw [hb _ (by omega), hb _ (by omega)] at e; exact s14 p x hp hx e
  · rw [hb _ (by omega), hb _ (by omega)]; exact s15.2.1 p hp
  · rw [hb _ (by omega)]; exact s15.2.2.1 j hj
  · rw [hb _ (by omega)]; exact s15.2.2.2 j hj
theorem rS_bec {m b b' : jm} {o o2 r r2 P : Nat} (ha : apart o2 o) (h : rS m b o r P) (hb : ∀ j, j < 380 → b' r2 j = b r j) : rS (becM m o2 o) b' o2 r2 P :=
  rS_mv h (bec_f0 ha) (bec_f13 ha) (fun c h1 h2 j hj => by
    rcases (show c = 1 ∨ c = 2 ∨ c = 3 ∨ c = 4 ∨ c = 5 ∨ c = 6 ∨ c = 7 ∨ c = 8 by omega) with rfl | rfl | rfl | rfl | rfl | rfl | rfl | rfl
    · exact bec_1 ha hj
    · exact bec_2 ha hj
    · exact bec_3 ha hj
    · exact bec_4 ha hj
    · exact bec_5 ha hj
    · exact bec_6 ha hj
    · exact bec_7 ha hj
    · exact bec_8 ha hj) (fun c hc j hj => by
    rcases hc with rfl | rfl
    · exact bec_9 ha hj
    · exact bec_10 ha hj) (fun j hj => bec_11 ha hj) (fun j hj => bec_12 ha hj) hb
theorem rT1_mv {a b a' b' : jm} {r r2 t : Nat} (h : rT1 a b r t) (h5 : a' 75 t = a 75 t) (h6 : a' 76 t = a 76 t) (h7 : a' 77 t = a 77 t) (h8 : a' 78 t = a 78 t) (hc : ∀ k, k < 96 → a' (80 + t) k = a (80 + t) k) (hb : ∀ j, 440 + 200 * t ≤ j → j < 440 + 200 * t + 196 → b' r2 j = b r j) : rT1 a' b' r2 t := by
  obtain ⟨q1, q2, q3, n, hn, q4, q5, q6, q7⟩ := h
  refine ⟨by rw [h5, hb _ (by omega) (by omega)]; exact q1, by rw [h6, hb _ (by omega) (by omega)]; exact q2, by rw [h7, hb _ (by omega) (by omega)]; exact q3, n, hn, by rw [h8]; exact q4, by rw [hb _ (by omega) (by omega)]; exact q5, fun k hk => ?_, ?_⟩
  · rw [hc k (by omega), hb _ (by omega) (by omega), hb _ (by omega) (by omega), hb _ (by omega) (by omega)]; exact q6 k hk
  · refine wfC_n (fun k hk => ?_) q7
    rw [hb _ (by omega) (by omega), hb _ (by omega) (by omega)]
theorem F_keep_i {m : jm} (i : Nat) (h : i ≠ 0) (h2 : i < 14 ∨ 26 < i) : (F_keep m).2 i = m i := (mup_i' h).trans (bec_i (by omega))
theorem F_back_i {m : jm} (i : Nat) (h2 : i < 1 ∨ 13 < i) : (F_back m).2 i = m i := by
  unfold F_back
  (repeat' split) <;> first | rfl | exact bec_i (by omega)
theorem R_keep_r {b : jm} : (∀ j, j < 3450 → (R_keep b).2 142 j = b 141 j) ∧ (∀ i, i ≠ 140 → i ≠ 142 → (R_keep b).2 i = b i) ∧ (R_keep b).2 140 3 = nI 1 ∧ ∀ j, j ≠ 3 → (R_keep b).2 140 j = b 140 j :=
  ⟨fun j hj => mfill_lt hj, fun i h h2 => (mfill_i' h2).trans (mup_i' h), (show mfill (mup b 140 3 (nI 1)) 142 3450 (b 141) 140 3 = nI 1 from (mfill_i (by decide)).trans mup_s), fun j hj => (show mfill (mup b 140 3 (nI 1)) 142 3450 (b 141) 140 j = b 140 j from (mfill_i (by decide)).trans (mup_j hj))⟩
theorem q_keep {x : jX} {m : jm} {d k : Nat} (h : RelA m m k) : PrC x (d + 120) k eX7_keep eX8_keep [] m := by
  have hR := h
  obtain ⟨P, T, L, W, hS, hC, hT, hL, hW, hX, hP, hQ, hH, hK, hF⟩ := h
  have hS0 := hS
  have hC0 := hC
  obtain ⟨s1, s2, s3, s4, s5, s6, s7, s8, s9, s10, s11, s12, s13, s14, s15⟩ := hS
  obtain ⟨c1, c2, c3, c4, c5, c6, c7, c8, c9⟩ := hC
  have e141 : (F_keep m).2 141 = m 141 := F_keep_i 141 (by decide) (by decide)
  refine pr_R2 (R := R_keep (F_keep m).2) (p_keep (d := d + 118)) (m_keep (d := d + 119)) ?_
  refine ⟨by show (F_keep m).2 141 1 = m 1 13; rw [e141]; exact s4.symm, ?_⟩
  obtain ⟨r1, r2, r3, r4⟩ := R_keep_r (b := (F_keep m).2)
  generalize hM : (R_keep (F_keep m).2).2 = M at r1 r2 r3 r4 ⊢
  have m1 : ∀ i, i ≠ 0 → (i < 14 ∨ 26 < i) → i ≠ 140 → i ≠ 142 → M i = m i := fun i h1 h2 h3 h4 => (r2 i h3 h4).trans (F_keep_i i h1 h2)
  have m142 : ∀ j, j < 3450 → M 142 j = m 141 j := fun j hj => by rw [r1 j hj, e141]
  have m140 : ∀ j, j ≠ 3 → M 140 j = m 140 j := fun j hj => by rw [r4 j hj, F_keep_i 140 (by decide) (by decide)]
  have m0 : ∀ j, j ≠ 11 → M 0 j = m 0 j := fun j hj => by rw [r2 0 (by decide) (by decide)]; exact (mup_j hj : mup (becM m 14 1) 0 11 (nI 1) 0 j = becM m 14 1 0 j).trans (congrFun (bec_i (by decide)) j)
  have m011 : M 0 11 = nI 1 := by rw [r2 0 (by decide) (by decide)]; exact (mup_s : mup (becM m 14 1) 0 11 (nI 1) 0 11 = nI 1)
  have mi : ∀ i, 14 ≤ i → i ≤ 26 → M i = becM m 14 1 i := fun i h1 h2 => (r2 i (by omega) (by omega)).trans (mup_i' (by omega))
  refine ⟨P, T, L, W, rS_c hS0 (fun i h1 h2 => m1 i (by omega) (by omega) (by omega) (by omega)) (fun j _ => by rw [m1 141 (by decide) (by decide) (by decide) (by decide)]), rC_c hC0 (m1 1 (by decide) (by decide) (by decide) (by decide)) (fun j _ _ => by rw [m1 141 (by decide) (by decide) (by decide) (by decide)]), rT_c c1 hT (fun i hi => m1 i (by omega) (by omega) (by omega) (by omega)) (fun j _ _ => by rw [m1 141 (by decide) (by decide) (by decide) (by decide)]), rL_c c4 hL (fun i hi => m1 i (by omega) (by omega) (by omega) (by omega)) (fun j _ _ => by rw [m1 141 (by decide) (by decide) (by decide) (by decide)]), rW_c c7 hW (m1 137 (by decide) (by decide) (by decide) (by decide)) (fun j _ _ => by rw [m1 141 (by decide) (by decide) (by decide) (by decide)]),
    rX_c hX (fun i hi => m1 i (by omega) (by omega) (by omega) (by omega)) (m1 144 (by decide) (by decide) (by decide) (by decide)) (m1 145 (by decide) (by decide) (by decide) (by decide)) (m1 146 (by decide) (by decide) (by decide) (by decide)), rP_c hP (by rw [m1 70 (by decide) (by decide) (by decide) (by decide)]) (m1 71 (by decide) (by decide) (by decide) (by decide)) (m140 11 (by decide)) (m1 150 (by decide) (by decide) (by decide) (by decide)), rQ_c hQ (m0 10 (by decide)) (m1 139 (by decide) (by decide) (by decide) (by decide)) (m140 35 (by decide)) (m1 157 (by decide) (by decide) (by decide) (by decide)), rH_c hH (Nat.le_succ k) (m1 124 (by decide) (by decide) (by decide) (by decide)) (m1 120 (by decide) (by decide) (by decide) (by decide)) (by rw [m1 102 (by decide) (by decide) (by decide) (by decide)]) (m1 125 (by decide) (by decide) (by decide) (by decide)), ⟨m011.trans r3.symm, fun _ => ⟨P, T, L, W, ?_, ?_, ?_, ?_, ?_, Nat.le_refl _, Nat.le_refl _, Nat.le_refl _⟩⟩, ?_⟩
  · exact rS_c (rS_bec (b' := M) (Or.inr (by decide)) hS0 (fun j hj => m142 j (by omega))) (fun i h1 h2 => mi i (by omega) (by omega)) (fun j _ => rfl)
  · have e14 : M 14 = becM m 14 1 14 := mi 14 (by decide) (by decide)
    have ap : apart 14 1 := Or.inr (by decide)
    exact ⟨c1, by rw [e14, bec_f14 ap]; exact c2, by rw [m142 6 (by decide)]; exact c3, c4, by rw [e14, bec_f15 ap]; exact c5, by rw [m142 7 (by decide)]; exact c6, c7, by rw [e14, bec_f16 ap]; exact c8, by rw [m142 8 (by decide)]; exact c9⟩
  · intro t ht
    have hr : ∀ i, 75 ≤ i → i ≤ 93 → M i = m i := fun i h1 h2 => m1 i (by omega) (by omega) (by omega) (by omega)
    exact rT1_mv (hT t ht) (by rw [hr 75 (by omega) (by omega)]) (by rw [hr 76 (by omega) (by omega)]) (by rw [hr 77 (by omega) (by omega)]) (by rw [hr 78 (by omega) (by omega)]) (fun k _ => by rw [hr (80 + t) (by omega) (by omega)]) (fun j _ _ => m142 j (by omega))
  · intro i hi
    rw [m1 127 (by decide) (by decide) (by decide) (by decide), m142 _ (by omega)]
    refine ⟨(hL i hi).1, fun q hq => ?_⟩
    rw [m1 (129 + i) (by omega) (by omega) (by omega) (by omega), m142 _ (by omega)]
    exact (hL i hi).2 q hq
  · intro i hi
    rw [m1 137 (by decide) (by decide) (by decide) (by decide), m142 _ (by omega)]
    exact hW i hi
  · rcases hF with z | ⟨g, G, z, f1, f2, f3, f4, f5, f6, f7, f8⟩
    · exact Or.inl (by rw [m140 33 (by decide)]; exact z)
    · refine Or.inr ⟨g, G, z, f1, f2, f3, by rw [m140 28 (by decide)]; exact f4, by rw [m140 29 (by decide)]; exact f5, by rw [m140 30 (by decide)]; exact f6, ?_, ?_⟩
      · rw [m140 31 (by decide), fdF_c (m1 141 (by decide) (by decide) (by decide) (by decide)) (m1 144 (by decide) (by decide) (by decide) (by decide)) (m1 145 (by decide) (by decide) (by decide) (by decide)) (m1 146 (by decide) (by decide) (by decide) (by decide))]; exact f7
      · rw [m140 32 (by decide), fdF_c (m1 141 (by decide) (by decide) (by decide) (by decide)) (m1 144 (by decide) (by decide) (by decide) (by decide)) (m1 145 (by decide) (by decide) (by decide) (by decide)) (m1 146 (by decide) (by decide) (by decide) (by decide))]; exact f8
theorem q_back {x : jX} {m : jm} {d k : Nat} (h : RelA m m k) : PrC x (d + 120) k eX7_back eX8_back [] m := by
  have hR := h
  obtain ⟨P, T, L, W, hS, hC, hT, hL, hW, hX, hP, hQ, hH, hK, hF⟩ := h
  have hS0 := hS
  have hC0 := hC
  obtain ⟨s1, s2, s3, s4, s5, s6, s7, s8, s9, s10, s11, s12, s13, s14, s15⟩ := hS
  obtain ⟨c1, c2, c3, c4, c5, c6, c7, c8, c9⟩ := hC
  refine pr_R2 (R := R_back (F_back m).2) (p_back (d := d + 118)) (m_back (d := d + 119)) ?_
  by_cases c : m 0 11 = 0
  · have ef : F_back m = (-1000000002, m) := by unfold F_back; rw [if_pos c]
    have er : R_back m = (-1000000002, m) := by unfold R_back; rw [← hK.1, if_pos c]
    rw [ef, er]
    exact ⟨rfl, Rel_s hR⟩
  · obtain ⟨P2, T2, L2, W2, k1, k2, k3, k4, k5, k6, k7, k8⟩ := hK.2 c
    have hk1 := k1
    obtain ⟨t1, t2, t3, t4, t5, t6, t7, t8, t9, t10, t11, t12, t13, t14, t15⟩ := k1
    obtain ⟨u1, u2, u3, u4, u5, u6, u7, u8, u9⟩ := k2
    have ap : apart 1 14 := Or.inl (by decide)
    have ef : F_back m = (m 14 13, becM m 1 14) := by unfold F_back; rw [if_neg c]
    have e142 : (becM m 1 14) 142 = m 142 := bec_i (by decide)
    have er : R_back (becM m 1 14) = (m 142 1, mup (mfill (becM m 1 14) 141 3450 (m 142)) 140 33 (nI 0)) := by unfold R_back; rw [bec_i (by decide), ← hK.1, if_neg c, e142]
    rw [ef, er]
    dsimp only
    refine ⟨t4.symm, ?_⟩
    generalize hM : mup (mfill (becM m 1 14) 141 3450 (m 142)) 140 33 (nI 0) = M
    have m1 : ∀ i, i ≠ 140 → i ≠ 141 → M i = becM m 1 14 i := fun i h1 h2 => by rw [← hM]; exact (mup_i' h1).trans (mfill_i' h2)
    have m2 : ∀ i, i ≠ 140 → i ≠ 141 → (i < 1 ∨ 13 < i) → M i = m i := fun i h1 h2 h3 => (m1 i h1 h2).trans (bec_i (by omega))
    have m141 : ∀ j, j < 3450 → M 141 j = m 142 j := fun j hj => by rw [← hM]; exact (mup_i (by decide)).trans (mfill_lt hj)
    have m140 : ∀ j, j ≠ 33 → M 140 j = m 140 j := fun j hj => by rw [← hM]; exact (mup_j hj).trans ((mfill_i (by decide)).trans (congrFun (bec_i (by decide)) j))
    have m33 : M 140 33 = 0 := by rw [← hM]; exact mup_s
    have e1 : M 1 = becM m 1 14 1 := m1 1 (by decide) (by decide)
    have hs2 : rS M M 1 141 P2 := rS_c (rS_bec (b' := M) ap hk1 (fun j hj => m141 j (by omega))) (fun i h1 h2 => m1 i (by omega) (by omega)) (fun j _ => rfl)
    refine ⟨P2, T2, L2, W2, hs2, ⟨u1, by rw [e1, bec_f14 ap]; exact u2, by rw [m141 6 (by decide)]; exact u3, u4, by rw [e1, bec_f15 ap]; exact u5, by rw [m141 7 (by decide)]; exact u6, u7, by rw [e1, bec_f16 ap]; exact u8, by rw [m141 8 (by decide)]; exact u9⟩, fun t ht => ?_, fun i hi => ?_, fun i hi => ?_,
      rX_c hX (fun i hi => m2 i (by omega) (by omega) (by omega)) (m2 144 (by decide) (by decide) (by decide)) (m2 145 (by decide) (by decide) (by decide)) (m2 146 (by decide) (by decide) (by decide)), rP_c hP (by rw [m2 70 (by decide) (by decide) (by decide)]) (m2 71 (by decide) (by decide) (by decide)) (m140 11 (by decide)) (m2 150 (by decide) (by decide) (by decide)), rQ_c hQ (by rw [m2 0 (by decide) (by decide) (by decide)]) (m2 139 (by decide) (by decide) (by decide)) (m140 35 (by decide)) (m2 157 (by decide) (by decide) (by decide)), rH_c hH (Nat.le_succ k) (m2 124 (by decide) (by decide) (by decide)) (m2 120 (by decide) (by decide) (by decide)) (by rw [m2 102 (by decide) (by decide) (by decide)]) (m2 125 (by decide) (by decide) (by decide)),
      ⟨by rw [m2 0 (by decide) (by decide) (by decide), m140 3 (by decide)]; exact hK.1, fun _ => ⟨P2, T2, L2, W2, rS_c hk1 (fun i h1 h2 => m2 i (by omega) (by omega) (by omega)) (fun j _ => by rw [m2 142 (by decide) (by decide) (by decide)]), rC_c ⟨u1, u2, u3, u4, u5, u6, u7, u8, u9⟩ (m2 14 (by decide) (by decide) (by decide)) (fun j _ _ => by rw [m2 142 (by decide) (by decide) (by decide)]), rT_c u1 k3 (fun i hi => m2 i (by omega) (by omega) (by omega)) (fun j _ _ => by rw [m2 142 (by decide) (by decide) (by decide)]), rL_c u4 k4 (fun i hi => m2 i (by omega) (by omega) (by omega)) (fun j _ _ => by rw [m2 142 (by decide) (by decide) (by decide)]), rW_c u7 k5 (m2 137 (by decide) (by decide) (by decide)) (fun j _ _ => by rw [m2 142 (by decide) (by decide) (by decide)]), Nat.le_refl _, Nat.le_refl _, Nat.le_refl _⟩⟩, Or.inl m33⟩
    · have hr : ∀ i, 75 ≤ i → i ≤ 93 → M i = m i := fun i h1 h2 => m2 i (by omega) (by omega) (by omega)
      exact rT1_mv (k3 t ht) (by rw [hr 75 (by omega) (by omega)]) (by rw [hr 76 (by omega) (by omega)]) (by rw [hr 77 (by omega) (by omega)]) (by rw [hr 78 (by omega) (by omega)]) (fun k _ => by rw [hr (80 + t) (by omega) (by omega)]) (fun j _ _ => m141 j (by omega))
    · rw [m2 127 (by decide) (by decide) (by decide), m141 _ (by omega)]
      refine ⟨(k4 i hi).1, fun q hq => ?_⟩
      rw [m2 (129 + i) (by omega) (by omega) (by omega), m141 _ (by omega)]
      exact (k4 i hi).2 q hq
    · rw [m2 137 (by decide) (by decide) (by decide), m141 _ (by omega)]
      exact k5 i hi
theorem rS_settle {a b : jm} {o P : Nat} (ho : o + 12 < 140) (h : rS a b o 141 P) : rS (settleM a o P) (setR b P) o 141 P := by
  have h0 := h
  obtain ⟨s1, s2, s3, s4, s5, s6, s7, s8, s9, s10, s11, s12, s13, s14, s15⟩ := h
  have ri : ∀ i, i ≠ o + 6 → settleM a o P i = a i := fun i h1 => mfill_i' h1
  have rj : ∀ j, (∀ q, q < P → j ≠ 90 + 6 * q + 5) → setR b P 141 j = b 141 j := fun j hj => setR_j P hj
  refine rS_up h0 (fun i hi => ri i (by omega)) (by rw [ri o (by omega)]) (fun j hj => rj j (fun q hq => by omega)) (fun p hp => ?_) (fun p hp => ?_) ?_ (fun k hk => ?_) (fun j hj => ?_) (fun j hj => ?_) (fun j hj => ?_) ?_ ⟨fun p hp => ?_, fun j hj => ?_, fun j hj => ?_⟩
  · rw [ri (o + 1) (by omega), rj _ (fun q hq => by omega)]; exact ⟨(s5 p hp).1, (s6 p hp).1⟩
  · rw [setR_s P p hp]
    exact (mfill_lt hp).trans (aim_eq h0 hp)
  · rw [ri o (by omega), rj 1 (fun q hq => by omega)]; exact s4
  · rw [ri (o + 8) (by omega), rj _ (fun q hq => by omega)]; exact s7 k hk
  · rw [ri (o + 9) (by omega), ri (o + 10) (by omega), rj _ (fun q hq => by omega), rj _ (fun q hq => by omega)]
    exact ⟨(s8 j hj).1, (s8 j hj).2, s13.2 j hj⟩
  · rw [ri (o + 11) (by omega), rj _ (fun q hq => by omega)]; exact s9 j hj
  · rw [ri (o + 12) (by omega), rj _ (fun q hq => by omega)]; exact s10 j hj
  · rw [rj 4 (fun q hq => by omega)]; exact s15.1
  · rw [rj _ (fun q hq => by omega), setR_s P p hp]
    exact ⟨(s15.2.1 p hp).1, aim_in s1 s13 s15.2 hp⟩
  · rw [rj _ (fun q hq => by omega)]; exact s15.2.2.1 j hj
  · rw [rj _ (fun q hq => by omega)]; exact s15.2.2.2 j hj
theorem rS_mark {a b : jm} {o P : Nat} (ho : o + 12 < 140) (h : rS a b o 141 P) : rS (markM a o) (wasR b P 48) o 141 P := by
  have h0 := h
  obtain ⟨s1, s2, s3, s4, s5, s6, s7, s8, s9, s10, s11, s12, s13, s14, s15⟩ := h
  have ri : ∀ i, i ≠ o + 8 → markM a o i = a i := fun i h1 => mfill_i' h1
  have rj : ∀ j, j < 40 ∨ 88 ≤ j → wasR b P 48 141 j = b 141 j := fun j hj => wasR_j hj 48 (Nat.le_refl _)
  refine rS_up h0 (fun i hi => ri i (by omega)) (by rw [ri o (by omega)]) (fun j hj => rj j (by omega)) (fun p hp => ?_) (fun p hp => ?_) ?_ (fun k hk => ?_) (fun j hj => ?_) (fun j hj => ?_) (fun j hj => ?_) ?_ ⟨fun p hp => ?_, fun j hj => ?_, fun j hj => ?_⟩
  · rw [ri (o + 1) (by omega), rj _ (by omega)]; exact ⟨(s5 p hp).1, (s6 p hp).1⟩
  · rw [ri (o + 6) (by omega), rj _ (by omega)]; exact (s5 p hp).2.2.2.2.2
  · rw [ri o (by omega), rj 1 (by omega)]; exact s4
  · rw [wasR_w 48 k hk]
    exact (mfill_lt hk).trans (lit_eq h0 hk)
  · rw [ri (o + 9) (by omega), ri (o + 10) (by omega), rj _ (by omega), rj _ (by omega)]
    exact ⟨(s8 j hj).1, (s8 j hj).2, s13.2 j hj⟩
  · rw [ri (o + 11) (by omega), rj _ (by omega)]; exact s9 j hj
  · rw [ri (o + 12) (by omega), rj _ (by omega)]; exact s10 j hj
  · rw [rj 4 (by omega)]; exact s15.1
  · rw [rj _ (by omega), rj _ (by omega)]; exact s15.2.1 p hp
  · rw [rj _ (by omega)]; exact s15.2.2.1 j hj
  · rw [rj _ (by omega)]; exact s15.2.2.2 j hj
theorem q_rest {x : jX} {m : jm} {d k : Nat} (h : RelA m m k) : PrC x (d + 120) k eX7_rest eX8_rest [] m := by
  have hR := h
  obtain ⟨P, T, L, W, hS, hC, hT, hL, hW, hX, hP, hQ, hH, hK, hF⟩ := h
  have hS0 := hS
  have hC0 := hC
  obtain ⟨s1, s2, s3, s4, s5, s6, s7, s8, s9, s10, s11, s12, s13, s14, s15⟩ := hS
  obtain ⟨c1, c2, c3, c4, c5, c6, c7, c8, c9⟩ := hC
  generalize hF7 : (nI (cnt (chgS m 1) P), markM (settleM m 1 P) 1) = F7
  have hf1 : F7.1 = nI (cnt (chgS m 1) P) := by rw [← hF7]
  have hf2 : F7.2 = markM (settleM m 1 P) 1 := by rw [← hF7]
  have ri : ∀ i, i ≠ 7 → i ≠ 9 → F7.2 i = m i := fun i h1 h2 => by rw [hf2]; exact (mfill_i' h2).trans (mfill_i' h1)
  have e141 : F7.2 141 = m 141 := ri 141 (by decide) (by decide)
  refine pr_R2 (F := F7) (R := R_rest F7.2) (hF7 ▸ p_rest (d := d + 116) s2 s1 (at_ok hS0).2 s12) (m_rest (d := d + 116) (by rw [e141]; exact s3) s1 (fun p hp => by rw [e141]; exact (s6 p hp).2) ⟨fun p hp => by rw [e141]; exact s13.1 p hp, fun j hj => by rw [e141]; exact s13.2 j hj⟩) ?_
  have er : R_rest F7.2 = (nI (cnt (chR (mup F7.2 140 33 (nI 0))) P), wasR (setR (mup F7.2 140 33 (nI 0)) P) P 48) := by unfold R_rest; rw [e141, s3, tN_n (by omega)]
  rw [er, hf1]
  dsimp only
  have b141 : (mup F7.2 140 33 (nI 0)) 141 = m 141 := (mup_i' (by decide)).trans e141
  have hS1 : rS m (mup F7.2 140 33 (nI 0)) 1 141 P := rS_c hS0 (fun _ _ _ => rfl) (fun j _ => by rw [b141])
  refine ⟨congrArg nI (cnt_c P fun p hp => ?_), ?_⟩
  · unfold chR chgS
    rw [← aim_eq hS1 hp, b141, show m (1 + 6) p = _ from (s5 p hp).2.2.2.2.2]
  have hS2 := rS_mark (by decide) (rS_settle (by decide) hS1)
  generalize hM : wasR (setR (mup F7.2 140 33 (nI 0)) P) P 48 = M at hS2 ⊢
  have m1 : ∀ i, i ≠ 140 → i ≠ 141 → i ≠ 147 → i ≠ 148 → M i = F7.2 i := fun i h0 h1 h7 h8 => by
    rw [← hM, wasR_i h1 48, lit_141 h7 h8, setR_i h1 P, mup_i' h0]
  have m140 : ∀ j, j ≠ 33 → M 140 j = m 140 j := fun j hj => by
    rw [← hM, wasR_i (by decide) 48, lit_141 (by decide) (by decide), setR_i (by decide) P, mup_j hj, ri 140 (by decide) (by decide)]
  have m33 : M 140 33 = 0 := by
    rw [← hM, wasR_i (by decide) 48, lit_141 (by decide) (by decide), setR_i (by decide) P]
    exact mup_s
  have m141 : ∀ j, (6 ≤ j ∧ j ≤ 8) ∨ 380 ≤ j → M 141 j = m 141 j := fun j hj => by
    rw [← hM, wasR_j (by omega) 48 (Nat.le_refl _), setR_j P (fun q hq => by omega), b141]
  refine Rel_st (P' := P) hC0 hT hL hW hX hP hQ hH hK (fun i hi h => ?_) (fun j h1 h2 => ?_) (fun i hi => ?_) (fun j hj => m140 j (by omega)) m141 (Or.inl m33) ?_
  · have := kA_iff.mp hi
    rw [m1 i (by omega) (by omega) (by omega) (by omega), ri i (by omega) (by omega)]
  · rw [m1 1 (by decide) (by decide) (by decide) (by decide), ri 1 (by decide) (by decide)]
  · rw [m1 i (by omega) (by omega) (by omega) (by omega), ri i (by omega) (by omega)]
  · exact rS_c hS2 (fun i h1 h2 => by rw [m1 i (by omega) (by omega) (by omega) (by omega), hf2]) (fun j _ => rfl)
