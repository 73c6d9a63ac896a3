theorem bst_c {f g : Nat → Nat} : ∀ n, (∀ r, r < n → g r = f r) → bst g n = bst f n
  | 0, _ => rfl
  | n + 1, h => by rw [bst, bst, bst_c n (fun r hr => h r (by omega)), h n (by omega)]
theorem mup_sh {m b : jm} {x j : Nat} {v w : Int32} (hv : v = w) (h : m 114 j = b 141 (30 + j)) : mup m 114 x v 114 j = mup b 141 (30 + x) w 141 (30 + j) := by
  rw [hv]
  by_cases e : j = x
  · rw [e, mup_s, mup_s]
  · rw [mup_j e, mup_j (show ¬ 30 + j = 30 + x by omega)]; exact h
theorem nG_c {G : Nat} (h9 : G ≤ 999) : (nG G = 3 ∧ 99 < G ∧ chG G 0 = G / 100 ∧ chG G 1 = G / 10 % 10 ∧ chG G 2 = G % 10) ∨ (nG G = 2 ∧ ¬ 99 < G ∧ 9 < G ∧ chG G 0 = G / 10 % 10 ∧ chG G 1 = G % 10) ∨ (nG G = 1 ∧ ¬ 9 < G ∧ chG G 0 = G % 10) := by
  unfold nG chG
  by_cases a : 99 < G
  · left
    rw [if_pos a]
    simp only [if_pos a]
    exact ⟨trivial, a, by omega, trivial, trivial⟩
  · right
    by_cases b : 9 < G
    · left
      simp only [if_neg a, if_pos b]
      exact ⟨trivial, a, b, trivial, trivial⟩
    · right
      simp only [if_neg a, if_neg b]
      exact ⟨trivial, b, trivial⟩
theorem pt_eq {B b : jm} {G r j : Nat} (h9 : G ≤ 999) (hr : r < 1000) (h : B 114 j = b 141 (30 + j)) : ptM B G r (nG G) 114 j = pt3 b G r 141 (30 + j) := by
  have l0 : lf r 0 % 10 = r % 10 := rfl
  have l1 : lf r 1 % 10 = r / 10 % 10 := rfl
  have l2 : lf r 2 % 10 = r / 100 := by show r / 10 / 10 % 10 = r / 100; omega
  rcases nG_c h9 with ⟨n3, -, g0, g1, g2⟩ | ⟨n2, -, -, g0, g1⟩ | ⟨n1, -, g0⟩
  · rw [n3]
    show mup (mup (mup B 114 (chG G (nG G - 1 - 0)) (nI (lf r 0 % 10))) 114 (chG G (nG G - 1 - 1)) (nI (lf r 1 % 10))) 114 (chG G (nG G - 1 - 2)) (nI (lf r 2 % 10)) 114 j = _
    rw [n3, l0, l1, l2, show (3 - 1 - 0 : Nat) = 2 from rfl, show (3 - 1 - 1 : Nat) = 1 from rfl, show (3 - 1 - 2 : Nat) = 0 from rfl, g0, g1, g2]
    unfold pt3 pt2 pt1
    rw [n3, if_pos (by decide), if_pos (by decide)]
    exact mup_sh rfl (mup_sh rfl (mup_sh rfl h))
  · rw [n2]
    show mup (mup B 114 (chG G (nG G - 1 - 0)) (nI (lf r 0 % 10))) 114 (chG G (nG G - 1 - 1)) (nI (lf r 1 % 10)) 114 j = _
    rw [n2, l0, l1, show (2 - 1 - 0 : Nat) = 1 from rfl, show (2 - 1 - 1 : Nat) = 0 from rfl, g0, g1]
    unfold pt3 pt2 pt1
    rw [n2, if_neg (by decide), if_pos (by decide)]
    exact mup_sh rfl (mup_sh rfl h)
  · rw [n1]
    show mup B 114 (chG G (nG G - 1 - 0)) (nI (lf r 0 % 10)) 114 j = _
    rw [n1, l0, show (1 - 1 - 0 : Nat) = 0 from rfl, g0]
    unfold pt3 pt2 pt1
    rw [n1, if_neg (by decide), if_neg (by decide)]
    exact mup_sh rfl h
theorem pt3_in {b : jm} {G r j : Nat} (hr : r < 1000) (h : vp_in (b 141 j) 10) : vp_in (pt3 b G r 141 j) 10 := by
  have e1 : vp_in (pt1 b G r 141 j) 10 := by
    unfold pt1
    by_cases c : j = 30 + G % 10
    · rw [c, mup_s]; exact vp_in_nI (by omega) (by decide)
    · rw [mup_j c]; exact h
  have e2 : vp_in (pt2 b G r 141 j) 10 := by
    unfold pt2
    by_cases a : 1 < nG G
    · rw [if_pos a]
      by_cases c : j = 30 + G / 10 % 10
      · rw [c, mup_s]; exact vp_in_nI (by omega) (by decide)
      · rw [mup_j c]; exact e1
    · rw [if_neg a]; exact e1
  unfold pt3
  by_cases a : 2 < nG G
  · rw [if_pos a]
    by_cases c : j = 30 + G / 100
    · rw [c, mup_s]; exact vp_in_nI (by omega) (by decide)
    · rw [mup_j c]; exact e2
  · rw [if_neg a]; exact e2
theorem rS_pt {B b : jm} {G P r : Nat} (h : rS B b 103 141 P) (h9 : G ≤ 999) (hr : r < 1000) : rS (ptM B G r (nG G)) (pt3 b G r) 103 141 P := by
  have h0 := h
  obtain ⟨s1, s2, s3, s4, s5, s6, s7, s8, s9, s10, s11, s12, s13, s14, s15⟩ := h
  have ri : ∀ i, i ≠ 114 → ptM B G r (nG G) i = B i := fun i hi => ptM_i hi _
  have rj : ∀ j, j < 30 ∨ 40 ≤ j → pt3 b G r 141 j = b 141 j := fun j hj => pt3_o h9 hj
  exact rS_up h0 (fun i hi => ri i (by omega)) (by rw [ri 103 (by decide)]) (fun j hj => rj j (by omega)) (fun p hp => by rw [ri (103 + 1) (by decide), rj _ (by omega)]; exact ⟨(s5 p hp).1, (s6 p hp).1⟩) (fun p hp => by rw [ri (103 + 6) (by decide), rj _ (by omega)]; exact (s5 p hp).2.2.2.2.2) (by rw [ri 103 (by decide), rj 1 (by omega)]; exact s4) (fun j hj => by rw [ri (103 + 8) (by decide), rj _ (by omega)]; exact s7 j hj) (fun j hj => by rw [ri (103 + 9) (by decide), ri (103 + 10) (by decide), rj _ (by omega), rj _ (by omega)]; exact ⟨(s8 j hj).1, (s8 j hj).2, s13.2 j hj⟩) (fun j hj => pt_eq h9 hr (s9 j hj)) (fun j hj => by rw [ri (103 + 12) (by decide), rj _ (by omega)]; exact s10 j hj) (by rw [rj 4 (by omega)]; exact s15.1) ⟨fun p hp => by rw [rj _ (by omega), rj _ (by omega)]; exact s15.2.1 p hp, fun j hj => pt3_in hr (s15.2.2.1 j hj), fun j hj => by rw [rj _ (by omega)]; exact s15.2.2.2 j hj⟩
theorem rS_beg {m m1 : jm} {g P : Nat} (h : rS m m 1 141 P) (h1 : m1 141 = m 141) : rS (begB m g) m1 103 141 P := by
  have hS1 : rS m m1 1 141 P := rS_c h (fun _ _ _ => rfl) (fun j _ => by rw [h1])
  exact rS_c (rS_bec (b' := m1) (Or.inr (by decide)) hS1 (fun _ _ => rfl)) (fun i h1 h2 => mfill_i' (by omega)) (fun _ _ => rfl)
theorem rwh_eq {m m1 : jm} {g G P r p : Nat} (h : rS m m 1 141 P) (h1 : m1 141 = m 141) (h9 : G ≤ 999) (hr : r < 1000) (hp : p < 48) : rowL (begB m g) G P r p = LR m1 G P r p := by
  rw [rowL_eq hp]
  exact lit_eq (rS_settle (by decide) (rS_pt (rS_beg h h1) h9 hr)) hp
theorem beg_117 {m : jm} {g p : Nat} (hp : p < 48) : begB m g 117 p = shadeS m g p := mfill_lt hp
theorem beg_i {m : jm} {g i : Nat} (h : i < 103 ∨ 115 < i) (h2 : i ≠ 117) : begB m g i = m i := (mfill_i' h2).trans (bec_i (by omega))
theorem fM_eq {m m1 : jm} {g G P r : Nat} (h : rS m m 1 141 P) (hX : rX m m1) (h1 : m1 141 = m 141) (hg : g < 4) (h9 : G ≤ 999) (hr : r < 1000) : fM (begB m g) G P r = misF m1 g G P r := by
  unfold fM misF
  refine congrArg tN (sumV_c 48 fun p hp => ?_)
  unfold dfF
  rw [rwh_eq h h1 h9 hr hp, beg_117 hp, shd_eq hX hg hp, siz_abs]
theorem fS_eq {m m1 : jm} {g G P T r : Nat} (h : rS m m 1 141 P) (hX : rX m m1) (h1 : m1 141 = m 141) (h120 : ∀ p, p < 48 → m 120 p = 0) (hT14 : T ≤ 14) (hT : rT m m1 141 T) (hg : g < 4) (h9 : G ≤ 999) (hr : r < 1000) : fS (seeQ (begB m g) (bestV m 1 (nI 6) T)) (begB m g) G P r = hidF m1 g G P (cntR m1 (nI 6) T) r := by
  unfold fS hidF
  refine cnt_c 48 fun p hp => ?_
  have ht : m 1 13 = m1 141 1 := by rw [h1]; exact h.2.2.2.1
  have e115 : begB m g 115 2 = m1 141 4 := by
    rw [h1]
    have := (rS_beg (g := g) h (m1 := m) rfl).2.2.2.2.2.2.2.2.2.1 2 (by decide)
    exact this
  have hrow : ∀ q, q < 48 → rowL (begB m g) G P r q = LR m1 G P r q := fun q hq => rwh_eq h h1 h9 hr hq
  have htx : ∀ a1 a2 a3 a4, (if bestV m 1 (nI 6) T = NONEv then decide (nI 9 < a1) else decide (¬ textV (begB m g) (bestV m 1 (nI 6) T) a1 a2 a3 a4 = 0)) = sawF m1 (cntR m1 (nI 6) T) a1 a2 a3 a4 := fun a1 a2 a3 a4 => by
    rw [← saw_eq ht hT14 hT]
    rcases cntR_in m1 (nI 6) T hT14 with z | ⟨t, h2, z, -⟩
    · have e : bestV m 1 (nI 6) T = NONEv := by rw [best_eq ht T hT14 hT, z]; rfl
      rw [if_pos e, if_pos e]
    · have e : bestV m 1 (nI 6) T = nI t := by rw [best_eq ht T hT14 hT, z]; exact if_neg (nI_n0 (by omega))
      rw [e, if_neg (nI_NONE (by omega)), if_neg (nI_NONE (by omega)), textV_c (by rw [tN_n (by omega)]; exact beg_i (by omega) (by omega)) (beg_i (by decide) (by decide))]
  show seeQ (begB m g) (bestV m 1 (nI 6) T) p (rowL (begB m g) G P r p) (nI (edgN (rowL (begB m g) G P r) (begB m g 115 2) p)) = stlF m1 (cntR m1 (nI 6) T) (LR m1 G P r) (shdR m1 g) (m1 141 4) p
  unfold seeQ stlF
  rw [beg_117 hp, show begB m g 120 p = nI 0 from (congrFun (beg_i (by decide) (by decide)) p).trans (h120 p hp), hrow p hp, e115, edg_eq hp, edcF_c hp hrow, shd_eq hX hg hp, htx, siz_abs]
/-- a search of both -/
theorem Rel_h {m m1 m2 : jm} {k P T L W qq GG z : Nat} {F : Nat → Nat} (hS : rS m m 1 141 P) (hC : rC m m 1 141 T L W) (hT : rT m m 141 T) (hL : rL m m 141 L) (hW : rW m m 141 W) (hX : rX m m) (hP : rP m m) (hQ : rQ m m) (hK : rK m m T L W) (hF : fdOK m P T) (h120 : ∀ p, p < 48 → m 120 p = 0)
    (h1 : srF m m1) (h2 : m2 = m1 ∨ (qq < 4 ∧ GG ≤ 999 ∧ z < 2 ∧ F = fdF m1 z qq GG P T ∧ srP m1 qq GG z F m2)) : RelA m2 m2 (k + 1) := by
  obtain ⟨r1, r2⟩ := h1
  have a1 : ∀ i, (i < 102 ∧ i ≠ 94) ∨ i = 120 ∨ 125 < i → m1 i = m i := r1
  have b0 : ∀ i, i < 140 → m2 i = m1 i := fun i hi => by
    rcases h2 with e | ⟨-, -, -, -, e⟩
    · rw [e]
    · exact e.2.1 i (by simp; omega)
  have b1 : ∀ i, i = 141 ∨ i = 142 ∨ i = 144 ∨ i = 145 ∨ i = 146 ∨ i = 150 ∨ i = 157 → m2 i = m i := fun i hi => by
    have e1 : m1 i = m i := a1 i (by omega)
    rcases h2 with e | ⟨-, -, -, -, e⟩
    · rw [e, e1]
    · by_cases y : i = 141
      · rw [y, e.1, a1 141 (by omega)]
      · rw [e.2.1 i (by simp; omega), e1]
  have b140 : ∀ j, j < 28 ∨ 33 < j → m2 140 j = m 140 j := fun j hj => by
    rcases h2 with e | ⟨-, -, -, -, e⟩
    · rw [e, a1 140 (by omega)]
    · rw [e.2.2.1 j hj, a1 140 (by omega)]
  have A : ∀ i, (i ≤ 26 ∨ i = 41 ∨ i = 42 ∨ (44 ≤ i ∧ i ≤ 67) ∨ i = 70 ∨ i = 71 ∨ (75 ≤ i ∧ i ≤ 78) ∨ (80 ≤ i ∧ i ≤ 93) ∨ i = 120 ∨ i = 127 ∨ (129 ≤ i ∧ i ≤ 137) ∨ i = 139) → m2 i = m i := fun i hi => (b0 i (by omega)).trans (a1 i (by omega))
  refine ⟨P, T, L, W, rS_c hS (fun i h1 h2 => A i (by omega)) (fun j _ => by rw [b1 141 (by omega)]), rC_c hC (A 1 (by omega)) (fun j _ _ => by rw [b1 141 (by omega)]), rT_c hC.1 hT (fun i hi => A i (by omega)) (fun j _ _ => by rw [b1 141 (by omega)]), rL_c hC.2.2.2.1 hL (fun i hi => A i (by omega)) (fun j _ _ => by rw [b1 141 (by omega)]), rW_c hC.2.2.2.2.2.2.1 hW (A 137 (by omega)) (fun j _ _ => by rw [b1 141 (by omega)]),
    rX_c hX (fun i hi => A i (by omega)) (b1 144 (by omega)) (b1 145 (by omega)) (b1 146 (by omega)), rP_c hP (by rw [A 70 (by omega)]) (A 71 (by omega)) (b140 11 (by omega)) (b1 150 (by omega)), rQ_c hQ (by rw [A 0 (by omega)]) (A 139 (by omega)) (b140 35 (by omega)) (b1 157 (by omega)), ⟨fun i hi => by rw [b0 124 (by decide)]; exact r2 i hi, fun p hp => by rw [A 120 (by omega)]; exact h120 p hp⟩,
    rK_c hK (Nat.le_refl _) (Nat.le_refl _) (Nat.le_refl _) (by rw [A 0 (by omega)]) (b140 3 (by omega)) (fun i h1 h2 => A i (by omega)) (fun i hi t _ => by rw [A i (by omega)]) (fun t ht => A (80 + t) (by have := hC.1; omega)) (fun i hi => ⟨by rw [A 127 (by omega)], A (129 + i) (by have := hC.2.2.2.1; omega)⟩) (fun i hi => by rw [A 137 (by omega)]) (b1 142 (by omega)), ?_⟩
  rcases h2 with e | ⟨f1, f2, f3, f4, e⟩
  · exact fd_c hF ⟨fun i hi => b1 i hi, fun j hj => b140 j (by omega), Or.inr fun j _ _ => by rw [e, a1 140 (by omega)]⟩
  · obtain ⟨e1, e2, e3, e4, e5, e6, e7, e8, e9⟩ := e
    have ef : fdF m2 z qq GG P T = F := by rw [f4]; exact fdF_c e1 (e2 144 (by decide)) (e2 145 (by decide)) (e2 146 (by decide)) z qq GG P T
    exact Or.inr ⟨qq, GG, z, f1, f2, f3, e4, e5, e6, by rw [ef]; exact e7, by rw [ef]; exact e8⟩
theorem q_misses {x : jX} {m : jm} {d k : Nat} (h : RelA m m k) (hk : k < 1000) (g w wh : Int32) : PrC x (d + 120) k eX7_misses eX8_misses [.int g, .int w, .int wh] m := by
  have hR := h
  obtain ⟨P, T, L, W, hS, hC, hT, hL, hW, hX, hP, hQ, hH, hK, hF⟩ := h
  have hS0 := hS
  have hC0 := hC
  obtain ⟨s1, s2, s3, s4, s5, s6, s7, s8, s9, s10, s11, s12, s13, s14, s15⟩ := hS
  obtain ⟨c1, c2, c3, c4, c5, c6, c7, c8, c9⟩ := hC
  obtain ⟨z1, z2⟩ := hH
  have hwf : wfX m (bestV m 1 (nI 6) T) := wfX_best s4 c1 hT
  refine pr_mk (Q8 := fun _ m1 v' m2 => (m2 = m1 ∨ ∃ q GG, q < 4 ∧ okG (tN w) ∧ GG ≤ 999 ∧ srP m1 q GG 0 (misF m1 q GG P) m2) ∧ v' = if ¬ (nI 0 ≤ g ∧ g ≤ nI 3) then -1000000001 else if jbp (okW w) = 0 then -1000000001 else if ¬ (nI 0 ≤ wh ∧ wh ≤ nI 1) then -1000000001 else if wh = 0 then nI (bst (misF m1 (tN g) (tN w) P) (tot (tN w))).1 else nI (bst (misF m1 (tN g) (tN w) P) (tot (tN w))).2) (p_misses (d := d + 114) g w wh s2 s1 (at_ok hS0).1 s12 z1) (fun v m1 hq => ?_) (fun v m1 v' m2 hq hq' => ?_)
  · have hi : ∀ i, 140 ≤ i → m1 i = m i := fun i hi => hq.1.1 i (by omega)
    have e1 : m1 141 = m 141 := hi 141 (by decide)
    have hfd : fdOK m1 P T := fd_c hF (cB_lo hi)
    exact m_misses (d := d + 113) g w wh (by rw [e1]; exact s3) s1 (fun p hp => by rw [e1]; exact (s6 p hp).2) ⟨fun p hp => by rw [e1]; exact s13.1 p hp, fun j hj => by rw [e1]; exact s13.2 j hj⟩ hfd
  · obtain ⟨hsr, rfl⟩ := hq
    obtain ⟨hc, rfl⟩ := hq'
    have hi : ∀ i, 140 ≤ i → m1 i = m i := fun i hi => hsr.1 i (by omega)
    have e1 : m1 141 = m 141 := hi 141 (by decide)
    have hX1 : rX m m1 := rX_c hX (fun _ _ => rfl) (hi 144 (by decide)) (hi 145 (by decide)) (hi 146 (by decide))
    have hT1 : rT m m1 141 T := rT_c c1 hT (fun _ _ => rfl) (fun j _ _ => by rw [e1])
    refine ⟨?_, ?_⟩
    · by_cases y1 : nI 0 ≤ g ∧ g ≤ nI 3
      · rw [if_neg (Classical.not_not.mpr y1), if_neg (Classical.not_not.mpr y1)]
        by_cases y2 : okW w
        · have y2' : ¬ jbp (okW w) = 0 := by rw [← jbpT y2]; decide
          rw [if_neg y2', if_neg y2']
          obtain ⟨gg, hgg, hge⟩ := w_of y1 (by decide)
          obtain ⟨GG, hGG, hGe⟩ := w_of (w_in.mpr y2.1) (by decide)
          have htg : tN g = gg := by rw [hge]; exact tN_n (by omega)
          have htG : tN w = GG := by rw [hGe]; exact tN_n (by omega)
          have hb : bst (misF m1 (tN g) (tN w) P) (tot (tN w)) = misB m (tN g) (tN w) P := by
            rw [htg, htG]
            exact bst_c _ fun r hr => (fM_eq hS0 hX1 e1 (by omega) hGG (Nat.lt_of_lt_of_le hr (tot_le GG))).symm
          rw [hb]
        · have y2' : jbp (okW w) = 0 := (jbpF y2).symm
          rw [if_pos y2', if_pos y2']
      · rw [if_pos y1, if_pos y1]
    · rcases hc with e | ⟨qq, GG, f1, -, f3, f4⟩
      · exact Rel_h (qq := 0) (GG := 0) (z := 0) (F := fun _ => 0) hS0 hC0 hT hL hW hX hP hQ hK hF z2 hsr (Or.inl e)
      · exact Rel_h hS0 hC0 hT hL hW hX hP hQ hK hF z2 hsr (Or.inr ⟨f1, f3, by decide, (fdF_0 m1 qq GG P T).symm, f4⟩)
theorem q_hide {x : jX} {m : jm} {d k : Nat} (h : RelA m m k) (hk : k < 1000) (g w wh : Int32) : PrC x (d + 120) k eX7_hide eX8_hide [.int g, .int w, .int wh] m := by
  have hR := h
  obtain ⟨P, T, L, W, hS, hC, hT, hL, hW, hX, hP, hQ, hH, hK, hF⟩ := h
  have hS0 := hS
  have hC0 := hC
  obtain ⟨s1, s2, s3, s4, s5, s6, s7, s8, s9, s10, s11, s12, s13, s14, s15⟩ := hS
  obtain ⟨c1, c2, c3, c4, c5, c6, c7, c8, c9⟩ := hC
  obtain ⟨z1, z2⟩ := hH
  have hwf : wfX m (bestV m 1 (nI 6) T) := wfX_best s4 c1 hT
  refine pr_mk (Q8 := fun _ m1 v' m2 => (m2 = m1 ∨ ∃ q GG, q < 4 ∧ okG (tN w) ∧ GG ≤ 999 ∧ srP m1 q GG 1 (hidF m1 q GG P (cntR m1 (nI 6) T)) m2) ∧ v' = if ¬ (nI 0 ≤ g ∧ g ≤ nI 3) then -1000000001 else if jbp (okW w) = 0 then -1000000001 else if ¬ (nI 0 ≤ wh ∧ wh ≤ nI 1) then -1000000001 else if wh = 0 then nI (bst (hidF m1 (tN g) (tN w) P (cntR m1 (nI 6) T)) (tot (tN w))).1 else nI (bst (hidF m1 (tN g) (tN w) P (cntR m1 (nI 6) T)) (tot (tN w))).2) (p_hide (d := d + 114) g w wh s2 s1 (at_ok hS0).1 s12 z1 c2 c1 hwf) (fun v m1 hq => ?_) (fun v m1 v' m2 hq hq' => ?_)
  · have hi : ∀ i, 140 ≤ i → m1 i = m i := fun i hi => hq.1.1 i (by omega)
    have e1 : m1 141 = m 141 := hi 141 (by decide)
    have hfd : fdOK m1 P T := fd_c hF (cB_lo hi)
    exact m_hide (d := d + 113) g w wh (by rw [e1]; exact s3) s1 (fun p hp => by rw [e1]; exact (s6 p hp).2) ⟨fun p hp => by rw [e1]; exact s13.1 p hp, fun j hj => by rw [e1]; exact s13.2 j hj⟩ hfd (by rw [e1]; exact c3) c1 (fun t ht => sndT_c (fun j _ => by rw [e1]) (snd_eq hT ht))
  · obtain ⟨hsr, rfl⟩ := hq
    obtain ⟨hc, rfl⟩ := hq'
    have hi : ∀ i, 140 ≤ i → m1 i = m i := fun i hi => hsr.1 i (by omega)
    have e1 : m1 141 = m 141 := hi 141 (by decide)
    have hX1 : rX m m1 := rX_c hX (fun _ _ => rfl) (hi 144 (by decide)) (hi 145 (by decide)) (hi 146 (by decide))
    have hT1 : rT m m1 141 T := rT_c c1 hT (fun _ _ => rfl) (fun j _ _ => by rw [e1])
    refine ⟨?_, ?_⟩
    · by_cases y1 : nI 0 ≤ g ∧ g ≤ nI 3
      · rw [if_neg (Classical.not_not.mpr y1), if_neg (Classical.not_not.mpr y1)]
        by_cases y2 : okW w
        · have y2' : ¬ jbp (okW w) = 0 := by rw [← jbpT y2]; decide
          rw [if_neg y2', if_neg y2']
          obtain ⟨gg, hgg, hge⟩ := w_of y1 (by decide)
          obtain ⟨GG, hGG, hGe⟩ := w_of (w_in.mpr y2.1) (by decide)
          have htg : tN g = gg := by rw [hge]; exact tN_n (by omega)
          have htG : tN w = GG := by rw [hGe]; exact tN_n (by omega)
          have hb : bst (hidF m1 (tN g) (tN w) P (cntR m1 (nI 6) T)) (tot (tN w)) = hidB m (tN g) (tN w) P (bestV m 1 (nI 6) T) := by
            rw [htg, htG]
            exact bst_c _ fun r hr => (fS_eq hS0 hX1 e1 z2 c1 hT1 (by omega) hGG (Nat.lt_of_lt_of_le hr (tot_le GG))).symm
          rw [hb]
        · have y2' : jbp (okW w) = 0 := (jbpF y2).symm
          rw [if_pos y2', if_pos y2']
      · rw [if_pos y1, if_pos y1]
    · rcases hc with e | ⟨qq, GG, f1, -, f3, f4⟩
      · exact Rel_h (qq := 0) (GG := 0) (z := 0) (F := fun _ => 0) hS0 hC0 hT hL hW hX hP hQ hK hF z2 hsr (Or.inl e)
      · exact Rel_h hS0 hC0 hT hL hW hX hP hQ hK hF z2 hsr (Or.inr ⟨f1, f3, by decide, (fdF_1 m1 qq GG P T).symm, f4⟩)
