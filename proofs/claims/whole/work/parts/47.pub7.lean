/-- what a search leaves as it was -/
def srF (m m' : jm) : Prop := (∀ k, k < 102 ∧ k ≠ 94 ∨ k = 120 ∨ 125 < k → m' k = m k) ∧ ∀ i, i < 3 → m' 124 (i * 10) = 0
theorem srF_0 {m : jm} (hz : ∀ i, i < 3 → m 124 (i * 10) = 0) : srF m m := ⟨fun _ _ => rfl, hz⟩
theorem srF_c {m m' : jm} (hz : ∀ i, i < 3 → m 124 (i * 10) = 0) (h : agr m' m) : srF m m' :=
  ⟨fun k hk => h k (by omega) (by omega), fun i hi => by rw [h 124 (by decide) (by decide)]; exact hz i hi⟩
theorem srF_1 {m mc mb m' : jm} {g G : Nat} {f : Nat → Nat} {n : Nat} (hmc : agr mc m) (hI : sI f (srB mb (begB mc g)) G n m') (hz : ∀ i, i < 3 → mb 124 (i * 10) = 0) : srF m m' := by
  obtain ⟨-, ⟨q1, q2⟩, -, -⟩ := hI
  refine ⟨fun k hk => ?_, fun i hi => ?_⟩
  · rw [q1 k (by simp; omega), srB_0 (by omega) (by omega), begB_i (by omega) (by omega)]
    exact hmc k (by omega) (by omega)
  · rw [q1 124 (by decide), srB_1 (Or.inr rfl)]; exact hz i hi
theorem B_117 {m mc mb : jm} {g k : Nat} (hmc : agr mc m) (hg : g < 4) (hk : k ≠ 102 ∧ k ≠ 124 ∧ k ≠ 123) : srB mb (begB mc g) k = begB m g k := (srB_0 hk.1 hk.2.1).trans (agr_beg hmc hg k hk.1 hk.2.2)
/-- misses, hiding: the first of the least -/
def misB (m : jm) (g G P : Nat) : Nat × Nat := bst (fM (begB m g) G P) (tot G)
def hidB (m : jm) (g G P : Nat) (tx : Int32) : Nat × Nat := bst (fS (seeQ (begB m g) tx) (begB m g) G P) (tot G)
set_option maxRecDepth 100000 in
set_option maxHeartbeats 400000 in
theorem p_hide {x : jX} {m : jm} {d : Nat} (g w wh : Int32) {P T : Nat} (hP : m 1 0 = nI P) (h48 : P ≤ 48) (hat : wfAtP m 1 P) (hw : wfPt m 1) (hz : ∀ i, i < 3 → m 124 (i * 10) = 0) (hT : m 1 14 = nI T) (hT14 : T ≤ 14) (hX : wfX m (bestV m 1 (nI 6) T)) : Ct x (d + 6) eX7_hide [.ref (jxb x + 0), .int g, .int w, .int wh] m (ji fun rv m' => srF m m' ∧ rv = if ¬ (nI 0 ≤ g ∧ g ≤ nI 3) then -1000000001 else if jbp (okW w) = 0 then -1000000001 else if ¬ (nI 0 ≤ wh ∧ wh ≤ nI 1) then -1000000001 else if wh = 0 then nI (hidB m (tN g) (tN w) P (bestV m 1 (nI 6) T)).1 else nI (hidB m (tN g) (tN w) P (bestV m 1 (nI 6) T)).2) := by
  refine J_start (by decide +kernel) (Nat.le_of_ble_eq_true rfl) (ls := [some (.ref (jxb x + 0)), some (.int g), some (.int w), some (.int wh)]) rfl rfl ?_
  refine J_iload_n (pc := 0) dX7_hide_0 rfl ?_
  refine K_callSp (pc := 1) (As := [_]) dX7_hide_1 kl_X7_213 rfl rfl (Nat.le_of_ble_eq_true rfl) (c_isGround g) ?_
  refine Jb_eq (pc := 4) (tgt := 27) dX7_hide_4 (by decide) (fun h4 => ?_) (fun h4 => ?_)
  · 
    refine J_ldc (pc := 27) dX7_hide_27 kc_X7_80 ?_
    refine K_iret (pc := 29) dX7_hide_29 rfl ⟨_, rfl, ?_⟩
    exact ⟨srF_0 hz, (if_pos h4).symm⟩
  · 
    refine J_aload_n (pc := 7) dX7_hide_7 rfl ?_
    refine K_getR (pc := 8) dX7_hide_8 kf_X7_53 job_0 jrf_0_7 ?_
    refine J_iload_n (pc := 11) dX7_hide_11 rfl ?_
    refine K_callVi (pc := 12) (id := 102) (As := [_]) dX7_hide_12 kl_X7_280 rfl job_102 rfl rfl (Nat.le_of_ble_eq_true rfl) (c_choose (m := m) w) (fun v12 m12 h12 => ?_)
    obtain ⟨rfl, c1, c2, c3⟩ := h12
    have hmc : agr m12 m := c1
    refine Jp_eq (pc := 15) (tgt := 27) dX7_hide_15 (by decide) (fun h15 => ?_) (fun h15 => ?_)
    · 
      refine J_ldc (pc := 27) dX7_hide_27 kc_X7_80 ?_
      refine K_iret (pc := 29) dX7_hide_29 rfl ⟨_, rfl, ?_⟩
      exact ⟨srF_c hz c1, ((if_neg (Classical.not_not.mpr h4)).trans (if_pos (jbpF h15).symm)).symm⟩
    · 
      have hk15 : ¬ jbp (okW w) = 0 := fun q => by have := (jbpT h15).trans q; exact absurd this (by decide)
      refine J_iload_n (pc := 18) dX7_hide_18 rfl ?_
      refine J_iconst (pc := 19) dX7_hide_19 kni_0 ?_
      refine J_iconst (pc := 20) dX7_hide_20 kni_1 ?_
      refine K_callSp (pc := 21) (As := [_, _, _]) dX7_hide_21 kl_X7_76 rfl rfl (Nat.le_of_ble_eq_true rfl) (c_within _ _ _) ?_
      refine Jb_ne (pc := 24) (tgt := 30) dX7_hide_24 (by decide) (fun h24 => ?_) (fun h24 => ?_)
      · 
        obtain ⟨q, hq, hqe⟩ := w_of h4 (by decide)
        have htq : tN g = q := by rw [hqe]; exact tN_n (by omega)
        subst hqe
        refine J_aload_n (pc := 30) dX7_hide_30 rfl ?_
        refine K_getR (pc := 31) dX7_hide_31 kf_X7_53 job_0 jrf_0_7 ?_
        refine J_aload_n (pc := 34) dX7_hide_34 rfl ?_
        refine K_getR (pc := 35) dX7_hide_35 kf_X7_10 job_0 jrf_0_0 ?_
        refine J_aload_n (pc := 38) dX7_hide_38 rfl ?_
        refine K_getR (pc := 39) dX7_hide_39 kf_X7_25 job_0 jrf_0_3 ?_
        refine J_iload_n (pc := 42) dX7_hide_42 rfl ?_
        refine K_callVv (pc := 43) (id := 102) (As := [_, _, _]) dX7_hide_43 kl_X7_283 rfl job_102 rfl rfl (Nat.le_of_ble_eq_true rfl) (c_begin (x := x) (d := d + 1) (m := m12) (g := q) (G := tN w) (P := P) (by omega) (c3 h15) h15.2 (wfPt_c (c1 6 (by decide) (by decide)) (c1 10 (by decide) (by decide)) hw) (by rw [c1 1 (by decide) (by decide)]; exact hP) h48 (fun i hi => by rw [c1 124 (by decide) (by decide)]; exact hz i hi)) (fun m43 h43 => ?_)
        have hb : bgP m m12 m43 q (tN w) P := h43
        obtain ⟨B1, B2, B3, B4, B5, B6, B7, B8⟩ := srch_B hmc (by omega) hb hw hat hP h48 h15.2
        have e7 : ∀ k, k < 102 ∨ 125 ≤ k → m43 k = m k := fun k hk => (hb.2.1 k (by omega) (by omega) (by omega) (by omega)).trans ((begB_i (by omega) (by omega)).trans (c1 k (by omega) (by omega)))
        have hI0 : sI (fS (seeQ (srB m43 (begB m12 q)) (bestV m 1 (nI 6) T)) (srB m43 (begB m12 q)) (tN w) P) (srB m43 (begB m12 q)) (tN w) 0 m43 := ⟨B6, B7, hb.2.2.2.1, hb.2.2.2.2.1⟩
        have hff : bst (fS (seeQ (srB m43 (begB m12 q)) (bestV m 1 (nI 6) T)) (srB m43 (begB m12 q)) (tN w) P) (tot (tN w)) = (hidB m q (tN w) P (bestV m 1 (nI 6) T)) := by
          refine congrArg (fun f => bst f (tot (tN w))) (funext fun r => ?_)
          have hq4 : q < 4 := by omega
          unfold fS
          rw [B_117 hmc hq4 (by decide)]
          refine (fS_c (B8 r)).trans (cnt_c 48 fun p hp => ?_)
          unfold allQ
          exact seeQ_c (wfX_80 hX) (fun k hk => B_117 hmc hq4 (by omega)) p _ _
        refine J_aload_n (pc := 46) dX7_hide_46 rfl ?_
        refine K_getR (pc := 47) dX7_hide_47 kf_X7_53 job_0 jrf_0_7 ?_
        refine J_aload_n (pc := 50) dX7_hide_50 rfl ?_
        refine K_getR (pc := 51) dX7_hide_51 kf_X7_39 job_0 jrf_0_5 ?_
        refine J_aload_n (pc := 54) dX7_hide_54 rfl ?_
        refine K_getR (pc := 55) dX7_hide_55 kf_X7_39 job_0 jrf_0_5 ?_
        refine J_bipush (pc := 58) dX7_hide_58 knb_6 ?_
        refine J_aload_n (pc := 60) dX7_hide_60 rfl ?_
        refine K_getR (pc := 61) dX7_hide_61 kf_X7_10 job_0 jrf_0_0 ?_
        refine K_callVp (pc := 64) (id := 74) (As := [_, _]) dX7_hide_64 kl_X7_246 rfl job_74 rfl rfl (Nat.le_of_ble_eq_true rfl) (c_counting (m := m43) (o := 1) (T := T) (Or.inl rfl) (by rw [e7 1 (by decide)]; exact hT) hT14 (nI 6)) ?_
        refine J_top (b := (bestV m 1 (nI 6) T)) (bestV_c (e7 75 (by decide)) (e7 76 (by decide)) (by rw [e7 1 (by decide)]) T) ?_
        refine K_callVv (pc := 67) (id := 102) (As := [_, _]) dX7_hide_67 kl_X7_287 rfl job_102 rfl rfl (Nat.le_of_ble_eq_true rfl) (c_seek (x := x) (d := d) (m := m43) (B := (srB m43 (begB m12 q))) (G := tN w) (P := P) (tx := (bestV m 1 (nI 6) T)) (sq := seeQ (srB m43 (begB m12 q)) (bestV m 1 (nI 6) T)) hI0 B1 h15.2 B2 B3 B4 h48 B5 (wfX_c (by rw [srB_0 (by decide) (by decide), begB_i (by decide) (by decide)]; exact c1 78 (by decide) (by decide)) (fun t ht => by rw [srB_0 (by omega) (by omega), begB_i (by omega) (by omega)]; exact c1 _ (by omega) (by omega)) hX) (fun p _ l e => rfl)) (fun mE hE => ?_)
        obtain ⟨hI, -⟩ := hE
        refine J_iload_n (pc := 70) dX7_hide_70 rfl ?_
        refine J_if_ne (pc := 71) (tgt := 84) dX7_hide_71 (by decide) (fun h71 => ?_) (fun h71 => ?_)
        · 
          refine J_aload_n (pc := 84) dX7_hide_84 rfl ?_
          refine K_getR (pc := 85) dX7_hide_85 kf_X7_53 job_0 jrf_0_7 ?_
          refine K_getI (pc := 88) dX7_hide_88 kf_X7_294 job_102 jrf_102_7 ?_
          refine J_top (b := (nI (hidB m q (tN w) P (bestV m 1 (nI 6) T)).2)) (by rw [← hff]; exact hI.2.2.2) ?_
          refine K_iret (pc := 91) dX7_hide_91 rfl ⟨_, rfl, ?_⟩
          refine ⟨srF_1 hmc hI hb.2.2.1.1, ?_⟩
          rw [if_neg (Classical.not_not.mpr h4), if_neg hk15, if_neg (Classical.not_not.mpr h24), if_neg h71, htq]
        · 
          refine J_aload_n (pc := 74) dX7_hide_74 rfl ?_
          refine K_getR (pc := 75) dX7_hide_75 kf_X7_53 job_0 jrf_0_7 ?_
          refine K_getI (pc := 78) dX7_hide_78 kf_X7_291 job_102 jrf_102_6 ?_
          refine J_top (b := (nI (hidB m q (tN w) P (bestV m 1 (nI 6) T)).1)) (by rw [← hff]; exact hI.2.2.1) ?_
          refine J_goto (pc := 81) (tgt := 91) dX7_hide_81 (by decide) ?_
          refine K_iret (pc := 91) dX7_hide_91 rfl ⟨_, rfl, ?_⟩
          refine ⟨srF_1 hmc hI hb.2.2.1.1, ?_⟩
          rw [if_neg (Classical.not_not.mpr h4), if_neg hk15, if_neg (Classical.not_not.mpr h24), if_pos h71, htq]
      · 
        refine J_ldc (pc := 27) dX7_hide_27 kc_X7_80 ?_
        refine K_iret (pc := 29) dX7_hide_29 rfl ⟨_, rfl, ?_⟩
        exact ⟨srF_c hz c1, ((if_neg (Classical.not_not.mpr h4)).trans ((if_neg hk15).trans (if_pos h24))).symm⟩
set_option maxRecDepth 100000 in
set_option maxHeartbeats 400000 in
theorem p_misses {x : jX} {m : jm} {d : Nat} (g w wh : Int32) {P : Nat} (hP : m 1 0 = nI P) (h48 : P ≤ 48) (hat : wfAtP m 1 P) (hw : wfPt m 1) (hz : ∀ i, i < 3 → m 124 (i * 10) = 0) : Ct x (d + 6) eX7_misses [.ref (jxb x + 0), .int g, .int w, .int wh] m (ji fun rv m' => srF m m' ∧ rv = if ¬ (nI 0 ≤ g ∧ g ≤ nI 3) then -1000000001 else if jbp (okW w) = 0 then -1000000001 else if ¬ (nI 0 ≤ wh ∧ wh ≤ nI 1) then -1000000001 else if wh = 0 then nI (misB m (tN g) (tN w) P).1 else nI (misB m (tN g) (tN w) P).2) := by
  refine J_start (by decide +kernel) (Nat.le_of_ble_eq_true rfl) (ls := [some (.ref (jxb x + 0)), some (.int g), some (.int w), some (.int wh)]) rfl rfl ?_
  refine J_iload_n (pc := 0) dX7_misses_0 rfl ?_
  refine K_callSp (pc := 1) (As := [_]) dX7_misses_1 kl_X7_213 rfl rfl (Nat.le_of_ble_eq_true rfl) (c_isGround g) ?_
  refine Jb_eq (pc := 4) (tgt := 27) dX7_misses_4 (by decide) (fun h4 => ?_) (fun h4 => ?_)
  · 
    refine J_ldc (pc := 27) dX7_misses_27 kc_X7_80 ?_
    refine K_iret (pc := 29) dX7_misses_29 rfl ⟨_, rfl, ?_⟩
    exact ⟨srF_0 hz, (if_pos h4).symm⟩
  · 
    refine J_aload_n (pc := 7) dX7_misses_7 rfl ?_
    refine K_getR (pc := 8) dX7_misses_8 kf_X7_53 job_0 jrf_0_7 ?_
    refine J_iload_n (pc := 11) dX7_misses_11 rfl ?_
    refine K_callVi (pc := 12) (id := 102) (As := [_]) dX7_misses_12 kl_X7_280 rfl job_102 rfl rfl (Nat.le_of_ble_eq_true rfl) (c_choose (m := m) w) (fun v12 m12 h12 => ?_)
    obtain ⟨rfl, c1, c2, c3⟩ := h12
    have hmc : agr m12 m := c1
    refine Jp_eq (pc := 15) (tgt := 27) dX7_misses_15 (by decide) (fun h15 => ?_) (fun h15 => ?_)
    · 
      refine J_ldc (pc := 27) dX7_misses_27 kc_X7_80 ?_
      refine K_iret (pc := 29) dX7_misses_29 rfl ⟨_, rfl, ?_⟩
      exact ⟨srF_c hz c1, ((if_neg (Classical.not_not.mpr h4)).trans (if_pos (jbpF h15).symm)).symm⟩
    · 
      have hk15 : ¬ jbp (okW w) = 0 := fun q => by have := (jbpT h15).trans q; exact absurd this (by decide)
      refine J_iload_n (pc := 18) dX7_misses_18 rfl ?_
      refine J_iconst (pc := 19) dX7_misses_19 kni_0 ?_
      refine J_iconst (pc := 20) dX7_misses_20 kni_1 ?_
      refine K_callSp (pc := 21) (As := [_, _, _]) dX7_misses_21 kl_X7_76 rfl rfl (Nat.le_of_ble_eq_true rfl) (c_within _ _ _) ?_
      refine Jb_ne (pc := 24) (tgt := 30) dX7_misses_24 (by decide) (fun h24 => ?_) (fun h24 => ?_)
      · 
        obtain ⟨q, hq, hqe⟩ := w_of h4 (by decide)
        have htq : tN g = q := by rw [hqe]; exact tN_n (by omega)
        subst hqe
        refine J_aload_n (pc := 30) dX7_misses_30 rfl ?_
        refine K_getR (pc := 31) dX7_misses_31 kf_X7_53 job_0 jrf_0_7 ?_
        refine J_aload_n (pc := 34) dX7_misses_34 rfl ?_
        refine K_getR (pc := 35) dX7_misses_35 kf_X7_10 job_0 jrf_0_0 ?_
        refine J_aload_n (pc := 38) dX7_misses_38 rfl ?_
        refine K_getR (pc := 39) dX7_misses_39 kf_X7_25 job_0 jrf_0_3 ?_
        refine J_iload_n (pc := 42) dX7_misses_42 rfl ?_
        refine K_callVv (pc := 43) (id := 102) (As := [_, _, _]) dX7_misses_43 kl_X7_283 rfl job_102 rfl rfl (Nat.le_of_ble_eq_true rfl) (c_begin (x := x) (d := d + 1) (m := m12) (g := q) (G := tN w) (P := P) (by omega) (c3 h15) h15.2 (wfPt_c (c1 6 (by decide) (by decide)) (c1 10 (by decide) (by decide)) hw) (by rw [c1 1 (by decide) (by decide)]; exact hP) h48 (fun i hi => by rw [c1 124 (by decide) (by decide)]; exact hz i hi)) (fun m43 h43 => ?_)
        have hb : bgP m m12 m43 q (tN w) P := h43
        obtain ⟨B1, B2, B3, B4, B5, B6, B7, B8⟩ := srch_B hmc (by omega) hb hw hat hP h48 h15.2
        have e7 : ∀ k, k < 102 ∨ 125 ≤ k → m43 k = m k := fun k hk => (hb.2.1 k (by omega) (by omega) (by omega) (by omega)).trans ((begB_i (by omega) (by omega)).trans (c1 k (by omega) (by omega)))
        have hI0 : sI (fM (srB m43 (begB m12 q)) (tN w) P) (srB m43 (begB m12 q)) (tN w) 0 m43 := ⟨B6, B7, hb.2.2.2.1, hb.2.2.2.2.1⟩
        have hff : bst (fM (srB m43 (begB m12 q)) (tN w) P) (tot (tN w)) = (misB m q (tN w) P) := by
          refine congrArg (fun f => bst f (tot (tN w))) (funext fun r => ?_)
          have hq4 : q < 4 := by omega
          unfold fM
          rw [B_117 hmc hq4 (by decide)]
          exact congrArg tN (fM_c (B8 r))
        refine J_aload_n (pc := 46) dX7_misses_46 rfl ?_
        refine K_getR (pc := 47) dX7_misses_47 kf_X7_53 job_0 jrf_0_7 ?_
        refine K_callVv (pc := 50) (id := 102) (As := []) dX7_misses_50 kl_X7_297 rfl job_102 rfl rfl (Nat.le_of_ble_eq_true rfl) (c_match (x := x) (d := d) (m := m43) (B := (srB m43 (begB m12 q))) (G := tN w) (P := P) hI0 B1 h15.2 B2 B3 B4 h48 B5 (fun p hp => by rw [B_117 hmc (by omega) (by decide), show begB m q 117 p = shadeS m q p from mfill_lt hp]; exact shade_in m q p)) (fun mE hE => ?_)
        obtain ⟨hI, -⟩ := hE
        refine J_iload_n (pc := 53) dX7_misses_53 rfl ?_
        refine J_if_ne (pc := 54) (tgt := 67) dX7_misses_54 (by decide) (fun h54 => ?_) (fun h54 => ?_)
        · 
          refine J_aload_n (pc := 67) dX7_misses_67 rfl ?_
          refine K_getR (pc := 68) dX7_misses_68 kf_X7_53 job_0 jrf_0_7 ?_
          refine K_getI (pc := 71) dX7_misses_71 kf_X7_294 job_102 jrf_102_7 ?_
          refine J_top (b := (nI (misB m q (tN w) P).2)) (by rw [← hff]; exact hI.2.2.2) ?_
          refine K_iret (pc := 74) dX7_misses_74 rfl ⟨_, rfl, ?_⟩
          refine ⟨srF_1 hmc hI hb.2.2.1.1, ?_⟩
          rw [if_neg (Classical.not_not.mpr h4), if_neg hk15, if_neg (Classical.not_not.mpr h24), if_neg h54, htq]
        · 
          refine J_aload_n (pc := 57) dX7_misses_57 rfl ?_
          refine K_getR (pc := 58) dX7_misses_58 kf_X7_53 job_0 jrf_0_7 ?_
          refine K_getI (pc := 61) dX7_misses_61 kf_X7_291 job_102 jrf_102_6 ?_
          refine J_top (b := (nI (misB m q (tN w) P).1)) (by rw [← hff]; exact hI.2.2.1) ?_
          refine J_goto (pc := 64) (tgt := 74) dX7_misses_64 (by decide) ?_
          refine K_iret (pc := 74) dX7_misses_74 rfl ⟨_, rfl, ?_⟩
          refine ⟨srF_1 hmc hI hb.2.2.1.1, ?_⟩
          rw [if_neg (Classical.not_not.mpr h4), if_neg hk15, if_neg (Classical.not_not.mpr h24), if_pos h54, htq]
      · 
        refine J_ldc (pc := 27) dX7_misses_27 kc_X7_80 ?_
        refine K_iret (pc := 29) dX7_misses_29 rfl ⟨_, rfl, ?_⟩
        exact ⟨srF_c hz c1, ((if_neg (Classical.not_not.mpr h4)).trans ((if_neg hk15).trans (if_pos h24))).symm⟩
