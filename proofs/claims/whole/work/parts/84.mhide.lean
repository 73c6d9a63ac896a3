theorem tgN_le (v : Int32) : tgN v ≤ 3 := by
  unfold tgN
  by_cases h : okW v
  · rw [if_pos h]; exact (nG_3 _).2
  · rw [if_neg h]; omega
def fdF (m : jm) (h g G P T : Nat) : Nat → Nat := if h = 1 then hidF m g G P (cntR m (nI 6) T) else misF m g G P
theorem fdF_0 (m : jm) (g G P T : Nat) : fdF m 0 g G P T = misF m g G P := if_neg (by decide)
theorem fdF_1 (m : jm) (g G P T : Nat) : fdF m 1 g G P T = hidF m g G P (cntR m (nI 6) T) := if_pos rfl
/-- what is said to be found is what a search would find -/
def fdOK (m : jm) (P T : Nat) : Prop := m 140 33 = 0 ∨ ∃ g G h, g < 4 ∧ G ≤ 999 ∧ h < 2 ∧ m 140 28 = nI g ∧ m 140 29 = nI G ∧ m 140 30 = nI h ∧ m 140 31 = nI (bst (fdF m h g G P T) (tot G)).1 ∧ m 140 32 = nI (bst (fdF m h g G P T) (tot G)).2
theorem fdOK_y {m : jm} {P T g G h : Nat} (H : fdOK m P T) (h0 : ¬ m 140 33 = 0) (h9 : G ≤ 999) (hg : g < 4) (h2 : h < 2) (e1 : m 140 28 = nI g) (e2 : m 140 29 = nI G) (e3 : m 140 30 = nI h) : m 140 31 = nI (bst (fdF m h g G P T) (tot G)).1 ∧ m 140 32 = nI (bst (fdF m h g G P T) (tot G)).2 := by
  obtain ⟨g', G', h', q1, q2, q3, q4, q5, q6, q7, q8⟩ := H.resolve_left h0
  have a1 : g' = g := (nI_eq (by omega) (by omega)).mp (q4.symm.trans e1)
  have a2 : G' = G := (nI_eq (by omega) (by omega)).mp (q5.symm.trans e2)
  have a3 : h' = h := (nI_eq (by omega) (by omega)).mp (q6.symm.trans e3)
  subst a1 a2 a3
  exact ⟨q7, q8⟩
set_option maxRecDepth 100000 in
set_option maxHeartbeats 400000 in
theorem m_leastBy0 {x : jX} {m : jm} {d : Nat} {P g G T : Nat} (hg : g < 4) (hok : okG G) (h9 : G ≤ 999) (hP : m 141 0 = nI P) (h48 : P ≤ 48) (hplc : ∀ p, p < P → vp_in (m 141 (90 + 6 * p + 1)) 48) (hw : wfR m 141) (hfd : fdOK m P T) (wh : Int32) : Ct x (d + 6) eX8_leastBy [.ref (jxb x + 140), .int (nI g), .int (nI G), .int (nI 0), .int wh] m (ji fun rv m' => rv = (if wh = 0 then nI (bst (misF m g G P) (tot G)).1 else nI (bst (misF m g G P) (tot G)).2) ∧ (m' = m ∨ srP m g G 0 (misF m g G P) m')) := by
  refine J_start (by decide +kernel) (Nat.le_of_ble_eq_true rfl) (ls := [some (.ref (jxb x + 140)), some (.int (nI g)), some (.int (nI G)), some (.int (nI 0)), some (.int wh), none]) rfl rfl ?_
  refine J_aload_n (pc := 0) dX8_leastBy_0 rfl ?_
  refine K_getI (pc := 1) dX8_leastBy_1 kf_X8_67 job_140 jrf_140_33 ?_
  refine J_if_eq (pc := 4) (tgt := 35) dX8_leastBy_4 (by decide) (fun h4 => ?_) (fun h4 => ?_)
  · 
    refine J_iconst (pc := 35) dX8_leastBy_35 kni_0 ?_
    refine J_istore (pc := 36) (ls' := [some _, some _, some _, some _, some _, some _]) dX8_leastBy_36 rfl (Nat.le_of_ble_eq_true rfl) rfl ?_
    refine J_iload (pc := 38) dX8_leastBy_38 rfl ?_
    refine Jn_if_ne (pc := 40) (tgt := 50) dX8_leastBy_40 (by decide) (by omega) (fun h40 => absurd h40 (by omega)) (fun h40 => ?_)
    refine J_aload_n (pc := 43) dX8_leastBy_43 rfl ?_
    refine J_iload_n (pc := 44) dX8_leastBy_44 rfl ?_
    refine J_iload_n (pc := 45) dX8_leastBy_45 rfl ?_
    refine J_iload_n (pc := 46) dX8_leastBy_46 rfl ?_
    refine K_callVv (pc := 47) (id := 140) (As := [_, _, _]) dX8_leastBy_47 kl_X8_328 rfl job_140 rfl rfl (Nat.le_of_ble_eq_true rfl) (m_search0 (m := m) hg hok h9 hP h48 hplc hw) (fun m47 h47 => ?_)
    refine J_iload (pc := 50) dX8_leastBy_50 rfl ?_
    refine J_if_ne (pc := 52) (tgt := 62) dX8_leastBy_52 (by decide) (fun h52 => ?_) (fun h52 => ?_)
    · 
      refine J_aload_n (pc := 62) dX8_leastBy_62 rfl ?_
      refine K_getI (pc := 63) dX8_leastBy_63 kf_X8_335 job_140 jrf_140_32 ?_
      refine J_top (b := (nI (bst (misF m g G P) (tot G)).2)) (h47.2.2.2.2.2.2.2.1) ?_
      refine K_iret (pc := 66) dX8_leastBy_66 rfl ⟨_, rfl, ?_⟩
      exact ⟨(if_neg h52).symm, Or.inr h47⟩
    · 
      refine J_aload_n (pc := 55) dX8_leastBy_55 rfl ?_
      refine K_getI (pc := 56) dX8_leastBy_56 kf_X8_332 job_140 jrf_140_31 ?_
      refine J_top (b := (nI (bst (misF m g G P) (tot G)).1)) (h47.2.2.2.2.2.2.1) ?_
      refine J_goto (pc := 59) (tgt := 66) dX8_leastBy_59 (by decide) ?_
      refine K_iret (pc := 66) dX8_leastBy_66 rfl ⟨_, rfl, ?_⟩
      exact ⟨(if_pos h52).symm, Or.inr h47⟩
  · 
    refine J_aload_n (pc := 7) dX8_leastBy_7 rfl ?_
    refine K_getI (pc := 8) dX8_leastBy_8 kf_X8_319 job_140 jrf_140_28 ?_
    refine J_iload_n (pc := 11) dX8_leastBy_11 rfl ?_
    refine J_icmp_ne (pc := 12) (tgt := 35) dX8_leastBy_12 (by decide) (fun h12 => ?_) (fun h12 => ?_)
    · 
      refine J_iconst (pc := 35) dX8_leastBy_35 kni_0 ?_
      refine J_istore (pc := 36) (ls' := [some _, some _, some _, some _, some _, some _]) dX8_leastBy_36 rfl (Nat.le_of_ble_eq_true rfl) rfl ?_
      refine J_iload (pc := 38) dX8_leastBy_38 rfl ?_
      refine Jn_if_ne (pc := 40) (tgt := 50) dX8_leastBy_40 (by decide) (by omega) (fun h40 => absurd h40 (by omega)) (fun h40 => ?_)
      refine J_aload_n (pc := 43) dX8_leastBy_43 rfl ?_
      refine J_iload_n (pc := 44) dX8_leastBy_44 rfl ?_
      refine J_iload_n (pc := 45) dX8_leastBy_45 rfl ?_
      refine J_iload_n (pc := 46) dX8_leastBy_46 rfl ?_
      refine K_callVv (pc := 47) (id := 140) (As := [_, _, _]) dX8_leastBy_47 kl_X8_328 rfl job_140 rfl rfl (Nat.le_of_ble_eq_true rfl) (m_search0 (m := m) hg hok h9 hP h48 hplc hw) (fun m47 h47 => ?_)
      refine J_iload (pc := 50) dX8_leastBy_50 rfl ?_
      refine J_if_ne (pc := 52) (tgt := 62) dX8_leastBy_52 (by decide) (fun h52 => ?_) (fun h52 => ?_)
      · 
        refine J_aload_n (pc := 62) dX8_leastBy_62 rfl ?_
        refine K_getI (pc := 63) dX8_leastBy_63 kf_X8_335 job_140 jrf_140_32 ?_
        refine J_top (b := (nI (bst (misF m g G P) (tot G)).2)) (h47.2.2.2.2.2.2.2.1) ?_
        refine K_iret (pc := 66) dX8_leastBy_66 rfl ⟨_, rfl, ?_⟩
        exact ⟨(if_neg h52).symm, Or.inr h47⟩
      · 
        refine J_aload_n (pc := 55) dX8_leastBy_55 rfl ?_
        refine K_getI (pc := 56) dX8_leastBy_56 kf_X8_332 job_140 jrf_140_31 ?_
        refine J_top (b := (nI (bst (misF m g G P) (tot G)).1)) (h47.2.2.2.2.2.2.1) ?_
        refine J_goto (pc := 59) (tgt := 66) dX8_leastBy_59 (by decide) ?_
        refine K_iret (pc := 66) dX8_leastBy_66 rfl ⟨_, rfl, ?_⟩
        exact ⟨(if_pos h52).symm, Or.inr h47⟩
    · 
      refine J_aload_n (pc := 15) dX8_leastBy_15 rfl ?_
      refine K_getI (pc := 16) dX8_leastBy_16 kf_X8_322 job_140 jrf_140_29 ?_
      refine J_iload_n (pc := 19) dX8_leastBy_19 rfl ?_
      refine J_icmp_ne (pc := 20) (tgt := 35) dX8_leastBy_20 (by decide) (fun h20 => ?_) (fun h20 => ?_)
      · 
        refine J_iconst (pc := 35) dX8_leastBy_35 kni_0 ?_
        refine J_istore (pc := 36) (ls' := [some _, some _, some _, some _, some _, some _]) dX8_leastBy_36 rfl (Nat.le_of_ble_eq_true rfl) rfl ?_
        refine J_iload (pc := 38) dX8_leastBy_38 rfl ?_
        refine Jn_if_ne (pc := 40) (tgt := 50) dX8_leastBy_40 (by decide) (by omega) (fun h40 => absurd h40 (by omega)) (fun h40 => ?_)
        refine J_aload_n (pc := 43) dX8_leastBy_43 rfl ?_
        refine J_iload_n (pc := 44) dX8_leastBy_44 rfl ?_
        refine J_iload_n (pc := 45) dX8_leastBy_45 rfl ?_
        refine J_iload_n (pc := 46) dX8_leastBy_46 rfl ?_
        refine K_callVv (pc := 47) (id := 140) (As := [_, _, _]) dX8_leastBy_47 kl_X8_328 rfl job_140 rfl rfl (Nat.le_of_ble_eq_true rfl) (m_search0 (m := m) hg hok h9 hP h48 hplc hw) (fun m47 h47 => ?_)
        refine J_iload (pc := 50) dX8_leastBy_50 rfl ?_
        refine J_if_ne (pc := 52) (tgt := 62) dX8_leastBy_52 (by decide) (fun h52 => ?_) (fun h52 => ?_)
        · 
          refine J_aload_n (pc := 62) dX8_leastBy_62 rfl ?_
          refine K_getI (pc := 63) dX8_leastBy_63 kf_X8_335 job_140 jrf_140_32 ?_
          refine J_top (b := (nI (bst (misF m g G P) (tot G)).2)) (h47.2.2.2.2.2.2.2.1) ?_
          refine K_iret (pc := 66) dX8_leastBy_66 rfl ⟨_, rfl, ?_⟩
          exact ⟨(if_neg h52).symm, Or.inr h47⟩
        · 
          refine J_aload_n (pc := 55) dX8_leastBy_55 rfl ?_
          refine K_getI (pc := 56) dX8_leastBy_56 kf_X8_332 job_140 jrf_140_31 ?_
          refine J_top (b := (nI (bst (misF m g G P) (tot G)).1)) (h47.2.2.2.2.2.2.1) ?_
          refine J_goto (pc := 59) (tgt := 66) dX8_leastBy_59 (by decide) ?_
          refine K_iret (pc := 66) dX8_leastBy_66 rfl ⟨_, rfl, ?_⟩
          exact ⟨(if_pos h52).symm, Or.inr h47⟩
      · 
        refine J_aload_n (pc := 23) dX8_leastBy_23 rfl ?_
        refine K_getI (pc := 24) dX8_leastBy_24 kf_X8_325 job_140 jrf_140_30 ?_
        refine J_iload_n (pc := 27) dX8_leastBy_27 rfl ?_
        refine J_icmp_ne (pc := 28) (tgt := 35) dX8_leastBy_28 (by decide) (fun h28 => ?_) (fun h28 => ?_)
        · 
          refine J_iconst (pc := 35) dX8_leastBy_35 kni_0 ?_
          refine J_istore (pc := 36) (ls' := [some _, some _, some _, some _, some _, some _]) dX8_leastBy_36 rfl (Nat.le_of_ble_eq_true rfl) rfl ?_
          refine J_iload (pc := 38) dX8_leastBy_38 rfl ?_
          refine Jn_if_ne (pc := 40) (tgt := 50) dX8_leastBy_40 (by decide) (by omega) (fun h40 => absurd h40 (by omega)) (fun h40 => ?_)
          refine J_aload_n (pc := 43) dX8_leastBy_43 rfl ?_
          refine J_iload_n (pc := 44) dX8_leastBy_44 rfl ?_
          refine J_iload_n (pc := 45) dX8_leastBy_45 rfl ?_
          refine J_iload_n (pc := 46) dX8_leastBy_46 rfl ?_
          refine K_callVv (pc := 47) (id := 140) (As := [_, _, _]) dX8_leastBy_47 kl_X8_328 rfl job_140 rfl rfl (Nat.le_of_ble_eq_true rfl) (m_search0 (m := m) hg hok h9 hP h48 hplc hw) (fun m47 h47 => ?_)
          refine J_iload (pc := 50) dX8_leastBy_50 rfl ?_
          refine J_if_ne (pc := 52) (tgt := 62) dX8_leastBy_52 (by decide) (fun h52 => ?_) (fun h52 => ?_)
          · 
            refine J_aload_n (pc := 62) dX8_leastBy_62 rfl ?_
            refine K_getI (pc := 63) dX8_leastBy_63 kf_X8_335 job_140 jrf_140_32 ?_
            refine J_top (b := (nI (bst (misF m g G P) (tot G)).2)) (h47.2.2.2.2.2.2.2.1) ?_
            refine K_iret (pc := 66) dX8_leastBy_66 rfl ⟨_, rfl, ?_⟩
            exact ⟨(if_neg h52).symm, Or.inr h47⟩
          · 
            refine J_aload_n (pc := 55) dX8_leastBy_55 rfl ?_
            refine K_getI (pc := 56) dX8_leastBy_56 kf_X8_332 job_140 jrf_140_31 ?_
            refine J_top (b := (nI (bst (misF m g G P) (tot G)).1)) (h47.2.2.2.2.2.2.1) ?_
            refine J_goto (pc := 59) (tgt := 66) dX8_leastBy_59 (by decide) ?_
            refine K_iret (pc := 66) dX8_leastBy_66 rfl ⟨_, rfl, ?_⟩
            exact ⟨(if_pos h52).symm, Or.inr h47⟩
        · 
          have hfnd := fdOK_y hfd h4 h9 hg (by decide) h12 h20 h28
          rw [fdF_0] at hfnd
          refine J_iconst (pc := 31) dX8_leastBy_31 kni_1 ?_
          refine J_goto (pc := 32) (tgt := 36) dX8_leastBy_32 (by decide) ?_
          refine J_istore (pc := 36) (ls' := [some _, some _, some _, some _, some _, some _]) dX8_leastBy_36 rfl (Nat.le_of_ble_eq_true rfl) rfl ?_
          refine J_iload (pc := 38) dX8_leastBy_38 rfl ?_
          refine Jn_if_ne (pc := 40) (tgt := 50) dX8_leastBy_40 (by decide) (by omega) (fun h40 => ?_) (fun h40 => absurd h40 (by omega))
          refine J_iload (pc := 50) dX8_leastBy_50 rfl ?_
          refine J_if_ne (pc := 52) (tgt := 62) dX8_leastBy_52 (by decide) (fun h52 => ?_) (fun h52 => ?_)
          · 
            refine J_aload_n (pc := 62) dX8_leastBy_62 rfl ?_
            refine K_getI (pc := 63) dX8_leastBy_63 kf_X8_335 job_140 jrf_140_32 ?_
            refine J_top (b := (nI (bst (misF m g G P) (tot G)).2)) (hfnd.2) ?_
            refine K_iret (pc := 66) dX8_leastBy_66 rfl ⟨_, rfl, ?_⟩
            exact ⟨(if_neg h52).symm, Or.inl rfl⟩
          · 
            refine J_aload_n (pc := 55) dX8_leastBy_55 rfl ?_
            refine K_getI (pc := 56) dX8_leastBy_56 kf_X8_332 job_140 jrf_140_31 ?_
            refine J_top (b := (nI (bst (misF m g G P) (tot G)).1)) (hfnd.1) ?_
            refine J_goto (pc := 59) (tgt := 66) dX8_leastBy_59 (by decide) ?_
            refine K_iret (pc := 66) dX8_leastBy_66 rfl ⟨_, rfl, ?_⟩
            exact ⟨(if_pos h52).symm, Or.inl rfl⟩
set_option maxRecDepth 100000 in
set_option maxHeartbeats 400000 in
theorem m_misses {x : jX} {m : jm} {d : Nat} (g w wh : Int32) {P T : Nat} (hP : m 141 0 = nI P) (h48 : P ≤ 48) (hplc : ∀ p, p < P → vp_in (m 141 (90 + 6 * p + 1)) 48) (hw : wfR m 141) (hfd : fdOK m P T) : Ct x (d + 7) eX8_misses [.ref (jxb x + 140), .int g, .int w, .int wh] m (ji fun rv m' => (m' = m ∨ ∃ q G, q < 4 ∧ okG (tN w) ∧ G ≤ 999 ∧ srP m q G 0 (misF m q G P) m') ∧ rv = if ¬ (nI 0 ≤ g ∧ g ≤ nI 3) then -1000000001 else if jbp (okW w) = 0 then -1000000001 else if ¬ (nI 0 ≤ wh ∧ wh ≤ nI 1) then -1000000001 else if wh = 0 then nI (bst (misF m (tN g) (tN w) P) (tot (tN w))).1 else nI (bst (misF m (tN g) (tN w) P) (tot (tN w))).2) := by
  refine J_start (by decide +kernel) (Nat.le_of_ble_eq_true rfl) (ls := [some (.ref (jxb x + 140)), some (.int g), some (.int w), some (.int wh)]) rfl rfl ?_
  refine J_iload_n (pc := 0) dX8_misses_0 rfl ?_
  refine K_callSp (pc := 1) (As := [_]) dX8_misses_1 kl_X8_168 rfl rfl (Nat.le_of_ble_eq_true rfl) (m_isGround g) ?_
  refine Jb_eq (pc := 4) (tgt := 35) dX8_misses_4 (by decide) (fun h4 => ?_) (fun h4 => ?_)
  · 
    refine J_ldc (pc := 35) dX8_misses_35 kc_X8_91 ?_
    refine K_iret (pc := 37) dX8_misses_37 rfl ⟨_, rfl, ?_⟩
    exact ⟨Or.inl rfl, (if_pos h4).symm⟩
  · 
    refine J_iload_n (pc := 7) dX8_misses_7 rfl ?_
    refine K_callSp (pc := 8) (As := [_]) dX8_misses_8 kl_X8_338 rfl rfl (Nat.le_of_ble_eq_true rfl) (m_toldGroups w) ?_
    refine Jn_if_le (pc := 11) (tgt := 35) dX8_misses_11 (by decide) (by have := tgN_le w; omega) (fun h11 => ?_) (fun h11 => ?_)
    · 
      refine J_ldc (pc := 35) dX8_misses_35 kc_X8_91 ?_
      refine K_iret (pc := 37) dX8_misses_37 rfl ⟨_, rfl, ?_⟩
      exact ⟨Or.inl rfl, ((if_neg (Classical.not_not.mpr h4)).trans (if_pos (jbpF (tgN_0.mp (by omega))).symm)).symm⟩
    · 
      have hok : okW w := Classical.byContradiction fun z => by
        have := tgN_0.mpr z
        omega
      refine J_iload_n (pc := 14) dX8_misses_14 rfl ?_
      refine J_i2l (pc := 15) dX8_misses_15 ?_
      refine J_lconst (pc := 16) (v := 0) dX8_misses_16 rfl ?_
      refine J_lconst (pc := 17) (v := 1) dX8_misses_17 rfl ?_
      refine K_callSp (pc := 18) (As := [_, _, _]) dX8_misses_18 kl_X8_71 rfl rfl (Nat.le_of_ble_eq_true rfl) (m_in32 (v := wh) (a := nI 0) (b := nI 1) (by decide) (by decide)) ?_
      refine Jb_eq (pc := 21) (tgt := 35) dX8_misses_21 (by decide) (fun h21 => ?_) (fun h21 => ?_)
      · 
        refine J_ldc (pc := 35) dX8_misses_35 kc_X8_91 ?_
        refine K_iret (pc := 37) dX8_misses_37 rfl ⟨_, rfl, ?_⟩
        exact ⟨Or.inl rfl, ((if_neg (Classical.not_not.mpr h4)).trans ((if_neg (by rw [← jbpT hok]; decide)).trans (if_pos h21))).symm⟩
      · 
        obtain ⟨q, hq, hqe⟩ := w_of h4 (by decide)
        have htq : tN g = q := by rw [hqe]; exact tN_n (by omega)
        subst hqe
        have hok : okW w := Classical.byContradiction fun z => by
          have := tgN_0.mpr z
          omega
        obtain ⟨G, hG, hGe⟩ := w_of (w_in.mpr hok.1) (by decide)
        have htG : tN w = G := by rw [hGe]; exact tN_n (by omega)
        subst hGe
        have hokG : okG G := by have z := hok.2; rw [htG] at z; exact z
        refine J_aload_n (pc := 24) dX8_misses_24 rfl ?_
        refine J_iload_n (pc := 25) dX8_misses_25 rfl ?_
        refine J_iload_n (pc := 26) dX8_misses_26 rfl ?_
        refine J_iconst (pc := 27) dX8_misses_27 kni_0 ?_
        refine J_iload_n (pc := 28) dX8_misses_28 rfl ?_
        refine K_callVi (pc := 29) (id := 140) (As := [_, _, _, _]) dX8_misses_29 kl_X8_344 rfl job_140 rfl rfl (Nat.le_of_ble_eq_true rfl) (m_leastBy0 (m := m) (g := q) (G := G) (T := T) (by omega) hokG hG hP h48 hplc hw hfd wh) (fun v29 m29 h29 => ?_)
        refine J_goto (pc := 32) (tgt := 37) dX8_misses_32 (by decide) ?_
        refine K_iret (pc := 37) dX8_misses_37 rfl ⟨_, rfl, ?_⟩
        rw [htq, htG]
        obtain ⟨q1, q2⟩ := h29
        refine ⟨q2.imp_right (fun z => ⟨q, G, by omega, hokG, hG, z⟩), ?_⟩
        rw [q1]
        exact ((if_neg (Classical.not_not.mpr h4)).trans ((if_neg (by rw [← jbpT hok]; decide)).trans (if_neg (Classical.not_not.mpr h21)))).symm
set_option maxRecDepth 100000 in
set_option maxHeartbeats 400000 in
theorem m_leastBy1 {x : jX} {m : jm} {d : Nat} {P g G T : Nat} (hg : g < 4) (hok : okG G) (h9 : G ≤ 999) (hP : m 141 0 = nI P) (h48 : P ≤ 48) (hplc : ∀ p, p < P → vp_in (m 141 (90 + 6 * p + 1)) 48) (hw : wfR m 141) (hfd : fdOK m P T) (hT : m 141 6 = nI T) (hT14 : T ≤ 14) (hS : ∀ t, t < T → sndT m t) (wh : Int32) : Ct x (d + 6) eX8_leastBy [.ref (jxb x + 140), .int (nI g), .int (nI G), .int (nI 1), .int wh] m (ji fun rv m' => rv = (if wh = 0 then nI (bst (hidF m g G P (cntR m (nI 6) T)) (tot G)).1 else nI (bst (hidF m g G P (cntR m (nI 6) T)) (tot G)).2) ∧ (m' = m ∨ srP m g G 1 (hidF m g G P (cntR m (nI 6) T)) m')) := by
  refine J_start (by decide +kernel) (Nat.le_of_ble_eq_true rfl) (ls := [some (.ref (jxb x + 140)), some (.int (nI g)), some (.int (nI G)), some (.int (nI 1)), some (.int wh), none]) rfl rfl ?_
  refine J_aload_n (pc := 0) dX8_leastBy_0 rfl ?_
  refine K_getI (pc := 1) dX8_leastBy_1 kf_X8_67 job_140 jrf_140_33 ?_
  refine J_if_eq (pc := 4) (tgt := 35) dX8_leastBy_4 (by decide) (fun h4 => ?_) (fun h4 => ?_)
  · 
    refine J_iconst (pc := 35) dX8_leastBy_35 kni_0 ?_
    refine J_istore (pc := 36) (ls' := [some _, some _, some _, some _, some _, some _]) dX8_leastBy_36 rfl (Nat.le_of_ble_eq_true rfl) rfl ?_
    refine J_iload (pc := 38) dX8_leastBy_38 rfl ?_
    refine Jn_if_ne (pc := 40) (tgt := 50) dX8_leastBy_40 (by decide) (by omega) (fun h40 => absurd h40 (by omega)) (fun h40 => ?_)
    refine J_aload_n (pc := 43) dX8_leastBy_43 rfl ?_
    refine J_iload_n (pc := 44) dX8_leastBy_44 rfl ?_
    refine J_iload_n (pc := 45) dX8_leastBy_45 rfl ?_
    refine J_iload_n (pc := 46) dX8_leastBy_46 rfl ?_
    refine K_callVv (pc := 47) (id := 140) (As := [_, _, _]) dX8_leastBy_47 kl_X8_328 rfl job_140 rfl rfl (Nat.le_of_ble_eq_true rfl) (m_search1 (m := m) hg hok h9 hP h48 hplc hw hT hT14 hS) (fun m47 h47 => ?_)
    refine J_iload (pc := 50) dX8_leastBy_50 rfl ?_
    refine J_if_ne (pc := 52) (tgt := 62) dX8_leastBy_52 (by decide) (fun h52 => ?_) (fun h52 => ?_)
    · 
      refine J_aload_n (pc := 62) dX8_leastBy_62 rfl ?_
      refine K_getI (pc := 63) dX8_leastBy_63 kf_X8_335 job_140 jrf_140_32 ?_
      refine J_top (b := (nI (bst (hidF m g G P (cntR m (nI 6) T)) (tot G)).2)) (h47.2.2.2.2.2.2.2.1) ?_
      refine K_iret (pc := 66) dX8_leastBy_66 rfl ⟨_, rfl, ?_⟩
      exact ⟨(if_neg h52).symm, Or.inr h47⟩
    · 
      refine J_aload_n (pc := 55) dX8_leastBy_55 rfl ?_
      refine K_getI (pc := 56) dX8_leastBy_56 kf_X8_332 job_140 jrf_140_31 ?_
      refine J_top (b := (nI (bst (hidF m g G P (cntR m (nI 6) T)) (tot G)).1)) (h47.2.2.2.2.2.2.1) ?_
      refine J_goto (pc := 59) (tgt := 66) dX8_leastBy_59 (by decide) ?_
      refine K_iret (pc := 66) dX8_leastBy_66 rfl ⟨_, rfl, ?_⟩
      exact ⟨(if_pos h52).symm, Or.inr h47⟩
  · 
    refine J_aload_n (pc := 7) dX8_leastBy_7 rfl ?_
    refine K_getI (pc := 8) dX8_leastBy_8 kf_X8_319 job_140 jrf_140_28 ?_
    refine J_iload_n (pc := 11) dX8_leastBy_11 rfl ?_
    refine J_icmp_ne (pc := 12) (tgt := 35) dX8_leastBy_12 (by decide) (fun h12 => ?_) (fun h12 => ?_)
    · 
      refine J_iconst (pc := 35) dX8_leastBy_35 kni_0 ?_
      refine J_istore (pc := 36) (ls' := [some _, some _, some _, some _, some _, some _]) dX8_leastBy_36 rfl (Nat.le_of_ble_eq_true rfl) rfl ?_
      refine J_iload (pc := 38) dX8_leastBy_38 rfl ?_
      refine Jn_if_ne (pc := 40) (tgt := 50) dX8_leastBy_40 (by decide) (by omega) (fun h40 => absurd h40 (by omega)) (fun h40 => ?_)
      refine J_aload_n (pc := 43) dX8_leastBy_43 rfl ?_
      refine J_iload_n (pc := 44) dX8_leastBy_44 rfl ?_
      refine J_iload_n (pc := 45) dX8_leastBy_45 rfl ?_
      refine J_iload_n (pc := 46) dX8_leastBy_46 rfl ?_
      refine K_callVv (pc := 47) (id := 140) (As := [_, _, _]) dX8_leastBy_47 kl_X8_328 rfl job_140 rfl rfl (Nat.le_of_ble_eq_true rfl) (m_search1 (m := m) hg hok h9 hP h48 hplc hw hT hT14 hS) (fun m47 h47 => ?_)
      refine J_iload (pc := 50) dX8_leastBy_50 rfl ?_
      refine J_if_ne (pc := 52) (tgt := 62) dX8_leastBy_52 (by decide) (fun h52 => ?_) (fun h52 => ?_)
      · 
        refine J_aload_n (pc := 62) dX8_leastBy_62 rfl ?_
        refine K_getI (pc := 63) dX8_leastBy_63 kf_X8_335 job_140 jrf_140_32 ?_
        refine J_top (b := (nI (bst (hidF m g G P (cntR m (nI 6) T)) (tot G)).2)) (h47.2.2.2.2.2.2.2.1) ?_
        refine K_iret (pc := 66) dX8_leastBy_66 rfl ⟨_, rfl, ?_⟩
        exact ⟨(if_neg h52).symm, Or.inr h47⟩
      · 
        refine J_aload_n (pc := 55) dX8_leastBy_55 rfl ?_
        refine K_getI (pc := 56) dX8_leastBy_56 kf_X8_332 job_140 jrf_140_31 ?_
        refine J_top (b := (nI (bst (hidF m g G P (cntR m (nI 6) T)) (tot G)).1)) (h47.2.2.2.2.2.2.1) ?_
        refine J_goto (pc := 59) (tgt := 66) dX8_leastBy_59 (by decide) ?_
        refine K_iret (pc := 66) dX8_leastBy_66 rfl ⟨_, rfl, ?_⟩
        exact ⟨(if_pos h52).symm, Or.inr h47⟩
    · 
      refine J_aload_n (pc := 15) dX8_leastBy_15 rfl ?_
      refine K_getI (pc := 16) dX8_leastBy_16 kf_X8_322 job_140 jrf_140_29 ?_
      refine J_iload_n (pc := 19) dX8_leastBy_19 rfl ?_
      refine J_icmp_ne (pc := 20) (tgt := 35) dX8_leastBy_20 (by decide) (fun h20 => ?_) (fun h20 => ?_)
      · 
        refine J_iconst (pc := 35) dX8_leastBy_35 kni_0 ?_
        refine J_istore (pc := 36) (ls' := [some _, some _, some _, some _, some _, some _]) dX8_leastBy_36 rfl (Nat.le_of_ble_eq_true rfl) rfl ?_
        refine J_iload (pc := 38) dX8_leastBy_38 rfl ?_
        refine Jn_if_ne (pc := 40) (tgt := 50) dX8_leastBy_40 (by decide) (by omega) (fun h40 => absurd h40 (by omega)) (fun h40 => ?_)
        refine J_aload_n (pc := 43) dX8_leastBy_43 rfl ?_
        refine J_iload_n (pc := 44) dX8_leastBy_44 rfl ?_
        refine J_iload_n (pc := 45) dX8_leastBy_45 rfl ?_
        refine J_iload_n (pc := 46) dX8_leastBy_46 rfl ?_
        refine K_callVv (pc := 47) (id := 140) (As := [_, _, _]) dX8_leastBy_47 kl_X8_328 rfl job_140 rfl rfl (Nat.le_of_ble_eq_true rfl) (m_search1 (m := m) hg hok h9 hP h48 hplc hw hT hT14 hS) (fun m47 h47 => ?_)
        refine J_iload (pc := 50) dX8_leastBy_50 rfl ?_
        refine J_if_ne (pc := 52) (tgt := 62) dX8_leastBy_52 (by decide) (fun h52 => ?_) (fun h52 => ?_)
        · 
          refine J_aload_n (pc := 62) dX8_leastBy_62 rfl ?_
          refine K_getI (pc := 63) dX8_leastBy_63 kf_X8_335 job_140 jrf_140_32 ?_
          refine J_top (b := (nI (bst (hidF m g G P (cntR m (nI 6) T)) (tot G)).2)) (h47.2.2.2.2.2.2.2.1) ?_
          refine K_iret (pc := 66) dX8_leastBy_66 rfl ⟨_, rfl, ?_⟩
          exact ⟨(if_neg h52).symm, Or.inr h47⟩
        · 
          refine J_aload_n (pc := 55) dX8_leastBy_55 rfl ?_
          refine K_getI (pc := 56) dX8_leastBy_56 kf_X8_332 job_140 jrf_140_31 ?_
          refine J_top (b := (nI (bst (hidF m g G P (cntR m (nI 6) T)) (tot G)).1)) (h47.2.2.2.2.2.2.1) ?_
          refine J_goto (pc := 59) (tgt := 66) dX8_leastBy_59 (by decide) ?_
          refine K_iret (pc := 66) dX8_leastBy_66 rfl ⟨_, rfl, ?_⟩
          exact ⟨(if_pos h52).symm, Or.inr h47⟩
      · 
        refine J_aload_n (pc := 23) dX8_leastBy_23 rfl ?_
        refine K_getI (pc := 24) dX8_leastBy_24 kf_X8_325 job_140 jrf_140_30 ?_
        refine J_iload_n (pc := 27) dX8_leastBy_27 rfl ?_
        refine J_icmp_ne (pc := 28) (tgt := 35) dX8_leastBy_28 (by decide) (fun h28 => ?_) (fun h28 => ?_)
        · 
          refine J_iconst (pc := 35) dX8_leastBy_35 kni_0 ?_
          refine J_istore (pc := 36) (ls' := [some _, some _, some _, some _, some _, some _]) dX8_leastBy_36 rfl (Nat.le_of_ble_eq_true rfl) rfl ?_
          refine J_iload (pc := 38) dX8_leastBy_38 rfl ?_
          refine Jn_if_ne (pc := 40) (tgt := 50) dX8_leastBy_40 (by decide) (by omega) (fun h40 => absurd h40 (by omega)) (fun h40 => ?_)
          refine J_aload_n (pc := 43) dX8_leastBy_43 rfl ?_
          refine J_iload_n (pc := 44) dX8_leastBy_44 rfl ?_
          refine J_iload_n (pc := 45) dX8_leastBy_45 rfl ?_
          refine J_iload_n (pc := 46) dX8_leastBy_46 rfl ?_
          refine K_callVv (pc := 47) (id := 140) (As := [_, _, _]) dX8_leastBy_47 kl_X8_328 rfl job_140 rfl rfl (Nat.le_of_ble_eq_true rfl) (m_search1 (m := m) hg hok h9 hP h48 hplc hw hT hT14 hS) (fun m47 h47 => ?_)
          refine J_iload (pc := 50) dX8_leastBy_50 rfl ?_
          refine J_if_ne (pc := 52) (tgt := 62) dX8_leastBy_52 (by decide) (fun h52 => ?_) (fun h52 => ?_)
          · 
            refine J_aload_n (pc := 62) dX8_leastBy_62 rfl ?_
            refine K_getI (pc := 63) dX8_leastBy_63 kf_X8_335 job_140 jrf_140_32 ?_
            refine J_top (b := (nI (bst (hidF m g G P (cntR m (nI 6) T)) (tot G)).2)) (h47.2.2.2.2.2.2.2.1) ?_
            refine K_iret (pc := 66) dX8_leastBy_66 rfl ⟨_, rfl, ?_⟩
            exact ⟨(if_neg h52).symm, Or.inr h47⟩
          · 
            refine J_aload_n (pc := 55) dX8_leastBy_55 rfl ?_
            refine K_getI (pc := 56) dX8_leastBy_56 kf_X8_332 job_140 jrf_140_31 ?_
            refine J_top (b := (nI (bst (hidF m g G P (cntR m (nI 6) T)) (tot G)).1)) (h47.2.2.2.2.2.2.1) ?_
            refine J_goto (pc := 59) (tgt := 66) dX8_leastBy_59 (by decide) ?_
            refine K_iret (pc := 66) dX8_leastBy_66 rfl ⟨_, rfl, ?_⟩
            exact ⟨(if_pos h52).symm, Or.inr h47⟩
        · 
          have hfnd := fdOK_y hfd h4 h9 hg (by decide) h12 h20 h28
          rw [fdF_1] at hfnd
          refine J_iconst (pc := 31) dX8_leastBy_31 kni_1 ?_
          refine J_goto (pc := 32) (tgt := 36) dX8_leastBy_32 (by decide) ?_
          refine J_istore (pc := 36) (ls' := [some _, some _, some _, some _, some _, some _]) dX8_leastBy_36 rfl (Nat.le_of_ble_eq_true rfl) rfl ?_
          refine J_iload (pc := 38) dX8_leastBy_38 rfl ?_
          refine Jn_if_ne (pc := 40) (tgt := 50) dX8_leastBy_40 (by decide) (by omega) (fun h40 => ?_) (fun h40 => absurd h40 (by omega))
          refine J_iload (pc := 50) dX8_leastBy_50 rfl ?_
          refine J_if_ne (pc := 52) (tgt := 62) dX8_leastBy_52 (by decide) (fun h52 => ?_) (fun h52 => ?_)
          · 
            refine J_aload_n (pc := 62) dX8_leastBy_62 rfl ?_
            refine K_getI (pc := 63) dX8_leastBy_63 kf_X8_335 job_140 jrf_140_32 ?_
            refine J_top (b := (nI (bst (hidF m g G P (cntR m (nI 6) T)) (tot G)).2)) (hfnd.2) ?_
            refine K_iret (pc := 66) dX8_leastBy_66 rfl ⟨_, rfl, ?_⟩
            exact ⟨(if_neg h52).symm, Or.inl rfl⟩
          · 
            refine J_aload_n (pc := 55) dX8_leastBy_55 rfl ?_
            refine K_getI (pc := 56) dX8_leastBy_56 kf_X8_332 job_140 jrf_140_31 ?_
            refine J_top (b := (nI (bst (hidF m g G P (cntR m (nI 6) T)) (tot G)).1)) (hfnd.1) ?_
            refine J_goto (pc := 59) (tgt := 66) dX8_leastBy_59 (by decide) ?_
            refine K_iret (pc := 66) dX8_leastBy_66 rfl ⟨_, rfl, ?_⟩
            exact ⟨(if_pos h52).symm, Or.inl rfl⟩
set_option maxRecDepth 100000 in
set_option maxHeartbeats 400000 in
theorem m_hide {x : jX} {m : jm} {d : Nat} (g w wh : Int32) {P T : Nat} (hP : m 141 0 = nI P) (h48 : P ≤ 48) (hplc : ∀ p, p < P → vp_in (m 141 (90 + 6 * p + 1)) 48) (hw : wfR m 141) (hfd : fdOK m P T) (hT : m 141 6 = nI T) (hT14 : T ≤ 14) (hS : ∀ t, t < T → sndT m t) : Ct x (d + 7) eX8_hide [.ref (jxb x + 140), .int g, .int w, .int wh] m (ji fun rv m' => (m' = m ∨ ∃ q G, q < 4 ∧ okG (tN w) ∧ G ≤ 999 ∧ srP m q G 1 (hidF m q G P (cntR m (nI 6) T)) m') ∧ rv = if ¬ (nI 0 ≤ g ∧ g ≤ nI 3) then -1000000001 else if jbp (okW w) = 0 then -1000000001 else if ¬ (nI 0 ≤ wh ∧ wh ≤ nI 1) then -1000000001 else if wh = 0 then nI (bst (hidF m (tN g) (tN w) P (cntR m (nI 6) T)) (tot (tN w))).1 else nI (bst (hidF m (tN g) (tN w) P (cntR m (nI 6) T)) (tot (tN w))).2) := by
  refine J_start (by decide +kernel) (Nat.le_of_ble_eq_true rfl) (ls := [some (.ref (jxb x + 140)), some (.int g), some (.int w), some (.int wh)]) rfl rfl ?_
  refine J_iload_n (pc := 0) dX8_hide_0 rfl ?_
  refine K_callSp (pc := 1) (As := [_]) dX8_hide_1 kl_X8_168 rfl rfl (Nat.le_of_ble_eq_true rfl) (m_isGround g) ?_
  refine Jb_eq (pc := 4) (tgt := 35) dX8_hide_4 (by decide) (fun h4 => ?_) (fun h4 => ?_)
  · 
    refine J_ldc (pc := 35) dX8_hide_35 kc_X8_91 ?_
    refine K_iret (pc := 37) dX8_hide_37 rfl ⟨_, rfl, ?_⟩
    exact ⟨Or.inl rfl, (if_pos h4).symm⟩
  · 
    refine J_iload_n (pc := 7) dX8_hide_7 rfl ?_
    refine K_callSp (pc := 8) (As := [_]) dX8_hide_8 kl_X8_338 rfl rfl (Nat.le_of_ble_eq_true rfl) (m_toldGroups w) ?_
    refine Jn_if_le (pc := 11) (tgt := 35) dX8_hide_11 (by decide) (by have := tgN_le w; omega) (fun h11 => ?_) (fun h11 => ?_)
    · 
      refine J_ldc (pc := 35) dX8_hide_35 kc_X8_91 ?_
      refine K_iret (pc := 37) dX8_hide_37 rfl ⟨_, rfl, ?_⟩
      exact ⟨Or.inl rfl, ((if_neg (Classical.not_not.mpr h4)).trans (if_pos (jbpF (tgN_0.mp (by omega))).symm)).symm⟩
    · 
      have hok : okW w := Classical.byContradiction fun z => by
        have := tgN_0.mpr z
        omega
      refine J_iload_n (pc := 14) dX8_hide_14 rfl ?_
      refine J_i2l (pc := 15) dX8_hide_15 ?_
      refine J_lconst (pc := 16) (v := 0) dX8_hide_16 rfl ?_
      refine J_lconst (pc := 17) (v := 1) dX8_hide_17 rfl ?_
      refine K_callSp (pc := 18) (As := [_, _, _]) dX8_hide_18 kl_X8_71 rfl rfl (Nat.le_of_ble_eq_true rfl) (m_in32 (v := wh) (a := nI 0) (b := nI 1) (by decide) (by decide)) ?_
      refine Jb_eq (pc := 21) (tgt := 35) dX8_hide_21 (by decide) (fun h21 => ?_) (fun h21 => ?_)
      · 
        refine J_ldc (pc := 35) dX8_hide_35 kc_X8_91 ?_
        refine K_iret (pc := 37) dX8_hide_37 rfl ⟨_, rfl, ?_⟩
        exact ⟨Or.inl rfl, ((if_neg (Classical.not_not.mpr h4)).trans ((if_neg (by rw [← jbpT hok]; decide)).trans (if_pos h21))).symm⟩
      · 
        obtain ⟨q, hq, hqe⟩ := w_of h4 (by decide)
        have htq : tN g = q := by rw [hqe]; exact tN_n (by omega)
        subst hqe
        have hok : okW w := Classical.byContradiction fun z => by
          have := tgN_0.mpr z
          omega
        obtain ⟨G, hG, hGe⟩ := w_of (w_in.mpr hok.1) (by decide)
        have htG : tN w = G := by rw [hGe]; exact tN_n (by omega)
        subst hGe
        have hokG : okG G := by have z := hok.2; rw [htG] at z; exact z
        refine J_aload_n (pc := 24) dX8_hide_24 rfl ?_
        refine J_iload_n (pc := 25) dX8_hide_25 rfl ?_
        refine J_iload_n (pc := 26) dX8_hide_26 rfl ?_
        refine J_iconst (pc := 27) dX8_hide_27 kni_1 ?_
        refine J_iload_n (pc := 28) dX8_hide_28 rfl ?_
        refine K_callVi (pc := 29) (id := 140) (As := [_, _, _, _]) dX8_hide_29 kl_X8_344 rfl job_140 rfl rfl (Nat.le_of_ble_eq_true rfl) (m_leastBy1 (m := m) (g := q) (G := G) (T := T) (by omega) hokG hG hP h48 hplc hw hfd hT hT14 hS wh) (fun v29 m29 h29 => ?_)
        refine J_goto (pc := 32) (tgt := 37) dX8_hide_32 (by decide) ?_
        refine K_iret (pc := 37) dX8_hide_37 rfl ⟨_, rfl, ?_⟩
        rw [htq, htG]
        obtain ⟨q1, q2⟩ := h29
        refine ⟨q2.imp_right (fun z => ⟨q, G, by omega, hokG, hG, z⟩), ?_⟩
        rw [q1]
        exact ((if_neg (Classical.not_not.mpr h4)).trans ((if_neg (by rw [← jbpT hok]; decide)).trans (if_neg (Classical.not_not.mpr h21)))).symm
