def R_tell (m : jm) (v : Int32) : Int32 × jm := if tN (m 140 35) = 60 then (-1000000003, m) else (nI (tN (m 140 35) + 1), mup (mup m 157 (tN (m 140 35)) v) 140 35 (nI (tN (m 140 35) + 1)))
def R_keep (m : jm) : Int32 × jm := (m 141 1, mfill (mup m 140 3 (nI 1)) 142 3450 (m 141))
def R_trim (m : jm) (v : Int32) : Int32 × jm := if ¬ (nI 0 ≤ v ∧ v ≤ m 140 11) then (-1000000001, m) else (v, mup m 140 11 v)
set_option maxRecDepth 100000 in
set_option maxHeartbeats 400000 in
theorem m_tell {x : jX} {m : jm} {d : Nat} (v : Int32) {n : Nat} (hn : m 140 35 = nI n) (hn60 : n ≤ 60) : Ct x d eX8_tell [.ref (jxb x + 140), .int v] m (ji fun rv m' => (rv, m') = R_tell m v) := by
  refine J_start (by decide +kernel) (Nat.le_of_ble_eq_true rfl) (ls := [some (.ref (jxb x + 140)), some (.int v)]) rfl rfl ?_
  have htn : tN (m 140 35) = n := by rw [hn]; exact tN_n (by omega)
  refine J_aload_n (pc := 0) dX8_tell_0 rfl ?_
  refine K_getI (pc := 1) dX8_tell_1 kf_X8_366 job_140 jrf_140_35 ?_
  refine J_top (b := nI n) (hn) ?_
  refine J_bipush (pc := 4) dX8_tell_4 knb_60 ?_
  refine Jn_ne (pc := 6) (tgt := 12) dX8_tell_6 (by decide) (by omega) (by omega) (fun h6 => ?_) (fun h6 => ?_)
  · 
    refine J_aload_n (pc := 12) dX8_tell_12 rfl ?_
    refine K_getR (pc := 13) dX8_tell_13 kf_X8_60 job_140 jrf_140_34 ?_
    refine J_aload_n (pc := 16) dX8_tell_16 rfl ?_
    refine K_getI (pc := 17) dX8_tell_17 kf_X8_366 job_140 jrf_140_35 ?_
    refine J_top (b := nI n) (hn) ?_
    refine J_iload_n (pc := 20) dX8_tell_20 rfl ?_
    refine K_iastn (pc := 21) (id := 157) dX8_tell_21 jar_157 (by omega) (by decide) ?_
    refine J_aload_n (pc := 22) dX8_tell_22 rfl ?_
    refine J_dup (pc := 23) dX8_tell_23 rfl ?_
    refine K_getI (pc := 24) dX8_tell_24 kf_X8_366 job_140 jrf_140_35 ?_
    refine J_top (b := nI n) ((mup_i (by decide)).trans hn) ?_
    refine J_iconst (pc := 27) dX8_tell_27 kni_1 ?_
    refine J_iaddv (pc := 28) dX8_tell_28 (nI_add _ _) ?_
    refine K_put (pc := 29) dX8_tell_29 kp_X8_366 job_140 jrf_140_35 rfl rfl ?_
    refine J_aload_n (pc := 32) dX8_tell_32 rfl ?_
    refine K_getI (pc := 33) dX8_tell_33 kf_X8_366 job_140 jrf_140_35 ?_
    refine J_top (b := nI (n + 1)) (by rw [mup_s]) ?_
    refine K_iret (pc := 36) dX8_tell_36 rfl ⟨_, rfl, ?_⟩
    show (_, _) = _
    unfold R_tell
    rw [htn]
    try first | rw [if_pos h6] | rw [if_neg h6] | rw [if_neg (Classical.not_not.mpr h6)]
    try rfl
  · 
    refine J_ldc (pc := 9) dX8_tell_9 kc_X8_96 ?_
    refine K_iret (pc := 11) dX8_tell_11 rfl ⟨_, rfl, ?_⟩
    show (_, _) = _
    unfold R_tell
    rw [htn]
    try first | rw [if_pos h6] | rw [if_neg h6] | rw [if_neg (Classical.not_not.mpr h6)]
    try rfl
set_option maxRecDepth 100000 in
set_option maxHeartbeats 400000 in
theorem m_keep {x : jX} {m : jm} {d : Nat}  : Ct x (d + 1) eX8_keep [.ref (jxb x + 140)] m (ji fun rv m' => (rv, m') = R_keep m) := by
  refine J_start (by decide +kernel) (Nat.le_of_ble_eq_true rfl) (ls := [some (.ref (jxb x + 140))]) rfl rfl ?_
  refine J_aload_n (pc := 0) dX8_keep_0 rfl ?_
  refine J_iconst (pc := 1) dX8_keep_1 kni_1 ?_
  refine K_put (pc := 2) dX8_keep_2 kp_X8_371 job_140 jrf_140_3 rfl rfl ?_
  refine J_aload_n (pc := 5) dX8_keep_5 rfl ?_
  refine J_aload_n (pc := 6) dX8_keep_6 rfl ?_
  refine K_getR (pc := 7) dX8_keep_7 kf_X8_7 job_140 jrf_140_0 ?_
  refine J_aload_n (pc := 10) dX8_keep_10 rfl ?_
  refine K_getR (pc := 11) dX8_keep_11 kf_X8_13 job_140 jrf_140_1 ?_
  refine K_callVv (pc := 14) (id := 140) (As := [_, _]) dX8_keep_14 kl_X8_151 rfl job_140 rfl rfl (Nat.le_of_ble_eq_true rfl) (m_setAside (m := mup m 140 3 (nI 1)) (ar := 141) (ar2 := 142) (nn := 3450) jar_141 jar_142 rfl (by decide)) (fun m14 h14 => ?_)
  subst h14
  refine J_aload_n (pc := 17) dX8_keep_17 rfl ?_
  refine K_getR (pc := 18) dX8_keep_18 kf_X8_7 job_140 jrf_140_0 ?_
  refine J_iconst (pc := 21) dX8_keep_21 kni_1 ?_
  refine K_ialdn (pc := 22) (id := 141) dX8_keep_22 jar_141 (by decide) (by decide) ?_
  refine K_iret (pc := 23) dX8_keep_23 rfl ⟨_, rfl, ?_⟩
  rfl
set_option maxRecDepth 100000 in
set_option maxHeartbeats 400000 in
theorem m_trim {x : jX} {m : jm} {d : Nat} (v : Int32) : Ct x (d + 1) eX8_trim [.ref (jxb x + 140), .int v] m (ji fun rv m' => (rv, m') = R_trim m v) := by
  refine J_start (by decide +kernel) (Nat.le_of_ble_eq_true rfl) (ls := [some (.ref (jxb x + 140)), some (.int v)]) rfl rfl ?_
  refine J_iload_n (pc := 0) dX8_trim_0 rfl ?_
  refine J_i2l (pc := 1) dX8_trim_1 ?_
  refine J_lconst (pc := 2) (v := 0) dX8_trim_2 rfl ?_
  refine J_aload_n (pc := 3) dX8_trim_3 rfl ?_
  refine K_getI (pc := 4) dX8_trim_4 kf_X8_180 job_140 jrf_140_11 ?_
  refine J_i2l (pc := 7) dX8_trim_7 ?_
  refine K_callSp (pc := 8) (As := [_, _, _]) dX8_trim_8 kl_X8_71 rfl rfl (Nat.le_of_ble_eq_true rfl) (m_isIn _ _ _) ?_
  refine Jb_ne (pc := 11) (tgt := 17) dX8_trim_11 (by decide) (fun h11 => ?_) (fun h11 => ?_)
  · 
    refine J_aload_n (pc := 17) dX8_trim_17 rfl ?_
    refine J_iload_n (pc := 18) dX8_trim_18 rfl ?_
    refine K_put (pc := 19) dX8_trim_19 kp_X8_180 job_140 jrf_140_11 rfl rfl ?_
    refine J_iload_n (pc := 22) dX8_trim_22 rfl ?_
    refine K_iret (pc := 23) dX8_trim_23 rfl ⟨_, rfl, ?_⟩
    show (_, _) = _
    unfold R_trim
    rw [if_neg (Classical.not_not.mpr ((in32 (by decide) rfl).mp h11))]
  · 
    refine J_ldc (pc := 14) dX8_trim_14 kc_X8_91 ?_
    refine K_iret (pc := 16) dX8_trim_16 rfl ⟨_, rfl, ?_⟩
    show (_, _) = _
    unfold R_trim
    rw [if_pos (fun q => h11 ((in32 (by decide) rfl).mpr q))]
