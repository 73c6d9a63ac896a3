set_option maxRecDepth 100000 in
set_option maxHeartbeats 400000 in
theorem m_isLetter {x : jX} {m : jm} {d : Nat} {i n : Nat} (hn : m 140 11 = nI n) (h96 : n ≤ 96) (hi : i ≤ 96) : Ct x (d + 1) eX8_isLetter [.ref (jxb x + 140), .int (nI i)] m (jp (jb (i < n ∧ nI 97 ≤ m 150 i ∧ m 150 i ≤ nI 122)) m) := by
  refine J_start (by decide +kernel) (Nat.le_of_ble_eq_true rfl) (ls := [some (.ref (jxb x + 140)), some (.int (nI i))]) rfl rfl ?_
  refine J_iload_n (pc := 0) dX8_isLetter_0 rfl ?_
  refine J_aload_n (pc := 1) dX8_isLetter_1 rfl ?_
  refine K_getI (pc := 2) dX8_isLetter_2 kf_X8_180 job_140 jrf_140_11 ?_
  refine J_top (b := nI n) (hn) ?_
  refine Jn_ge (pc := 5) (tgt := 31) dX8_isLetter_5 (by decide) (by omega) (by omega) (fun h5 => ?_) (fun h5 => ?_)
  · 
    refine J_iconst (pc := 31) dX8_isLetter_31 kni_0 ?_
    refine K_zret (pc := 32) dX8_isLetter_32 rfl rfl ⟨_, rfl, ?_⟩
    exact ⟨(if_neg (fun q => by omega)).symm, rfl⟩
  · 
    refine J_aload_n (pc := 8) dX8_isLetter_8 rfl ?_
    refine K_getR (pc := 9) dX8_isLetter_9 kf_X8_37 job_140 jrf_140_10 ?_
    refine J_iload_n (pc := 12) dX8_isLetter_12 rfl ?_
    refine K_ialdn (pc := 13) (id := 150) dX8_isLetter_13 jar_150 (by omega) (by decide) ?_
    refine J_i2l (pc := 14) dX8_isLetter_14 ?_
    refine J_ldc2 (pc := 15) dX8_isLetter_15 kg_X8_184 ?_
    refine J_ldc2 (pc := 18) dX8_isLetter_18 kg_X8_186 ?_
    refine K_callSp (pc := 21) (As := [_, _, _]) dX8_isLetter_21 kl_X8_71 rfl rfl (Nat.le_of_ble_eq_true rfl) (m_isIn _ _ _) ?_
    refine Jb_eq (pc := 24) (tgt := 31) dX8_isLetter_24 (by decide) (fun h24 => ?_) (fun h24 => ?_)
    · 
      refine J_iconst (pc := 31) dX8_isLetter_31 kni_0 ?_
      refine K_zret (pc := 32) dX8_isLetter_32 rfl rfl ⟨_, rfl, ?_⟩
      exact ⟨(if_neg (fun q => h24 ((in32 (by decide) (by decide)).mpr q.2))).symm, rfl⟩
    · 
      refine J_iconst (pc := 27) dX8_isLetter_27 kni_1 ?_
      refine J_goto (pc := 28) (tgt := 32) dX8_isLetter_28 (by decide) ?_
      refine K_zret (pc := 32) dX8_isLetter_32 rfl rfl ⟨_, rfl, ?_⟩
      exact ⟨(if_pos ⟨by omega, (in32 (by decide) (by decide)).mp h24⟩).symm, rfl⟩
set_option maxRecDepth 100000 in
set_option maxHeartbeats 400000 in
theorem m_isDigit {x : jX} {m : jm} {d : Nat} {i n : Nat} (hn : m 140 11 = nI n) (h96 : n ≤ 96) (hi : i ≤ 96) : Ct x (d + 1) eX8_isDigit [.ref (jxb x + 140), .int (nI i)] m (jp (jb (i < n ∧ nI 48 ≤ m 150 i ∧ m 150 i ≤ nI 57)) m) := by
  refine J_start (by decide +kernel) (Nat.le_of_ble_eq_true rfl) (ls := [some (.ref (jxb x + 140)), some (.int (nI i))]) rfl rfl ?_
  refine J_iload_n (pc := 0) dX8_isDigit_0 rfl ?_
  refine J_aload_n (pc := 1) dX8_isDigit_1 rfl ?_
  refine K_getI (pc := 2) dX8_isDigit_2 kf_X8_180 job_140 jrf_140_11 ?_
  refine J_top (b := nI n) (hn) ?_
  refine Jn_ge (pc := 5) (tgt := 31) dX8_isDigit_5 (by decide) (by omega) (by omega) (fun h5 => ?_) (fun h5 => ?_)
  · 
    refine J_iconst (pc := 31) dX8_isDigit_31 kni_0 ?_
    refine K_zret (pc := 32) dX8_isDigit_32 rfl rfl ⟨_, rfl, ?_⟩
    exact ⟨(if_neg (fun q => by omega)).symm, rfl⟩
  · 
    refine J_aload_n (pc := 8) dX8_isDigit_8 rfl ?_
    refine K_getR (pc := 9) dX8_isDigit_9 kf_X8_37 job_140 jrf_140_10 ?_
    refine J_iload_n (pc := 12) dX8_isDigit_12 rfl ?_
    refine K_ialdn (pc := 13) (id := 150) dX8_isDigit_13 jar_150 (by omega) (by decide) ?_
    refine J_i2l (pc := 14) dX8_isDigit_14 ?_
    refine J_ldc2 (pc := 15) dX8_isDigit_15 kg_X8_125 ?_
    refine J_ldc2 (pc := 18) dX8_isDigit_18 kg_X8_188 ?_
    refine K_callSp (pc := 21) (As := [_, _, _]) dX8_isDigit_21 kl_X8_71 rfl rfl (Nat.le_of_ble_eq_true rfl) (m_isIn _ _ _) ?_
    refine Jb_eq (pc := 24) (tgt := 31) dX8_isDigit_24 (by decide) (fun h24 => ?_) (fun h24 => ?_)
    · 
      refine J_iconst (pc := 31) dX8_isDigit_31 kni_0 ?_
      refine K_zret (pc := 32) dX8_isDigit_32 rfl rfl ⟨_, rfl, ?_⟩
      exact ⟨(if_neg (fun q => h24 ((in32 (by decide) (by decide)).mpr q.2))).symm, rfl⟩
    · 
      refine J_iconst (pc := 27) dX8_isDigit_27 kni_1 ?_
      refine J_goto (pc := 28) (tgt := 32) dX8_isDigit_28 (by decide) ?_
      refine K_zret (pc := 32) dX8_isDigit_32 rfl rfl ⟨_, rfl, ?_⟩
      exact ⟨(if_pos ⟨by omega, (in32 (by decide) (by decide)).mp h24⟩).symm, rfl⟩
set_option maxRecDepth 100000 in
set_option maxHeartbeats 400000 in
theorem m_isSign {x : jX} {m : jm} {d : Nat} (c : Int32) : Ct x d eX8_isSign [.ref (jxb x + 140), .int c] m (jp (jb (m 140 14 = nI 3 ∧ m 140 16 = c)) m) := by
  refine J_start (by decide +kernel) (Nat.le_of_ble_eq_true rfl) (ls := [some (.ref (jxb x + 140)), some (.int c)]) rfl rfl ?_
  refine J_aload_n (pc := 0) dX8_isSign_0 rfl ?_
  refine K_getI (pc := 1) dX8_isSign_1 kf_X8_193 job_140 jrf_140_14 ?_
  refine J_iconst (pc := 4) dX8_isSign_4 kni_3 ?_
  refine J_icmp_ne (pc := 5) (tgt := 20) dX8_isSign_5 (by decide) (fun h5 => ?_) (fun h5 => ?_)
  · 
    refine J_iconst (pc := 20) dX8_isSign_20 kni_0 ?_
    refine K_zret (pc := 21) dX8_isSign_21 rfl rfl ⟨_, rfl, ?_⟩
    exact ⟨(if_neg (fun q => h5 q.1)).symm, rfl⟩
  · 
    refine J_aload_n (pc := 8) dX8_isSign_8 rfl ?_
    refine K_getI (pc := 9) dX8_isSign_9 kf_X8_202 job_140 jrf_140_16 ?_
    refine J_iload_n (pc := 12) dX8_isSign_12 rfl ?_
    refine J_icmp_ne (pc := 13) (tgt := 20) dX8_isSign_13 (by decide) (fun h13 => ?_) (fun h13 => ?_)
    · 
      refine J_iconst (pc := 20) dX8_isSign_20 kni_0 ?_
      refine K_zret (pc := 21) dX8_isSign_21 rfl rfl ⟨_, rfl, ?_⟩
      exact ⟨(if_neg (fun q => h13 q.2)).symm, rfl⟩
    · 
      refine J_iconst (pc := 16) dX8_isSign_16 kni_1 ?_
      refine J_goto (pc := 17) (tgt := 21) dX8_isSign_17 (by decide) ?_
      refine K_zret (pc := 21) dX8_isSign_21 rfl rfl ⟨_, rfl, ?_⟩
      exact ⟨(if_pos ⟨h5, h13⟩).symm, rfl⟩
