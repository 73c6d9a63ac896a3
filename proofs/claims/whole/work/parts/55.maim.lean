/-- row r of the reference as a state -/
def vSt (m : jm) (r : Nat) : jm := fun k j => match k with
  | 0 => if j = 0 then m r 0 else if j = 13 then m r 1 else if j = 14 then m r 6 else if j = 15 then m r 7 else m r 8
  | 1 => m r (90 + 6 * j)
  | 2 => m r (90 + 6 * j + 1)
  | 3 => m r (90 + 6 * j + 2)
  | 4 => m r (90 + 6 * j + 3)
  | 5 => m r (90 + 6 * j + 4)
  | 6 => m r (90 + 6 * j + 5)
  | 8 => m r (40 + j)
  | 9 => m r (10 + 2 * j)
  | 10 => m r (10 + 2 * j + 1)
  | 11 => m r (30 + j)
  | 12 => m r (2 + j)
  | _ => 0
def wfR (m : jm) (r : Nat) : Prop := (∀ p, p < 48 → vp_in (m r (90 + 6 * p + 4)) 10) ∧ ∀ j, j < 10 → vp_in (m r (10 + 2 * j)) 6
def nrv (m : jm) (r p : Nat) : Nat := tN (m r (90 + 6 * p + 4))
def grp (m : jm) (r p : Nat) : Nat := tN (m r (10 + 2 * nrv m r p))
theorem nrv_10 {m : jm} {r p : Nat} (h : wfR m r) (hp : p < 48) : nrv m r p < 10 := tN_lt (h.1 p hp) (by decide)
theorem grp_6 {m : jm} {r p : Nat} (h : wfR m r) (hp : p < 48) : grp m r p < 6 := tN_lt (h.2 _ (nrv_10 h hp)) (by decide)
def drwR (m : jm) (r p : Nat) : Int32 := drawnV (m r (90 + 6 * p + 3)) (m r (30 + grp m r p)) (m r (10 + 2 * nrv m r p + 1))
def aimR (m : jm) (r p : Nat) : Int32 := aimV (m r (90 + 6 * p)) (m r (90 + 6 * p + 3)) (m r (90 + 6 * p + 5)) (drwR m r p)
def pacR (m : jm) (r p : Nat) : Int32 := paceV (m r (90 + 6 * p)) (m r (90 + 6 * p + 2))
def givR (m : jm) (r p : Nat) : Int32 := givenV (m r (90 + 6 * p)) (m r (90 + 6 * p + 2)) (m r (90 + 6 * p + 5))
theorem aimR_v (m : jm) (r p : Nat) : aimS (vSt m r) 0 p = aimR m r p := rfl
theorem pacR_v (m : jm) (r p : Nat) : paceS (vSt m r) 0 p = pacR m r p := rfl
theorem givR_v (m : jm) (r p : Nat) : givenS (vSt m r) 0 p = givR m r p := rfl
theorem lst_min (a b : Int32) : lstV a b = minV a b := by
  unfold lstV minV
  by_cases h : a < b
  · rw [if_pos h, if_neg (fun q => by rw [Int32.lt_iff_toInt_lt] at *; omega)]
  · rw [if_neg h]
    by_cases g : b < a
    · rw [if_pos g]
    · rw [if_neg g]
      apply Int32.toInt_inj.mp
      rw [Int32.lt_iff_toInt_lt] at *
      omega
set_option maxRecDepth 100000 in
set_option maxHeartbeats 400000 in
theorem m_groupOf {x : jX} {m : jm} {d : Nat} {p : Nat} (hp : p < 48) (hw : wfR m 141) : Ct x (d + 1) eX8_groupOf [.ref (jxb x + 140), .int (nI p)] m (jp (nI (grp m 141 p)) m) := by
  refine J_start (by decide +kernel) (Nat.le_of_ble_eq_true rfl) (ls := [some (.ref (jxb x + 140)), some (.int (nI p))]) rfl rfl ?_
  refine J_aload_n (pc := 0) dX8_groupOf_0 rfl ?_
  refine K_getR (pc := 1) dX8_groupOf_1 kf_X8_7 job_140 jrf_140_0 ?_
  refine J_bipush (pc := 4) dX8_groupOf_4 knb_10 ?_
  refine J_iconst (pc := 6) dX8_groupOf_6 kni_2 ?_
  refine J_aload_n (pc := 7) dX8_groupOf_7 rfl ?_
  refine K_getR (pc := 8) dX8_groupOf_8 kf_X8_7 job_140 jrf_140_0 ?_
  refine J_aload_n (pc := 11) dX8_groupOf_11 rfl ?_
  refine J_iload_n (pc := 12) dX8_groupOf_12 rfl ?_
  refine K_callVp (pc := 13) (id := 140) (As := [_]) dX8_groupOf_13 kl_X8_81 rfl job_140 rfl rfl (Nat.le_of_ble_eq_true rfl) (m_partAt) ?_
  refine J_iconst (pc := 16) dX8_groupOf_16 kni_4 ?_
  refine J_iaddv (pc := 17) dX8_groupOf_17 (nI_add _ _) ?_
  refine K_ialdn (pc := 18) (id := 141) dX8_groupOf_18 jar_141 (by omega) (by decide) ?_
  refine J_top (b := nI (nrv m 141 p)) (tN_eq (hw.1 p hp) (by decide)) ?_
  refine J_imulv (pc := 19) dX8_groupOf_19 (pk_mul _ _) ?_
  refine J_iaddv (pc := 20) dX8_groupOf_20 (nI_add _ _) ?_
  refine K_ialdn (pc := 21) (id := 141) dX8_groupOf_21 jar_141 (by have := nrv_10 hw hp; omega) (by decide) ?_
  refine J_top (b := nI (grp m 141 p)) (tN_eq (hw.2 _ (nrv_10 hw hp)) (by decide)) ?_
  refine K_iret (pc := 22) dX8_groupOf_22 rfl ⟨_, rfl, ?_⟩
  exact ⟨rfl, rfl⟩
set_option maxRecDepth 100000 in
set_option maxHeartbeats 400000 in
theorem m_aimOf {x : jX} {m : jm} {d : Nat} {p : Nat} (hp : p < 48) (hw : wfR m 141) : Ct x (d + 2) eX8_aimOf [.ref (jxb x + 140), .int (nI p)] m (jp (aimR m 141 p) m) := by
  refine J_start (by decide +kernel) (Nat.le_of_ble_eq_true rfl) (ls := [some (.ref (jxb x + 140)), some (.int (nI p)), none, none]) rfl rfl ?_
  refine J_aload_n (pc := 0) dX8_aimOf_0 rfl ?_
  refine J_iload_n (pc := 1) dX8_aimOf_1 rfl ?_
  refine K_callVp (pc := 2) (id := 140) (As := [_]) dX8_aimOf_2 kl_X8_81 rfl job_140 rfl rfl (Nat.le_of_ble_eq_true rfl) (m_partAt) ?_
  refine J_istore_n (pc := 5) (ls' := [some _, some _, some _, none]) dX8_aimOf_5 rfl (Nat.le_of_ble_eq_true rfl) rfl ?_
  refine J_aload_n (pc := 6) dX8_aimOf_6 rfl ?_
  refine K_getR (pc := 7) dX8_aimOf_7 kf_X8_7 job_140 jrf_140_0 ?_
  refine J_iload_n (pc := 10) dX8_aimOf_10 rfl ?_
  refine J_iconst (pc := 11) dX8_aimOf_11 kni_3 ?_
  refine J_iaddv (pc := 12) dX8_aimOf_12 (nI_add _ _) ?_
  refine K_ialdn (pc := 13) (id := 141) dX8_aimOf_13 jar_141 (by omega) (by decide) ?_
  refine J_aload_n (pc := 14) dX8_aimOf_14 rfl ?_
  refine K_getR (pc := 15) dX8_aimOf_15 kf_X8_7 job_140 jrf_140_0 ?_
  refine J_bipush (pc := 18) dX8_aimOf_18 knb_30 ?_
  refine J_aload_n (pc := 20) dX8_aimOf_20 rfl ?_
  refine J_iload_n (pc := 21) dX8_aimOf_21 rfl ?_
  refine K_callVp (pc := 22) (id := 140) (As := [_]) dX8_aimOf_22 kl_X8_97 rfl job_140 rfl rfl (Nat.le_of_ble_eq_true rfl) (m_groupOf hp hw) ?_
  refine J_iaddv (pc := 25) dX8_aimOf_25 (nI_add _ _) ?_
  refine K_ialdn (pc := 26) (id := 141) dX8_aimOf_26 jar_141 (by have := grp_6 hw hp; omega) (by decide) ?_
  refine J_aload_n (pc := 27) dX8_aimOf_27 rfl ?_
  refine K_getR (pc := 28) dX8_aimOf_28 kf_X8_7 job_140 jrf_140_0 ?_
  refine J_bipush (pc := 31) dX8_aimOf_31 knb_10 ?_
  refine J_iconst (pc := 33) dX8_aimOf_33 kni_2 ?_
  refine J_aload_n (pc := 34) dX8_aimOf_34 rfl ?_
  refine K_getR (pc := 35) dX8_aimOf_35 kf_X8_7 job_140 jrf_140_0 ?_
  refine J_iload_n (pc := 38) dX8_aimOf_38 rfl ?_
  refine J_iconst (pc := 39) dX8_aimOf_39 kni_4 ?_
  refine J_iaddv (pc := 40) dX8_aimOf_40 (nI_add _ _) ?_
  refine K_ialdn (pc := 41) (id := 141) dX8_aimOf_41 jar_141 (by omega) (by decide) ?_
  refine J_top (b := nI (nrv m 141 p)) (tN_eq (hw.1 p hp) (by decide)) ?_
  refine J_imulv (pc := 42) dX8_aimOf_42 (pk_mul _ _) ?_
  refine J_iaddv (pc := 43) dX8_aimOf_43 (nI_add _ _) ?_
  refine J_iconst (pc := 44) dX8_aimOf_44 kni_1 ?_
  refine J_iaddv (pc := 45) dX8_aimOf_45 (nI_add _ _) ?_
  refine K_ialdn (pc := 46) (id := 141) dX8_aimOf_46 jar_141 (by have := nrv_10 hw hp; omega) (by decide) ?_
  refine J_imul (pc := 47) dX8_aimOf_47 ?_
  refine J_iconst (pc := 48) dX8_aimOf_48 kni_5 ?_
  refine J_idiv (pc := 49) dX8_aimOf_49 (by decide) rfl ?_
  refine K_callSp (pc := 50) (As := [_, _]) dX8_aimOf_50 kl_X8_100 rfl rfl (Nat.le_of_ble_eq_true rfl) (m_least _ _) ?_
  refine J_top (b := (drwR m 141 p)) (lst_min _ _) ?_
  refine J_istore_n (pc := 53) (ls' := [some _, some _, some _, some _]) dX8_aimOf_53 rfl (Nat.le_of_ble_eq_true rfl) rfl ?_
  refine J_aload_n (pc := 54) dX8_aimOf_54 rfl ?_
  refine K_getR (pc := 55) dX8_aimOf_55 kf_X8_7 job_140 jrf_140_0 ?_
  refine J_iload_n (pc := 58) dX8_aimOf_58 rfl ?_
  refine K_ialdn (pc := 59) (id := 141) dX8_aimOf_59 jar_141 (by omega) (by decide) ?_
  by_cases c60_2 : ((m 141 (90 + 6 * p))) = nI 2
  ·
    refine J_tsIn (pc := 60) (tgt := 92) (off := 32) dX8_aimOf_60 (by rw [c60_2]; decide) (by rw [c60_2]; decide) (by rw [c60_2]; rfl) (by decide) ?_
    refine J_aload_n (pc := 92) dX8_aimOf_92 rfl ?_
    refine K_getR (pc := 93) dX8_aimOf_93 kf_X8_7 job_140 jrf_140_0 ?_
    refine J_iload_n (pc := 96) dX8_aimOf_96 rfl ?_
    refine J_iconst (pc := 97) dX8_aimOf_97 kni_3 ?_
    refine J_iaddv (pc := 98) dX8_aimOf_98 (nI_add _ _) ?_
    refine K_ialdn (pc := 99) (id := 141) dX8_aimOf_99 jar_141 (by omega) (by decide) ?_
    refine J_iload_n (pc := 100) dX8_aimOf_100 rfl ?_
    refine J_isub (pc := 101) dX8_aimOf_101 ?_
    refine K_iret (pc := 102) dX8_aimOf_102 rfl ⟨_, rfl, ?_⟩
    unfold aimR aimV
    exact ⟨by rw [if_pos c60_2], rfl⟩
  by_cases c60_3 : ((m 141 (90 + 6 * p))) = nI 3
  ·
    refine J_tsIn (pc := 60) (tgt := 103) (off := 43) dX8_aimOf_60 (by rw [c60_3]; decide) (by rw [c60_3]; decide) (by rw [c60_3]; rfl) (by decide) ?_
    refine J_aload_n (pc := 103) dX8_aimOf_103 rfl ?_
    refine K_getR (pc := 104) dX8_aimOf_104 kf_X8_7 job_140 jrf_140_0 ?_
    refine J_iload_n (pc := 107) dX8_aimOf_107 rfl ?_
    refine J_iconst (pc := 108) dX8_aimOf_108 kni_3 ?_
    refine J_iaddv (pc := 109) dX8_aimOf_109 (nI_add _ _) ?_
    refine K_ialdn (pc := 110) (id := 141) dX8_aimOf_110 jar_141 (by omega) (by decide) ?_
    refine K_iret (pc := 111) dX8_aimOf_111 rfl ⟨_, rfl, ?_⟩
    unfold aimR aimV
    exact ⟨by rw [if_neg c60_2, if_pos c60_3], rfl⟩
  by_cases c60_4 : ((m 141 (90 + 6 * p))) = nI 4
  ·
    refine J_tsIn (pc := 60) (tgt := 112) (off := 52) dX8_aimOf_60 (by rw [c60_4]; decide) (by rw [c60_4]; decide) (by rw [c60_4]; rfl) (by decide) ?_
    refine J_iload_n (pc := 112) dX8_aimOf_112 rfl ?_
    refine J_iconst (pc := 113) dX8_aimOf_113 kni_2 ?_
    refine J_idiv (pc := 114) dX8_aimOf_114 (by decide) rfl ?_
    refine K_iret (pc := 115) dX8_aimOf_115 rfl ⟨_, rfl, ?_⟩
    unfold aimR aimV
    exact ⟨by rw [if_neg c60_2, if_neg c60_3, if_pos c60_4], rfl⟩
  by_cases c60_5 : ((m 141 (90 + 6 * p))) = nI 5
  ·
    refine J_tsIn (pc := 60) (tgt := 116) (off := 56) dX8_aimOf_60 (by rw [c60_5]; decide) (by rw [c60_5]; decide) (by rw [c60_5]; rfl) (by decide) ?_
    refine J_aload_n (pc := 116) dX8_aimOf_116 rfl ?_
    refine K_getR (pc := 117) dX8_aimOf_117 kf_X8_7 job_140 jrf_140_0 ?_
    refine J_iload_n (pc := 120) dX8_aimOf_120 rfl ?_
    refine J_iconst (pc := 121) dX8_aimOf_121 kni_5 ?_
    refine J_iaddv (pc := 122) dX8_aimOf_122 (nI_add _ _) ?_
    refine K_ialdn (pc := 123) (id := 141) dX8_aimOf_123 jar_141 (by omega) (by decide) ?_
    refine K_iret (pc := 124) dX8_aimOf_124 rfl ⟨_, rfl, ?_⟩
    unfold aimR aimV
    exact ⟨by rw [if_neg c60_2, if_neg c60_3, if_neg c60_4, if_pos c60_5], rfl⟩
  refine J_tsOut (pc := 60) (tgt := 125) dX8_aimOf_60 (by have qc60_2 := jsw_ne c60_2 (by decide); have qc60_3 := jsw_ne c60_3 (by decide); have qc60_4 := jsw_ne c60_4 (by decide); have qc60_5 := jsw_ne c60_5 (by decide); omega) (by decide) ?_
  refine J_iload_n (pc := 125) dX8_aimOf_125 rfl ?_
  refine K_iret (pc := 126) dX8_aimOf_126 rfl ⟨_, rfl, ?_⟩
  unfold aimR aimV
  exact ⟨by rw [if_neg c60_2, if_neg c60_3, if_neg c60_4, if_neg c60_5], rfl⟩
set_option maxRecDepth 100000 in
set_option maxHeartbeats 400000 in
theorem m_paceOf {x : jX} {m : jm} {d : Nat} {p : Nat} (hp : p < 48) : Ct x (d + 1) eX8_paceOf [.ref (jxb x + 140), .int (nI p)] m (jp (pacR m 141 p) m) := by
  refine J_start (by decide +kernel) (Nat.le_of_ble_eq_true rfl) (ls := [some (.ref (jxb x + 140)), some (.int (nI p)), none]) rfl rfl ?_
  refine J_aload_n (pc := 0) dX8_paceOf_0 rfl ?_
  refine J_iload_n (pc := 1) dX8_paceOf_1 rfl ?_
  refine K_callVp (pc := 2) (id := 140) (As := [_]) dX8_paceOf_2 kl_X8_81 rfl job_140 rfl rfl (Nat.le_of_ble_eq_true rfl) (m_partAt) ?_
  refine J_istore_n (pc := 5) (ls' := [some _, some _, some _]) dX8_paceOf_5 rfl (Nat.le_of_ble_eq_true rfl) rfl ?_
  refine J_aload_n (pc := 6) dX8_paceOf_6 rfl ?_
  refine K_getR (pc := 7) dX8_paceOf_7 kf_X8_7 job_140 jrf_140_0 ?_
  refine J_iload_n (pc := 10) dX8_paceOf_10 rfl ?_
  refine K_ialdn (pc := 11) (id := 141) dX8_paceOf_11 jar_141 (by omega) (by decide) ?_
  by_cases c12_1 : ((m 141 (90 + 6 * p))) = nI 1
  ·
    refine J_tsIn (pc := 12) (tgt := 48) (off := 36) dX8_paceOf_12 (by rw [c12_1]; decide) (by rw [c12_1]; decide) (by rw [c12_1]; rfl) (by decide) ?_
    refine J_aload_n (pc := 48) dX8_paceOf_48 rfl ?_
    refine K_getR (pc := 49) dX8_paceOf_49 kf_X8_7 job_140 jrf_140_0 ?_
    refine J_iload_n (pc := 52) dX8_paceOf_52 rfl ?_
    refine J_iconst (pc := 53) dX8_paceOf_53 kni_2 ?_
    refine J_iaddv (pc := 54) dX8_paceOf_54 (nI_add _ _) ?_
    refine K_ialdn (pc := 55) (id := 141) dX8_paceOf_55 jar_141 (by omega) (by decide) ?_
    refine J_iconst (pc := 56) dX8_paceOf_56 kni_4 ?_
    refine J_icmp_le (pc := 57) (tgt := 64) dX8_paceOf_57 (by decide) (fun h57 => ?_) (fun h57 => ?_)
    · 
      refine J_iconst (pc := 64) dX8_paceOf_64 kni_1 ?_
      refine K_iret (pc := 65) dX8_paceOf_65 rfl ⟨_, rfl, ?_⟩
      unfold pacR paceV
      exact ⟨by rw [if_pos c12_1, if_neg (Int32.not_lt.mpr h57)], rfl⟩
    · 
      refine J_iconst (pc := 60) dX8_paceOf_60 kni_2 ?_
      refine J_goto (pc := 61) (tgt := 65) dX8_paceOf_61 (by decide) ?_
      refine K_iret (pc := 65) dX8_paceOf_65 rfl ⟨_, rfl, ?_⟩
      unfold pacR paceV
      exact ⟨by rw [if_pos c12_1, if_pos (Int32.not_le.mp h57)], rfl⟩
  by_cases c12_2 : ((m 141 (90 + 6 * p))) = nI 2
  ·
    refine J_tsIn (pc := 12) (tgt := 66) (off := 54) dX8_paceOf_12 (by rw [c12_2]; decide) (by rw [c12_2]; decide) (by rw [c12_2]; rfl) (by decide) ?_
    refine J_iconst (pc := 66) dX8_paceOf_66 kni_2 ?_
    refine K_iret (pc := 67) dX8_paceOf_67 rfl ⟨_, rfl, ?_⟩
    unfold pacR paceV
    exact ⟨by rw [if_neg c12_1, if_pos c12_2], rfl⟩
  by_cases c12_3 : ((m 141 (90 + 6 * p))) = nI 3
  ·
    refine J_tsIn (pc := 12) (tgt := 68) (off := 56) dX8_paceOf_12 (by rw [c12_3]; decide) (by rw [c12_3]; decide) (by rw [c12_3]; rfl) (by decide) ?_
    refine J_bipush (pc := 68) dX8_paceOf_68 knb_9 ?_
    refine K_iret (pc := 70) dX8_paceOf_70 rfl ⟨_, rfl, ?_⟩
    unfold pacR paceV
    exact ⟨by rw [if_neg c12_1, if_neg c12_2, if_pos c12_3], rfl⟩
  by_cases c12_4 : ((m 141 (90 + 6 * p))) = nI 4
  ·
    refine J_tsIn (pc := 12) (tgt := 73) (off := 61) dX8_paceOf_12 (by rw [c12_4]; decide) (by rw [c12_4]; decide) (by rw [c12_4]; rfl) (by decide) ?_
    refine J_iconst (pc := 73) dX8_paceOf_73 kni_1 ?_
    refine K_iret (pc := 74) dX8_paceOf_74 rfl ⟨_, rfl, ?_⟩
    unfold pacR paceV
    exact ⟨by rw [if_neg c12_1, if_neg c12_2, if_neg c12_3, if_pos c12_4], rfl⟩
  by_cases c12_5 : ((m 141 (90 + 6 * p))) = nI 5
  ·
    refine J_tsIn (pc := 12) (tgt := 71) (off := 59) dX8_paceOf_12 (by rw [c12_5]; decide) (by rw [c12_5]; decide) (by rw [c12_5]; rfl) (by decide) ?_
    refine J_iconst (pc := 71) dX8_paceOf_71 kni_0 ?_
    refine K_iret (pc := 72) dX8_paceOf_72 rfl ⟨_, rfl, ?_⟩
    unfold pacR paceV
    exact ⟨by rw [if_neg c12_1, if_neg c12_2, if_neg c12_3, if_neg c12_4, if_pos c12_5], rfl⟩
  refine J_tsOut (pc := 12) (tgt := 73) dX8_paceOf_12 (by have qc12_1 := jsw_ne c12_1 (by decide); have qc12_2 := jsw_ne c12_2 (by decide); have qc12_3 := jsw_ne c12_3 (by decide); have qc12_4 := jsw_ne c12_4 (by decide); have qc12_5 := jsw_ne c12_5 (by decide); omega) (by decide) ?_
  refine J_iconst (pc := 73) dX8_paceOf_73 kni_1 ?_
  refine K_iret (pc := 74) dX8_paceOf_74 rfl ⟨_, rfl, ?_⟩
  unfold pacR paceV
  exact ⟨by rw [if_neg c12_1, if_neg c12_2, if_neg c12_3, if_neg c12_4, if_neg c12_5], rfl⟩
set_option maxRecDepth 100000 in
set_option maxHeartbeats 400000 in
theorem m_givesOf {x : jX} {m : jm} {d : Nat} {p : Nat} (hp : p < 48) : Ct x (d + 1) eX8_givesOf [.ref (jxb x + 140), .int (nI p)] m (jp (givR m 141 p) m) := by
  refine J_start (by decide +kernel) (Nat.le_of_ble_eq_true rfl) (ls := [some (.ref (jxb x + 140)), some (.int (nI p)), none, none]) rfl rfl ?_
  refine J_aload_n (pc := 0) dX8_givesOf_0 rfl ?_
  refine J_iload_n (pc := 1) dX8_givesOf_1 rfl ?_
  refine K_callVp (pc := 2) (id := 140) (As := [_]) dX8_givesOf_2 kl_X8_81 rfl job_140 rfl rfl (Nat.le_of_ble_eq_true rfl) (m_partAt) ?_
  refine J_istore_n (pc := 5) (ls' := [some _, some _, some _, none]) dX8_givesOf_5 rfl (Nat.le_of_ble_eq_true rfl) rfl ?_
  refine J_aload_n (pc := 6) dX8_givesOf_6 rfl ?_
  refine K_getR (pc := 7) dX8_givesOf_7 kf_X8_7 job_140 jrf_140_0 ?_
  refine J_iload_n (pc := 10) dX8_givesOf_10 rfl ?_
  refine J_iconst (pc := 11) dX8_givesOf_11 kni_5 ?_
  refine J_iaddv (pc := 12) dX8_givesOf_12 (nI_add _ _) ?_
  refine K_ialdn (pc := 13) (id := 141) dX8_givesOf_13 jar_141 (by omega) (by decide) ?_
  refine J_istore_n (pc := 14) (ls' := [some _, some _, some _, some _]) dX8_givesOf_14 rfl (Nat.le_of_ble_eq_true rfl) rfl ?_
  refine J_aload_n (pc := 15) dX8_givesOf_15 rfl ?_
  refine K_getR (pc := 16) dX8_givesOf_16 kf_X8_7 job_140 jrf_140_0 ?_
  refine J_iload_n (pc := 19) dX8_givesOf_19 rfl ?_
  refine K_ialdn (pc := 20) (id := 141) dX8_givesOf_20 jar_141 (by omega) (by decide) ?_
  by_cases c21_1 : ((m 141 (90 + 6 * p))) = nI 1
  ·
    refine J_tsIn (pc := 21) (tgt := 52) (off := 31) dX8_givesOf_21 (by rw [c21_1]; decide) (by rw [c21_1]; decide) (by rw [c21_1]; rfl) (by decide) ?_
    refine J_aload_n (pc := 52) dX8_givesOf_52 rfl ?_
    refine K_getR (pc := 53) dX8_givesOf_53 kf_X8_7 job_140 jrf_140_0 ?_
    refine J_iload_n (pc := 56) dX8_givesOf_56 rfl ?_
    refine J_iconst (pc := 57) dX8_givesOf_57 kni_2 ?_
    refine J_iaddv (pc := 58) dX8_givesOf_58 (nI_add _ _) ?_
    refine K_ialdn (pc := 59) (id := 141) dX8_givesOf_59 jar_141 (by omega) (by decide) ?_
    refine J_ineg (pc := 60) dX8_givesOf_60 ?_
    refine J_iload_n (pc := 61) dX8_givesOf_61 rfl ?_
    refine J_imul (pc := 62) dX8_givesOf_62 ?_
    refine K_iret (pc := 63) dX8_givesOf_63 rfl ⟨_, rfl, ?_⟩
    unfold givR givenV
    exact ⟨by rw [if_pos c21_1], rfl⟩
  by_cases c21_2 : ((m 141 (90 + 6 * p))) = nI 2
  ·
    refine J_tsIn (pc := 21) (tgt := 64) (off := 43) dX8_givesOf_21 (by rw [c21_2]; decide) (by rw [c21_2]; decide) (by rw [c21_2]; rfl) (by decide) ?_
    refine J_iconst (pc := 64) dX8_givesOf_64 kni_2 ?_
    refine J_iload_n (pc := 65) dX8_givesOf_65 rfl ?_
    refine J_imul (pc := 66) dX8_givesOf_66 ?_
    refine K_iret (pc := 67) dX8_givesOf_67 rfl ⟨_, rfl, ?_⟩
    unfold givR givenV
    exact ⟨by rw [if_neg c21_1, if_pos c21_2], rfl⟩
  by_cases c21_3 : ((m 141 (90 + 6 * p))) = nI 3
  ·
    refine J_tsIn (pc := 21) (tgt := 68) (off := 47) dX8_givesOf_21 (by rw [c21_3]; decide) (by rw [c21_3]; decide) (by rw [c21_3]; rfl) (by decide) ?_
    refine J_iconst (pc := 68) dX8_givesOf_68 kni_2 ?_
    refine J_iload_n (pc := 69) dX8_givesOf_69 rfl ?_
    refine J_imul (pc := 70) dX8_givesOf_70 ?_
    refine J_aload_n (pc := 71) dX8_givesOf_71 rfl ?_
    refine K_getR (pc := 72) dX8_givesOf_72 kf_X8_7 job_140 jrf_140_0 ?_
    refine J_iload_n (pc := 75) dX8_givesOf_75 rfl ?_
    refine J_iconst (pc := 76) dX8_givesOf_76 kni_2 ?_
    refine J_iaddv (pc := 77) dX8_givesOf_77 (nI_add _ _) ?_
    refine K_ialdn (pc := 78) (id := 141) dX8_givesOf_78 jar_141 (by omega) (by decide) ?_
    refine J_iadd (pc := 79) dX8_givesOf_79 ?_
    refine K_iret (pc := 80) dX8_givesOf_80 rfl ⟨_, rfl, ?_⟩
    unfold givR givenV
    exact ⟨by rw [if_neg c21_1, if_neg c21_2, if_pos c21_3], rfl⟩
  by_cases c21_4 : ((m 141 (90 + 6 * p))) = nI 4
  ·
    refine J_tsIn (pc := 21) (tgt := 81) (off := 60) dX8_givesOf_21 (by rw [c21_4]; decide) (by rw [c21_4]; decide) (by rw [c21_4]; rfl) (by decide) ?_
    refine J_iload_n (pc := 81) dX8_givesOf_81 rfl ?_
    refine K_iret (pc := 82) dX8_givesOf_82 rfl ⟨_, rfl, ?_⟩
    unfold givR givenV
    exact ⟨by rw [if_neg c21_1, if_neg c21_2, if_neg c21_3, if_pos c21_4], rfl⟩
  refine J_tsOut (pc := 21) (tgt := 83) dX8_givesOf_21 (by have qc21_1 := jsw_ne c21_1 (by decide); have qc21_2 := jsw_ne c21_2 (by decide); have qc21_3 := jsw_ne c21_3 (by decide); have qc21_4 := jsw_ne c21_4 (by decide); omega) (by decide) ?_
  refine J_iconst (pc := 83) dX8_givesOf_83 kni_0 ?_
  refine K_iret (pc := 84) dX8_givesOf_84 rfl ⟨_, rfl, ?_⟩
  unfold givR givenV
  exact ⟨by rw [if_neg c21_1, if_neg c21_2, if_neg c21_3, if_neg c21_4], rfl⟩
