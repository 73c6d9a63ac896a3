def farR (m : jm) (p : Nat) : Int32 := sizV (aimR m 141 p - m 141 (90 + 6 * p + 5))
def stepsR (m : jm) (p : Nat) : Int32 := if farR m p = 0 then nI 0 else (farR m p + pacR m 141 p - nI 1) / pacR m 141 p
def rstR (m : jm) : Nat → Int32
  | 0 => nI 0
  | p + 1 => if rstR m p < stepsR m p then stepsR m p else rstR m p
theorem pac_nz {m : jm} {p : Nat} (h : ¬ farR m p = 0) : ¬ pacR m 141 p = 0 := by
  intro q
  apply h
  have hk : m 141 (90 + 6 * p) = nI 5 := by
    unfold pacR paceV at q
    by_cases a1 : m 141 (90 + 6 * p) = nI 1
    · rw [if_pos a1] at q
      by_cases b : nI 4 < m 141 (90 + 6 * p + 2)
      · rw [if_pos b] at q; exact absurd q (by decide)
      · rw [if_neg b] at q; exact absurd q (by decide)
    rw [if_neg a1] at q
    by_cases a2 : m 141 (90 + 6 * p) = nI 2
    · rw [if_pos a2] at q; exact absurd q (by decide)
    rw [if_neg a2] at q
    by_cases a3 : m 141 (90 + 6 * p) = nI 3
    · rw [if_pos a3] at q; exact absurd q (by decide)
    rw [if_neg a3] at q
    by_cases a4 : m 141 (90 + 6 * p) = nI 4
    · rw [if_pos a4] at q; exact absurd q (by decide)
    rw [if_neg a4] at q
    by_cases a5 : m 141 (90 + 6 * p) = nI 5
    · exact a5
    rw [if_neg a5] at q
    exact absurd q (by decide)
  have ha : aimR m 141 p = m 141 (90 + 6 * p + 5) := by
    unfold aimR aimV
    rw [hk, if_neg (by decide), if_neg (by decide), if_neg (by decide), if_pos rfl]
  unfold farR
  rw [ha, Int32.sub_self]
  rfl
set_option maxRecDepth 100000 in
set_option maxHeartbeats 400000 in
theorem m_still {x : jX} {m : jm} {d : Nat} {P : Nat} (hP : m 141 0 = nI P) (h48 : P ≤ 48) (hw : wfR m 141) : Ct x (d + 3) eX8_still [.ref (jxb x + 140)] m (jp (rstR m P) m) := by
  refine J_start (by decide +kernel) (Nat.le_of_ble_eq_true rfl) (ls := [some (.ref (jxb x + 140)), none, none, none, none]) rfl rfl ?_
  refine J_iconst (pc := 0) dX8_still_0 kni_0 ?_
  refine J_istore_n (pc := 1) (ls' := [some _, some _, none, none, none]) dX8_still_1 rfl (Nat.le_of_ble_eq_true rfl) rfl ?_
  refine J_iconst (pc := 2) dX8_still_2 kni_0 ?_
  refine J_istore_n (pc := 3) (ls' := [some _, some _, some _, none, none]) dX8_still_3 rfl (Nat.le_of_ble_eq_true rfl) rfl ?_
  refine K_for' (pc := 4) P (fun p => [some (.ref (jxb x + 140)), some (.int ((rstR m p))), some (.int (nI p)), none, none]) (fun p => m) (by rfl) (by rfl) (fun p hp ih4 => ?_) ?_
  ·
    show K x _ _ 4 [some (.ref (jxb x + 140)), some (.int ((rstR m p))), some (.int (nI p)), none, none] _ m _
    refine J_iload_n (pc := 4) dX8_still_4 rfl ?_
    refine J_aload_n (pc := 5) dX8_still_5 rfl ?_
    refine K_getR (pc := 6) dX8_still_6 kf_X8_7 job_140 jrf_140_0 ?_
    refine J_iconst (pc := 9) dX8_still_9 kni_0 ?_
    refine K_ialdn (pc := 10) (id := 141) dX8_still_10 jar_141 (by decide) (by decide) ?_
    refine J_top (b := nI P) (hP) ?_
    refine Jn_ge (pc := 11) (tgt := 80) dX8_still_11 (by decide) (by omega) (by omega) (fun h11 => absurd h11 (by omega)) (fun h11 => ?_)
    refine J_aload_n (pc := 14) dX8_still_14 rfl ?_
    refine J_iload_n (pc := 15) dX8_still_15 rfl ?_
    refine K_callVp (pc := 16) (id := 140) (As := [_]) dX8_still_16 kl_X8_107 rfl job_140 rfl rfl (Nat.le_of_ble_eq_true rfl) (m_aimOf (p := p) (by omega) hw) ?_
    refine J_aload_n (pc := 19) dX8_still_19 rfl ?_
    refine K_getR (pc := 20) dX8_still_20 kf_X8_7 job_140 jrf_140_0 ?_
    refine J_aload_n (pc := 23) dX8_still_23 rfl ?_
    refine J_iload_n (pc := 24) dX8_still_24 rfl ?_
    refine K_callVp (pc := 25) (id := 140) (As := [_]) dX8_still_25 kl_X8_81 rfl job_140 rfl rfl (Nat.le_of_ble_eq_true rfl) (m_partAt) ?_
    refine J_iconst (pc := 28) dX8_still_28 kni_5 ?_
    refine J_iaddv (pc := 29) dX8_still_29 (nI_add _ _) ?_
    refine K_ialdn (pc := 30) (id := 141) dX8_still_30 jar_141 (by omega) (by decide) ?_
    refine J_isub (pc := 31) dX8_still_31 ?_
    refine K_callSp (pc := 32) (As := [_]) dX8_still_32 kl_X8_139 rfl rfl (Nat.le_of_ble_eq_true rfl) (m_size _) ?_
    refine J_top (b := (farR m p)) (rfl) ?_
    refine J_istore_n (pc := 35) (ls' := [some _, some _, some _, some _, none]) dX8_still_35 rfl (Nat.le_of_ble_eq_true rfl) rfl ?_
    refine J_iload_n (pc := 36) dX8_still_36 rfl ?_
    refine J_if_ne (pc := 37) (tgt := 44) dX8_still_37 (by decide) (fun h37 => ?_) (fun h37 => ?_)
    · 
      refine J_iload_n (pc := 44) dX8_still_44 rfl ?_
      refine J_aload_n (pc := 45) dX8_still_45 rfl ?_
      refine J_iload_n (pc := 46) dX8_still_46 rfl ?_
      refine K_callVp (pc := 47) (id := 140) (As := [_]) dX8_still_47 kl_X8_110 rfl job_140 rfl rfl (Nat.le_of_ble_eq_true rfl) (m_paceOf (p := p) (by omega)) ?_
      refine J_iadd (pc := 50) dX8_still_50 ?_
      refine J_iconst (pc := 51) dX8_still_51 kni_1 ?_
      refine J_isub (pc := 52) dX8_still_52 ?_
      refine J_aload_n (pc := 53) dX8_still_53 rfl ?_
      refine J_iload_n (pc := 54) dX8_still_54 rfl ?_
      refine K_callVp (pc := 55) (id := 140) (As := [_]) dX8_still_55 kl_X8_110 rfl job_140 rfl rfl (Nat.le_of_ble_eq_true rfl) (m_paceOf (p := p) (by omega)) ?_
      refine J_idiv (pc := 58) dX8_still_58 (pac_nz h37) rfl ?_
      refine J_istore (pc := 59) (ls' := [some _, some _, some _, some _, some _]) dX8_still_59 rfl (Nat.le_of_ble_eq_true rfl) rfl ?_
      refine J_iload (pc := 61) dX8_still_61 rfl ?_
      refine J_iload_n (pc := 63) dX8_still_63 rfl ?_
      refine J_icmp_le (pc := 64) (tgt := 72) dX8_still_64 (by decide) (fun h64 => ?_) (fun h64 => ?_)
      · 
        refine J_iload_n (pc := 72) dX8_still_72 rfl ?_
        refine J_istore_n (pc := 73) (ls' := [some _, some _, some _, some _, some _]) dX8_still_73 rfl (Nat.le_of_ble_eq_true rfl) rfl ?_
        refine Jn_iinc (pc := 74) (ls' := [some _, some _, some _, some _, some _]) dX8_still_74 rfl knz_1 rfl rfl ?_
        refine J_goto (pc := 77) (tgt := 4) dX8_still_77 (by decide) ?_
        have es : stepsR m p = (farR m p + pacR m 141 p - nI 1) / pacR m 141 p := (if_neg h37)
        have er : rstR m (p + 1) = rstR m p := (if_neg (by rw [es]; exact Int32.not_lt.mpr h64))
        refine J_wk' (ls' := [some (.ref (jxb x + 140)), some (.int ((rstR m p))), some (.int (nI (p + 1))), none, none]) ?_ rfl ?_
        · rw [← er]
          exact ih4
        · rintro (_ | _ | _ | _ | _ | _ | k) v hv <;> first | exact hv | cases hv
      · 
        refine J_iload (pc := 67) dX8_still_67 rfl ?_
        refine J_goto (pc := 69) (tgt := 73) dX8_still_69 (by decide) ?_
        refine J_istore_n (pc := 73) (ls' := [some _, some _, some _, some _, some _]) dX8_still_73 rfl (Nat.le_of_ble_eq_true rfl) rfl ?_
        refine Jn_iinc (pc := 74) (ls' := [some _, some _, some _, some _, some _]) dX8_still_74 rfl knz_1 rfl rfl ?_
        refine J_goto (pc := 77) (tgt := 4) dX8_still_77 (by decide) ?_
        have es : stepsR m p = (farR m p + pacR m 141 p - nI 1) / pacR m 141 p := (if_neg h37)
        have er : rstR m (p + 1) = (farR m p + pacR m 141 p - nI 1) / pacR m 141 p := ((if_pos (by rw [es]; exact Int32.not_le.mp h64)).trans es)
        refine J_wk' (ls' := [some (.ref (jxb x + 140)), some (.int (((farR m p + pacR m 141 p - nI 1) / pacR m 141 p))), some (.int (nI (p + 1))), none, none]) ?_ rfl ?_
        · rw [← er]
          exact ih4
        · rintro (_ | _ | _ | _ | _ | _ | k) v hv <;> first | exact hv | cases hv
    · 
      refine J_iconst (pc := 40) dX8_still_40 kni_0 ?_
      refine J_goto (pc := 41) (tgt := 59) dX8_still_41 (by decide) ?_
      refine J_istore (pc := 59) (ls' := [some _, some _, some _, some _, some _]) dX8_still_59 rfl (Nat.le_of_ble_eq_true rfl) rfl ?_
      refine J_iload (pc := 61) dX8_still_61 rfl ?_
      refine J_iload_n (pc := 63) dX8_still_63 rfl ?_
      refine J_icmp_le (pc := 64) (tgt := 72) dX8_still_64 (by decide) (fun h64 => ?_) (fun h64 => ?_)
      · 
        refine J_iload_n (pc := 72) dX8_still_72 rfl ?_
        refine J_istore_n (pc := 73) (ls' := [some _, some _, some _, some _, some _]) dX8_still_73 rfl (Nat.le_of_ble_eq_true rfl) rfl ?_
        refine Jn_iinc (pc := 74) (ls' := [some _, some _, some _, some _, some _]) dX8_still_74 rfl knz_1 rfl rfl ?_
        refine J_goto (pc := 77) (tgt := 4) dX8_still_77 (by decide) ?_
        have es : stepsR m p = nI 0 := (if_pos h37)
        have er : rstR m (p + 1) = rstR m p := (if_neg (by rw [es]; exact Int32.not_lt.mpr h64))
        refine J_wk' (ls' := [some (.ref (jxb x + 140)), some (.int ((rstR m p))), some (.int (nI (p + 1))), none, none]) ?_ rfl ?_
        · rw [← er]
          exact ih4
        · rintro (_ | _ | _ | _ | _ | _ | k) v hv <;> first | exact hv | cases hv
      · 
        refine J_iload (pc := 67) dX8_still_67 rfl ?_
        refine J_goto (pc := 69) (tgt := 73) dX8_still_69 (by decide) ?_
        refine J_istore_n (pc := 73) (ls' := [some _, some _, some _, some _, some _]) dX8_still_73 rfl (Nat.le_of_ble_eq_true rfl) rfl ?_
        refine Jn_iinc (pc := 74) (ls' := [some _, some _, some _, some _, some _]) dX8_still_74 rfl knz_1 rfl rfl ?_
        refine J_goto (pc := 77) (tgt := 4) dX8_still_77 (by decide) ?_
        have es : stepsR m p = nI 0 := (if_pos h37)
        have er : rstR m (p + 1) = nI 0 := ((if_pos (by rw [es]; exact Int32.not_le.mp h64)).trans es)
        refine J_wk' (ls' := [some (.ref (jxb x + 140)), some (.int ((nI 0))), some (.int (nI (p + 1))), none, none]) ?_ rfl ?_
        · rw [← er]
          exact ih4
        · rintro (_ | _ | _ | _ | _ | _ | k) v hv <;> first | exact hv | cases hv
  ·
    show K x _ _ 4 [some (.ref (jxb x + 140)), some (.int ((rstR m P))), some (.int (nI P)), none, none] _ m _
    refine J_iload_n (pc := 4) dX8_still_4 rfl ?_
    refine J_aload_n (pc := 5) dX8_still_5 rfl ?_
    refine K_getR (pc := 6) dX8_still_6 kf_X8_7 job_140 jrf_140_0 ?_
    refine J_iconst (pc := 9) dX8_still_9 kni_0 ?_
    refine K_ialdn (pc := 10) (id := 141) dX8_still_10 jar_141 (by decide) (by decide) ?_
    refine J_top (b := nI P) (hP) ?_
    refine Jn_ge (pc := 11) (tgt := 80) dX8_still_11 (by decide) (by omega) (by omega) (fun h11 => ?_) (fun h11 => absurd h11 (by omega))
    refine J_iload_n (pc := 80) dX8_still_80 rfl ?_
    refine K_iret (pc := 81) dX8_still_81 rfl ⟨_, rfl, ?_⟩
    exact ⟨rfl, rfl⟩
