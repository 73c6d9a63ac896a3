set_option maxRecDepth 100000 in
set_option maxHeartbeats 400000 in
theorem c_spellsEye {x : jX} {m : jm} {d : Nat} {s e : Nat} (hs : m 70 2 = nI s) (he : m 70 3 = nI e) (hse : s ≤ e) (he96 : e ≤ 96) : Ct x (d + 4) eX5_spells [.ref (jxb x + 70), .ref (jxs x 1)] m (jp (jb (e - s = 3 ∧ m 71 (s + 0) = nI 101 ∧ m 71 (s + 1) = nI 121 ∧ m 71 (s + 2) = nI 101)) m) := by
  refine J_start (by decide +kernel) (Nat.le_of_ble_eq_true rfl) (ls := [some (.ref (jxb x + 70)), some (.ref (jxs x 1)), none]) rfl rfl ?_
  refine J_aload_n (pc := 0) dX5_spells_0 rfl ?_
  refine K_getI (pc := 1) dX5_spells_1 kf_X5_22 job_70 jrf_70_3 ?_
  refine J_top (b := nI e) (he) ?_
  refine J_aload_n (pc := 4) dX5_spells_4 rfl ?_
  refine K_getI (pc := 5) dX5_spells_5 kf_X5_19 job_70 jrf_70_2 ?_
  refine J_top (b := nI s) (hs) ?_
  refine J_isubv (pc := 8) dX5_spells_8 (pk_sub (by omega)) ?_
  refine J_aload_n (pc := 9) dX5_spells_9 rfl ?_
  refine K_callTp (pc := 10) (j := 1) (As := []) dX5_spells_10 kl_X5_108 rfl (by decide) rfl rfl (Nat.le_of_ble_eq_true rfl) (c_slength (j := 1) (by decide)) ?_
  refine J_top (b := nI 3) (rfl) ?_
  refine Jn_eq (pc := 13) (tgt := 18) dX5_spells_13 (by decide) (by omega) (by omega) (fun h13 => ?_) (fun h13 => ?_)
  · 
    refine J_iconst (pc := 18) dX5_spells_18 kni_0 ?_
    refine J_istore_n (pc := 19) (ls' := [some _, some _, some _]) dX5_spells_19 rfl (Nat.le_of_ble_eq_true rfl) rfl ?_
    refine J_iload_n (pc := 20) dX5_spells_20 rfl ?_
    refine J_aload_n (pc := 21) dX5_spells_21 rfl ?_
    refine K_callTp (pc := 22) (j := 1) (As := []) dX5_spells_22 kl_X5_108 rfl (by decide) rfl rfl (Nat.le_of_ble_eq_true rfl) (c_slength (j := 1) (by decide)) ?_
    refine J_top (b := nI 3) (rfl) ?_
    refine Jn_ge (pc := 25) (tgt := 55) dX5_spells_25 (by decide) (by omega) (by omega) (fun h25 => absurd h25 (by omega)) (fun h25 => ?_)
    refine J_aload_n (pc := 28) dX5_spells_28 rfl ?_
    refine K_getR (pc := 29) dX5_spells_29 kf_X5_9 job_70 jrf_70_0 ?_
    refine J_aload_n (pc := 32) dX5_spells_32 rfl ?_
    refine K_getI (pc := 33) dX5_spells_33 kf_X5_19 job_70 jrf_70_2 ?_
    refine J_top (b := nI s) (hs) ?_
    refine J_iload_n (pc := 36) dX5_spells_36 rfl ?_
    refine J_iaddv (pc := 37) dX5_spells_37 (nI_add _ _) ?_
    refine K_baldn (pc := 38) (id := 71) dX5_spells_38 jar_71 (by omega) (by decide) ?_
    refine J_aload_n (pc := 39) dX5_spells_39 rfl ?_
    refine J_iload_n (pc := 40) dX5_spells_40 rfl ?_
    refine K_callTp (pc := 41) (j := 1) (As := [_]) dX5_spells_41 kl_X5_113 rfl (by decide) rfl rfl (Nat.le_of_ble_eq_true rfl) (c_charAt (j := 1) (i := 0) (by decide) (by decide)) ?_
    refine J_icmp_eq (pc := 44) (tgt := 49) dX5_spells_44 (by decide) (fun h44 => ?_) (fun h44 => ?_)
    · 
      refine J_iinc (pc := 49) (v := nI 1) (ls' := [some _, some _, some _]) dX5_spells_49 rfl (by decide +kernel) rfl rfl ?_
      refine J_goto (pc := 52) (tgt := 20) dX5_spells_52 (by decide) ?_
      refine J_iload_n (pc := 20) dX5_spells_20 rfl ?_
      refine J_aload_n (pc := 21) dX5_spells_21 rfl ?_
      refine K_callTp (pc := 22) (j := 1) (As := []) dX5_spells_22 kl_X5_108 rfl (by decide) rfl rfl (Nat.le_of_ble_eq_true rfl) (c_slength (j := 1) (by decide)) ?_
      refine J_top (b := nI 3) (rfl) ?_
      refine Jn_ge (pc := 25) (tgt := 55) dX5_spells_25 (by decide) (by omega) (by omega) (fun h25_2 => absurd h25_2 (by omega)) (fun h25_2 => ?_)
      refine J_aload_n (pc := 28) dX5_spells_28 rfl ?_
      refine K_getR (pc := 29) dX5_spells_29 kf_X5_9 job_70 jrf_70_0 ?_
      refine J_aload_n (pc := 32) dX5_spells_32 rfl ?_
      refine K_getI (pc := 33) dX5_spells_33 kf_X5_19 job_70 jrf_70_2 ?_
      refine J_top (b := nI s) (hs) ?_
      refine J_iload_n (pc := 36) dX5_spells_36 rfl ?_
      refine J_iaddv (pc := 37) dX5_spells_37 (nI_add _ _) ?_
      refine K_baldn (pc := 38) (id := 71) dX5_spells_38 jar_71 (by omega) (by decide) ?_
      refine J_aload_n (pc := 39) dX5_spells_39 rfl ?_
      refine J_iload_n (pc := 40) dX5_spells_40 rfl ?_
      refine K_callTp (pc := 41) (j := 1) (As := [_]) dX5_spells_41 kl_X5_113 rfl (by decide) rfl rfl (Nat.le_of_ble_eq_true rfl) (c_charAt (j := 1) (i := 1) (by decide) (by decide)) ?_
      refine J_icmp_eq (pc := 44) (tgt := 49) dX5_spells_44 (by decide) (fun h44_2 => ?_) (fun h44_2 => ?_)
      · 
        refine J_iinc (pc := 49) (v := nI 2) (ls' := [some _, some _, some _]) dX5_spells_49 rfl (by decide +kernel) rfl rfl ?_
        refine J_goto (pc := 52) (tgt := 20) dX5_spells_52 (by decide) ?_
        refine J_iload_n (pc := 20) dX5_spells_20 rfl ?_
        refine J_aload_n (pc := 21) dX5_spells_21 rfl ?_
        refine K_callTp (pc := 22) (j := 1) (As := []) dX5_spells_22 kl_X5_108 rfl (by decide) rfl rfl (Nat.le_of_ble_eq_true rfl) (c_slength (j := 1) (by decide)) ?_
        refine J_top (b := nI 3) (rfl) ?_
        refine Jn_ge (pc := 25) (tgt := 55) dX5_spells_25 (by decide) (by omega) (by omega) (fun h25_3 => absurd h25_3 (by omega)) (fun h25_3 => ?_)
        refine J_aload_n (pc := 28) dX5_spells_28 rfl ?_
        refine K_getR (pc := 29) dX5_spells_29 kf_X5_9 job_70 jrf_70_0 ?_
        refine J_aload_n (pc := 32) dX5_spells_32 rfl ?_
        refine K_getI (pc := 33) dX5_spells_33 kf_X5_19 job_70 jrf_70_2 ?_
        refine J_top (b := nI s) (hs) ?_
        refine J_iload_n (pc := 36) dX5_spells_36 rfl ?_
        refine J_iaddv (pc := 37) dX5_spells_37 (nI_add _ _) ?_
        refine K_baldn (pc := 38) (id := 71) dX5_spells_38 jar_71 (by omega) (by decide) ?_
        refine J_aload_n (pc := 39) dX5_spells_39 rfl ?_
        refine J_iload_n (pc := 40) dX5_spells_40 rfl ?_
        refine K_callTp (pc := 41) (j := 1) (As := [_]) dX5_spells_41 kl_X5_113 rfl (by decide) rfl rfl (Nat.le_of_ble_eq_true rfl) (c_charAt (j := 1) (i := 2) (by decide) (by decide)) ?_
        refine J_icmp_eq (pc := 44) (tgt := 49) dX5_spells_44 (by decide) (fun h44_3 => ?_) (fun h44_3 => ?_)
        · 
          refine J_iinc (pc := 49) (v := nI 3) (ls' := [some _, some _, some _]) dX5_spells_49 rfl (by decide +kernel) rfl rfl ?_
          refine J_goto (pc := 52) (tgt := 20) dX5_spells_52 (by decide) ?_
          refine J_iload_n (pc := 20) dX5_spells_20 rfl ?_
          refine J_aload_n (pc := 21) dX5_spells_21 rfl ?_
          refine K_callTp (pc := 22) (j := 1) (As := []) dX5_spells_22 kl_X5_108 rfl (by decide) rfl rfl (Nat.le_of_ble_eq_true rfl) (c_slength (j := 1) (by decide)) ?_
          refine J_top (b := nI 3) (rfl) ?_
          refine Jn_ge (pc := 25) (tgt := 55) dX5_spells_25 (by decide) (by omega) (by omega) (fun h25_4 => ?_) (fun h25_4 => absurd h25_4 (by omega))
          refine J_iconst (pc := 55) dX5_spells_55 kni_1 ?_
          refine K_zret (pc := 56) dX5_spells_56 rfl rfl ⟨_, rfl, ?_⟩
          exact ⟨(if_pos ⟨by omega, h44, h44_2, h44_3⟩).symm, rfl⟩
        · 
          refine J_iconst (pc := 47) dX5_spells_47 kni_0 ?_
          refine K_zret (pc := 48) dX5_spells_48 rfl rfl ⟨_, rfl, ?_⟩
          exact ⟨(if_neg (fun q => h44_3 q.2.2.2)).symm, rfl⟩
      · 
        refine J_iconst (pc := 47) dX5_spells_47 kni_0 ?_
        refine K_zret (pc := 48) dX5_spells_48 rfl rfl ⟨_, rfl, ?_⟩
        exact ⟨(if_neg (fun q => h44_2 q.2.2.1)).symm, rfl⟩
    · 
      refine J_iconst (pc := 47) dX5_spells_47 kni_0 ?_
      refine K_zret (pc := 48) dX5_spells_48 rfl rfl ⟨_, rfl, ?_⟩
      exact ⟨(if_neg (fun q => h44 q.2.1)).symm, rfl⟩
  · 
    refine J_iconst (pc := 16) dX5_spells_16 kni_0 ?_
    refine K_zret (pc := 17) dX5_spells_17 rfl rfl ⟨_, rfl, ?_⟩
    exact ⟨(if_neg (fun q => by have := q.1; omega)).symm, rfl⟩
set_option maxRecDepth 100000 in
set_option maxHeartbeats 400000 in
theorem c_spellsPull {x : jX} {m : jm} {d : Nat} {s e : Nat} (hs : m 70 2 = nI s) (he : m 70 3 = nI e) (hse : s ≤ e) (he96 : e ≤ 96) : Ct x (d + 4) eX5_spells [.ref (jxb x + 70), .ref (jxs x 3)] m (jp (jb (e - s = 4 ∧ m 71 (s + 0) = nI 112 ∧ m 71 (s + 1) = nI 117 ∧ m 71 (s + 2) = nI 108 ∧ m 71 (s + 3) = nI 108)) m) := by
  refine J_start (by decide +kernel) (Nat.le_of_ble_eq_true rfl) (ls := [some (.ref (jxb x + 70)), some (.ref (jxs x 3)), none]) rfl rfl ?_
  refine J_aload_n (pc := 0) dX5_spells_0 rfl ?_
  refine K_getI (pc := 1) dX5_spells_1 kf_X5_22 job_70 jrf_70_3 ?_
  refine J_top (b := nI e) (he) ?_
  refine J_aload_n (pc := 4) dX5_spells_4 rfl ?_
  refine K_getI (pc := 5) dX5_spells_5 kf_X5_19 job_70 jrf_70_2 ?_
  refine J_top (b := nI s) (hs) ?_
  refine J_isubv (pc := 8) dX5_spells_8 (pk_sub (by omega)) ?_
  refine J_aload_n (pc := 9) dX5_spells_9 rfl ?_
  refine K_callTp (pc := 10) (j := 3) (As := []) dX5_spells_10 kl_X5_108 rfl (by decide) rfl rfl (Nat.le_of_ble_eq_true rfl) (c_slength (j := 3) (by decide)) ?_
  refine J_top (b := nI 4) (rfl) ?_
  refine Jn_eq (pc := 13) (tgt := 18) dX5_spells_13 (by decide) (by omega) (by omega) (fun h13 => ?_) (fun h13 => ?_)
  · 
    refine J_iconst (pc := 18) dX5_spells_18 kni_0 ?_
    refine J_istore_n (pc := 19) (ls' := [some _, some _, some _]) dX5_spells_19 rfl (Nat.le_of_ble_eq_true rfl) rfl ?_
    refine J_iload_n (pc := 20) dX5_spells_20 rfl ?_
    refine J_aload_n (pc := 21) dX5_spells_21 rfl ?_
    refine K_callTp (pc := 22) (j := 3) (As := []) dX5_spells_22 kl_X5_108 rfl (by decide) rfl rfl (Nat.le_of_ble_eq_true rfl) (c_slength (j := 3) (by decide)) ?_
    refine J_top (b := nI 4) (rfl) ?_
    refine Jn_ge (pc := 25) (tgt := 55) dX5_spells_25 (by decide) (by omega) (by omega) (fun h25 => absurd h25 (by omega)) (fun h25 => ?_)
    refine J_aload_n (pc := 28) dX5_spells_28 rfl ?_
    refine K_getR (pc := 29) dX5_spells_29 kf_X5_9 job_70 jrf_70_0 ?_
    refine J_aload_n (pc := 32) dX5_spells_32 rfl ?_
    refine K_getI (pc := 33) dX5_spells_33 kf_X5_19 job_70 jrf_70_2 ?_
    refine J_top (b := nI s) (hs) ?_
    refine J_iload_n (pc := 36) dX5_spells_36 rfl ?_
    refine J_iaddv (pc := 37) dX5_spells_37 (nI_add _ _) ?_
    refine K_baldn (pc := 38) (id := 71) dX5_spells_38 jar_71 (by omega) (by decide) ?_
    refine J_aload_n (pc := 39) dX5_spells_39 rfl ?_
    refine J_iload_n (pc := 40) dX5_spells_40 rfl ?_
    refine K_callTp (pc := 41) (j := 3) (As := [_]) dX5_spells_41 kl_X5_113 rfl (by decide) rfl rfl (Nat.le_of_ble_eq_true rfl) (c_charAt (j := 3) (i := 0) (by decide) (by decide)) ?_
    refine J_icmp_eq (pc := 44) (tgt := 49) dX5_spells_44 (by decide) (fun h44 => ?_) (fun h44 => ?_)
    · 
      refine J_iinc (pc := 49) (v := nI 1) (ls' := [some _, some _, some _]) dX5_spells_49 rfl (by decide +kernel) rfl rfl ?_
      refine J_goto (pc := 52) (tgt := 20) dX5_spells_52 (by decide) ?_
      refine J_iload_n (pc := 20) dX5_spells_20 rfl ?_
      refine J_aload_n (pc := 21) dX5_spells_21 rfl ?_
      refine K_callTp (pc := 22) (j := 3) (As := []) dX5_spells_22 kl_X5_108 rfl (by decide) rfl rfl (Nat.le_of_ble_eq_true rfl) (c_slength (j := 3) (by decide)) ?_
      refine J_top (b := nI 4) (rfl) ?_
      refine Jn_ge (pc := 25) (tgt := 55) dX5_spells_25 (by decide) (by omega) (by omega) (fun h25_2 => absurd h25_2 (by omega)) (fun h25_2 => ?_)
      refine J_aload_n (pc := 28) dX5_spells_28 rfl ?_
      refine K_getR (pc := 29) dX5_spells_29 kf_X5_9 job_70 jrf_70_0 ?_
      refine J_aload_n (pc := 32) dX5_spells_32 rfl ?_
      refine K_getI (pc := 33) dX5_spells_33 kf_X5_19 job_70 jrf_70_2 ?_
      refine J_top (b := nI s) (hs) ?_
      refine J_iload_n (pc := 36) dX5_spells_36 rfl ?_
      refine J_iaddv (pc := 37) dX5_spells_37 (nI_add _ _) ?_
      refine K_baldn (pc := 38) (id := 71) dX5_spells_38 jar_71 (by omega) (by decide) ?_
      refine J_aload_n (pc := 39) dX5_spells_39 rfl ?_
      refine J_iload_n (pc := 40) dX5_spells_40 rfl ?_
      refine K_callTp (pc := 41) (j := 3) (As := [_]) dX5_spells_41 kl_X5_113 rfl (by decide) rfl rfl (Nat.le_of_ble_eq_true rfl) (c_charAt (j := 3) (i := 1) (by decide) (by decide)) ?_
      refine J_icmp_eq (pc := 44) (tgt := 49) dX5_spells_44 (by decide) (fun h44_2 => ?_) (fun h44_2 => ?_)
      · 
        refine J_iinc (pc := 49) (v := nI 2) (ls' := [some _, some _, some _]) dX5_spells_49 rfl (by decide +kernel) rfl rfl ?_
        refine J_goto (pc := 52) (tgt := 20) dX5_spells_52 (by decide) ?_
        refine J_iload_n (pc := 20) dX5_spells_20 rfl ?_
        refine J_aload_n (pc := 21) dX5_spells_21 rfl ?_
        refine K_callTp (pc := 22) (j := 3) (As := []) dX5_spells_22 kl_X5_108 rfl (by decide) rfl rfl (Nat.le_of_ble_eq_true rfl) (c_slength (j := 3) (by decide)) ?_
        refine J_top (b := nI 4) (rfl) ?_
        refine Jn_ge (pc := 25) (tgt := 55) dX5_spells_25 (by decide) (by omega) (by omega) (fun h25_3 => absurd h25_3 (by omega)) (fun h25_3 => ?_)
        refine J_aload_n (pc := 28) dX5_spells_28 rfl ?_
        refine K_getR (pc := 29) dX5_spells_29 kf_X5_9 job_70 jrf_70_0 ?_
        refine J_aload_n (pc := 32) dX5_spells_32 rfl ?_
        refine K_getI (pc := 33) dX5_spells_33 kf_X5_19 job_70 jrf_70_2 ?_
        refine J_top (b := nI s) (hs) ?_
        refine J_iload_n (pc := 36) dX5_spells_36 rfl ?_
        refine J_iaddv (pc := 37) dX5_spells_37 (nI_add _ _) ?_
        refine K_baldn (pc := 38) (id := 71) dX5_spells_38 jar_71 (by omega) (by decide) ?_
        refine J_aload_n (pc := 39) dX5_spells_39 rfl ?_
        refine J_iload_n (pc := 40) dX5_spells_40 rfl ?_
        refine K_callTp (pc := 41) (j := 3) (As := [_]) dX5_spells_41 kl_X5_113 rfl (by decide) rfl rfl (Nat.le_of_ble_eq_true rfl) (c_charAt (j := 3) (i := 2) (by decide) (by decide)) ?_
        refine J_icmp_eq (pc := 44) (tgt := 49) dX5_spells_44 (by decide) (fun h44_3 => ?_) (fun h44_3 => ?_)
        · 
          refine J_iinc (pc := 49) (v := nI 3) (ls' := [some _, some _, some _]) dX5_spells_49 rfl (by decide +kernel) rfl rfl ?_
          refine J_goto (pc := 52) (tgt := 20) dX5_spells_52 (by decide) ?_
          refine J_iload_n (pc := 20) dX5_spells_20 rfl ?_
          refine J_aload_n (pc := 21) dX5_spells_21 rfl ?_
          refine K_callTp (pc := 22) (j := 3) (As := []) dX5_spells_22 kl_X5_108 rfl (by decide) rfl rfl (Nat.le_of_ble_eq_true rfl) (c_slength (j := 3) (by decide)) ?_
          refine J_top (b := nI 4) (rfl) ?_
          refine Jn_ge (pc := 25) (tgt := 55) dX5_spells_25 (by decide) (by omega) (by omega) (fun h25_4 => absurd h25_4 (by omega)) (fun h25_4 => ?_)
          refine J_aload_n (pc := 28) dX5_spells_28 rfl ?_
          refine K_getR (pc := 29) dX5_spells_29 kf_X5_9 job_70 jrf_70_0 ?_
          refine J_aload_n (pc := 32) dX5_spells_32 rfl ?_
          refine K_getI (pc := 33) dX5_spells_33 kf_X5_19 job_70 jrf_70_2 ?_
          refine J_top (b := nI s) (hs) ?_
          refine J_iload_n (pc := 36) dX5_spells_36 rfl ?_
          refine J_iaddv (pc := 37) dX5_spells_37 (nI_add _ _) ?_
          refine K_baldn (pc := 38) (id := 71) dX5_spells_38 jar_71 (by omega) (by decide) ?_
          refine J_aload_n (pc := 39) dX5_spells_39 rfl ?_
          refine J_iload_n (pc := 40) dX5_spells_40 rfl ?_
          refine K_callTp (pc := 41) (j := 3) (As := [_]) dX5_spells_41 kl_X5_113 rfl (by decide) rfl rfl (Nat.le_of_ble_eq_true rfl) (c_charAt (j := 3) (i := 3) (by decide) (by decide)) ?_
          refine J_icmp_eq (pc := 44) (tgt := 49) dX5_spells_44 (by decide) (fun h44_4 => ?_) (fun h44_4 => ?_)
          · 
            refine J_iinc (pc := 49) (v := nI 4) (ls' := [some _, some _, some _]) dX5_spells_49 rfl (by decide +kernel) rfl rfl ?_
            refine J_goto (pc := 52) (tgt := 20) dX5_spells_52 (by decide) ?_
            refine J_iload_n (pc := 20) dX5_spells_20 rfl ?_
            refine J_aload_n (pc := 21) dX5_spells_21 rfl ?_
            refine K_callTp (pc := 22) (j := 3) (As := []) dX5_spells_22 kl_X5_108 rfl (by decide) rfl rfl (Nat.le_of_ble_eq_true rfl) (c_slength (j := 3) (by decide)) ?_
            refine J_top (b := nI 4) (rfl) ?_
            refine Jn_ge (pc := 25) (tgt := 55) dX5_spells_25 (by decide) (by omega) (by omega) (fun h25_5 => ?_) (fun h25_5 => absurd h25_5 (by omega))
            refine J_iconst (pc := 55) dX5_spells_55 kni_1 ?_
            refine K_zret (pc := 56) dX5_spells_56 rfl rfl ⟨_, rfl, ?_⟩
            exact ⟨(if_pos ⟨by omega, h44, h44_2, h44_3, h44_4⟩).symm, rfl⟩
          · 
            refine J_iconst (pc := 47) dX5_spells_47 kni_0 ?_
            refine K_zret (pc := 48) dX5_spells_48 rfl rfl ⟨_, rfl, ?_⟩
            exact ⟨(if_neg (fun q => h44_4 q.2.2.2.2)).symm, rfl⟩
        · 
          refine J_iconst (pc := 47) dX5_spells_47 kni_0 ?_
          refine K_zret (pc := 48) dX5_spells_48 rfl rfl ⟨_, rfl, ?_⟩
          exact ⟨(if_neg (fun q => h44_3 q.2.2.2.1)).symm, rfl⟩
      · 
        refine J_iconst (pc := 47) dX5_spells_47 kni_0 ?_
        refine K_zret (pc := 48) dX5_spells_48 rfl rfl ⟨_, rfl, ?_⟩
        exact ⟨(if_neg (fun q => h44_2 q.2.2.1)).symm, rfl⟩
    · 
      refine J_iconst (pc := 47) dX5_spells_47 kni_0 ?_
      refine K_zret (pc := 48) dX5_spells_48 rfl rfl ⟨_, rfl, ?_⟩
      exact ⟨(if_neg (fun q => h44 q.2.1)).symm, rfl⟩
  · 
    refine J_iconst (pc := 16) dX5_spells_16 kni_0 ?_
    refine K_zret (pc := 17) dX5_spells_17 rfl rfl ⟨_, rfl, ?_⟩
    exact ⟨(if_neg (fun q => by have := q.1; omega)).symm, rfl⟩
/-- the number that digits from s on tell -/
def numV (t : Nat → Int32) (s : Nat) : Nat → Int32
  | 0 => nI 0
  | k + 1 => numV t s k * nI 10 + t (s + k) - nI 48
set_option maxRecDepth 100000 in
set_option maxHeartbeats 400000 in
theorem c_number {x : jX} {m : jm} {d : Nat} {s e : Nat} (hs : m 70 2 = nI s) (he : m 70 3 = nI e) (hse : s ≤ e) (he96 : e ≤ 96) : Ct x d eX5_number [.ref (jxb x + 70)] m (jp (numV (m 71) s (e - s)) m) := by
  refine J_start (by decide +kernel) (Nat.le_of_ble_eq_true rfl) (ls := [some (.ref (jxb x + 70)), none, none]) rfl rfl ?_
  refine J_iconst (pc := 0) dX5_number_0 kni_0 ?_
  refine J_istore_n (pc := 1) (ls' := [some _, some _, none]) dX5_number_1 rfl (Nat.le_of_ble_eq_true rfl) rfl ?_
  refine J_aload_n (pc := 2) dX5_number_2 rfl ?_
  refine K_getI (pc := 3) dX5_number_3 kf_X5_19 job_70 jrf_70_2 ?_
  refine J_top (b := nI s) (hs) ?_
  refine J_istore_n (pc := 6) (ls' := [some _, some _, some _]) dX5_number_6 rfl (Nat.le_of_ble_eq_true rfl) rfl ?_
  refine K_for' (pc := 7) (e - s) (fun i => [some (.ref (jxb x + 70)), some (.int ((numV (m 71) s i))), some (.int (nI (s + i)))]) (fun i => m) (by rfl) (by rfl) (fun i hi ih7 => ?_) ?_
  ·
    show K x _ _ 7 [some (.ref (jxb x + 70)), some (.int ((numV (m 71) s i))), some (.int (nI (s + i)))] _ m _
    refine J_iload_n (pc := 7) dX5_number_7 rfl ?_
    refine J_aload_n (pc := 8) dX5_number_8 rfl ?_
    refine K_getI (pc := 9) dX5_number_9 kf_X5_22 job_70 jrf_70_3 ?_
    refine J_top (b := nI e) (he) ?_
    refine Jn_ge (pc := 12) (tgt := 36) dX5_number_12 (by decide) (by omega) (by omega) (fun h12 => absurd h12 (by omega)) (fun h12 => ?_)
    refine J_iload_n (pc := 15) dX5_number_15 rfl ?_
    refine J_bipush (pc := 16) dX5_number_16 knb_10 ?_
    refine J_imul (pc := 18) dX5_number_18 ?_
    refine J_aload_n (pc := 19) dX5_number_19 rfl ?_
    refine K_getR (pc := 20) dX5_number_20 kf_X5_9 job_70 jrf_70_0 ?_
    refine J_iload_n (pc := 23) dX5_number_23 rfl ?_
    refine K_baldn (pc := 24) (id := 71) dX5_number_24 jar_71 (by omega) (by decide) ?_
    refine J_iadd (pc := 25) dX5_number_25 ?_
    refine J_bipush (pc := 26) dX5_number_26 knb_48 ?_
    refine J_isub (pc := 28) dX5_number_28 ?_
    refine J_istore_n (pc := 29) (ls' := [some _, some _, some _]) dX5_number_29 rfl (Nat.le_of_ble_eq_true rfl) rfl ?_
    refine Jn_iinc (pc := 30) (ls' := [some _, some _, some _]) dX5_number_30 rfl knz_1 rfl rfl ?_
    refine J_goto (pc := 33) (tgt := 7) dX5_number_33 (by decide) ?_
    exact ih7
  ·
    show K x _ _ 7 [some (.ref (jxb x + 70)), some (.int ((numV (m 71) s (e - s)))), some (.int (nI (s + (e - s))))] _ m _
    rw [show s + (e - s) = e by omega]
    refine J_iload_n (pc := 7) dX5_number_7 rfl ?_
    refine J_aload_n (pc := 8) dX5_number_8 rfl ?_
    refine K_getI (pc := 9) dX5_number_9 kf_X5_22 job_70 jrf_70_3 ?_
    refine J_top (b := nI e) (he) ?_
    refine Jn_ge (pc := 12) (tgt := 36) dX5_number_12 (by decide) (by omega) (by omega) (fun h12 => ?_) (fun h12 => absurd h12 (by omega))
    refine J_iload_n (pc := 36) dX5_number_36 rfl ?_
    refine K_iret (pc := 37) dX5_number_37 rfl ⟨_, rfl, ?_⟩
    exact ⟨rfl, rfl⟩
