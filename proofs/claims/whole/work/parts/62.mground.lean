def shdR (m : jm) (g p : Nat) : Int32 := if m 144 (6 * g + p / 8) < 0 then nI 50 else if m 145 (6 * g + p / 8) ≤ nI (p % 8) then nI 50 else hldV (m 146 (24 * (6 * g + p / 8) + p % 8)) (nI 99)
theorem shdR_c {m m' : jm} (h1 : m' 144 = m 144) (h2 : m' 145 = m 145) (h3 : m' 146 = m 146) (g p : Nat) : shdR m' g p = shdR m g p := by
  unfold shdR
  rw [h1, h2, h3]
def misR (m : jm) : Nat → Int32 := fun k => sizV (m 147 k - m 154 k)
set_option maxRecDepth 100000 in
set_option maxHeartbeats 400000 in
theorem m_groundAt {x : jX} {m : jm} {d : Nat} {g p : Nat} (hg : g < 4) (hp : p < 48) : Ct x (d + 1) eX8_groundAt [.ref (jxb x + 140), .int (nI g), .int (nI p)] m (jp (shdR m g p) m) := by
  refine J_start (by decide +kernel) (Nat.le_of_ble_eq_true rfl) (ls := [some (.ref (jxb x + 140)), some (.int (nI g)), some (.int (nI p)), none, none]) rfl rfl ?_
  refine J_bipush (pc := 0) dX8_groundAt_0 knb_6 ?_
  refine J_iload_n (pc := 2) dX8_groundAt_2 rfl ?_
  refine J_imulv (pc := 3) dX8_groundAt_3 (pk_mul _ _) ?_
  refine J_iload_n (pc := 4) dX8_groundAt_4 rfl ?_
  refine J_bipush (pc := 5) dX8_groundAt_5 knb_8 ?_
  refine J_idiv (pc := 7) (v := nI (p / 8)) dX8_groundAt_7 (by decide) (pk_div (by omega) (by omega) (by omega)) ?_
  refine J_iaddv (pc := 8) dX8_groundAt_8 (nI_add _ _) ?_
  refine J_istore_n (pc := 9) (ls' := [some _, some _, some _, some _, none]) dX8_groundAt_9 rfl (Nat.le_of_ble_eq_true rfl) rfl ?_
  refine J_iload_n (pc := 10) dX8_groundAt_10 rfl ?_
  refine J_bipush (pc := 11) dX8_groundAt_11 knb_8 ?_
  refine J_irem (pc := 13) (v := nI (p % 8)) dX8_groundAt_13 (by decide) (pk_rem (by omega) (by omega) (by omega)) ?_
  refine J_istore (pc := 14) (ls' := [some _, some _, some _, some _, some _]) dX8_groundAt_14 rfl (Nat.le_of_ble_eq_true rfl) rfl ?_
  refine J_aload_n (pc := 16) dX8_groundAt_16 rfl ?_
  refine K_getR (pc := 17) dX8_groundAt_17 kf_X8_19 job_140 jrf_140_4 ?_
  refine J_iload_n (pc := 20) dX8_groundAt_20 rfl ?_
  refine K_ialdn (pc := 21) (id := 144) dX8_groundAt_21 jar_144 (by omega) (by decide) ?_
  refine J_if_lt (pc := 22) (tgt := 56) dX8_groundAt_22 (by decide) (fun h22 => ?_) (fun h22 => ?_)
  · 
    refine J_bipush (pc := 56) dX8_groundAt_56 knb_50 ?_
    refine K_iret (pc := 58) dX8_groundAt_58 rfl ⟨_, rfl, ?_⟩
    unfold shdR
    exact ⟨(if_pos h22).symm, rfl⟩
  · 
    refine J_iload (pc := 25) dX8_groundAt_25 rfl ?_
    refine J_aload_n (pc := 27) dX8_groundAt_27 rfl ?_
    refine K_getR (pc := 28) dX8_groundAt_28 kf_X8_22 job_140 jrf_140_5 ?_
    refine J_iload_n (pc := 31) dX8_groundAt_31 rfl ?_
    refine K_ialdn (pc := 32) (id := 145) dX8_groundAt_32 jar_145 (by omega) (by decide) ?_
    refine J_icmp_ge (pc := 33) (tgt := 56) dX8_groundAt_33 (by decide) (fun h33 => ?_) (fun h33 => ?_)
    · 
      refine J_bipush (pc := 56) dX8_groundAt_56 knb_50 ?_
      refine K_iret (pc := 58) dX8_groundAt_58 rfl ⟨_, rfl, ?_⟩
      unfold shdR
      exact ⟨((if_neg h22).trans (if_pos h33)).symm, rfl⟩
    · 
      refine J_aload_n (pc := 36) dX8_groundAt_36 rfl ?_
      refine K_getR (pc := 37) dX8_groundAt_37 kf_X8_25 job_140 jrf_140_6 ?_
      refine J_bipush (pc := 40) dX8_groundAt_40 knb_24 ?_
      refine J_iload_n (pc := 42) dX8_groundAt_42 rfl ?_
      refine J_imulv (pc := 43) dX8_groundAt_43 (pk_mul _ _) ?_
      refine J_iload (pc := 44) dX8_groundAt_44 rfl ?_
      refine J_iaddv (pc := 46) dX8_groundAt_46 (nI_add _ _) ?_
      refine K_ialdn (pc := 47) (id := 146) dX8_groundAt_47 jar_146 (by omega) (by decide) ?_
      refine J_bipush (pc := 48) dX8_groundAt_48 knb_99 ?_
      refine K_callSp (pc := 50) (As := [_, _]) dX8_groundAt_50 kl_X8_127 rfl rfl (Nat.le_of_ble_eq_true rfl) (m_held _ _) ?_
      refine J_goto (pc := 53) (tgt := 58) dX8_groundAt_53 (by decide) ?_
      refine K_iret (pc := 58) dX8_groundAt_58 rfl ⟨_, rfl, ?_⟩
      unfold shdR
      exact ⟨((if_neg h22).trans (if_neg h33)).symm, rfl⟩
set_option maxRecDepth 100000 in
set_option maxHeartbeats 400000 in
theorem m_findGround {x : jX} {m : jm} {d : Nat} {g : Nat} (hg : g < 4) : Ct x (d + 2) eX8_findGround [.ref (jxb x + 140), .int (nI g)] m (jv fun m' => m' = mfill m 154 48 (shdR m g)) := by
  refine J_start (by decide +kernel) (Nat.le_of_ble_eq_true rfl) (ls := [some (.ref (jxb x + 140)), some (.int (nI g)), none]) rfl rfl ?_
  refine J_iconst (pc := 0) dX8_findGround_0 kni_0 ?_
  refine J_istore_n (pc := 1) (ls' := [some _, some _, some _]) dX8_findGround_1 rfl (Nat.le_of_ble_eq_true rfl) rfl ?_
  refine K_for' (pc := 2) 48 (fun k => [some (.ref (jxb x + 140)), some (.int (nI g)), some (.int (nI k))]) (fun k => (mfill m 154 k (shdR m g))) (by rfl) (by rw [mfill_0]) (fun k hk ih2 => ?_) ?_
  ·
    show K x _ _ 2 [some (.ref (jxb x + 140)), some (.int (nI g)), some (.int (nI k))] _ ((mfill m 154 k (shdR m g))) _
    refine J_iload_n (pc := 2) dX8_findGround_2 rfl ?_
    refine J_bipush (pc := 3) dX8_findGround_3 knb_48 ?_
    refine Jn_ge (pc := 5) (tgt := 26) dX8_findGround_5 (by decide) (by omega) (by omega) (fun h5 => absurd h5 (by omega)) (fun h5 => ?_)
    refine J_aload_n (pc := 8) dX8_findGround_8 rfl ?_
    refine K_getR (pc := 9) dX8_findGround_9 kf_X8_50 job_140 jrf_140_25 ?_
    refine J_iload_n (pc := 12) dX8_findGround_12 rfl ?_
    refine J_aload_n (pc := 13) dX8_findGround_13 rfl ?_
    refine J_iload_n (pc := 14) dX8_findGround_14 rfl ?_
    refine J_iload_n (pc := 15) dX8_findGround_15 rfl ?_
    refine K_callVp (pc := 16) (id := 140) (As := [_, _]) dX8_findGround_16 kl_X8_171 rfl job_140 rfl rfl (Nat.le_of_ble_eq_true rfl) (m_groundAt (m := mfill m 154 k (shdR m g)) (g := g) (p := k) hg (by omega)) ?_
    refine J_top (b := (shdR m g k)) (shdR_c (mfill_i' (by decide)) (mfill_i' (by decide)) (mfill_i' (by decide)) g k) ?_
    refine K_iastn (pc := 19) (id := 154) dX8_findGround_19 jar_154 (by omega) (by decide) ?_
    refine Jn_iinc (pc := 20) (ls' := [some _, some _, some _]) dX8_findGround_20 rfl knz_1 rfl rfl ?_
    refine J_goto (pc := 23) (tgt := 2) dX8_findGround_23 (by decide) ?_
    have ev : ((shdR m g k)) = shdR m g k := by
      rfl
    rw [mfill_s _ _ _ _ ev]
    exact ih2
  ·
    show K x _ _ 2 [some (.ref (jxb x + 140)), some (.int (nI g)), some (.int (nI 48))] _ ((mfill m 154 48 (shdR m g))) _
    refine J_iload_n (pc := 2) dX8_findGround_2 rfl ?_
    refine J_bipush (pc := 3) dX8_findGround_3 knb_48 ?_
    refine Jn_ge (pc := 5) (tgt := 26) dX8_findGround_5 (by decide) (by omega) (by omega) (fun h5 => ?_) (fun h5 => absurd h5 (by omega))
    refine K_vret (pc := 26) dX8_findGround_26 rfl ⟨rfl, rfl⟩
set_option maxRecDepth 100000 in
set_option maxHeartbeats 400000 in
theorem m_missed {x : jX} {m : jm} {d : Nat}  : Ct x (d + 1) eX8_missed [.ref (jxb x + 140)] m (jp (sumV (misR m) 48) m) := by
  refine J_start (by decide +kernel) (Nat.le_of_ble_eq_true rfl) (ls := [some (.ref (jxb x + 140)), none, none]) rfl rfl ?_
  refine J_iconst (pc := 0) dX8_missed_0 kni_0 ?_
  refine J_istore_n (pc := 1) (ls' := [some _, some _, none]) dX8_missed_1 rfl (Nat.le_of_ble_eq_true rfl) rfl ?_
  refine J_iconst (pc := 2) dX8_missed_2 kni_0 ?_
  refine J_istore_n (pc := 3) (ls' := [some _, some _, some _]) dX8_missed_3 rfl (Nat.le_of_ble_eq_true rfl) rfl ?_
  refine K_for' (pc := 4) 48 (fun k => [some (.ref (jxb x + 140)), some (.int ((sumV (misR m) k))), some (.int (nI k))]) (fun k => m) (by rfl) (by rfl) (fun k hk ih4 => ?_) ?_
  ·
    show K x _ _ 4 [some (.ref (jxb x + 140)), some (.int ((sumV (misR m) k))), some (.int (nI k))] _ m _
    refine J_iload_n (pc := 4) dX8_missed_4 rfl ?_
    refine J_bipush (pc := 5) dX8_missed_5 knb_48 ?_
    refine Jn_ge (pc := 7) (tgt := 35) dX8_missed_7 (by decide) (by omega) (by omega) (fun h7 => absurd h7 (by omega)) (fun h7 => ?_)
    refine J_iload_n (pc := 10) dX8_missed_10 rfl ?_
    refine J_aload_n (pc := 11) dX8_missed_11 rfl ?_
    refine K_getR (pc := 12) dX8_missed_12 kf_X8_28 job_140 jrf_140_7 ?_
    refine J_iload_n (pc := 15) dX8_missed_15 rfl ?_
    refine K_ialdn (pc := 16) (id := 147) dX8_missed_16 jar_147 (by omega) (by decide) ?_
    refine J_aload_n (pc := 17) dX8_missed_17 rfl ?_
    refine K_getR (pc := 18) dX8_missed_18 kf_X8_50 job_140 jrf_140_25 ?_
    refine J_iload_n (pc := 21) dX8_missed_21 rfl ?_
    refine K_ialdn (pc := 22) (id := 154) dX8_missed_22 jar_154 (by omega) (by decide) ?_
    refine J_isub (pc := 23) dX8_missed_23 ?_
    refine K_callSp (pc := 24) (As := [_]) dX8_missed_24 kl_X8_139 rfl rfl (Nat.le_of_ble_eq_true rfl) (m_size _) ?_
    refine J_iadd (pc := 27) dX8_missed_27 ?_
    refine J_istore_n (pc := 28) (ls' := [some _, some _, some _]) dX8_missed_28 rfl (Nat.le_of_ble_eq_true rfl) rfl ?_
    refine Jn_iinc (pc := 29) (ls' := [some _, some _, some _]) dX8_missed_29 rfl knz_1 rfl rfl ?_
    refine J_goto (pc := 32) (tgt := 4) dX8_missed_32 (by decide) ?_
    exact ih4
  ·
    show K x _ _ 4 [some (.ref (jxb x + 140)), some (.int ((sumV (misR m) 48))), some (.int (nI 48))] _ m _
    refine J_iload_n (pc := 4) dX8_missed_4 rfl ?_
    refine J_bipush (pc := 5) dX8_missed_5 knb_48 ?_
    refine Jn_ge (pc := 7) (tgt := 35) dX8_missed_7 (by decide) (by omega) (by omega) (fun h7 => ?_) (fun h7 => absurd h7 (by omega))
    refine J_iload_n (pc := 35) dX8_missed_35 rfl ?_
    refine K_iret (pc := 36) dX8_missed_36 rfl ⟨_, rfl, ?_⟩
    exact ⟨rfl, rfl⟩
