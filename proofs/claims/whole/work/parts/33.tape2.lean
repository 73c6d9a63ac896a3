theorem by8_nar (v : Int32) : narrow .byte (.int v.toInt8.toInt32) = .int v.toInt8.toInt32 := by
  show Value.int v.toInt8.toInt32.toInt8.toInt32 = _
  simp
def byt (a : Int32) (k : Nat) : Int32 := (a >>> (nI k &&& 31)).toInt8.toInt32
def takeM (m : jm) (n : Nat) (a : Int32) : jm := mup (mup (mup (mup (mup (mup (mup (mup m 70 1 (nI (n + 1))) 71 n (byt a 24)) 70 1 (nI (n + 1 + 1))) 71 (n + 1) (byt a 16)) 70 1 (nI (n + 1 + 1 + 1))) 71 (n + 1 + 1) (byt a 8)) 70 1 (nI (n + 1 + 1 + 1 + 1))) 71 (n + 1 + 1 + 1) (byt a 0)
set_option maxRecDepth 100000 in
set_option maxHeartbeats 400000 in
theorem c_take {x : jX} {m : jm} {d : Nat} {n : Nat} (hn : m 70 1 = nI n) (h96 : n + 4 ≤ 96) (a : Int32) : Ct x d eX5_take [.ref (jxb x + 70), .int a] m (jv fun m' => m' = takeM m n a) := by
  refine J_start (by decide +kernel) (Nat.le_of_ble_eq_true rfl) (ls := [some (.ref (jxb x + 70)), some (.int a), none]) rfl rfl ?_
  refine J_bipush (pc := 0) dX5_take_0 knb_24 ?_
  refine J_istore_n (pc := 2) (ls' := [some _, some _, some _]) dX5_take_2 rfl (Nat.le_of_ble_eq_true rfl) rfl ?_
  refine J_iload_n (pc := 3) dX5_take_3 rfl ?_
  refine Jn_if_lt (pc := 4) (tgt := 33) dX5_take_4 (by decide) (by omega) ?_
  refine J_aload_n (pc := 7) dX5_take_7 rfl ?_
  refine K_getR (pc := 8) dX5_take_8 kf_X5_9 job_70 jrf_70_0 ?_
  refine J_aload_n (pc := 11) dX5_take_11 rfl ?_
  refine J_dup (pc := 12) dX5_take_12 rfl ?_
  refine K_getI (pc := 13) dX5_take_13 kf_X5_15 job_70 jrf_70_1 ?_
  refine J_top (b := nI n) (hn) ?_
  refine J_dup_x1 (pc := 16) dX5_take_16 rfl rfl ?_
  refine J_iconst (pc := 17) dX5_take_17 kni_1 ?_
  refine J_iaddv (pc := 18) dX5_take_18 (nI_add _ _) ?_
  refine K_put (pc := 19) dX5_take_19 kp_X5_15 job_70 jrf_70_1 rfl rfl ?_
  refine J_iload_n (pc := 22) dX5_take_22 rfl ?_
  refine J_iload_n (pc := 23) dX5_take_23 rfl ?_
  refine J_ishr (pc := 24) dX5_take_24 ?_
  refine J_i2b (pc := 25) dX5_take_25 ?_
  refine K_bastn (pc := 26) (id := 71) (w := ((((a >>> (nI 24 &&& 31)))).toInt8.toInt32)) dX5_take_26 jar_71 (by omega) (by decide) (by8_nar _) ?_
  refine J_iinc (pc := 27) (v := nI 16) (ls' := [some _, some _, some _]) dX5_take_27 rfl (by decide +kernel) rfl rfl ?_
  refine J_goto (pc := 30) (tgt := 3) dX5_take_30 (by decide) ?_
  refine J_iload_n (pc := 3) dX5_take_3 rfl ?_
  refine Jn_if_lt (pc := 4) (tgt := 33) dX5_take_4 (by decide) (by omega) ?_
  refine J_aload_n (pc := 7) dX5_take_7 rfl ?_
  refine K_getR (pc := 8) dX5_take_8 kf_X5_9 job_70 jrf_70_0 ?_
  refine J_aload_n (pc := 11) dX5_take_11 rfl ?_
  refine J_dup (pc := 12) dX5_take_12 rfl ?_
  refine K_getI (pc := 13) dX5_take_13 kf_X5_15 job_70 jrf_70_1 ?_
  refine J_top (b := nI (n + 1)) (by rw [mup_i (by decide), mup_s]) ?_
  refine J_dup_x1 (pc := 16) dX5_take_16 rfl rfl ?_
  refine J_iconst (pc := 17) dX5_take_17 kni_1 ?_
  refine J_iaddv (pc := 18) dX5_take_18 (nI_add _ _) ?_
  refine K_put (pc := 19) dX5_take_19 kp_X5_15 job_70 jrf_70_1 rfl rfl ?_
  refine J_iload_n (pc := 22) dX5_take_22 rfl ?_
  refine J_iload_n (pc := 23) dX5_take_23 rfl ?_
  refine J_ishr (pc := 24) dX5_take_24 ?_
  refine J_i2b (pc := 25) dX5_take_25 ?_
  refine K_bastn (pc := 26) (id := 71) (w := ((((a >>> (nI 16 &&& 31)))).toInt8.toInt32)) dX5_take_26 jar_71 (by omega) (by decide) (by8_nar _) ?_
  refine J_iinc (pc := 27) (v := nI 8) (ls' := [some _, some _, some _]) dX5_take_27 rfl (by decide +kernel) rfl rfl ?_
  refine J_goto (pc := 30) (tgt := 3) dX5_take_30 (by decide) ?_
  refine J_iload_n (pc := 3) dX5_take_3 rfl ?_
  refine Jn_if_lt (pc := 4) (tgt := 33) dX5_take_4 (by decide) (by omega) ?_
  refine J_aload_n (pc := 7) dX5_take_7 rfl ?_
  refine K_getR (pc := 8) dX5_take_8 kf_X5_9 job_70 jrf_70_0 ?_
  refine J_aload_n (pc := 11) dX5_take_11 rfl ?_
  refine J_dup (pc := 12) dX5_take_12 rfl ?_
  refine K_getI (pc := 13) dX5_take_13 kf_X5_15 job_70 jrf_70_1 ?_
  refine J_top (b := nI ((n + 1) + 1)) (by rw [mup_i (by decide), mup_s]) ?_
  refine J_dup_x1 (pc := 16) dX5_take_16 rfl rfl ?_
  refine J_iconst (pc := 17) dX5_take_17 kni_1 ?_
  refine J_iaddv (pc := 18) dX5_take_18 (nI_add _ _) ?_
  refine K_put (pc := 19) dX5_take_19 kp_X5_15 job_70 jrf_70_1 rfl rfl ?_
  refine J_iload_n (pc := 22) dX5_take_22 rfl ?_
  refine J_iload_n (pc := 23) dX5_take_23 rfl ?_
  refine J_ishr (pc := 24) dX5_take_24 ?_
  refine J_i2b (pc := 25) dX5_take_25 ?_
  refine K_bastn (pc := 26) (id := 71) (w := ((((a >>> (nI 8 &&& 31)))).toInt8.toInt32)) dX5_take_26 jar_71 (by omega) (by decide) (by8_nar _) ?_
  refine J_iinc (pc := 27) (v := nI 0) (ls' := [some _, some _, some _]) dX5_take_27 rfl (by decide +kernel) rfl rfl ?_
  refine J_goto (pc := 30) (tgt := 3) dX5_take_30 (by decide) ?_
  refine J_iload_n (pc := 3) dX5_take_3 rfl ?_
  refine Jn_if_lt (pc := 4) (tgt := 33) dX5_take_4 (by decide) (by omega) ?_
  refine J_aload_n (pc := 7) dX5_take_7 rfl ?_
  refine K_getR (pc := 8) dX5_take_8 kf_X5_9 job_70 jrf_70_0 ?_
  refine J_aload_n (pc := 11) dX5_take_11 rfl ?_
  refine J_dup (pc := 12) dX5_take_12 rfl ?_
  refine K_getI (pc := 13) dX5_take_13 kf_X5_15 job_70 jrf_70_1 ?_
  refine J_top (b := nI (((n + 1) + 1) + 1)) (by rw [mup_i (by decide), mup_s]) ?_
  refine J_dup_x1 (pc := 16) dX5_take_16 rfl rfl ?_
  refine J_iconst (pc := 17) dX5_take_17 kni_1 ?_
  refine J_iaddv (pc := 18) dX5_take_18 (nI_add _ _) ?_
  refine K_put (pc := 19) dX5_take_19 kp_X5_15 job_70 jrf_70_1 rfl rfl ?_
  refine J_iload_n (pc := 22) dX5_take_22 rfl ?_
  refine J_iload_n (pc := 23) dX5_take_23 rfl ?_
  refine J_ishr (pc := 24) dX5_take_24 ?_
  refine J_i2b (pc := 25) dX5_take_25 ?_
  refine K_bastn (pc := 26) (id := 71) (w := ((((a >>> (nI 0 &&& 31)))).toInt8.toInt32)) dX5_take_26 jar_71 (by omega) (by decide) (by8_nar _) ?_
  refine J_iinc (pc := 27) (v := (-8)) (ls' := [some _, some _, some _]) dX5_take_27 rfl (by decide +kernel) rfl rfl ?_
  refine J_goto (pc := 30) (tgt := 3) dX5_take_30 (by decide) ?_
  refine J_iload_n (pc := 3) dX5_take_3 rfl ?_
  refine J_if_lt (pc := 4) (tgt := 33) dX5_take_4 (by decide) (fun h4 => ?_) (fun h4 => absurd (by decide) h4)
  refine K_vret (pc := 33) dX5_take_33 rfl ⟨rfl, rfl⟩
