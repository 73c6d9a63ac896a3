/-- where a letter stands in a text of four -/
def ixV (j : Nat) (c : Int32) : Int32 := if (jsb j).getD 0 0 = c then nI 0 else if (jsb j).getD 1 0 = c then nI 1 else if (jsb j).getD 2 0 = c then nI 2 else if (jsb j).getD 3 0 = c then nI 3 else -1
theorem i8_n {c : Nat} (h : c < 128) : (nI c).toInt8.toInt32 = nI c := by
  apply Int32.toInt_inj.mp
  rw [Int8.toInt_toInt32, Int32.toInt_toInt8, nI_toInt (by omega)]
  exact Int.bmod_eq_of_le (by omega) (by omega)
set_option maxRecDepth 100000 in
set_option maxHeartbeats 400000 in
theorem c_canEncode {x : jX} {m : jm} {d : Nat} {c : Nat} (hc : c < 128)  : Ct x d eJ1_canEncode_9a6ad [.int (nI c)] m (jp (nI 1) m) := by
  refine J_start (by decide +kernel) (Nat.le_of_ble_eq_true rfl) (ls := [some (.int (nI c))]) rfl rfl ?_
  refine J_iload_n (pc := 0) dJ1_canEncode_9a6ad_0 rfl ?_
  refine Jn_if_lt (pc := 1) (tgt := 15) dJ1_canEncode_9a6ad_1 (by decide) (by omega) ?_
  refine J_iload_n (pc := 4) dJ1_canEncode_9a6ad_4 rfl ?_
  refine J_sipush (pc := 5) dJ1_canEncode_9a6ad_5 kns_255 ?_
  refine Jn_gt (pc := 8) (tgt := 15) dJ1_canEncode_9a6ad_8 (by decide) (by omega) (by omega) (fun h8 => absurd h8 (by omega)) (fun h8 => ?_)
  refine J_iconst (pc := 11) dJ1_canEncode_9a6ad_11 kni_1 ?_
  refine J_goto (pc := 12) (tgt := 16) dJ1_canEncode_9a6ad_12 (by decide) ?_
  refine K_zret (pc := 16) dJ1_canEncode_9a6ad_16 rfl rfl ⟨_, rfl, ?_⟩
  exact ⟨rfl, rfl⟩
set_option maxRecDepth 100000 in
set_option maxHeartbeats 400000 in
theorem c_ixChar {x : jX} {m : jm} {d : Nat} {j : Nat} (hj : j < 5) (hl4 : (jsb j).length = 4) {c : Nat} (hc : c < 128)  : Ct x d eJ1_indexOfChar_4cfef [.ref (jxv x j), .int (nI c), .int (nI 0), .int (nI 4)] m (jp (ixV j (nI c)) m) := by
  refine J_start (by decide +kernel) (Nat.le_of_ble_eq_true rfl) (ls := [some (.ref (jxv x j)), some (.int (nI c)), some (.int (nI 0)), some (.int (nI 4)), none, none]) rfl rfl ?_
  refine J_iload_n (pc := 0) dJ1_indexOfChar_4cfef_0 rfl ?_
  refine J_i2b (pc := 1) dJ1_indexOfChar_4cfef_1 ?_
  refine J_top (b := nI c) (i8_n hc) ?_
  refine J_istore (pc := 2) (ls' := [some _, some _, some _, some _, some _, none]) dJ1_indexOfChar_4cfef_2 rfl (Nat.le_of_ble_eq_true rfl) rfl ?_
  refine J_iload_n (pc := 4) dJ1_indexOfChar_4cfef_4 rfl ?_
  refine J_istore (pc := 5) (ls' := [some _, some _, some _, some _, some _, some _]) dJ1_indexOfChar_4cfef_5 rfl (Nat.le_of_ble_eq_true rfl) rfl ?_
  refine J_iload (pc := 7) dJ1_indexOfChar_4cfef_7 rfl ?_
  refine J_iload_n (pc := 9) dJ1_indexOfChar_4cfef_9 rfl ?_
  refine Jn_ge (pc := 10) (tgt := 31) dJ1_indexOfChar_4cfef_10 (by decide) (by omega) (by omega) (fun h10 => absurd h10 (by omega)) (fun h10 => ?_)
  refine J_aload_n (pc := 13) dJ1_indexOfChar_4cfef_13 rfl ?_
  refine J_iload (pc := 14) dJ1_indexOfChar_4cfef_14 rfl ?_
  refine J_sbald (pc := 16) (j := j) (i := 0) dJ1_indexOfChar_4cfef_16 hj (by omega) ?_
  refine J_iload (pc := 17) dJ1_indexOfChar_4cfef_17 rfl ?_
  refine J_icmp_ne (pc := 19) (tgt := 25) dJ1_indexOfChar_4cfef_19 (by decide) (fun h19 => ?_) (fun h19 => ?_)
  · 
    refine J_iinc (pc := 25) (v := nI 1) (ls' := [some _, some _, some _, some _, some _, some _]) dJ1_indexOfChar_4cfef_25 rfl (by decide +kernel) rfl rfl ?_
    refine J_goto (pc := 28) (tgt := 7) dJ1_indexOfChar_4cfef_28 (by decide) ?_
    refine J_iload (pc := 7) dJ1_indexOfChar_4cfef_7 rfl ?_
    refine J_iload_n (pc := 9) dJ1_indexOfChar_4cfef_9 rfl ?_
    refine Jn_ge (pc := 10) (tgt := 31) dJ1_indexOfChar_4cfef_10 (by decide) (by omega) (by omega) (fun h10_2 => absurd h10_2 (by omega)) (fun h10_2 => ?_)
    refine J_aload_n (pc := 13) dJ1_indexOfChar_4cfef_13 rfl ?_
    refine J_iload (pc := 14) dJ1_indexOfChar_4cfef_14 rfl ?_
    refine J_sbald (pc := 16) (j := j) (i := 1) dJ1_indexOfChar_4cfef_16 hj (by omega) ?_
    refine J_iload (pc := 17) dJ1_indexOfChar_4cfef_17 rfl ?_
    refine J_icmp_ne (pc := 19) (tgt := 25) dJ1_indexOfChar_4cfef_19 (by decide) (fun h19_2 => ?_) (fun h19_2 => ?_)
    · 
      refine J_iinc (pc := 25) (v := nI 2) (ls' := [some _, some _, some _, some _, some _, some _]) dJ1_indexOfChar_4cfef_25 rfl (by decide +kernel) rfl rfl ?_
      refine J_goto (pc := 28) (tgt := 7) dJ1_indexOfChar_4cfef_28 (by decide) ?_
      refine J_iload (pc := 7) dJ1_indexOfChar_4cfef_7 rfl ?_
      refine J_iload_n (pc := 9) dJ1_indexOfChar_4cfef_9 rfl ?_
      refine Jn_ge (pc := 10) (tgt := 31) dJ1_indexOfChar_4cfef_10 (by decide) (by omega) (by omega) (fun h10_3 => absurd h10_3 (by omega)) (fun h10_3 => ?_)
      refine J_aload_n (pc := 13) dJ1_indexOfChar_4cfef_13 rfl ?_
      refine J_iload (pc := 14) dJ1_indexOfChar_4cfef_14 rfl ?_
      refine J_sbald (pc := 16) (j := j) (i := 2) dJ1_indexOfChar_4cfef_16 hj (by omega) ?_
      refine J_iload (pc := 17) dJ1_indexOfChar_4cfef_17 rfl ?_
      refine J_icmp_ne (pc := 19) (tgt := 25) dJ1_indexOfChar_4cfef_19 (by decide) (fun h19_3 => ?_) (fun h19_3 => ?_)
      · 
        refine J_iinc (pc := 25) (v := nI 3) (ls' := [some _, some _, some _, some _, some _, some _]) dJ1_indexOfChar_4cfef_25 rfl (by decide +kernel) rfl rfl ?_
        refine J_goto (pc := 28) (tgt := 7) dJ1_indexOfChar_4cfef_28 (by decide) ?_
        refine J_iload (pc := 7) dJ1_indexOfChar_4cfef_7 rfl ?_
        refine J_iload_n (pc := 9) dJ1_indexOfChar_4cfef_9 rfl ?_
        refine Jn_ge (pc := 10) (tgt := 31) dJ1_indexOfChar_4cfef_10 (by decide) (by omega) (by omega) (fun h10_4 => absurd h10_4 (by omega)) (fun h10_4 => ?_)
        refine J_aload_n (pc := 13) dJ1_indexOfChar_4cfef_13 rfl ?_
        refine J_iload (pc := 14) dJ1_indexOfChar_4cfef_14 rfl ?_
        refine J_sbald (pc := 16) (j := j) (i := 3) dJ1_indexOfChar_4cfef_16 hj (by omega) ?_
        refine J_iload (pc := 17) dJ1_indexOfChar_4cfef_17 rfl ?_
        refine J_icmp_ne (pc := 19) (tgt := 25) dJ1_indexOfChar_4cfef_19 (by decide) (fun h19_4 => ?_) (fun h19_4 => ?_)
        · 
          refine J_iinc (pc := 25) (v := nI 4) (ls' := [some _, some _, some _, some _, some _, some _]) dJ1_indexOfChar_4cfef_25 rfl (by decide +kernel) rfl rfl ?_
          refine J_goto (pc := 28) (tgt := 7) dJ1_indexOfChar_4cfef_28 (by decide) ?_
          refine J_iload (pc := 7) dJ1_indexOfChar_4cfef_7 rfl ?_
          refine J_iload_n (pc := 9) dJ1_indexOfChar_4cfef_9 rfl ?_
          refine Jn_ge (pc := 10) (tgt := 31) dJ1_indexOfChar_4cfef_10 (by decide) (by omega) (by omega) (fun h10_5 => ?_) (fun h10_5 => absurd h10_5 (by omega))
          refine J_iconst (pc := 31) dJ1_indexOfChar_4cfef_31 kni_m1 ?_
          refine K_iret (pc := 32) dJ1_indexOfChar_4cfef_32 rfl ⟨_, rfl, ?_⟩
          unfold ixV
          exact ⟨by rw [if_neg h19, if_neg h19_2, if_neg h19_3, if_neg h19_4], rfl⟩
        · 
          refine J_iload (pc := 22) dJ1_indexOfChar_4cfef_22 rfl ?_
          refine K_iret (pc := 24) dJ1_indexOfChar_4cfef_24 rfl ⟨_, rfl, ?_⟩
          unfold ixV
          exact ⟨by rw [if_neg h19, if_neg h19_2, if_neg h19_3, if_pos h19_4], rfl⟩
      · 
        refine J_iload (pc := 22) dJ1_indexOfChar_4cfef_22 rfl ?_
        refine K_iret (pc := 24) dJ1_indexOfChar_4cfef_24 rfl ⟨_, rfl, ?_⟩
        unfold ixV
        exact ⟨by rw [if_neg h19, if_neg h19_2, if_pos h19_3], rfl⟩
    · 
      refine J_iload (pc := 22) dJ1_indexOfChar_4cfef_22 rfl ?_
      refine K_iret (pc := 24) dJ1_indexOfChar_4cfef_24 rfl ⟨_, rfl, ?_⟩
      unfold ixV
      exact ⟨by rw [if_neg h19, if_pos h19_2], rfl⟩
  · 
    refine J_iload (pc := 22) dJ1_indexOfChar_4cfef_22 rfl ?_
    refine K_iret (pc := 24) dJ1_indexOfChar_4cfef_24 rfl ⟨_, rfl, ?_⟩
    unfold ixV
    exact ⟨by rw [if_pos h19], rfl⟩
set_option maxRecDepth 100000 in
set_option maxHeartbeats 400000 in
theorem c_lix {x : jX} {m : jm} {d : Nat} {j : Nat} (hj : j < 5) (hl4 : (jsb j).length = 4) {c : Nat} (hc : c < 128)  : Ct x (d + 1) eJ1_indexOf_4cfef [.ref (jxv x j), .int (nI c), .int (nI 0), .int (nI 4)] m (jp (ixV j (nI c)) m) := by
  refine J_start (by decide +kernel) (Nat.le_of_ble_eq_true rfl) (ls := [some (.ref (jxv x j)), some (.int (nI c)), some (.int (nI 0)), some (.int (nI 4))]) rfl rfl ?_
  refine J_iload_n (pc := 0) dJ1_indexOf_4cfef_0 rfl ?_
  refine K_callSp (pc := 1) (As := [_]) dJ1_indexOf_4cfef_1 kl_J1_88 rfl rfl (Nat.le_of_ble_eq_true rfl) (c_canEncode hc) ?_
  refine Jn_if_ne (pc := 4) (tgt := 9) dJ1_indexOf_4cfef_4 (by decide) (by omega) (fun h4 => ?_) (fun h4 => absurd h4 (by omega))
  refine J_iload_n (pc := 9) dJ1_indexOf_4cfef_9 rfl ?_
  refine J_iconst (pc := 10) dJ1_indexOf_4cfef_10 kni_0 ?_
  refine K_maxV (pc := 11) dJ1_indexOf_4cfef_11 kx_J1_92 (Nat.le_of_ble_eq_true rfl) ?_
  refine J_top (b := nI 0) (by decide) ?_
  refine J_istore_n (pc := 14) (ls' := [some _, some _, some _, some _]) dJ1_indexOf_4cfef_14 rfl (Nat.le_of_ble_eq_true rfl) rfl ?_
  refine J_iload_n (pc := 15) dJ1_indexOf_4cfef_15 rfl ?_
  refine J_aload_n (pc := 16) dJ1_indexOf_4cfef_16 rfl ?_
  refine J_svlen (pc := 17) (j := j) dJ1_indexOf_4cfef_17 hj ?_
  refine J_top (b := nI 4) (by rw [hl4]) ?_
  refine K_minV (pc := 18) dJ1_indexOf_4cfef_18 kx_J1_38 (Nat.le_of_ble_eq_true rfl) ?_
  refine J_top (b := nI 4) (by decide) ?_
  refine J_istore_n (pc := 21) (ls' := [some _, some _, some _, some _]) dJ1_indexOf_4cfef_21 rfl (Nat.le_of_ble_eq_true rfl) rfl ?_
  refine J_iload_n (pc := 22) dJ1_indexOf_4cfef_22 rfl ?_
  refine J_iload_n (pc := 23) dJ1_indexOf_4cfef_23 rfl ?_
  refine Jn_lt (pc := 24) (tgt := 29) dJ1_indexOf_4cfef_24 (by decide) (by omega) (by omega) (fun h24 => ?_) (fun h24 => absurd h24 (by omega))
  refine J_aload_n (pc := 29) dJ1_indexOf_4cfef_29 rfl ?_
  refine J_iload_n (pc := 30) dJ1_indexOf_4cfef_30 rfl ?_
  refine J_iload_n (pc := 31) dJ1_indexOf_4cfef_31 rfl ?_
  refine J_iload_n (pc := 32) dJ1_indexOf_4cfef_32 rfl ?_
  refine K_callSp (pc := 33) (As := [_, _, _, _]) dJ1_indexOf_4cfef_33 kl_J1_95 rfl rfl (Nat.le_of_ble_eq_true rfl) (c_ixChar hj hl4 hc) ?_
  refine K_iret (pc := 36) dJ1_indexOf_4cfef_36 rfl ⟨_, rfl, ?_⟩
  exact ⟨rfl, rfl⟩
set_option maxRecDepth 100000 in
set_option maxHeartbeats 400000 in
theorem c_six2 {x : jX} {m : jm} {d : Nat} {j : Nat} (hj : j < 5) (hl4 : (jsb j).length = 4) {c : Nat} (hc : c < 128)  : Ct x (d + 2) eJ0_indexOf_7cf53 [.ref (jxs x j), .int (nI c), .int (nI 0)] m (jp (ixV j (nI c)) m) := by
  refine J_start (by decide +kernel) (Nat.le_of_ble_eq_true rfl) (ls := [some (.ref (jxs x j)), some (.int (nI c)), some (.int (nI 0))]) rfl rfl ?_
  refine J_aload_n (pc := 0) dJ0_indexOf_7cf53_0 rfl ?_
  refine K_callTp (pc := 1) (j := j) (As := []) dJ0_indexOf_7cf53_1 kl_J0_492 rfl hj rfl rfl (Nat.le_of_ble_eq_true rfl) (c_isLatin1 hj) ?_
  refine Jn_if_eq (pc := 4) (tgt := 23) dJ0_indexOf_7cf53_4 (by decide) (by omega) (fun h4 => absurd h4 (by omega)) (fun h4 => ?_)
  refine J_aload_n (pc := 7) dJ0_indexOf_7cf53_7 rfl ?_
  refine J_gStr_value (pc := 8) dJ0_indexOf_7cf53_8 hj (jgw_of (jtb_7 (i := 115) rfl) rfl) ?_
  refine J_iload_n (pc := 11) dJ0_indexOf_7cf53_11 rfl ?_
  refine J_iload_n (pc := 12) dJ0_indexOf_7cf53_12 rfl ?_
  refine J_aload_n (pc := 13) dJ0_indexOf_7cf53_13 rfl ?_
  refine K_callTp (pc := 14) (j := j) (As := []) dJ0_indexOf_7cf53_14 kl_J0_505 rfl hj rfl rfl (Nat.le_of_ble_eq_true rfl) (c_slength hj) ?_
  refine J_top (b := nI 4) (by rw [hl4]) ?_
  refine K_callSp (pc := 17) (As := [_, _, _, _]) dJ0_indexOf_7cf53_17 kl_J0_637 rfl rfl (Nat.le_of_ble_eq_true rfl) (c_lix hj hl4 hc) ?_
  refine J_goto (pc := 20) (tgt := 36) dJ0_indexOf_7cf53_20 (by decide) ?_
  refine K_iret (pc := 36) dJ0_indexOf_7cf53_36 rfl ⟨_, rfl, ?_⟩
  exact ⟨rfl, rfl⟩
set_option maxRecDepth 100000 in
set_option maxHeartbeats 400000 in
theorem c_indexOf {x : jX} {m : jm} {d : Nat} {j : Nat} (hj : j < 5) (hl4 : (jsb j).length = 4) {c : Nat} (hc : c < 128)  : Ct x (d + 3) eJ0_indexOf_0f7a4 [.ref (jxs x j), .int (nI c)] m (jp (ixV j (nI c)) m) := by
  refine J_start (by decide +kernel) (Nat.le_of_ble_eq_true rfl) (ls := [some (.ref (jxs x j)), some (.int (nI c))]) rfl rfl ?_
  refine J_aload_n (pc := 0) dJ0_indexOf_0f7a4_0 rfl ?_
  refine J_iload_n (pc := 1) dJ0_indexOf_0f7a4_1 rfl ?_
  refine J_iconst (pc := 2) dJ0_indexOf_0f7a4_2 kni_0 ?_
  refine K_callTp (pc := 3) (j := j) (As := [_, _]) dJ0_indexOf_0f7a4_3 kl_J0_633 rfl hj rfl rfl (Nat.le_of_ble_eq_true rfl) (c_six2 hj hl4 hc) ?_
  refine K_iret (pc := 6) dJ0_indexOf_0f7a4_6 rfl ⟨_, rfl, ?_⟩
  exact ⟨rfl, rfl⟩
