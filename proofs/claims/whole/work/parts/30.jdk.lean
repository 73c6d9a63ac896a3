theorem jsb_4 {j : Nat} (hj : j < 5) : (jsb j).length ≤ 4 := by rcases (show j = 0 ∨ j = 1 ∨ j = 2 ∨ j = 3 ∨ j = 4 by omega) with rfl | rfl | rfl | rfl | rfl <;> decide
theorem sh_0 (a : Int32) : a >>> (0 : Int32) = a := by
  apply Int32.toBitVec_inj.mp
  rw [Int32.toBitVec_shiftRight]
  show a.toBitVec.sshiftRight 0 = a.toBitVec
  simp
theorem chr_b {i j : Nat} (hj : j < 5) (hi : i < (jsb j).length) : ((((jsb j).getD i 0) &&& nI 255).toUInt32 % 65536).toInt32 = (jsb j).getD i 0 ∧ narrow .char (.int ((jsb j).getD i 0)) = .int ((jsb j).getD i 0) := by
  have := jsb_4 hj
  rcases (show j = 0 ∨ j = 1 ∨ j = 2 ∨ j = 3 ∨ j = 4 by omega) with rfl | rfl | rfl | rfl | rfl <;> rcases (show i = 0 ∨ i = 1 ∨ i = 2 ∨ i = 3 ∨ 4 ≤ i by omega) with rfl | rfl | rfl | rfl | h <;> first | exact ⟨by decide, by decide⟩ | exact absurd hi (by decide) | exact absurd hi (by omega)
set_option maxRecDepth 100000 in
set_option maxHeartbeats 400000 in
theorem c_coder {x : jX} {m : jm} {d : Nat} {j : Nat} (hj : j < 5) : Ct x d eJ0_coder_7d493 [.ref (jxs x j)] m (jp (nI 0) m) := by
  refine J_start (by decide +kernel) (Nat.le_of_ble_eq_true rfl) (ls := [some (.ref (jxs x j))]) rfl rfl ?_
  refine J_gCS (pc := 0) dJ0_coder_7d493_0 (jgw_of (jtb_3 (i := 140) rfl) rfl) ?_
  refine Jn_if_eq (pc := 3) (tgt := 13) dJ0_coder_7d493_3 (by decide) (by omega) (fun h3 => absurd h3 (by omega)) (fun h3 => ?_)
  refine J_aload_n (pc := 6) dJ0_coder_7d493_6 rfl ?_
  refine J_gStr_coder (pc := 7) dJ0_coder_7d493_7 hj (jgw_of (jtb_7 (i := 116) rfl) rfl) ?_
  refine J_goto (pc := 10) (tgt := 14) dJ0_coder_7d493_10 (by decide) ?_
  refine K_nret (pc := 14) dJ0_coder_7d493_14 rfl rfl ⟨_, rfl, ?_⟩
  exact ⟨rfl, rfl⟩
set_option maxRecDepth 100000 in
set_option maxHeartbeats 400000 in
theorem c_isLatin1 {x : jX} {m : jm} {d : Nat} {j : Nat} (hj : j < 5) : Ct x d eJ0_isLatin1_aae02 [.ref (jxs x j)] m (jp (nI 1) m) := by
  refine J_start (by decide +kernel) (Nat.le_of_ble_eq_true rfl) (ls := [some (.ref (jxs x j))]) rfl rfl ?_
  refine J_gCS (pc := 0) dJ0_isLatin1_aae02_0 (jgw_of (jtb_3 (i := 140) rfl) rfl) ?_
  refine Jn_if_eq (pc := 3) (tgt := 17) dJ0_isLatin1_aae02_3 (by decide) (by omega) (fun h3 => absurd h3 (by omega)) (fun h3 => ?_)
  refine J_aload_n (pc := 6) dJ0_isLatin1_aae02_6 rfl ?_
  refine J_gStr_coder (pc := 7) dJ0_isLatin1_aae02_7 hj (jgw_of (jtb_7 (i := 116) rfl) rfl) ?_
  refine Jn_if_ne (pc := 10) (tgt := 17) dJ0_isLatin1_aae02_10 (by decide) (by omega) (fun h10 => absurd h10 (by omega)) (fun h10 => ?_)
  refine J_iconst (pc := 13) dJ0_isLatin1_aae02_13 kni_1 ?_
  refine J_goto (pc := 14) (tgt := 18) dJ0_isLatin1_aae02_14 (by decide) ?_
  refine K_zret (pc := 18) dJ0_isLatin1_aae02_18 rfl rfl ⟨_, rfl, ?_⟩
  exact ⟨rfl, rfl⟩
set_option maxRecDepth 100000 in
set_option maxHeartbeats 400000 in
theorem c_slength {x : jX} {m : jm} {d : Nat} {j : Nat} (hj : j < 5) : Ct x (d + 1) eJ0_length_8abf5 [.ref (jxs x j)] m (jp (nI (jsb j).length) m) := by
  refine J_start (by decide +kernel) (Nat.le_of_ble_eq_true rfl) (ls := [some (.ref (jxs x j))]) rfl rfl ?_
  refine J_aload_n (pc := 0) dJ0_length_8abf5_0 rfl ?_
  refine J_gStr_value (pc := 1) dJ0_length_8abf5_1 hj (jgw_of (jtb_7 (i := 115) rfl) rfl) ?_
  refine J_svlen (pc := 4) (j := j) dJ0_length_8abf5_4 hj ?_
  refine J_aload_n (pc := 5) dJ0_length_8abf5_5 rfl ?_
  refine K_callTp (pc := 6) (j := j) (As := []) dJ0_length_8abf5_6 kl_J0_335 rfl hj rfl rfl (Nat.le_of_ble_eq_true rfl) (c_coder hj) ?_
  refine J_ishr (pc := 9) dJ0_length_8abf5_9 ?_
  refine K_iret (pc := 10) dJ0_length_8abf5_10 rfl ⟨_, rfl, ?_⟩
  exact ⟨by rw [show nI 0 &&& 31 = (0 : Int32) from rfl]; exact sh_0 _, rfl⟩
set_option maxRecDepth 100000 in
set_option maxHeartbeats 400000 in
theorem c_pcheckN {x : jX} {m : jm} {d : Nat} {i n : Nat} (hi : i < n) (hn : n < 2 ^ 31) : Ct x d eJ3_checkIndex_8e157 [.int (nI i), .int (nI n), .null] m (jp (nI i) m) := by
  refine J_start (by decide +kernel) (Nat.le_of_ble_eq_true rfl) (ls := [some (.int (nI i)), some (.int (nI n)), some (.null)]) rfl rfl ?_
  refine J_iload_n (pc := 0) dJ3_checkIndex_8e157_0 rfl ?_
  refine Jn_if_lt (pc := 1) (tgt := 9) dJ3_checkIndex_8e157_1 (by decide) (by omega) ?_
  refine J_iload_n (pc := 4) dJ3_checkIndex_8e157_4 rfl ?_
  refine J_iload_n (pc := 5) dJ3_checkIndex_8e157_5 rfl ?_
  refine Jn_lt (pc := 6) (tgt := 16) dJ3_checkIndex_8e157_6 (by decide) (by omega) (by omega) (fun h6 => ?_) (fun h6 => absurd h6 (by omega))
  refine J_iload_n (pc := 16) dJ3_checkIndex_8e157_16 rfl ?_
  refine K_iret (pc := 17) dJ3_checkIndex_8e157_17 rfl ⟨_, rfl, ?_⟩
  exact ⟨rfl, rfl⟩
set_option maxRecDepth 100000 in
set_option maxHeartbeats 400000 in
theorem c_pcheckR {x : jX} {m : jm} {d : Nat} {a : Nat} {i n : Nat} (hi : i < n) (hn : n < 2 ^ 31) : Ct x d eJ3_checkIndex_8e157 [.int (nI i), .int (nI n), (.ref a)] m (jp (nI i) m) := by
  refine J_start (by decide +kernel) (Nat.le_of_ble_eq_true rfl) (ls := [some (.int (nI i)), some (.int (nI n)), some ((.ref a))]) rfl rfl ?_
  refine J_iload_n (pc := 0) dJ3_checkIndex_8e157_0 rfl ?_
  refine Jn_if_lt (pc := 1) (tgt := 9) dJ3_checkIndex_8e157_1 (by decide) (by omega) ?_
  refine J_iload_n (pc := 4) dJ3_checkIndex_8e157_4 rfl ?_
  refine J_iload_n (pc := 5) dJ3_checkIndex_8e157_5 rfl ?_
  refine Jn_lt (pc := 6) (tgt := 16) dJ3_checkIndex_8e157_6 (by decide) (by omega) (by omega) (fun h6 => ?_) (fun h6 => absurd h6 (by omega))
  refine J_iload_n (pc := 16) dJ3_checkIndex_8e157_16 rfl ?_
  refine K_iret (pc := 17) dJ3_checkIndex_8e157_17 rfl ⟨_, rfl, ?_⟩
  exact ⟨rfl, rfl⟩
theorem c_pcheck {x : jX} {m : jm} {d i n : Nat} {v : Value} (hv : v = .null ∨ ∃ a, v = .ref a) (hi : i < n) (hn : n < 2 ^ 31) : Ct x d eJ3_checkIndex_8e157 [.int (nI i), .int (nI n), v] m (jp (nI i) m) := by
  rcases hv with rfl | ⟨a, rfl⟩
  · exact c_pcheckN hi hn
  · exact c_pcheckR hi hn
set_option maxRecDepth 100000 in
set_option maxHeartbeats 400000 in
theorem c_scheck {x : jX} {m : jm} {d : Nat} {i n : Nat} (hi : i < n) (hn : n < 2 ^ 31) : Ct x (d + 1) eJ0_checkIndex_df160 [.int (nI i), .int (nI n)] m (jv fun m' => m' = m) := by
  refine J_start (by decide +kernel) (Nat.le_of_ble_eq_true rfl) (ls := [some (.int (nI i)), some (.int (nI n))]) rfl rfl ?_
  refine J_iload_n (pc := 0) dJ0_checkIndex_df160_0 rfl ?_
  refine J_iload_n (pc := 1) dJ0_checkIndex_df160_1 rfl ?_
  refine J_gSF (pc := 2) dJ0_checkIndex_df160_2 (jgw_of (jtb_3 (i := 156) rfl) rfl) (fun vq hvq => ?_)
  refine K_callSp (pc := 5) (As := [_, _, _]) dJ0_checkIndex_df160_5 kl_J0_1059 rfl rfl (Nat.le_of_ble_eq_true rfl) (c_pcheck hvq hi hn) ?_
  refine J_pop (pc := 8) dJ0_checkIndex_df160_8 rfl ?_
  refine K_vret (pc := 9) dJ0_checkIndex_df160_9 rfl ⟨rfl, rfl⟩
set_option maxRecDepth 100000 in
set_option maxHeartbeats 400000 in
theorem c_lcharAt {x : jX} {m : jm} {d : Nat} {i j : Nat} (hj : j < 5) (hi : i < (jsb j).length) : Ct x (d + 2) eJ1_charAt_3b067 [.ref (jxv x j), .int (nI i)] m (jp ((jsb j).getD i 0) m) := by
  refine J_start (by decide +kernel) (Nat.le_of_ble_eq_true rfl) (ls := [some (.ref (jxv x j)), some (.int (nI i))]) rfl rfl ?_
  refine J_iload_n (pc := 0) dJ1_charAt_3b067_0 rfl ?_
  refine J_aload_n (pc := 1) dJ1_charAt_3b067_1 rfl ?_
  refine J_svlen (pc := 2) (j := j) dJ1_charAt_3b067_2 hj ?_
  refine K_callSv (pc := 3) (As := [_, _]) dJ1_charAt_3b067_3 kl_J1_9 rfl rfl (Nat.le_of_ble_eq_true rfl) (c_scheck hi (by have := jsb_4 hj; omega)) (fun m3 h3 => ?_)
  subst h3
  refine J_aload_n (pc := 6) dJ1_charAt_3b067_6 rfl ?_
  refine J_iload_n (pc := 7) dJ1_charAt_3b067_7 rfl ?_
  refine J_sbald (pc := 8) (j := j) (i := i) dJ1_charAt_3b067_8 hj hi ?_
  refine J_sipush (pc := 9) dJ1_charAt_3b067_9 kns_255 ?_
  refine J_iand (pc := 12) dJ1_charAt_3b067_12 ?_
  refine J_i2c (pc := 13) dJ1_charAt_3b067_13 rfl ?_
  refine J_top (b := ((jsb j).getD i 0)) ((chr_b hj hi).1) ?_
  refine K_nret (pc := 14) dJ1_charAt_3b067_14 rfl (chr_b hj hi).2 ⟨_, rfl, ?_⟩
  exact ⟨rfl, rfl⟩
set_option maxRecDepth 100000 in
set_option maxHeartbeats 400000 in
theorem c_charAt {x : jX} {m : jm} {d : Nat} {i j : Nat} (hj : j < 5) (hi : i < (jsb j).length) : Ct x (d + 3) eJ0_charAt_5068e [.ref (jxs x j), .int (nI i)] m (jp ((jsb j).getD i 0) m) := by
  refine J_start (by decide +kernel) (Nat.le_of_ble_eq_true rfl) (ls := [some (.ref (jxs x j)), some (.int (nI i))]) rfl rfl ?_
  refine J_aload_n (pc := 0) dJ0_charAt_5068e_0 rfl ?_
  refine K_callTp (pc := 1) (j := j) (As := []) dJ0_charAt_5068e_1 kl_J0_492 rfl hj rfl rfl (Nat.le_of_ble_eq_true rfl) (c_isLatin1 hj) ?_
  refine Jn_if_eq (pc := 4) (tgt := 16) dJ0_charAt_5068e_4 (by decide) (by omega) (fun h4 => absurd h4 (by omega)) (fun h4 => ?_)
  refine J_aload_n (pc := 7) dJ0_charAt_5068e_7 rfl ?_
  refine J_gStr_value (pc := 8) dJ0_charAt_5068e_8 hj (jgw_of (jtb_7 (i := 115) rfl) rfl) ?_
  refine J_iload_n (pc := 11) dJ0_charAt_5068e_11 rfl ?_
  refine K_callSp (pc := 12) (As := [_, _]) dJ0_charAt_5068e_12 kl_J0_495 rfl rfl (Nat.le_of_ble_eq_true rfl) (c_lcharAt hj hi) ?_
  refine K_nret (pc := 15) dJ0_charAt_5068e_15 rfl (chr_b hj hi).2 ⟨_, rfl, ?_⟩
  exact ⟨rfl, rfl⟩
