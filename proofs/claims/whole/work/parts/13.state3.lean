set_option maxRecDepth 100000 in
set_option maxHeartbeats 400000 in
theorem c_replaced {x : jX} {m : jm} {d : Nat} {ar nn j : Nat} (har : jArr ar 0 nn) (hj : j < nn) (hn : nn < 2 ^ 31) (w : Int32) : Ct x d eX7_replaced [.ref (jxb x + ar), .int (nI j), .int w] m (ji fun v m' => v = m ar j ∧ m' = mup m ar j w) := by
  refine J_start (by decide +kernel) (Nat.le_of_ble_eq_true rfl) (ls := [some (.ref (jxb x + ar)), some (.int (nI j)), some (.int w), none]) rfl rfl ?_
  refine J_aload_n (pc := 0) dX7_replaced_0 rfl ?_
  refine J_iload_n (pc := 1) dX7_replaced_1 rfl ?_
  refine K_ialdn (pc := 2) (id := ar) dX7_replaced_2 har (by omega) hn ?_
  refine J_istore_n (pc := 3) (ls' := [some _, some _, some _, some _]) dX7_replaced_3 rfl (Nat.le_of_ble_eq_true rfl) rfl ?_
  refine J_aload_n (pc := 4) dX7_replaced_4 rfl ?_
  refine J_iload_n (pc := 5) dX7_replaced_5 rfl ?_
  refine J_iload_n (pc := 6) dX7_replaced_6 rfl ?_
  refine K_iastn (pc := 7) (id := ar) dX7_replaced_7 har (by omega) hn ?_
  refine J_iload_n (pc := 8) dX7_replaced_8 rfl ?_
  refine K_iret (pc := 9) dX7_replaced_9 rfl ⟨_, rfl, ?_⟩
  exact ⟨rfl, rfl⟩

def settleM (m : jm) (o P : Nat) : jm := mfill m (o + 6) P (aimS m o)
def chgS (m : jm) (o : Nat) (p : Nat) : Bool := decide (¬ m (o + 6) p = aimS m o p)
set_option maxRecDepth 100000 in
set_option maxHeartbeats 400000 in
theorem c_settle {x : jX} {m : jm} {d : Nat} {o P : Nat} (ho : jSt o) (hw : wfPt m o) (hP : m o 0 = nI P) (h48 : P ≤ 48) : Ct x (d + 2) eX4_settle [.ref (jxb x + o)] m (ji fun v m' => v = nI (cnt (chgS m o) P) ∧ m' = settleM m o P) := by
  refine J_start (by decide +kernel) (Nat.le_of_ble_eq_true rfl) (ls := [some (.ref (jxb x + o)), none, none, none]) rfl rfl ?_
  refine J_iconst (pc := 0) dX4_settle_0 kni_0 ?_
  refine J_istore_n (pc := 1) (ls' := [some _, some _, none, none]) dX4_settle_1 rfl (Nat.le_of_ble_eq_true rfl) rfl ?_
  refine J_iconst (pc := 2) dX4_settle_2 kni_0 ?_
  refine J_istore_n (pc := 3) (ls' := [some _, some _, some _, none]) dX4_settle_3 rfl (Nat.le_of_ble_eq_true rfl) rfl ?_
  refine K_for' (pc := 4) P (fun i => [some (.ref (jxb x + o)), some (.int (nI (cnt (chgS m o) i))), some (.int (nI i)), none]) (fun i => mfill m (o + 6) i (aimS m o)) (by rfl) (by exact (mfill_0 _ _ _).symm) (fun i hi ih4 => ?_) ?_
  ·
    show K x _ _ 4 [some (.ref (jxb x + o)), some (.int (nI (cnt (chgS m o) i))), some (.int (nI i)), none] _ (mfill m (o + 6) i (aimS m o)) _
    have hi48 : i < 48 := by omega
    refine J_iload_n (pc := 4) dX4_settle_4 rfl ?_
    refine J_aload_n (pc := 5) dX4_settle_5 rfl ?_
    refine K_getI (pc := 6) dX4_settle_6 kf_X4_9 (jSt_obj ho) (jSt_int ho 0 (by decide)) ?_
    refine J_top (b := nI P) (by rw [mfill_i (by omega)]; exact hP) ?_
    refine Jn_ge (pc := 9) (tgt := 45) dX4_settle_9 (by decide) (by omega) (by omega) (fun h9 => absurd h9 (by omega)) (fun h9 => ?_)
    refine J_aload_n (pc := 12) dX4_settle_12 rfl ?_
    refine J_iload_n (pc := 13) dX4_settle_13 rfl ?_
    refine K_callVp (pc := 14) (id := o) (As := [_]) dX4_settle_14 kl_X4_102 rfl (jSt_obj ho) rfl rfl (Nat.le_of_ble_eq_true rfl) (c_aimOf (m := (mfill m (o + 6) i (aimS m o))) ho hi48 (by rw [mfill_i' (by omega)]; exact hw.1 _ hi48) (by rw [mfill_i' (i := o + 5) (by omega), mfill_i' (i := o + 9) (by omega)]; exact hw.g hi48)) ?_
    refine J_istore_n (pc := 17) (ls' := [some _, some _, some _, some _]) dX4_settle_17 rfl (Nat.le_of_ble_eq_true rfl) rfl ?_
    refine J_iload_n (pc := 18) dX4_settle_18 rfl ?_
    refine J_aload_n (pc := 19) dX4_settle_19 rfl ?_
    refine K_getR (pc := 20) (t := o + 6) dX4_settle_20 kf_X4_31 (jSt_obj ho) (jSt_ref ho 5 (by decide)) ?_
    refine J_iload_n (pc := 23) dX4_settle_23 rfl ?_
    refine J_iload_n (pc := 24) dX4_settle_24 rfl ?_
    refine K_callSi (pc := 25) (As := [_, _, _]) dX4_settle_25 kl_X4_108 rfl rfl (Nat.le_of_ble_eq_true rfl) (c_replaced (ar := o + 6) (nn := 48) (m := (mfill m (o + 6) i (aimS m o))) (jSt_arr ho 5 (by decide)) hi48 (by decide) (aimS (mfill m (o + 6) i (aimS m o)) o i)) (fun v25 m25 h25 => ?_)
    obtain ⟨rfl, rfl⟩ := h25
    refine J_iload_n (pc := 28) dX4_settle_28 rfl ?_
    refine J_icmp_ne (pc := 29) (tgt := 36) dX4_settle_29 (by decide) (fun h29 => ?_) (fun h29 => ?_)
    · 
      refine J_iconst (pc := 36) dX4_settle_36 kni_1 ?_
      refine J_iaddv (pc := 37) dX4_settle_37 (nI_add _ _) ?_
      refine J_istore_n (pc := 38) (ls' := [some _, some _, some _, some _]) dX4_settle_38 rfl (Nat.le_of_ble_eq_true rfl) rfl ?_
      refine Jn_iinc (pc := 39) (ls' := [some _, some _, some _, some _]) dX4_settle_39 rfl knz_1 rfl rfl ?_
      refine J_goto (pc := 42) (tgt := 4) dX4_settle_42 (by decide) ?_
      have ev : aimS (mfill m (o + 6) i (aimS m o)) o i = aimS m o i := aimS_c (fun k hk => mfill_i' (by omega)) (mfill_ge (Nat.le_refl _))
      rw [cnt_t (by unfold chgS; rw [decide_eq_true_eq]; intro q; exact h29 (by rw [mfill_ge (Nat.le_refl _), ev]; exact q)), ← mfill_s _ _ _ _ ev] at ih4
      refine J_wk' ih4 rfl ?_
      rintro (_ | _ | _ | _ | _ | _ | _ | _ | _ | _ | k) v hv <;> first | exact hv | cases hv
    · 
      refine J_iconst (pc := 32) dX4_settle_32 kni_0 ?_
      refine J_goto (pc := 33) (tgt := 37) dX4_settle_33 (by decide) ?_
      refine J_iaddv (pc := 37) dX4_settle_37 (nI_add _ _) ?_
      refine J_istore_n (pc := 38) (ls' := [some _, some _, some _, some _]) dX4_settle_38 rfl (Nat.le_of_ble_eq_true rfl) rfl ?_
      refine Jn_iinc (pc := 39) (ls' := [some _, some _, some _, some _]) dX4_settle_39 rfl knz_1 rfl rfl ?_
      refine J_goto (pc := 42) (tgt := 4) dX4_settle_42 (by decide) ?_
      have ev : aimS (mfill m (o + 6) i (aimS m o)) o i = aimS m o i := aimS_c (fun k hk => mfill_i' (by omega)) (mfill_ge (Nat.le_refl _))
      rw [cnt_f (by unfold chgS; rw [decide_eq_true_eq]; intro q; exact q (by rw [mfill_ge (Nat.le_refl _), ev] at h29; exact h29)), ← mfill_s _ _ _ _ ev] at ih4
      refine J_wk' ih4 rfl ?_
      rintro (_ | _ | _ | _ | _ | _ | _ | _ | _ | _ | k) v hv <;> first | exact hv | cases hv
  ·
    show K x _ _ 4 [some (.ref (jxb x + o)), some (.int (nI (cnt (chgS m o) P))), some (.int (nI P)), none] _ (mfill m (o + 6) P (aimS m o)) _
    refine J_iload_n (pc := 4) dX4_settle_4 rfl ?_
    refine J_aload_n (pc := 5) dX4_settle_5 rfl ?_
    refine K_getI (pc := 6) dX4_settle_6 kf_X4_9 (jSt_obj ho) (jSt_int ho 0 (by decide)) ?_
    refine J_top (b := nI P) (by rw [mfill_i (by omega)]; exact hP) ?_
    refine Jn_ge (pc := 9) (tgt := 45) dX4_settle_9 (by decide) (by omega) (by omega) (fun h9_2 => ?_) (fun h9_2 => absurd h9_2 (by omega))
    refine J_iload_n (pc := 45) dX4_settle_45 rfl ?_
    refine K_iret (pc := 46) dX4_settle_46 rfl ⟨_, rfl, ?_⟩
    exact ⟨rfl, rfl⟩

def restS (m : jm) (o : Nat) : Nat → Int32
  | 0 => nI 0
  | p + 1 => if paceS m o p ≤ 0 then restS m o p else maxV (restS m o p) ((absV (aimS m o p - m (o + 6) p) + paceS m o p - nI 1) / paceS m o p)
set_option maxRecDepth 100000 in
set_option maxHeartbeats 400000 in
theorem c_ticksToRest {x : jX} {m : jm} {d : Nat} {o P : Nat} (ho : jSt o) (hw : wfPt m o) (hP : m o 0 = nI P) (h48 : P ≤ 48) : Ct x (d + 2) eX4_ticksToRest [.ref (jxb x + o)] m (jp (restS m o P) m) := by
  refine J_start (by decide +kernel) (Nat.le_of_ble_eq_true rfl) (ls := [some (.ref (jxb x + o)), none, none, none, none]) rfl rfl ?_
  refine J_iconst (pc := 0) dX4_ticksToRest_0 kni_0 ?_
  refine J_istore_n (pc := 1) (ls' := [some _, some _, none, none, none]) dX4_ticksToRest_1 rfl (Nat.le_of_ble_eq_true rfl) rfl ?_
  refine J_iconst (pc := 2) dX4_ticksToRest_2 kni_0 ?_
  refine J_istore_n (pc := 3) (ls' := [some _, some _, some _, none, none]) dX4_ticksToRest_3 rfl (Nat.le_of_ble_eq_true rfl) rfl ?_
  refine K_for' (pc := 4) P (fun i => [some (.ref (jxb x + o)), some (.int ((restS m o i))), some (.int (nI i)), none, none]) (fun i => m) (by rfl) (by rfl) (fun i hi ih4 => ?_) ?_
  ·
    show K x _ _ 4 [some (.ref (jxb x + o)), some (.int ((restS m o i))), some (.int (nI i)), none, none] _ m _
    have hi48 : i < 48 := by omega
    refine J_iload_n (pc := 4) dX4_ticksToRest_4 rfl ?_
    refine J_aload_n (pc := 5) dX4_ticksToRest_5 rfl ?_
    refine K_getI (pc := 6) dX4_ticksToRest_6 kf_X4_9 (jSt_obj ho) (jSt_int ho 0 (by decide)) ?_
    refine J_top (b := nI P) (hP) ?_
    refine Jn_ge (pc := 9) (tgt := 58) dX4_ticksToRest_9 (by decide) (by omega) (by omega) (fun h9 => absurd h9 (by omega)) (fun h9 => ?_)
    refine J_aload_n (pc := 12) dX4_ticksToRest_12 rfl ?_
    refine J_iload_n (pc := 13) dX4_ticksToRest_13 rfl ?_
    refine K_callVp (pc := 14) (id := o) (As := [_]) dX4_ticksToRest_14 kl_X4_99 rfl (jSt_obj ho) rfl rfl (Nat.le_of_ble_eq_true rfl) (c_paceOf ho hi48) ?_
    refine J_istore_n (pc := 17) (ls' := [some _, some _, some _, some _, none]) dX4_ticksToRest_17 rfl (Nat.le_of_ble_eq_true rfl) rfl ?_
    refine J_aload_n (pc := 18) dX4_ticksToRest_18 rfl ?_
    refine J_iload_n (pc := 19) dX4_ticksToRest_19 rfl ?_
    refine K_callVp (pc := 20) (id := o) (As := [_]) dX4_ticksToRest_20 kl_X4_102 rfl (jSt_obj ho) rfl rfl (Nat.le_of_ble_eq_true rfl) (c_aimOf ho hi48 (hw.1 _ hi48) (hw.g hi48)) ?_
    refine J_aload_n (pc := 23) dX4_ticksToRest_23 rfl ?_
    refine K_getR (pc := 24) (t := o + 6) dX4_ticksToRest_24 kf_X4_31 (jSt_obj ho) (jSt_ref ho 5 (by decide)) ?_
    refine J_iload_n (pc := 27) dX4_ticksToRest_27 rfl ?_
    refine K_ialdn (pc := 28) (id := (o + 6)) dX4_ticksToRest_28 (jSt_arr ho 5 (by decide)) (by omega) (by decide) ?_
    refine J_isub (pc := 29) dX4_ticksToRest_29 ?_
    refine K_absV (pc := 30) dX4_ticksToRest_30 kx_X4_112 (Nat.le_of_ble_eq_true rfl) ?_
    refine J_istore (pc := 33) (ls' := [some _, some _, some _, some _, some _]) dX4_ticksToRest_33 rfl (Nat.le_of_ble_eq_true rfl) rfl ?_
    refine J_iload_n (pc := 35) dX4_ticksToRest_35 rfl ?_
    refine J_if_le (pc := 36) (tgt := 52) dX4_ticksToRest_36 (by decide) (fun h36 => ?_) (fun h36 => ?_)
    · 
      refine Jn_iinc (pc := 52) (ls' := [some _, some _, some _, some _, some _]) dX4_ticksToRest_52 rfl knz_1 rfl rfl ?_
      refine J_goto (pc := 55) (tgt := 4) dX4_ticksToRest_55 (by decide) ?_
      have ev := show restS m o (i + 1) = _ from if_pos h36
      rw [ev] at ih4
      refine J_wk' ih4 rfl ?_
      rintro (_ | _ | _ | _ | _ | _ | _ | _ | _ | _ | k) v hv <;> first | exact hv | cases hv
    · 
      refine J_iload_n (pc := 39) dX4_ticksToRest_39 rfl ?_
      refine J_iload (pc := 40) dX4_ticksToRest_40 rfl ?_
      refine J_iload_n (pc := 42) dX4_ticksToRest_42 rfl ?_
      refine J_iadd (pc := 43) dX4_ticksToRest_43 ?_
      refine J_iconst (pc := 44) dX4_ticksToRest_44 kni_1 ?_
      refine J_isub (pc := 45) dX4_ticksToRest_45 ?_
      refine J_iload_n (pc := 46) dX4_ticksToRest_46 rfl ?_
      refine J_idiv (pc := 47) dX4_ticksToRest_47 (fun q => h36 (by rw [q]; exact Int32.le_refl 0)) rfl ?_
      refine K_maxV (pc := 48) dX4_ticksToRest_48 kx_X4_105 (Nat.le_of_ble_eq_true rfl) ?_
      refine J_istore_n (pc := 51) (ls' := [some _, some _, some _, some _, some _]) dX4_ticksToRest_51 rfl (Nat.le_of_ble_eq_true rfl) rfl ?_
      refine Jn_iinc (pc := 52) (ls' := [some _, some _, some _, some _, some _]) dX4_ticksToRest_52 rfl knz_1 rfl rfl ?_
      refine J_goto (pc := 55) (tgt := 4) dX4_ticksToRest_55 (by decide) ?_
      have ev := show restS m o (i + 1) = _ from if_neg h36
      rw [ev] at ih4
      refine J_wk' ih4 rfl ?_
      rintro (_ | _ | _ | _ | _ | _ | _ | _ | _ | _ | k) v hv <;> first | exact hv | cases hv
  ·
    show K x _ _ 4 [some (.ref (jxb x + o)), some (.int ((restS m o P))), some (.int (nI P)), none, none] _ m _
    refine J_iload_n (pc := 4) dX4_ticksToRest_4 rfl ?_
    refine J_aload_n (pc := 5) dX4_ticksToRest_5 rfl ?_
    refine K_getI (pc := 6) dX4_ticksToRest_6 kf_X4_9 (jSt_obj ho) (jSt_int ho 0 (by decide)) ?_
    refine J_top (b := nI P) (hP) ?_
    refine Jn_ge (pc := 9) (tgt := 58) dX4_ticksToRest_9 (by decide) (by omega) (by omega) (fun h9_2 => ?_) (fun h9_2 => absurd h9_2 (by omega))
    refine J_iload_n (pc := 58) dX4_ticksToRest_58 rfl ?_
    refine K_iret (pc := 59) dX4_ticksToRest_59 rfl ⟨_, rfl, ?_⟩
    exact ⟨rfl, rfl⟩
set_option maxRecDepth 100000 in
set_option maxHeartbeats 400000 in
theorem c_allSizes {x : jX} {m : jm} {d : Nat} {o P : Nat} (ho : jSt o) (hP : m o 0 = nI P) (h48 : P ≤ 48) : Ct x d eX4_allSizes [.ref (jxb x + o)] m (jp (sumV (m (o + 6)) P) m) := by
  refine J_start (by decide +kernel) (Nat.le_of_ble_eq_true rfl) (ls := [some (.ref (jxb x + o)), none, none]) rfl rfl ?_
  refine J_iconst (pc := 0) dX4_allSizes_0 kni_0 ?_
  refine J_istore_n (pc := 1) (ls' := [some _, some _, none]) dX4_allSizes_1 rfl (Nat.le_of_ble_eq_true rfl) rfl ?_
  refine J_iconst (pc := 2) dX4_allSizes_2 kni_0 ?_
  refine J_istore_n (pc := 3) (ls' := [some _, some _, some _]) dX4_allSizes_3 rfl (Nat.le_of_ble_eq_true rfl) rfl ?_
  refine K_for' (pc := 4) P (fun i => [some (.ref (jxb x + o)), some (.int ((sumV (m (o + 6)) i))), some (.int (nI i))]) (fun i => m) (by rfl) (by rfl) (fun i hi ih4 => ?_) ?_
  ·
    show K x _ _ 4 [some (.ref (jxb x + o)), some (.int ((sumV (m (o + 6)) i))), some (.int (nI i))] _ m _
    refine J_iload_n (pc := 4) dX4_allSizes_4 rfl ?_
    refine J_aload_n (pc := 5) dX4_allSizes_5 rfl ?_
    refine K_getI (pc := 6) dX4_allSizes_6 kf_X4_9 (jSt_obj ho) (jSt_int ho 0 (by decide)) ?_
    refine J_top (b := nI P) (hP) ?_
    refine Jn_ge (pc := 9) (tgt := 27) dX4_allSizes_9 (by decide) (by omega) (by omega) (fun h9 => absurd h9 (by omega)) (fun h9 => ?_)
    refine J_iload_n (pc := 12) dX4_allSizes_12 rfl ?_
    refine J_aload_n (pc := 13) dX4_allSizes_13 rfl ?_
    refine K_getR (pc := 14) (t := o + 6) dX4_allSizes_14 kf_X4_31 (jSt_obj ho) (jSt_ref ho 5 (by decide)) ?_
    refine J_iload_n (pc := 17) dX4_allSizes_17 rfl ?_
    refine K_ialdn (pc := 18) (id := (o + 6)) dX4_allSizes_18 (jSt_arr ho 5 (by decide)) (by omega) (by decide) ?_
    refine J_iadd (pc := 19) dX4_allSizes_19 ?_
    refine J_istore_n (pc := 20) (ls' := [some _, some _, some _]) dX4_allSizes_20 rfl (Nat.le_of_ble_eq_true rfl) rfl ?_
    refine Jn_iinc (pc := 21) (ls' := [some _, some _, some _]) dX4_allSizes_21 rfl knz_1 rfl rfl ?_
    refine J_goto (pc := 24) (tgt := 4) dX4_allSizes_24 (by decide) ?_
    exact ih4
  ·
    show K x _ _ 4 [some (.ref (jxb x + o)), some (.int ((sumV (m (o + 6)) P))), some (.int (nI P))] _ m _
    refine J_iload_n (pc := 4) dX4_allSizes_4 rfl ?_
    refine J_aload_n (pc := 5) dX4_allSizes_5 rfl ?_
    refine K_getI (pc := 6) dX4_allSizes_6 kf_X4_9 (jSt_obj ho) (jSt_int ho 0 (by decide)) ?_
    refine J_top (b := nI P) (hP) ?_
    refine Jn_ge (pc := 9) (tgt := 27) dX4_allSizes_9 (by decide) (by omega) (by omega) (fun h9_2 => ?_) (fun h9_2 => absurd h9_2 (by omega))
    refine J_iload_n (pc := 27) dX4_allSizes_27 rfl ?_
    refine K_iret (pc := 28) dX4_allSizes_28 rfl ⟨_, rfl, ?_⟩
    exact ⟨rfl, rfl⟩
set_option maxRecDepth 100000 in
set_option maxHeartbeats 400000 in
theorem c_partsOf {x : jX} {m : jm} {d : Nat} {o P : Nat} (ho : jSt o) (hP : m o 0 = nI P) (h48 : P ≤ 48) (w : Int32) : Ct x d eX4_partsOf [.ref (jxb x + o), .int w] m (jp (nI (cnt (fun p => decide (m (o + 1) p = w)) P)) m) := by
  refine J_start (by decide +kernel) (Nat.le_of_ble_eq_true rfl) (ls := [some (.ref (jxb x + o)), some (.int w), none, none]) rfl rfl ?_
  refine J_iconst (pc := 0) dX4_partsOf_0 kni_0 ?_
  refine J_istore_n (pc := 1) (ls' := [some _, some _, some _, none]) dX4_partsOf_1 rfl (Nat.le_of_ble_eq_true rfl) rfl ?_
  refine J_iconst (pc := 2) dX4_partsOf_2 kni_0 ?_
  refine J_istore_n (pc := 3) (ls' := [some _, some _, some _, some _]) dX4_partsOf_3 rfl (Nat.le_of_ble_eq_true rfl) rfl ?_
  refine K_for' (pc := 4) P (fun i => [some (.ref (jxb x + o)), some (.int w), some (.int (nI (cnt (fun p => decide (m (o + 1) p = w)) i))), some (.int (nI i))]) (fun i => m) (by rfl) (by rfl) (fun i hi ih4 => ?_) ?_
  ·
    show K x _ _ 4 [some (.ref (jxb x + o)), some (.int w), some (.int (nI (cnt (fun p => decide (m (o + 1) p = w)) i))), some (.int (nI i))] _ m _
    refine J_iload_n (pc := 4) dX4_partsOf_4 rfl ?_
    refine J_aload_n (pc := 5) dX4_partsOf_5 rfl ?_
    refine K_getI (pc := 6) dX4_partsOf_6 kf_X4_9 (jSt_obj ho) (jSt_int ho 0 (by decide)) ?_
    refine J_top (b := nI P) (hP) ?_
    refine Jn_ge (pc := 9) (tgt := 36) dX4_partsOf_9 (by decide) (by omega) (by omega) (fun h9 => absurd h9 (by omega)) (fun h9 => ?_)
    refine J_iload_n (pc := 12) dX4_partsOf_12 rfl ?_
    refine J_aload_n (pc := 13) dX4_partsOf_13 rfl ?_
    refine K_getR (pc := 14) (t := o + 1) dX4_partsOf_14 kf_X4_15 (jSt_obj ho) (jSt_ref ho 0 (by decide)) ?_
    refine J_iload_n (pc := 17) dX4_partsOf_17 rfl ?_
    refine K_ialdn (pc := 18) (id := (o + 1)) dX4_partsOf_18 (jSt_arr ho 0 (by decide)) (by omega) (by decide) ?_
    refine J_iload_n (pc := 19) dX4_partsOf_19 rfl ?_
    refine J_icmp_ne (pc := 20) (tgt := 27) dX4_partsOf_20 (by decide) (fun h20 => ?_) (fun h20 => ?_)
    · 
      refine J_iconst (pc := 27) dX4_partsOf_27 kni_0 ?_
      refine J_iaddv (pc := 28) dX4_partsOf_28 (nI_add _ _) ?_
      refine J_istore_n (pc := 29) (ls' := [some _, some _, some _, some _]) dX4_partsOf_29 rfl (Nat.le_of_ble_eq_true rfl) rfl ?_
      refine Jn_iinc (pc := 30) (ls' := [some _, some _, some _, some _]) dX4_partsOf_30 rfl knz_1 rfl rfl ?_
      refine J_goto (pc := 33) (tgt := 4) dX4_partsOf_33 (by decide) ?_
      rw [cnt_f (by rw [decide_eq_true_eq]; exact h20)] at ih4
      exact ih4
    · 
      refine J_iconst (pc := 23) dX4_partsOf_23 kni_1 ?_
      refine J_goto (pc := 24) (tgt := 28) dX4_partsOf_24 (by decide) ?_
      refine J_iaddv (pc := 28) dX4_partsOf_28 (nI_add _ _) ?_
      refine J_istore_n (pc := 29) (ls' := [some _, some _, some _, some _]) dX4_partsOf_29 rfl (Nat.le_of_ble_eq_true rfl) rfl ?_
      refine Jn_iinc (pc := 30) (ls' := [some _, some _, some _, some _]) dX4_partsOf_30 rfl knz_1 rfl rfl ?_
      refine J_goto (pc := 33) (tgt := 4) dX4_partsOf_33 (by decide) ?_
      rw [cnt_t (by rw [decide_eq_true_eq]; exact h20)] at ih4
      exact ih4
  ·
    show K x _ _ 4 [some (.ref (jxb x + o)), some (.int w), some (.int (nI (cnt (fun p => decide (m (o + 1) p = w)) P))), some (.int (nI P))] _ m _
    refine J_iload_n (pc := 4) dX4_partsOf_4 rfl ?_
    refine J_aload_n (pc := 5) dX4_partsOf_5 rfl ?_
    refine K_getI (pc := 6) dX4_partsOf_6 kf_X4_9 (jSt_obj ho) (jSt_int ho 0 (by decide)) ?_
    refine J_top (b := nI P) (hP) ?_
    refine Jn_ge (pc := 9) (tgt := 36) dX4_partsOf_9 (by decide) (by omega) (by omega) (fun h9_2 => ?_) (fun h9_2 => absurd h9_2 (by omega))
    refine J_iload_n (pc := 36) dX4_partsOf_36 rfl ?_
    refine K_iret (pc := 37) dX4_partsOf_37 rfl ⟨_, rfl, ?_⟩
    exact ⟨rfl, rfl⟩

def abvV (v : Int32) : Int32 := (jtb 0).getD (tN v) 0
def isOfP (k w : Int32) : Prop := k = w ∨ abvV k = w ∨ (abvV k ≠ NONEv ∧ abvV (abvV k) = w)
theorem abv_in {k : Int32} (h : vp_in k 6) (hn : ¬ abvV k = NONEv) : vp_in (abvV k) 6 := by
  obtain ⟨j, hj, rfl⟩ := vp_in_of h (by decide)
  revert hn
  rcases (show j = 0 ∨ j = 1 ∨ j = 2 ∨ j = 3 ∨ j = 4 ∨ j = 5 by omega) with rfl | rfl | rfl | rfl | rfl | rfl <;> intro hn <;> unfold vp_in <;> revert hn <;> decide +kernel
noncomputable def jbp (c : Prop) : Int32 := by classical exact if c then 1 else 0
theorem jbpT {c : Prop} (h : c) : nI 1 = jbp c := by unfold jbp; rw [if_pos h]; rfl
theorem jbpF {c : Prop} (h : ¬ c) : nI 0 = jbp c := by unfold jbp; rw [if_neg h]; rfl
set_option maxRecDepth 100000 in
set_option maxHeartbeats 400000 in
theorem c_isOf {x : jX} {m : jm} {d : Nat} {o p : Nat} (ho : jSt o) (hp : p < 48) (hk : vp_in (m (o + 1) p) 6) (w : Int32) : Ct x d eX4_isOf [.ref (jxb x + o), .int (nI p), .int w] m (jp (jbp (isOfP (m (o + 1) p) w)) m) := by
  refine J_start (by decide +kernel) (Nat.le_of_ble_eq_true rfl) (ls := [some (.ref (jxb x + o)), some (.int (nI p)), some (.int w), none]) rfl rfl ?_
  refine J_gets (pc := 0) (j := 0) dX4_isOf_0 (by decide) ks_X4_74 ?_
  refine J_aload_n (pc := 3) dX4_isOf_3 rfl ?_
  refine K_getR (pc := 4) (t := o + 1) dX4_isOf_4 kf_X4_15 (jSt_obj ho) (jSt_ref ho 0 (by decide)) ?_
  refine J_iload_n (pc := 7) dX4_isOf_7 rfl ?_
  refine K_ialdn (pc := 8) (id := (o + 1)) dX4_isOf_8 (jSt_arr ho 0 (by decide)) (by omega) (by decide) ?_
  refine J_tld (pc := 9) (j := 0) dX4_isOf_9 (by decide) hk rfl ?_
  refine J_istore_n (pc := 10) (ls' := [some _, some _, some _, some _]) dX4_isOf_10 rfl (Nat.le_of_ble_eq_true rfl) rfl ?_
  refine J_aload_n (pc := 11) dX4_isOf_11 rfl ?_
  refine K_getR (pc := 12) (t := o + 1) dX4_isOf_12 kf_X4_15 (jSt_obj ho) (jSt_ref ho 0 (by decide)) ?_
  refine J_iload_n (pc := 15) dX4_isOf_15 rfl ?_
  refine K_ialdn (pc := 16) (id := (o + 1)) dX4_isOf_16 (jSt_arr ho 0 (by decide)) (by omega) (by decide) ?_
  refine J_iload_n (pc := 17) dX4_isOf_17 rfl ?_
  refine J_icmp_eq (pc := 18) (tgt := 41) dX4_isOf_18 (by decide) (fun h18 => ?_) (fun h18 => ?_)
  · 
    refine J_iconst (pc := 41) dX4_isOf_41 kni_1 ?_
    refine J_goto (pc := 42) (tgt := 46) dX4_isOf_42 (by decide) ?_
    refine K_zret (pc := 46) dX4_isOf_46 rfl rfl ⟨_, rfl, ?_⟩
    exact ⟨jbpT (Or.inl h18), rfl⟩
  · 
    refine J_iload_n (pc := 21) dX4_isOf_21 rfl ?_
    refine J_iload_n (pc := 22) dX4_isOf_22 rfl ?_
    refine J_icmp_eq (pc := 23) (tgt := 41) dX4_isOf_23 (by decide) (fun h23 => ?_) (fun h23 => ?_)
    · 
      refine J_iconst (pc := 41) dX4_isOf_41 kni_1 ?_
      refine J_goto (pc := 42) (tgt := 46) dX4_isOf_42 (by decide) ?_
      refine K_zret (pc := 46) dX4_isOf_46 rfl rfl ⟨_, rfl, ?_⟩
      exact ⟨jbpT (Or.inr (Or.inl h23)), rfl⟩
    · 
      refine J_iload_n (pc := 26) dX4_isOf_26 rfl ?_
      refine J_ldc (pc := 27) dX4_isOf_27 kc_X4_64 ?_
      refine J_icmp_eq (pc := 29) (tgt := 45) dX4_isOf_29 (by decide) (fun h29 => ?_) (fun h29 => ?_)
      · 
        refine J_iconst (pc := 45) dX4_isOf_45 kni_0 ?_
        refine K_zret (pc := 46) dX4_isOf_46 rfl rfl ⟨_, rfl, ?_⟩
        exact ⟨jbpF (fun q => q.elim h18 (fun q => q.elim h23 (fun q => q.1 h29))), rfl⟩
      · 
        refine J_gets (pc := 32) (j := 0) dX4_isOf_32 (by decide) ks_X4_74 ?_
        refine J_iload_n (pc := 35) dX4_isOf_35 rfl ?_
        refine J_tld (pc := 36) (j := 0) dX4_isOf_36 (by decide) (abv_in hk h29) rfl ?_
        refine J_iload_n (pc := 37) dX4_isOf_37 rfl ?_
        refine J_icmp_ne (pc := 38) (tgt := 45) dX4_isOf_38 (by decide) (fun h38 => ?_) (fun h38 => ?_)
        · 
          refine J_iconst (pc := 45) dX4_isOf_45 kni_0 ?_
          refine K_zret (pc := 46) dX4_isOf_46 rfl rfl ⟨_, rfl, ?_⟩
          exact ⟨jbpF (fun q => q.elim h18 (fun q => q.elim h23 (fun q => h38 q.2))), rfl⟩
        · 
          refine J_iconst (pc := 41) dX4_isOf_41 kni_1 ?_
          refine J_goto (pc := 42) (tgt := 46) dX4_isOf_42 (by decide) ?_
          refine K_zret (pc := 46) dX4_isOf_46 rfl rfl ⟨_, rfl, ?_⟩
          exact ⟨jbpT (Or.inr (Or.inr ⟨h29, h38⟩)), rfl⟩

def addM (m : jm) (o P q : Nat) (k a s n : Int32) : jm := mup (mup (mup (mup (mup (mup (mup (mup m (o + 1) P k) (o + 2) P (nI q)) (o + 3) P a) (o + 4) P s) (o + 5) P n) (o + 6) P (nI 0)) (o + 7) q (nI P)) o 0 (nI (P + 1))
set_option maxRecDepth 100000 in
set_option maxHeartbeats 400000 in
theorem c_add {x : jX} {m : jm} {d : Nat} {o P q : Nat} (ho : jSt o) (hP : m o 0 = nI P) (h48 : P < 48) (hq : q < 48) (k a s n : Int32) : Ct x d eX4_add [.ref (jxb x + o), .int k, .int (nI q), .int a, .int s, .int n] m (ji fun v m' => v = nI P ∧ m' = addM m o P q k a s n) := by
  refine J_start (by decide +kernel) (Nat.le_of_ble_eq_true rfl) (ls := [some (.ref (jxb x + o)), some (.int k), some (.int (nI q)), some (.int a), some (.int s), some (.int n)]) rfl rfl ?_
  refine J_aload_n (pc := 0) dX4_add_0 rfl ?_
  refine K_getR (pc := 1) (t := o + 1) dX4_add_1 kf_X4_15 (jSt_obj ho) (jSt_ref ho 0 (by decide)) ?_
  refine J_aload_n (pc := 4) dX4_add_4 rfl ?_
  refine K_getI (pc := 5) dX4_add_5 kf_X4_9 (jSt_obj ho) (jSt_int ho 0 (by decide)) ?_
  refine J_top (b := nI P) (by  exact hP) ?_
  refine J_iload_n (pc := 8) dX4_add_8 rfl ?_
  refine K_iastn (pc := 9) (id := (o + 1)) dX4_add_9 (jSt_arr ho 0 (by decide)) (by omega) (by decide) ?_
  refine J_aload_n (pc := 10) dX4_add_10 rfl ?_
  refine K_getR (pc := 11) (t := o + 2) dX4_add_11 kf_X4_19 (jSt_obj ho) (jSt_ref ho 1 (by decide)) ?_
  refine J_aload_n (pc := 14) dX4_add_14 rfl ?_
  refine K_getI (pc := 15) dX4_add_15 kf_X4_9 (jSt_obj ho) (jSt_int ho 0 (by decide)) ?_
  refine J_top (b := nI P) (by rw [mup_i (by omega)]; exact hP) ?_
  refine J_iload_n (pc := 18) dX4_add_18 rfl ?_
  refine K_iastn (pc := 19) (id := (o + 2)) dX4_add_19 (jSt_arr ho 1 (by decide)) (by omega) (by decide) ?_
  refine J_aload_n (pc := 20) dX4_add_20 rfl ?_
  refine K_getR (pc := 21) (t := o + 3) dX4_add_21 kf_X4_22 (jSt_obj ho) (jSt_ref ho 2 (by decide)) ?_
  refine J_aload_n (pc := 24) dX4_add_24 rfl ?_
  refine K_getI (pc := 25) dX4_add_25 kf_X4_9 (jSt_obj ho) (jSt_int ho 0 (by decide)) ?_
  refine J_top (b := nI P) (by rw [mup_i (by omega), mup_i (by omega)]; exact hP) ?_
  refine J_iload_n (pc := 28) dX4_add_28 rfl ?_
  refine K_iastn (pc := 29) (id := (o + 3)) dX4_add_29 (jSt_arr ho 2 (by decide)) (by omega) (by decide) ?_
  refine J_aload_n (pc := 30) dX4_add_30 rfl ?_
  refine K_getR (pc := 31) (t := o + 4) dX4_add_31 kf_X4_25 (jSt_obj ho) (jSt_ref ho 3 (by decide)) ?_
  refine J_aload_n (pc := 34) dX4_add_34 rfl ?_
  refine K_getI (pc := 35) dX4_add_35 kf_X4_9 (jSt_obj ho) (jSt_int ho 0 (by decide)) ?_
  refine J_top (b := nI P) (by rw [mup_i (by omega), mup_i (by omega), mup_i (by omega)]; exact hP) ?_
  refine J_iload (pc := 38) dX4_add_38 rfl ?_
  refine K_iastn (pc := 40) (id := (o + 4)) dX4_add_40 (jSt_arr ho 3 (by decide)) (by omega) (by decide) ?_
  refine J_aload_n (pc := 41) dX4_add_41 rfl ?_
  refine K_getR (pc := 42) (t := o + 5) dX4_add_42 kf_X4_28 (jSt_obj ho) (jSt_ref ho 4 (by decide)) ?_
  refine J_aload_n (pc := 45) dX4_add_45 rfl ?_
  refine K_getI (pc := 46) dX4_add_46 kf_X4_9 (jSt_obj ho) (jSt_int ho 0 (by decide)) ?_
  refine J_top (b := nI P) (by rw [mup_i (by omega), mup_i (by omega), mup_i (by omega), mup_i (by omega)]; exact hP) ?_
  refine J_iload (pc := 49) dX4_add_49 rfl ?_
  refine K_iastn (pc := 51) (id := (o + 5)) dX4_add_51 (jSt_arr ho 4 (by decide)) (by omega) (by decide) ?_
  refine J_aload_n (pc := 52) dX4_add_52 rfl ?_
  refine K_getR (pc := 53) (t := o + 6) dX4_add_53 kf_X4_31 (jSt_obj ho) (jSt_ref ho 5 (by decide)) ?_
  refine J_aload_n (pc := 56) dX4_add_56 rfl ?_
  refine K_getI (pc := 57) dX4_add_57 kf_X4_9 (jSt_obj ho) (jSt_int ho 0 (by decide)) ?_
  refine J_top (b := nI P) (by rw [mup_i (by omega), mup_i (by omega), mup_i (by omega), mup_i (by omega), mup_i (by omega)]; exact hP) ?_
  refine J_iconst (pc := 60) dX4_add_60 kni_0 ?_
  refine K_iastn (pc := 61) (id := (o + 6)) dX4_add_61 (jSt_arr ho 5 (by decide)) (by omega) (by decide) ?_
  refine J_aload_n (pc := 62) dX4_add_62 rfl ?_
  refine K_getR (pc := 63) (t := o + 7) dX4_add_63 kf_X4_34 (jSt_obj ho) (jSt_ref ho 6 (by decide)) ?_
  refine J_iload_n (pc := 66) dX4_add_66 rfl ?_
  refine J_aload_n (pc := 67) dX4_add_67 rfl ?_
  refine K_getI (pc := 68) dX4_add_68 kf_X4_9 (jSt_obj ho) (jSt_int ho 0 (by decide)) ?_
  refine J_top (b := nI P) (by rw [mup_i (by omega), mup_i (by omega), mup_i (by omega), mup_i (by omega), mup_i (by omega), mup_i (by omega)]; exact hP) ?_
  refine K_iastn (pc := 71) (id := (o + 7)) dX4_add_71 (jSt_arr ho 6 (by decide)) (by omega) (by decide) ?_
  refine J_aload_n (pc := 72) dX4_add_72 rfl ?_
  refine J_dup (pc := 73) dX4_add_73 rfl ?_
  refine K_getI (pc := 74) dX4_add_74 kf_X4_9 (jSt_obj ho) (jSt_int ho 0 (by decide)) ?_
  refine J_top (b := nI P) (by rw [mup_i (by omega), mup_i (by omega), mup_i (by omega), mup_i (by omega), mup_i (by omega), mup_i (by omega), mup_i (by omega)]; exact hP) ?_
  refine J_dup_x1 (pc := 77) dX4_add_77 rfl rfl ?_
  refine J_iconst (pc := 78) dX4_add_78 kni_1 ?_
  refine J_iaddv (pc := 79) dX4_add_79 (nI_add _ _) ?_
  refine K_put (pc := 80) dX4_add_80 kp_X4_9 (jSt_obj ho) (jSt_int ho 0 (by decide)) rfl rfl ?_
  refine K_iret (pc := 83) dX4_add_83 rfl ⟨_, rfl, ?_⟩
  exact ⟨rfl, rfl⟩
def becM (m : jm) (o o2 : Nat) : jm := (mup (mup (mup (mup (mcpy (mcpy (mcpy (mcpy (mcpy (mcpy (mcpy (mcpy (mcpy (mcpy (mcpy (mcpy (mup m o 0 (((m o2 0)))) (o2 + 1) (o + 1) 0 0 48) (o2 + 2) (o + 2) 0 0 48) (o2 + 3) (o + 3) 0 0 48) (o2 + 4) (o + 4) 0 0 48) (o2 + 5) (o + 5) 0 0 48) (o2 + 6) (o + 6) 0 0 48) (o2 + 7) (o + 7) 0 0 48) (o2 + 8) (o + 8) 0 0 48) (o2 + 9) (o + 9) 0 0 10) (o2 + 10) (o + 10) 0 0 10) (o2 + 11) (o + 11) 0 0 6) (o2 + 12) (o + 12) 0 0 4) o 13 ((((mcpy (mcpy (mcpy (mcpy (mcpy (mcpy (mcpy (mcpy (mcpy (mcpy (mcpy (mcpy (mup m o 0 (((m o2 0)))) (o2 + 1) (o + 1) 0 0 48) (o2 + 2) (o + 2) 0 0 48) (o2 + 3) (o + 3) 0 0 48) (o2 + 4) (o + 4) 0 0 48) (o2 + 5) (o + 5) 0 0 48) (o2 + 6) (o + 6) 0 0 48) (o2 + 7) (o + 7) 0 0 48) (o2 + 8) (o + 8) 0 0 48) (o2 + 9) (o + 9) 0 0 10) (o2 + 10) (o + 10) 0 0 10) (o2 + 11) (o + 11) 0 0 6) (o2 + 12) (o + 12) 0 0 4) o2 13)))) o 14 ((((mup (mcpy (mcpy (mcpy (mcpy (mcpy (mcpy (mcpy (mcpy (mcpy (mcpy (mcpy (mcpy (mup m o 0 (((m o2 0)))) (o2 + 1) (o + 1) 0 0 48) (o2 + 2) (o + 2) 0 0 48) (o2 + 3) (o + 3) 0 0 48) (o2 + 4) (o + 4) 0 0 48) (o2 + 5) (o + 5) 0 0 48) (o2 + 6) (o + 6) 0 0 48) (o2 + 7) (o + 7) 0 0 48) (o2 + 8) (o + 8) 0 0 48) (o2 + 9) (o + 9) 0 0 10) (o2 + 10) (o + 10) 0 0 10) (o2 + 11) (o + 11) 0 0 6) (o2 + 12) (o + 12) 0 0 4) o 13 ((((mcpy (mcpy (mcpy (mcpy (mcpy (mcpy (mcpy (mcpy (mcpy (mcpy (mcpy (mcpy (mup m o 0 (((m o2 0)))) (o2 + 1) (o + 1) 0 0 48) (o2 + 2) (o + 2) 0 0 48) (o2 + 3) (o + 3) 0 0 48) (o2 + 4) (o + 4) 0 0 48) (o2 + 5) (o + 5) 0 0 48) (o2 + 6) (o + 6) 0 0 48) (o2 + 7) (o + 7) 0 0 48) (o2 + 8) (o + 8) 0 0 48) (o2 + 9) (o + 9) 0 0 10) (o2 + 10) (o + 10) 0 0 10) (o2 + 11) (o + 11) 0 0 6) (o2 + 12) (o + 12) 0 0 4) o2 13)))) o2 14)))) o 15 ((((mup (mup (mcpy (mcpy (mcpy (mcpy (mcpy (mcpy (mcpy (mcpy (mcpy (mcpy (mcpy (mcpy (mup m o 0 (((m o2 0)))) (o2 + 1) (o + 1) 0 0 48) (o2 + 2) (o + 2) 0 0 48) (o2 + 3) (o + 3) 0 0 48) (o2 + 4) (o + 4) 0 0 48) (o2 + 5) (o + 5) 0 0 48) (o2 + 6) (o + 6) 0 0 48) (o2 + 7) (o + 7) 0 0 48) (o2 + 8) (o + 8) 0 0 48) (o2 + 9) (o + 9) 0 0 10) (o2 + 10) (o + 10) 0 0 10) (o2 + 11) (o + 11) 0 0 6) (o2 + 12) (o + 12) 0 0 4) o 13 ((((mcpy (mcpy (mcpy (mcpy (mcpy (mcpy (mcpy (mcpy (mcpy (mcpy (mcpy (mcpy (mup m o 0 (((m o2 0)))) (o2 + 1) (o + 1) 0 0 48) (o2 + 2) (o + 2) 0 0 48) (o2 + 3) (o + 3) 0 0 48) (o2 + 4) (o + 4) 0 0 48) (o2 + 5) (o + 5) 0 0 48) (o2 + 6) (o + 6) 0 0 48) (o2 + 7) (o + 7) 0 0 48) (o2 + 8) (o + 8) 0 0 48) (o2 + 9) (o + 9) 0 0 10) (o2 + 10) (o + 10) 0 0 10) (o2 + 11) (o + 11) 0 0 6) (o2 + 12) (o + 12) 0 0 4) o2 13)))) o 14 ((((mup (mcpy (mcpy (mcpy (mcpy (mcpy (mcpy (mcpy (mcpy (mcpy (mcpy (mcpy (mcpy (mup m o 0 (((m o2 0)))) (o2 + 1) (o + 1) 0 0 48) (o2 + 2) (o + 2) 0 0 48) (o2 + 3) (o + 3) 0 0 48) (o2 + 4) (o + 4) 0 0 48) (o2 + 5) (o + 5) 0 0 48) (o2 + 6) (o + 6) 0 0 48) (o2 + 7) (o + 7) 0 0 48) (o2 + 8) (o + 8) 0 0 48) (o2 + 9) (o + 9) 0 0 10) (o2 + 10) (o + 10) 0 0 10) (o2 + 11) (o + 11) 0 0 6) (o2 + 12) (o + 12) 0 0 4) o 13 ((((mcpy (mcpy (mcpy (mcpy (mcpy (mcpy (mcpy (mcpy (mcpy (mcpy (mcpy (mcpy (mup m o 0 (((m o2 0)))) (o2 + 1) (o + 1) 0 0 48) (o2 + 2) (o + 2) 0 0 48) (o2 + 3) (o + 3) 0 0 48) (o2 + 4) (o + 4) 0 0 48) (o2 + 5) (o + 5) 0 0 48) (o2 + 6) (o + 6) 0 0 48) (o2 + 7) (o + 7) 0 0 48) (o2 + 8) (o + 8) 0 0 48) (o2 + 9) (o + 9) 0 0 10) (o2 + 10) (o + 10) 0 0 10) (o2 + 11) (o + 11) 0 0 6) (o2 + 12) (o + 12) 0 0 4) o2 13)))) o2 14)))) o2 15)))) o 16 ((((mup (mup (mup (mcpy (mcpy (mcpy (mcpy (mcpy (mcpy (mcpy (mcpy (mcpy (mcpy (mcpy (mcpy (mup m o 0 (((m o2 0)))) (o2 + 1) (o + 1) 0 0 48) (o2 + 2) (o + 2) 0 0 48) (o2 + 3) (o + 3) 0 0 48) (o2 + 4) (o + 4) 0 0 48) (o2 + 5) (o + 5) 0 0 48) (o2 + 6) (o + 6) 0 0 48) (o2 + 7) (o + 7) 0 0 48) (o2 + 8) (o + 8) 0 0 48) (o2 + 9) (o + 9) 0 0 10) (o2 + 10) (o + 10) 0 0 10) (o2 + 11) (o + 11) 0 0 6) (o2 + 12) (o + 12) 0 0 4) o 13 ((((mcpy (mcpy (mcpy (mcpy (mcpy (mcpy (mcpy (mcpy (mcpy (mcpy (mcpy (mcpy (mup m o 0 (((m o2 0)))) (o2 + 1) (o + 1) 0 0 48) (o2 + 2) (o + 2) 0 0 48) (o2 + 3) (o + 3) 0 0 48) (o2 + 4) (o + 4) 0 0 48) (o2 + 5) (o + 5) 0 0 48) (o2 + 6) (o + 6) 0 0 48) (o2 + 7) (o + 7) 0 0 48) (o2 + 8) (o + 8) 0 0 48) (o2 + 9) (o + 9) 0 0 10) (o2 + 10) (o + 10) 0 0 10) (o2 + 11) (o + 11) 0 0 6) (o2 + 12) (o + 12) 0 0 4) o2 13)))) o 14 ((((mup (mcpy (mcpy (mcpy (mcpy (mcpy (mcpy (mcpy (mcpy (mcpy (mcpy (mcpy (mcpy (mup m o 0 (((m o2 0)))) (o2 + 1) (o + 1) 0 0 48) (o2 + 2) (o + 2) 0 0 48) (o2 + 3) (o + 3) 0 0 48) (o2 + 4) (o + 4) 0 0 48) (o2 + 5) (o + 5) 0 0 48) (o2 + 6) (o + 6) 0 0 48) (o2 + 7) (o + 7) 0 0 48) (o2 + 8) (o + 8) 0 0 48) (o2 + 9) (o + 9) 0 0 10) (o2 + 10) (o + 10) 0 0 10) (o2 + 11) (o + 11) 0 0 6) (o2 + 12) (o + 12) 0 0 4) o 13 ((((mcpy (mcpy (mcpy (mcpy (mcpy (mcpy (mcpy (mcpy (mcpy (mcpy (mcpy (mcpy (mup m o 0 (((m o2 0)))) (o2 + 1) (o + 1) 0 0 48) (o2 + 2) (o + 2) 0 0 48) (o2 + 3) (o + 3) 0 0 48) (o2 + 4) (o + 4) 0 0 48) (o2 + 5) (o + 5) 0 0 48) (o2 + 6) (o + 6) 0 0 48) (o2 + 7) (o + 7) 0 0 48) (o2 + 8) (o + 8) 0 0 48) (o2 + 9) (o + 9) 0 0 10) (o2 + 10) (o + 10) 0 0 10) (o2 + 11) (o + 11) 0 0 6) (o2 + 12) (o + 12) 0 0 4) o2 13)))) o2 14)))) o 15 ((((mup (mup (mcpy (mcpy (mcpy (mcpy (mcpy (mcpy (mcpy (mcpy (mcpy (mcpy (mcpy (mcpy (mup m o 0 (((m o2 0)))) (o2 + 1) (o + 1) 0 0 48) (o2 + 2) (o + 2) 0 0 48) (o2 + 3) (o + 3) 0 0 48) (o2 + 4) (o + 4) 0 0 48) (o2 + 5) (o + 5) 0 0 48) (o2 + 6) (o + 6) 0 0 48) (o2 + 7) (o + 7) 0 0 48) (o2 + 8) (o + 8) 0 0 48) (o2 + 9) (o + 9) 0 0 10) (o2 + 10) (o + 10) 0 0 10) (o2 + 11) (o + 11) 0 0 6) (o2 + 12) (o + 12) 0 0 4) o 13 ((((mcpy (mcpy (mcpy (mcpy (mcpy (mcpy (mcpy (mcpy (mcpy (mcpy (mcpy (mcpy (mup m o 0 (((m o2 0)))) (o2 + 1) (o + 1) 0 0 48) (o2 + 2) (o + 2) 0 0 48) (o2 + 3) (o + 3) 0 0 48) (o2 + 4) (o + 4) 0 0 48) (o2 + 5) (o + 5) 0 0 48) (o2 + 6) (o + 6) 0 0 48) (o2 + 7) (o + 7) 0 0 48) (o2 + 8) (o + 8) 0 0 48) (o2 + 9) (o + 9) 0 0 10) (o2 + 10) (o + 10) 0 0 10) (o2 + 11) (o + 11) 0 0 6) (o2 + 12) (o + 12) 0 0 4) o2 13)))) o 14 ((((mup (mcpy (mcpy (mcpy (mcpy (mcpy (mcpy (mcpy (mcpy (mcpy (mcpy (mcpy (mcpy (mup m o 0 (((m o2 0)))) (o2 + 1) (o + 1) 0 0 48) (o2 + 2) (o + 2) 0 0 48) (o2 + 3) (o + 3) 0 0 48) (o2 + 4) (o + 4) 0 0 48) (o2 + 5) (o + 5) 0 0 48) (o2 + 6) (o + 6) 0 0 48) (o2 + 7) (o + 7) 0 0 48) (o2 + 8) (o + 8) 0 0 48) (o2 + 9) (o + 9) 0 0 10) (o2 + 10) (o + 10) 0 0 10) (o2 + 11) (o + 11) 0 0 6) (o2 + 12) (o + 12) 0 0 4) o 13 ((((mcpy (mcpy (mcpy (mcpy (mcpy (mcpy (mcpy (mcpy (mcpy (mcpy (mcpy (mcpy (mup m o 0 (((m o2 0)))) (o2 + 1) (o + 1) 0 0 48) (o2 + 2) (o + 2) 0 0 48) (o2 + 3) (o + 3) 0 0 48) (o2 + 4) (o + 4) 0 0 48) (o2 + 5) (o + 5) 0 0 48) (o2 + 6) (o + 6) 0 0 48) (o2 + 7) (o + 7) 0 0 48) (o2 + 8) (o + 8) 0 0 48) (o2 + 9) (o + 9) 0 0 10) (o2 + 10) (o + 10) 0 0 10) (o2 + 11) (o + 11) 0 0 6) (o2 + 12) (o + 12) 0 0 4) o2 13)))) o2 14)))) o2 15)))) o2 16))))
set_option maxRecDepth 100000 in
set_option maxHeartbeats 400000 in
theorem c_becomes {x : jX} {m : jm} {d : Nat} {o o2 : Nat} (ho : jSt o) (ho2 : jSt o2) : Ct x (d + 1) eX4_becomes [.ref (jxb x + o), .ref (jxb x + o2)] m (jv fun m' => m' = becM m o o2) := by
  refine J_start (by decide +kernel) (Nat.le_of_ble_eq_true rfl) (ls := [some (.ref (jxb x + o)), some (.ref (jxb x + o2))]) rfl rfl ?_
  refine J_aload_n (pc := 0) dX4_becomes_0 rfl ?_
  refine J_aload_n (pc := 1) dX4_becomes_1 rfl ?_
  refine K_getI (pc := 2) dX4_becomes_2 kf_X4_9 (jSt_obj ho2) (jSt_int ho2 0 (by decide)) ?_
  refine K_put (pc := 5) dX4_becomes_5 kp_X4_9 (jSt_obj ho) (jSt_int ho 0 (by decide)) rfl rfl ?_
  refine J_aload_n (pc := 8) dX4_becomes_8 rfl ?_
  refine K_getR (pc := 9) (t := o2 + 1) dX4_becomes_9 kf_X4_15 (jSt_obj ho2) (jSt_ref ho2 0 (by decide)) ?_
  refine J_iconst (pc := 12) dX4_becomes_12 kni_0 ?_
  refine J_aload_n (pc := 13) dX4_becomes_13 rfl ?_
  refine K_getR (pc := 14) (t := o + 1) dX4_becomes_14 kf_X4_15 (jSt_obj ho) (jSt_ref ho 0 (by decide)) ?_
  refine J_iconst (pc := 17) dX4_becomes_17 kni_0 ?_
  refine J_bipush (pc := 18) dX4_becomes_18 knb_48 ?_
  refine K_acopy (pc := 20) (id0 := (o2 + 1)) (id1 := (o + 1)) dX4_becomes_20 ky_X4_68 (jSt_arr ho2 0 (by decide)) (jSt_arr ho 0 (by decide)) (by omega) (by omega) (by decide) (by decide) (Nat.le_of_ble_eq_true rfl) ?_
  refine J_aload_n (pc := 23) dX4_becomes_23 rfl ?_
  refine K_getR (pc := 24) (t := o2 + 2) dX4_becomes_24 kf_X4_19 (jSt_obj ho2) (jSt_ref ho2 1 (by decide)) ?_
  refine J_iconst (pc := 27) dX4_becomes_27 kni_0 ?_
  refine J_aload_n (pc := 28) dX4_becomes_28 rfl ?_
  refine K_getR (pc := 29) (t := o + 2) dX4_becomes_29 kf_X4_19 (jSt_obj ho) (jSt_ref ho 1 (by decide)) ?_
  refine J_iconst (pc := 32) dX4_becomes_32 kni_0 ?_
  refine J_bipush (pc := 33) dX4_becomes_33 knb_48 ?_
  refine K_acopy (pc := 35) (id0 := (o2 + 2)) (id1 := (o + 2)) dX4_becomes_35 ky_X4_68 (jSt_arr ho2 1 (by decide)) (jSt_arr ho 1 (by decide)) (by omega) (by omega) (by decide) (by decide) (Nat.le_of_ble_eq_true rfl) ?_
  refine J_aload_n (pc := 38) dX4_becomes_38 rfl ?_
  refine K_getR (pc := 39) (t := o2 + 3) dX4_becomes_39 kf_X4_22 (jSt_obj ho2) (jSt_ref ho2 2 (by decide)) ?_
  refine J_iconst (pc := 42) dX4_becomes_42 kni_0 ?_
  refine J_aload_n (pc := 43) dX4_becomes_43 rfl ?_
  refine K_getR (pc := 44) (t := o + 3) dX4_becomes_44 kf_X4_22 (jSt_obj ho) (jSt_ref ho 2 (by decide)) ?_
  refine J_iconst (pc := 47) dX4_becomes_47 kni_0 ?_
  refine J_bipush (pc := 48) dX4_becomes_48 knb_48 ?_
  refine K_acopy (pc := 50) (id0 := (o2 + 3)) (id1 := (o + 3)) dX4_becomes_50 ky_X4_68 (jSt_arr ho2 2 (by decide)) (jSt_arr ho 2 (by decide)) (by omega) (by omega) (by decide) (by decide) (Nat.le_of_ble_eq_true rfl) ?_
  refine J_aload_n (pc := 53) dX4_becomes_53 rfl ?_
  refine K_getR (pc := 54) (t := o2 + 4) dX4_becomes_54 kf_X4_25 (jSt_obj ho2) (jSt_ref ho2 3 (by decide)) ?_
  refine J_iconst (pc := 57) dX4_becomes_57 kni_0 ?_
  refine J_aload_n (pc := 58) dX4_becomes_58 rfl ?_
  refine K_getR (pc := 59) (t := o + 4) dX4_becomes_59 kf_X4_25 (jSt_obj ho) (jSt_ref ho 3 (by decide)) ?_
  refine J_iconst (pc := 62) dX4_becomes_62 kni_0 ?_
  refine J_bipush (pc := 63) dX4_becomes_63 knb_48 ?_
  refine K_acopy (pc := 65) (id0 := (o2 + 4)) (id1 := (o + 4)) dX4_becomes_65 ky_X4_68 (jSt_arr ho2 3 (by decide)) (jSt_arr ho 3 (by decide)) (by omega) (by omega) (by decide) (by decide) (Nat.le_of_ble_eq_true rfl) ?_
  refine J_aload_n (pc := 68) dX4_becomes_68 rfl ?_
  refine K_getR (pc := 69) (t := o2 + 5) dX4_becomes_69 kf_X4_28 (jSt_obj ho2) (jSt_ref ho2 4 (by decide)) ?_
  refine J_iconst (pc := 72) dX4_becomes_72 kni_0 ?_
  refine J_aload_n (pc := 73) dX4_becomes_73 rfl ?_
  refine K_getR (pc := 74) (t := o + 5) dX4_becomes_74 kf_X4_28 (jSt_obj ho) (jSt_ref ho 4 (by decide)) ?_
  refine J_iconst (pc := 77) dX4_becomes_77 kni_0 ?_
  refine J_bipush (pc := 78) dX4_becomes_78 knb_48 ?_
  refine K_acopy (pc := 80) (id0 := (o2 + 5)) (id1 := (o + 5)) dX4_becomes_80 ky_X4_68 (jSt_arr ho2 4 (by decide)) (jSt_arr ho 4 (by decide)) (by omega) (by omega) (by decide) (by decide) (Nat.le_of_ble_eq_true rfl) ?_
  refine J_aload_n (pc := 83) dX4_becomes_83 rfl ?_
  refine K_getR (pc := 84) (t := o2 + 6) dX4_becomes_84 kf_X4_31 (jSt_obj ho2) (jSt_ref ho2 5 (by decide)) ?_
  refine J_iconst (pc := 87) dX4_becomes_87 kni_0 ?_
  refine J_aload_n (pc := 88) dX4_becomes_88 rfl ?_
  refine K_getR (pc := 89) (t := o + 6) dX4_becomes_89 kf_X4_31 (jSt_obj ho) (jSt_ref ho 5 (by decide)) ?_
  refine J_iconst (pc := 92) dX4_becomes_92 kni_0 ?_
  refine J_bipush (pc := 93) dX4_becomes_93 knb_48 ?_
  refine K_acopy (pc := 95) (id0 := (o2 + 6)) (id1 := (o + 6)) dX4_becomes_95 ky_X4_68 (jSt_arr ho2 5 (by decide)) (jSt_arr ho 5 (by decide)) (by omega) (by omega) (by decide) (by decide) (Nat.le_of_ble_eq_true rfl) ?_
  refine J_aload_n (pc := 98) dX4_becomes_98 rfl ?_
  refine K_getR (pc := 99) (t := o2 + 7) dX4_becomes_99 kf_X4_34 (jSt_obj ho2) (jSt_ref ho2 6 (by decide)) ?_
  refine J_iconst (pc := 102) dX4_becomes_102 kni_0 ?_
  refine J_aload_n (pc := 103) dX4_becomes_103 rfl ?_
  refine K_getR (pc := 104) (t := o + 7) dX4_becomes_104 kf_X4_34 (jSt_obj ho) (jSt_ref ho 6 (by decide)) ?_
  refine J_iconst (pc := 107) dX4_becomes_107 kni_0 ?_
  refine J_bipush (pc := 108) dX4_becomes_108 knb_48 ?_
  refine K_acopy (pc := 110) (id0 := (o2 + 7)) (id1 := (o + 7)) dX4_becomes_110 ky_X4_68 (jSt_arr ho2 6 (by decide)) (jSt_arr ho 6 (by decide)) (by omega) (by omega) (by decide) (by decide) (Nat.le_of_ble_eq_true rfl) ?_
  refine J_aload_n (pc := 113) dX4_becomes_113 rfl ?_
  refine K_getR (pc := 114) (t := o2 + 8) dX4_becomes_114 kf_X4_37 (jSt_obj ho2) (jSt_ref ho2 7 (by decide)) ?_
  refine J_iconst (pc := 117) dX4_becomes_117 kni_0 ?_
  refine J_aload_n (pc := 118) dX4_becomes_118 rfl ?_
  refine K_getR (pc := 119) (t := o + 8) dX4_becomes_119 kf_X4_37 (jSt_obj ho) (jSt_ref ho 7 (by decide)) ?_
  refine J_iconst (pc := 122) dX4_becomes_122 kni_0 ?_
  refine J_bipush (pc := 123) dX4_becomes_123 knb_48 ?_
  refine K_acopy (pc := 125) (id0 := (o2 + 8)) (id1 := (o + 8)) dX4_becomes_125 ky_X4_68 (jSt_arr ho2 7 (by decide)) (jSt_arr ho 7 (by decide)) (by omega) (by omega) (by decide) (by decide) (Nat.le_of_ble_eq_true rfl) ?_
  refine J_aload_n (pc := 128) dX4_becomes_128 rfl ?_
  refine K_getR (pc := 129) (t := o2 + 9) dX4_becomes_129 kf_X4_40 (jSt_obj ho2) (jSt_ref ho2 8 (by decide)) ?_
  refine J_iconst (pc := 132) dX4_becomes_132 kni_0 ?_
  refine J_aload_n (pc := 133) dX4_becomes_133 rfl ?_
  refine K_getR (pc := 134) (t := o + 9) dX4_becomes_134 kf_X4_40 (jSt_obj ho) (jSt_ref ho 8 (by decide)) ?_
  refine J_iconst (pc := 137) dX4_becomes_137 kni_0 ?_
  refine J_bipush (pc := 138) dX4_becomes_138 knb_10 ?_
  refine K_acopy (pc := 140) (id0 := (o2 + 9)) (id1 := (o + 9)) dX4_becomes_140 ky_X4_68 (jSt_group ho2) (jSt_group ho) (by omega) (by omega) (by decide) (by decide) (Nat.le_of_ble_eq_true rfl) ?_
  refine J_aload_n (pc := 143) dX4_becomes_143 rfl ?_
  refine K_getR (pc := 144) (t := o2 + 10) dX4_becomes_144 kf_X4_43 (jSt_obj ho2) (jSt_ref ho2 9 (by decide)) ?_
  refine J_iconst (pc := 147) dX4_becomes_147 kni_0 ?_
  refine J_aload_n (pc := 148) dX4_becomes_148 rfl ?_
  refine K_getR (pc := 149) (t := o + 10) dX4_becomes_149 kf_X4_43 (jSt_obj ho) (jSt_ref ho 9 (by decide)) ?_
  refine J_iconst (pc := 152) dX4_becomes_152 kni_0 ?_
  refine J_bipush (pc := 153) dX4_becomes_153 knb_10 ?_
  refine K_acopy (pc := 155) (id0 := (o2 + 10)) (id1 := (o + 10)) dX4_becomes_155 ky_X4_68 (jSt_weight ho2) (jSt_weight ho) (by omega) (by omega) (by decide) (by decide) (Nat.le_of_ble_eq_true rfl) ?_
  refine J_aload_n (pc := 158) dX4_becomes_158 rfl ?_
  refine K_getR (pc := 159) (t := o2 + 11) dX4_becomes_159 kf_X4_46 (jSt_obj ho2) (jSt_ref ho2 10 (by decide)) ?_
  refine J_iconst (pc := 162) dX4_becomes_162 kni_0 ?_
  refine J_aload_n (pc := 163) dX4_becomes_163 rfl ?_
  refine K_getR (pc := 164) (t := o + 11) dX4_becomes_164 kf_X4_46 (jSt_obj ho) (jSt_ref ho 10 (by decide)) ?_
  refine J_iconst (pc := 167) dX4_becomes_167 kni_0 ?_
  refine J_bipush (pc := 168) dX4_becomes_168 knb_6 ?_
  refine K_acopy (pc := 170) (id0 := (o2 + 11)) (id1 := (o + 11)) dX4_becomes_170 ky_X4_68 (jSt_pull ho2) (jSt_pull ho) (by omega) (by omega) (by decide) (by decide) (Nat.le_of_ble_eq_true rfl) ?_
  refine J_aload_n (pc := 173) dX4_becomes_173 rfl ?_
  refine K_getR (pc := 174) (t := o2 + 12) dX4_becomes_174 kf_X4_49 (jSt_obj ho2) (jSt_ref ho2 11 (by decide)) ?_
  refine J_iconst (pc := 177) dX4_becomes_177 kni_0 ?_
  refine J_aload_n (pc := 178) dX4_becomes_178 rfl ?_
  refine K_getR (pc := 179) (t := o + 12) dX4_becomes_179 kf_X4_49 (jSt_obj ho) (jSt_ref ho 11 (by decide)) ?_
  refine J_iconst (pc := 182) dX4_becomes_182 kni_0 ?_
  refine J_iconst (pc := 183) dX4_becomes_183 kni_4 ?_
  refine K_acopy (pc := 184) (id0 := (o2 + 12)) (id1 := (o + 12)) dX4_becomes_184 ky_X4_68 (jSt_rules ho2) (jSt_rules ho) (by omega) (by omega) (by decide) (by decide) (Nat.le_of_ble_eq_true rfl) ?_
  refine J_aload_n (pc := 187) dX4_becomes_187 rfl ?_
  refine J_aload_n (pc := 188) dX4_becomes_188 rfl ?_
  refine K_getI (pc := 189) dX4_becomes_189 kf_X4_52 (jSt_obj ho2) (jSt_int ho2 13 (by decide)) ?_
  refine K_put (pc := 192) dX4_becomes_192 kp_X4_52 (jSt_obj ho) (jSt_int ho 13 (by decide)) rfl rfl ?_
  refine J_aload_n (pc := 195) dX4_becomes_195 rfl ?_
  refine J_aload_n (pc := 196) dX4_becomes_196 rfl ?_
  refine K_getI (pc := 197) dX4_becomes_197 kf_X4_55 (jSt_obj ho2) (jSt_int ho2 14 (by decide)) ?_
  refine K_put (pc := 200) dX4_becomes_200 kp_X4_55 (jSt_obj ho) (jSt_int ho 14 (by decide)) rfl rfl ?_
  refine J_aload_n (pc := 203) dX4_becomes_203 rfl ?_
  refine J_aload_n (pc := 204) dX4_becomes_204 rfl ?_
  refine K_getI (pc := 205) dX4_becomes_205 kf_X4_58 (jSt_obj ho2) (jSt_int ho2 15 (by decide)) ?_
  refine K_put (pc := 208) dX4_becomes_208 kp_X4_58 (jSt_obj ho) (jSt_int ho 15 (by decide)) rfl rfl ?_
  refine J_aload_n (pc := 211) dX4_becomes_211 rfl ?_
  refine J_aload_n (pc := 212) dX4_becomes_212 rfl ?_
  refine K_getI (pc := 213) dX4_becomes_213 kf_X4_61 (jSt_obj ho2) (jSt_int ho2 16 (by decide)) ?_
  refine K_put (pc := 216) dX4_becomes_216 kp_X4_61 (jSt_obj ho) (jSt_int ho 16 (by decide)) rfl rfl ?_
  
  refine K_vret (pc := 219) dX4_becomes_219 rfl ⟨rfl, ?_⟩
  rfl

/-- the place beside, by the class's sides: 0 left, 1 right, 2 up, 3 down -/
def besV (p : Nat) (s : Nat) : Int32 := match s with
  | 0 => if p % 8 = 0 then NONEv else nI (p - 1)
  | 1 => if p % 8 < 7 then nI (p + 1) else NONEv
  | 2 => if p < 8 then NONEv else nI (p - 8)
  | _ => if p < 40 then nI (p + 8) else NONEv
set_option maxRecDepth 100000 in
set_option maxHeartbeats 400000 in
theorem c_beside {x : jX} {m : jm} {d : Nat} {p s : Nat} (hp : p < 48) (hs : s < 4) : Ct x d eX7_beside [.int (nI p), .int (nI s)] m (jp (besV p s) m) := by
  refine J_start (by decide +kernel) (Nat.le_of_ble_eq_true rfl) (ls := [some (.int (nI p)), some (.int (nI s)), none]) rfl rfl ?_
  refine J_iload_n (pc := 0) dX7_beside_0 rfl ?_
  refine J_bipush (pc := 1) dX7_beside_1 knb_8 ?_
  refine J_irem (pc := 3) (v := nI (p % 8)) dX7_beside_3 (nI_ne0 (by decide) (by decide)) (pk_rem (by omega) (by omega) (by omega)) ?_
  refine J_istore_n (pc := 4) (ls' := [some _, some _, some _]) dX7_beside_4 rfl (Nat.le_of_ble_eq_true rfl) rfl ?_
  refine J_iload_n (pc := 5) dX7_beside_5 rfl ?_
  by_cases c6_0 : nI s = nI 0
  ·
    refine J_tsIn (pc := 6) (tgt := 32) (off := 26) dX7_beside_6 (by rw [c6_0]; decide) (by rw [c6_0]; decide) (by rw [c6_0]; rfl) (by decide) ?_
    refine J_iload_n (pc := 32) dX7_beside_32 rfl ?_
    refine Jn_if_le (pc := 33) (tgt := 42) dX7_beside_33 (by decide) (by omega) (fun h33 => ?_) (fun h33 => ?_)
    · 
      refine J_ldc (pc := 42) dX7_beside_42 kc_X7_84 ?_
      refine K_iret (pc := 44) dX7_beside_44 rfl ⟨_, rfl, ?_⟩
      have hs0 : s = 0 := (nI_eq (by omega) (by decide)).mp c6_0
      subst hs0
      exact ⟨(if_pos h33).symm, rfl⟩
    · 
      refine J_iload_n (pc := 36) dX7_beside_36 rfl ?_
      refine J_iconst (pc := 37) dX7_beside_37 kni_1 ?_
      refine J_isubv (pc := 38) dX7_beside_38 (pk_sub (by omega)) ?_
      refine J_goto (pc := 39) (tgt := 44) dX7_beside_39 (by decide) ?_
      refine K_iret (pc := 44) dX7_beside_44 rfl ⟨_, rfl, ?_⟩
      have hs0 : s = 0 := (nI_eq (by omega) (by decide)).mp c6_0
      subst hs0
      exact ⟨(if_neg (by omega)).symm, rfl⟩
  by_cases c6_1 : nI s = nI 1
  ·
    refine J_tsIn (pc := 6) (tgt := 45) (off := 39) dX7_beside_6 (by rw [c6_1]; decide) (by rw [c6_1]; decide) (by rw [c6_1]; rfl) (by decide) ?_
    refine J_iload_n (pc := 45) dX7_beside_45 rfl ?_
    refine J_bipush (pc := 46) dX7_beside_46 knb_7 ?_
    refine Jn_ge (pc := 48) (tgt := 57) dX7_beside_48 (by decide) (by omega) (by omega) (fun h48 => ?_) (fun h48 => ?_)
    · 
      refine J_ldc (pc := 57) dX7_beside_57 kc_X7_84 ?_
      refine K_iret (pc := 59) dX7_beside_59 rfl ⟨_, rfl, ?_⟩
      have hs1 : s = 1 := (nI_eq (by omega) (by decide)).mp c6_1
      subst hs1
      exact ⟨(if_neg (by omega)).symm, rfl⟩
    · 
      refine J_iload_n (pc := 51) dX7_beside_51 rfl ?_
      refine J_iconst (pc := 52) dX7_beside_52 kni_1 ?_
      refine J_iaddv (pc := 53) dX7_beside_53 (nI_add _ _) ?_
      refine J_goto (pc := 54) (tgt := 59) dX7_beside_54 (by decide) ?_
      refine K_iret (pc := 59) dX7_beside_59 rfl ⟨_, rfl, ?_⟩
      have hs1 : s = 1 := (nI_eq (by omega) (by decide)).mp c6_1
      subst hs1
      exact ⟨(if_pos h48).symm, rfl⟩
  by_cases c6_2 : nI s = nI 2
  ·
    refine J_tsIn (pc := 6) (tgt := 60) (off := 54) dX7_beside_6 (by rw [c6_2]; decide) (by rw [c6_2]; decide) (by rw [c6_2]; rfl) (by decide) ?_
    refine J_iload_n (pc := 60) dX7_beside_60 rfl ?_
    refine J_bipush (pc := 61) dX7_beside_61 knb_8 ?_
    refine Jn_lt (pc := 63) (tgt := 73) dX7_beside_63 (by decide) (by omega) (by omega) (fun h63 => ?_) (fun h63 => ?_)
    · 
      refine J_ldc (pc := 73) dX7_beside_73 kc_X7_84 ?_
      refine K_iret (pc := 75) dX7_beside_75 rfl ⟨_, rfl, ?_⟩
      have hs2 : s = 2 := (nI_eq (by omega) (by decide)).mp c6_2
      subst hs2
      exact ⟨(if_pos h63).symm, rfl⟩
    · 
      refine J_iload_n (pc := 66) dX7_beside_66 rfl ?_
      refine J_bipush (pc := 67) dX7_beside_67 knb_8 ?_
      refine J_isubv (pc := 69) dX7_beside_69 (pk_sub (by omega)) ?_
      refine J_goto (pc := 70) (tgt := 75) dX7_beside_70 (by decide) ?_
      refine K_iret (pc := 75) dX7_beside_75 rfl ⟨_, rfl, ?_⟩
      have hs2 : s = 2 := (nI_eq (by omega) (by decide)).mp c6_2
      subst hs2
      exact ⟨(if_neg (by omega)).symm, rfl⟩
  refine J_tsOut (pc := 6) (tgt := 76) dX7_beside_6 (by have qc6_0 := jsw_ne c6_0 (by decide); have qc6_1 := jsw_ne c6_1 (by decide); have qc6_2 := jsw_ne c6_2 (by decide); omega) (by decide) ?_
  refine J_iload_n (pc := 76) dX7_beside_76 rfl ?_
  refine J_bipush (pc := 77) dX7_beside_77 knb_40 ?_
  refine Jn_ge (pc := 79) (tgt := 89) dX7_beside_79 (by decide) (by omega) (by omega) (fun h79 => ?_) (fun h79 => ?_)
  · 
    refine J_ldc (pc := 89) dX7_beside_89 kc_X7_84 ?_
    refine K_iret (pc := 91) dX7_beside_91 rfl ⟨_, rfl, ?_⟩
    have hs3 : s = 3 := by have q0 : ¬ s = 0 := fun q => c6_0 (by rw [q]); have q1 : ¬ s = 1 := fun q => c6_1 (by rw [q]); have q2 : ¬ s = 2 := fun q => c6_2 (by rw [q]); omega
    subst hs3
    exact ⟨(if_neg (by omega)).symm, rfl⟩
  · 
    refine J_iload_n (pc := 82) dX7_beside_82 rfl ?_
    refine J_bipush (pc := 83) dX7_beside_83 knb_8 ?_
    refine J_iaddv (pc := 85) dX7_beside_85 (nI_add _ _) ?_
    refine J_goto (pc := 86) (tgt := 91) dX7_beside_86 (by decide) ?_
    refine K_iret (pc := 91) dX7_beside_91 rfl ⟨_, rfl, ?_⟩
    have hs3 : s = 3 := by have q0 : ¬ s = 0 := fun q => c6_0 (by rw [q]); have q1 : ¬ s = 1 := fun q => c6_1 (by rw [q]); have q2 : ¬ s = 2 := fun q => c6_2 (by rw [q]); omega
    subst hs3
    exact ⟨(if_pos h79).symm, rfl⟩
set_option maxRecDepth 100000 in
set_option maxHeartbeats 400000 in
theorem c_isGround {x : jX} {m : jm} {d : Nat} (g : Int32) : Ct x (d + 1) eX7_isGround [.int g] m (jp (jb (nI 0 ≤ g ∧ g ≤ nI 3)) m) := by
  refine J_start (by decide +kernel) (Nat.le_of_ble_eq_true rfl) (ls := [some (.int g)]) rfl rfl ?_
  refine J_iload_n (pc := 0) dX7_isGround_0 rfl ?_
  refine J_iconst (pc := 1) dX7_isGround_1 kni_0 ?_
  refine J_iconst (pc := 2) dX7_isGround_2 kni_3 ?_
  refine K_callSp (pc := 3) (As := [_, _, _]) dX7_isGround_3 kl_X7_76 rfl rfl (Nat.le_of_ble_eq_true rfl) (c_within _ _ _) ?_
  refine K_zret (pc := 6) dX7_isGround_6 rfl (jb_nar _) ⟨_, rfl, ?_⟩
  exact ⟨rfl, rfl⟩
