/-- the light at a place hangs on kinds, a, sizes, which part is there, and rules alone -/
theorem lightS_c {m m' : jm} {o : Nat} (h : ∀ k, k = 1 ∨ k = 3 ∨ k = 6 ∨ k = 7 ∨ k = 12 → m' (o + k) = m (o + k)) (q : Nat) : lightS m' o q = lightS m o q := by
  unfold lightS gvnS hupS hgtS givenS
  rw [h 1 (by omega), h 3 (by omega), h 6 (by omega), h 7 (by omega), h 12 (by omega)]
theorem wfAt_c {m m' : jm} {o : Nat} (h : m' (o + 7) = m (o + 7)) (w : wfAt m o) : wfAt m' o := fun q hq => by rw [h]; exact w q hq
theorem wfPt_c {m m' : jm} {o : Nat} (h5 : m' (o + 5) = m (o + 5)) (h9 : m' (o + 9) = m (o + 9)) (w : wfPt m o) : wfPt m' o := by unfold wfPt; rw [h5, h9]; exact w
def markM (m : jm) (o : Nat) : jm := mfill m (o + 8) 48 (lightS m o)
set_option maxRecDepth 100000 in
set_option maxHeartbeats 400000 in
theorem c_markWas {x : jX} {m : jm} {d : Nat} {o : Nat} (ho : jSt o) (hat : wfAt m o) : Ct x (d + 3) eX4_markWas [.ref (jxb x + o)] m (jv fun m' => m' = markM m o) := by
  refine J_start (by decide +kernel) (Nat.le_of_ble_eq_true rfl) (ls := [some (.ref (jxb x + o)), none]) rfl rfl ?_
  refine J_iconst (pc := 0) dX4_markWas_0 kni_0 ?_
  refine J_istore_n (pc := 1) (ls' := [some _, some _]) dX4_markWas_1 rfl (Nat.le_of_ble_eq_true rfl) rfl ?_
  refine K_for' (pc := 2) 48 (fun i => [some (.ref (jxb x + o)), some (.int (nI i))]) (fun i => mfill m (o + 8) i (lightS m o)) (by rfl) (by exact (mfill_0 _ _ _).symm) (fun i hi ih2 => ?_) ?_
  ·
    show K x _ _ 2 [some (.ref (jxb x + o)), some (.int (nI i))] _ (mfill m (o + 8) i (lightS m o)) _
    refine J_iload_n (pc := 2) dX4_markWas_2 rfl ?_
    refine J_bipush (pc := 3) dX4_markWas_3 knb_48 ?_
    refine Jn_ge (pc := 5) (tgt := 25) dX4_markWas_5 (by decide) (by omega) (by omega) (fun h5 => absurd h5 (by omega)) (fun h5 => ?_)
    refine J_aload_n (pc := 8) dX4_markWas_8 rfl ?_
    refine K_getR (pc := 9) (t := o + 8) dX4_markWas_9 kf_X4_37 (jSt_obj ho) (jSt_ref ho 7 (by decide)) ?_
    refine J_iload_n (pc := 12) dX4_markWas_12 rfl ?_
    refine J_aload_n (pc := 13) dX4_markWas_13 rfl ?_
    refine J_iload_n (pc := 14) dX4_markWas_14 rfl ?_
    refine K_callVp (pc := 15) (id := o) (As := [_]) dX4_markWas_15 kl_X4_93 rfl (jSt_obj ho) rfl rfl (Nat.le_of_ble_eq_true rfl) (c_lightAt (m := mfill m (o + 8) i (lightS m o)) ho hi (wfAt_c (mfill_i' (by omega)) hat)) ?_
    refine K_iastn (pc := 18) (id := (o + 8)) dX4_markWas_18 (jSt_arr ho 7 (by decide)) (by omega) (by decide) ?_
    refine Jn_iinc (pc := 19) (ls' := [some _, some _]) dX4_markWas_19 rfl knz_1 rfl rfl ?_
    refine J_goto (pc := 22) (tgt := 2) dX4_markWas_22 (by decide) ?_
    exact (by rw [mfill_s _ _ _ _ (lightS_c (fun k hk => mfill_i' (by omega)) i)]; exact ih2)
  ·
    show K x _ _ 2 [some (.ref (jxb x + o)), some (.int (nI 48))] _ (mfill m (o + 8) 48 (lightS m o)) _
    refine J_iload_n (pc := 2) dX4_markWas_2 rfl ?_
    refine J_bipush (pc := 3) dX4_markWas_3 knb_48 ?_
    refine Jn_ge (pc := 5) (tgt := 25) dX4_markWas_5 (by decide) (by omega) (by omega) (fun h5_2 => ?_) (fun h5_2 => absurd h5_2 (by omega))
    exact K_vret (pc := 25) dX4_markWas_25 rfl ⟨rfl, rfl⟩

theorem aimS_c {m m' : jm} {o p : Nat} (h : ∀ k, k = 1 ∨ k = 4 ∨ k = 5 ∨ k = 9 ∨ k = 10 ∨ k = 11 → m' (o + k) = m (o + k)) (h6 : m' (o + 6) p = m (o + 6) p) : aimS m' o p = aimS m o p := by
  unfold aimS
  rw [h 1 (by omega), h 4 (by omega), h 5 (by omega), h 9 (by omega), h 10 (by omega), h 11 (by omega), h6]
theorem paceS_c {m m' : jm} {o p : Nat} (h1 : m' (o + 1) = m (o + 1)) (h3 : m' (o + 3) = m (o + 3)) : paceS m' o p = paceS m o p := by
  unfold paceS
  rw [h1, h3]
def stepV (pace way : Int32) : Int32 := maxV (-pace) (minV pace way)
def sizeS (m : jm) (o p : Nat) : Int32 := m (o + 6) p + stepV (paceS m o p) (aimS m o p - m (o + 6) p)
def goOnM (m : jm) (o P : Nat) : jm := mup (mfill (markM m o) (o + 6) P (sizeS (markM m o) o)) o 13 (m o 13 + nI 1)
theorem markM_i {m : jm} {o i : Nat} (h : i ≠ o + 8) : markM m o i = m i := mfill_i' h
set_option maxRecDepth 100000 in
set_option maxHeartbeats 400000 in
theorem c_goOn {x : jX} {m : jm} {d : Nat} {o P : Nat} (ho : jSt o) (hat : wfAt m o) (hw : wfPt m o) (hP : m o 0 = nI P) (h48 : P ≤ 48) : Ct x (d + 4) eX4_goOn [.ref (jxb x + o)] m (jv fun m' => m' = goOnM m o P) := by
  refine J_start (by decide +kernel) (Nat.le_of_ble_eq_true rfl) (ls := [some (.ref (jxb x + o)), none, none, none]) rfl rfl ?_
  refine J_aload_n (pc := 0) dX4_goOn_0 rfl ?_
  refine K_callVv (pc := 1) (id := o) (As := []) dX4_goOn_1 kl_X4_96 rfl (jSt_obj ho) rfl rfl (Nat.le_of_ble_eq_true rfl) (c_markWas ho hat) (fun m1 hm1 => ?_)
  subst hm1
  refine J_iconst (pc := 4) dX4_goOn_4 kni_0 ?_
  refine J_istore_n (pc := 5) (ls' := [some _, some _, none, none]) dX4_goOn_5 rfl (Nat.le_of_ble_eq_true rfl) rfl ?_
  refine K_for' (pc := 6) P (fun i => [some (.ref (jxb x + o)), some (.int (nI i)), none, none]) (fun i => mfill (markM m o) (o + 6) i (sizeS (markM m o) o)) (by rfl) (by exact (mfill_0 _ _ _).symm) (fun i hi ih6 => ?_) ?_
  ·
    show K x _ _ 6 [some (.ref (jxb x + o)), some (.int (nI i)), none, none] _ (mfill (markM m o) (o + 6) i (sizeS (markM m o) o)) _
    have hi48 : i < 48 := by omega
    refine J_iload_n (pc := 6) dX4_goOn_6 rfl ?_
    refine J_aload_n (pc := 7) dX4_goOn_7 rfl ?_
    refine K_getI (pc := 8) dX4_goOn_8 kf_X4_9 (jSt_obj ho) (jSt_int ho 0 (by decide)) ?_
    refine J_top (b := nI P) (by rw [mfill_i (by omega), markM_i (by omega)]; exact hP) ?_
    refine Jn_ge (pc := 11) (tgt := 58) dX4_goOn_11 (by decide) (by omega) (by omega) (fun h11 => absurd h11 (by omega)) (fun h11 => ?_)
    refine J_aload_n (pc := 14) dX4_goOn_14 rfl ?_
    refine J_iload_n (pc := 15) dX4_goOn_15 rfl ?_
    refine K_callVp (pc := 16) (id := o) (As := [_]) dX4_goOn_16 kl_X4_99 rfl (jSt_obj ho) rfl rfl (Nat.le_of_ble_eq_true rfl) (c_paceOf (m := mfill (markM m o) (o + 6) i (sizeS (markM m o) o)) ho hi48) ?_
    refine J_istore_n (pc := 19) (ls' := [some _, some _, some _, none]) dX4_goOn_19 rfl (Nat.le_of_ble_eq_true rfl) rfl ?_
    refine J_aload_n (pc := 20) dX4_goOn_20 rfl ?_
    refine J_iload_n (pc := 21) dX4_goOn_21 rfl ?_
    refine K_callVp (pc := 22) (id := o) (As := [_]) dX4_goOn_22 kl_X4_102 rfl (jSt_obj ho) rfl rfl (Nat.le_of_ble_eq_true rfl) (c_aimOf (m := mfill (markM m o) (o + 6) i (sizeS (markM m o) o)) ho hi48 ((wfPt_c (mfill_i' (by omega)) (mfill_i' (by omega)) (wfPt_c (markM_i (by omega)) (markM_i (by omega)) hw)).1 _ hi48) ((wfPt_c (mfill_i' (by omega)) (mfill_i' (by omega)) (wfPt_c (markM_i (by omega)) (markM_i (by omega)) hw)).g hi48)) ?_
    refine J_aload_n (pc := 25) dX4_goOn_25 rfl ?_
    refine K_getR (pc := 26) (t := o + 6) dX4_goOn_26 kf_X4_31 (jSt_obj ho) (jSt_ref ho 5 (by decide)) ?_
    refine J_iload_n (pc := 29) dX4_goOn_29 rfl ?_
    refine K_ialdn (pc := 30) (id := (o + 6)) dX4_goOn_30 (jSt_arr ho 5 (by decide)) (by omega) (by decide) ?_
    refine J_isub (pc := 31) dX4_goOn_31 ?_
    refine J_istore_n (pc := 32) (ls' := [some _, some _, some _, some _]) dX4_goOn_32 rfl (Nat.le_of_ble_eq_true rfl) rfl ?_
    refine J_aload_n (pc := 33) dX4_goOn_33 rfl ?_
    refine K_getR (pc := 34) (t := o + 6) dX4_goOn_34 kf_X4_31 (jSt_obj ho) (jSt_ref ho 5 (by decide)) ?_
    refine J_iload_n (pc := 37) dX4_goOn_37 rfl ?_
    refine J_dup2 (pc := 38) dX4_goOn_38 rfl rfl ?_
    refine K_ialdn (pc := 39) (id := (o + 6)) dX4_goOn_39 (jSt_arr ho 5 (by decide)) (by omega) (by decide) ?_
    refine J_iload_n (pc := 40) dX4_goOn_40 rfl ?_
    refine J_ineg (pc := 41) dX4_goOn_41 ?_
    refine J_iload_n (pc := 42) dX4_goOn_42 rfl ?_
    refine J_iload_n (pc := 43) dX4_goOn_43 rfl ?_
    refine K_minV (pc := 44) dX4_goOn_44 kx_X4_77 (Nat.le_of_ble_eq_true rfl) ?_
    refine K_maxV (pc := 47) dX4_goOn_47 kx_X4_105 (Nat.le_of_ble_eq_true rfl) ?_
    refine J_iadd (pc := 50) dX4_goOn_50 ?_
    refine K_iastn (pc := 51) (id := (o + 6)) dX4_goOn_51 (jSt_arr ho 5 (by decide)) (by omega) (by decide) ?_
    refine Jn_iinc (pc := 52) (ls' := [some _, some _, some _, some _]) dX4_goOn_52 rfl knz_1 rfl rfl ?_
    refine J_goto (pc := 55) (tgt := 6) dX4_goOn_55 (by decide) ?_
    have ev : ((((mfill (markM m o) (o + 6) i (sizeS (markM m o) o) (o + 6) i)) + ((maxV (((-((paceS (mfill (markM m o) (o + 6) i (sizeS (markM m o) o)) o i))))) (((minV (((paceS (mfill (markM m o) (o + 6) i (sizeS (markM m o) o)) o i))) (((((aimS (mfill (markM m o) (o + 6) i (sizeS (markM m o) o)) o i)) - ((mfill (markM m o) (o + 6) i (sizeS (markM m o) o) (o + 6) i)))))))))))) = sizeS (markM m o) o i := by
      rw [mfill_ge (Nat.le_refl _), paceS_c (m := markM m o) (mfill_i' (by omega)) (mfill_i' (by omega)), aimS_c (m := markM m o) (fun k hk => mfill_i' (by omega)) (mfill_ge (Nat.le_refl _))]
      rfl
    rw [mfill_s _ _ _ _ ev]
    refine J_wk' ih6 rfl ?_
    rintro (_ | _ | _ | _ | _ | _ | _ | _ | _ | _ | k) v hv <;> first | exact hv | cases hv
  ·
    show K x _ _ 6 [some (.ref (jxb x + o)), some (.int (nI P)), none, none] _ (mfill (markM m o) (o + 6) P (sizeS (markM m o) o)) _
    refine J_iload_n (pc := 6) dX4_goOn_6 rfl ?_
    refine J_aload_n (pc := 7) dX4_goOn_7 rfl ?_
    refine K_getI (pc := 8) dX4_goOn_8 kf_X4_9 (jSt_obj ho) (jSt_int ho 0 (by decide)) ?_
    refine J_top (b := nI P) (by rw [mfill_i (by omega), markM_i (by omega)]; exact hP) ?_
    refine Jn_ge (pc := 11) (tgt := 58) dX4_goOn_11 (by decide) (by omega) (by omega) (fun h11_2 => ?_) (fun h11_2 => absurd h11_2 (by omega))
    refine J_aload_n (pc := 58) dX4_goOn_58 rfl ?_
    refine J_dup (pc := 59) dX4_goOn_59 rfl ?_
    refine K_getI (pc := 60) dX4_goOn_60 kf_X4_52 (jSt_obj ho) (jSt_int ho 13 (by decide)) ?_
    refine J_iconst (pc := 63) dX4_goOn_63 kni_1 ?_
    refine J_iadd (pc := 64) dX4_goOn_64 ?_
    refine K_put (pc := 65) dX4_goOn_65 kp_X4_52 (jSt_obj ho) (jSt_int ho 13 (by decide)) rfl rfl ?_
    refine K_vret (pc := 68) dX4_goOn_68 rfl ⟨rfl, ?_⟩
    rw [mfill_i (by omega), markM_i (by omega)]
    rfl
