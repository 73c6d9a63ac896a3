theorem TS_code {O C : List Int32} {mm : jm} (h : TS O C mm) (w : Int32) : TS O (w :: C) (mup (mup mm 70 7 (nI (C.length + 1))) 72 C.length w) := by
  obtain ⟨a1, a2, a3, a4, a5, a6⟩ := h
  refine ⟨?_, ?_, ?_, ?_, ?_, ?_⟩
  · rw [mup_i (by decide), mup_j (by decide), a1]
  · exact stk_f a2 (fun j _ => by rw [mup_i (by decide), mup_i (by decide)])
  · rw [mup_i (by decide), mup_s, List.length_cons]
  · exact stk_push (c := 72) (stk_f a4 (fun j _ => by rw [mup_i (by decide)])) w
  · rw [mup_i (by decide), mup_j (by decide), a5]
  · rw [mup_i (by decide), mup_j (by decide), a6]
theorem TS_70 {O C : List Int32} {mm : jm} (h : TS O C mm) {k : Nat} {v : Int32} (hk : k < 7 ∨ k = 8 ∨ k = 9 ∨ 13 ≤ k) : TS O C (mup mm 70 k v) := TS_c h (fun j hj => mup_j (by omega)) (mup_i' (by decide)) (mup_i' (by decide))
set_option maxRecDepth 100000 in
set_option maxHeartbeats 400000 in
theorem c_endPiece {x : jX} {m : jm} {d : Nat} {O C : List Int32} (hT0 : TS O C m) (hlc0 : C.length + O.length ≤ 96) : Ct x (d + 1) eX5_endPiece [.ref (jxb x + 70)] m (jv fun m' => TS (enp O C).1 (enp O C).2 m' ∧ tFr m m' ∧ m' 70 8 = m 70 8 ∧ m' 70 13 = nI 0) := by
  refine J_start (by decide +kernel) (Nat.le_of_ble_eq_true rfl) (ls := [some (.ref (jxb x + 70))]) rfl rfl ?_
  refine J_aload_n (pc := 0) dX5_endPiece_0 rfl ?_
  refine J_iconst (pc := 1) dX5_endPiece_1 kni_0 ?_
  refine K_put (pc := 2) dX5_endPiece_2 kp_X5_56 job_70 jrf_70_13 rfl rfl ?_
  refine K_inv (pc := 5) O.length (fun i lsq mq => ∃ (O1 C1 : List Int32), lsq = [some (.ref (jxb x + 70))] ∧ (TS O1 C1 mq) ∧ (tFr m mq) ∧ (mq 70 8 = m 70 8 ∧ mq 70 13 = nI 0) ∧ (enp O1 C1 = enp O C) ∧ (O1.length + i = O.length) ∧ (C1.length + O1.length ≤ 96)) (fun i hi lsq mm hI5 ih5 => ?_) (fun lsq mm hI5 => ?_) 0 (Nat.zero_le _) _ _ (⟨O, C, rfl, TS_70 hT0 (by decide), tFr_70 (tFr_rf m) (by decide), ⟨mup_j (by decide), mup_s⟩, rfl, by omega, hlc0⟩)
  ·
    obtain ⟨O1, C1, rfl, hT, hF, h8, hcl, hlen, hlc⟩ := hI5
    obtain ⟨v, t, hO⟩ : ∃ v t, O1 = v :: t := by
      cases O1 with
      | nil => exact absurd hlen (by simp; omega)
      | cons v t => exact ⟨v, t, rfl⟩
    obtain ⟨b1, b2, b3, b4⟩ := stk_top' hO hT.2.1
    refine J_aload_n (pc := 5) dX5_endPiece_5 rfl ?_
    refine K_getI (pc := 6) dX5_endPiece_6 kf_X5_47 job_70 jrf_70_10 ?_
    refine J_top (b := nI O1.length) (hT.1) ?_
    refine Jn_if_le (pc := 9) (tgt := 57) dX5_endPiece_9 (by decide) (by omega) (fun h9 => absurd h9 (by omega)) (fun h9 => ?_)
    refine J_aload_n (pc := 12) dX5_endPiece_12 rfl ?_
    refine K_getR (pc := 13) dX5_endPiece_13 kf_X5_44 job_70 jrf_70_9 ?_
    refine J_aload_n (pc := 16) dX5_endPiece_16 rfl ?_
    refine K_getI (pc := 17) dX5_endPiece_17 kf_X5_47 job_70 jrf_70_10 ?_
    refine J_top (b := nI O1.length) (hT.1) ?_
    refine J_iconst (pc := 20) dX5_endPiece_20 kni_1 ?_
    refine J_isubv (pc := 21) dX5_endPiece_21 (pk_sub (by omega)) ?_
    refine K_ialdn (pc := 22) (id := 73) dX5_endPiece_22 jar_73 (by omega) (by decide) ?_
    refine J_top (b := v) (b2) ?_
    refine J_bipush (pc := 23) dX5_endPiece_23 knb_33 ?_
    refine J_icmp_ne (pc := 25) (tgt := 57) dX5_endPiece_25 (by decide) (fun h25 => ?_) (fun h25 => ?_)
    · 
      refine K_vret (pc := 57) dX5_endPiece_57 rfl ⟨rfl, ?_⟩
      have e : enp O C = (O1, C1) := by rw [← hcl, hO]; exact if_neg h25
      exact ⟨by rw [e]; exact hT, hF, h8.1, h8.2⟩
    · 
      have hc1 : 1 ≤ O1.count (nI 33) := by rw [hO, h25, List.count_cons_self]; omega
      refine J_aload_n (pc := 28) dX5_endPiece_28 rfl ?_
      refine J_dup (pc := 29) dX5_endPiece_29 rfl ?_
      refine K_getI (pc := 30) dX5_endPiece_30 kf_X5_47 job_70 jrf_70_10 ?_
      refine J_top (b := nI O1.length) (hT.1) ?_
      refine J_iconst (pc := 33) dX5_endPiece_33 kni_1 ?_
      refine J_isubv (pc := 34) dX5_endPiece_34 (pk_sub (by omega)) ?_
      refine K_put (pc := 35) dX5_endPiece_35 kp_X5_47 job_70 jrf_70_10 rfl rfl ?_
      refine J_aload_n (pc := 38) dX5_endPiece_38 rfl ?_
      refine J_dup (pc := 39) dX5_endPiece_39 rfl ?_
      refine K_getI (pc := 40) dX5_endPiece_40 kf_X5_53 job_70 jrf_70_12 ?_
      refine J_top (b := nI (O1.count (nI 33))) (by rw [mup_j (by decide)]; exact hT.2.2.2.2.1) ?_
      refine J_iconst (pc := 43) dX5_endPiece_43 kni_1 ?_
      refine J_isubv (pc := 44) dX5_endPiece_44 (pk_sub (by omega)) ?_
      refine K_put (pc := 45) dX5_endPiece_45 kp_X5_53 job_70 jrf_70_12 rfl rfl ?_
      refine J_aload_n (pc := 48) dX5_endPiece_48 rfl ?_
      refine J_bipush (pc := 49) dX5_endPiece_49 knb_m33 ?_
      refine K_callVv (pc := 51) (id := 70) (As := [_]) dX5_endPiece_51 kl_X5_130 rfl job_70 rfl rfl (Nat.le_of_ble_eq_true rfl) (c_putDown (n := C1.length) (w := -33) (by rw [mup_j (by decide), mup_j (by decide)]; exact hT.2.2.1) (by omega)) (fun m51 h51 => ?_)
      subst h51
      refine J_goto (pc := 54) (tgt := 5) dX5_endPiece_54 (by decide) ?_
      refine ih5 _ _ ⟨t, -33 :: C1, rfl, TS_not hT hO h25, tFr_72 (tFr_70 (tFr_70 (tFr_70 hF (by decide)) (by decide)) (by decide)), ⟨by rw [mup_i (by decide), mup_j (by decide), mup_j (by decide), mup_j (by decide)]; exact h8.1, by rw [mup_i (by decide), mup_j (by decide), mup_j (by decide), mup_j (by decide)]; exact h8.2⟩, ?_, by omega, by rw [List.length_cons]; omega⟩
      rw [← hcl, hO]
      exact (if_pos h25).symm
  ·
    obtain ⟨O1, C1, rfl, hT, hF, h8, hcl, hlen, hlc⟩ := hI5
    have hO : O1 = [] := List.eq_nil_of_length_eq_zero (by omega)
    refine J_aload_n (pc := 5) dX5_endPiece_5 rfl ?_
    refine K_getI (pc := 6) dX5_endPiece_6 kf_X5_47 job_70 jrf_70_10 ?_
    refine J_top (b := nI O1.length) (hT.1) ?_
    refine Jn_if_le (pc := 9) (tgt := 57) dX5_endPiece_9 (by decide) (by omega) (fun h9 => ?_) (fun h9 => absurd h9 (by omega))
    refine K_vret (pc := 57) dX5_endPiece_57 rfl ⟨rfl, ?_⟩
    have e : enp O C = (O1, C1) := by rw [← hcl, hO]; exact rfl
    exact ⟨by rw [e]; exact hT, hF, h8.1, h8.2⟩
set_option maxRecDepth 100000 in
set_option maxHeartbeats 400000 in
theorem c_putOperand {x : jX} {m : jm} {d : Nat} {k : Nat} {w : Int32} {O C : List Int32} (hT0 : TS O C m) (hlc0 : C.length + O.length < 96) (hk : m 70 8 = nI k) : Ct x (d + 2) eX5_putOperand [.ref (jxb x + 70), .int w] m (ji fun v m' => v = nI 1 ∧ TS (enp O (w :: C)).1 (enp O (w :: C)).2 m' ∧ tFr m m' ∧ m' 70 8 = nI (k + 1) ∧ m' 70 13 = nI 0) := by
  refine J_start (by decide +kernel) (Nat.le_of_ble_eq_true rfl) (ls := [some (.ref (jxb x + 70)), some (.int w)]) rfl rfl ?_
  refine J_aload_n (pc := 0) dX5_putOperand_0 rfl ?_
  refine J_iload_n (pc := 1) dX5_putOperand_1 rfl ?_
  refine K_callVv (pc := 2) (id := 70) (As := [_]) dX5_putOperand_2 kl_X5_130 rfl job_70 rfl rfl (Nat.le_of_ble_eq_true rfl) (c_putDown (n := C.length) (w := w) hT0.2.2.1 (by omega)) (fun m2 h2 => ?_)
  subst h2
  refine J_aload_n (pc := 5) dX5_putOperand_5 rfl ?_
  refine J_dup (pc := 6) dX5_putOperand_6 rfl ?_
  refine K_getI (pc := 7) dX5_putOperand_7 kf_X5_41 job_70 jrf_70_8 ?_
  refine J_top (b := nI k) (by rw [mup_i (by decide), mup_j (by decide)]; exact hk) ?_
  refine J_iconst (pc := 10) dX5_putOperand_10 kni_1 ?_
  refine J_iaddv (pc := 11) dX5_putOperand_11 (nI_add _ _) ?_
  refine K_put (pc := 12) dX5_putOperand_12 kp_X5_41 job_70 jrf_70_8 rfl rfl ?_
  refine J_aload_n (pc := 15) dX5_putOperand_15 rfl ?_
  refine K_callVv (pc := 16) (id := 70) (As := []) dX5_putOperand_16 kl_X5_133 rfl job_70 rfl rfl (Nat.le_of_ble_eq_true rfl) (c_endPiece (m := (mup (mup (mup m 70 7 (nI (C.length + 1))) 72 C.length w) 70 8 (nI (k + 1)))) (TS_70 (TS_code hT0 w) (by decide)) (by rw [List.length_cons]; omega)) (fun m16 h16 => ?_)
  obtain ⟨q1, q2, q3, q4⟩ := h16
  refine J_iconst (pc := 19) dX5_putOperand_19 kni_1 ?_
  refine K_zret (pc := 20) dX5_putOperand_20 rfl rfl ⟨_, rfl, ?_⟩
  exact ⟨rfl, q1, tFr_tr (tFr_70 (tFr_72 (tFr_70 (tFr_rf m) (by decide))) (by decide)) q2, by rw [q3, mup_s], q4⟩
