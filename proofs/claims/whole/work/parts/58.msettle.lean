def wasR (m : jm) (P : Nat) : Nat → jm
  | 0 => litM m P
  | k + 1 => mup (wasR m P k) 141 (40 + k) (finR m P k)
theorem wasR_i {m : jm} {P i : Nat} (h : i ≠ 141) : ∀ k, wasR m P k i = litM m P i
  | 0 => rfl
  | k + 1 => (mup_i' h).trans (wasR_i h k)
def setR (m : jm) : Nat → jm
  | 0 => m
  | p + 1 => mup (setR m p) 141 (90 + 6 * p + 5) (aimR m 141 p)
theorem setR_i {m : jm} {i : Nat} (h : i ≠ 141) : ∀ p, setR m p i = m i
  | 0 => rfl
  | p + 1 => (mup_i' h).trans (setR_i h p)
theorem setR_j {m : jm} {j : Nat} : ∀ p, (∀ q, q < p → j ≠ 90 + 6 * q + 5) → setR m p 141 j = m 141 j
  | 0, _ => rfl
  | p + 1, h => (mup_j (h p (by omega))).trans (setR_j p (fun q hq => h q (by omega)))
theorem aimR_c {a b : jm} {p : Nat} (hw : wfR a 141) (hp : p < 48) (h : ∀ j, j < 90 ∨ (90 + 6 * p ≤ j ∧ j ≤ 90 + 6 * p + 5) → b 141 j = a 141 j) : aimR b 141 p = aimR a 141 p := by
  have h1 := nrv_10 hw hp
  have e1 : nrv b 141 p = nrv a 141 p := by unfold nrv; rw [h _ (by omega)]
  have h2 := grp_6 hw hp
  have e2 : grp b 141 p = grp a 141 p := by unfold grp; rw [e1, h _ (by omega)]
  unfold aimR drwR
  rw [e1, e2, h _ (by omega), h _ (by omega), h _ (by omega), h _ (by omega), h _ (by omega)]
theorem wfR_c {a b : jm} (hw : wfR a 141) (h : ∀ j, j < 90 ∨ (90 ≤ j ∧ j % 6 ≠ 5) → b 141 j = a 141 j) : wfR b 141 := ⟨fun p hp => by rw [h _ (by omega)]; exact hw.1 p hp, fun j hj => by rw [h _ (by omega)]; exact hw.2 j hj⟩
def chR (m : jm) : Nat → Bool := fun p => decide (¬ m 141 (90 + 6 * p + 5) = aimR m 141 p)
set_option maxRecDepth 100000 in
set_option maxHeartbeats 400000 in
theorem m_wasIsLight {x : jX} {m : jm} {d : Nat} {P : Nat} (hP : m 141 0 = nI P) (h48 : P ≤ 48) (hplc : ∀ p, p < P → vp_in (m 141 (90 + 6 * p + 1)) 48) : Ct x (d + 3) eX8_wasIsLight [.ref (jxb x + 140)] m (jv fun m' => m' = wasR m P 48) := by
  refine J_start (by decide +kernel) (Nat.le_of_ble_eq_true rfl) (ls := [some (.ref (jxb x + 140)), none]) rfl rfl ?_
  refine J_aload_n (pc := 0) dX8_wasIsLight_0 rfl ?_
  refine K_callVv (pc := 1) (id := 140) (As := []) dX8_wasIsLight_1 kl_X8_130 rfl job_140 rfl rfl (Nat.le_of_ble_eq_true rfl) (m_findLight (m := m) hP h48 hplc) (fun m1 h1 => ?_)
  subst h1
  refine J_iconst (pc := 4) dX8_wasIsLight_4 kni_0 ?_
  refine J_istore_n (pc := 5) (ls' := [some _, some _]) dX8_wasIsLight_5 rfl (Nat.le_of_ble_eq_true rfl) rfl ?_
  refine K_for' (pc := 6) 48 (fun k => [some (.ref (jxb x + 140)), some (.int (nI k))]) (fun k => (wasR m P k)) (by rfl) (by rfl) (fun k hk ih6 => ?_) ?_
  ·
    show K x _ _ 6 [some (.ref (jxb x + 140)), some (.int (nI k))] _ ((wasR m P k)) _
    refine J_iload_n (pc := 6) dX8_wasIsLight_6 rfl ?_
    refine J_bipush (pc := 7) dX8_wasIsLight_7 knb_48 ?_
    refine Jn_ge (pc := 9) (tgt := 33) dX8_wasIsLight_9 (by decide) (by omega) (by omega) (fun h9 => absurd h9 (by omega)) (fun h9 => ?_)
    refine J_aload_n (pc := 12) dX8_wasIsLight_12 rfl ?_
    refine K_getR (pc := 13) dX8_wasIsLight_13 kf_X8_7 job_140 jrf_140_0 ?_
    refine J_bipush (pc := 16) dX8_wasIsLight_16 knb_40 ?_
    refine J_iload_n (pc := 18) dX8_wasIsLight_18 rfl ?_
    refine J_iaddv (pc := 19) dX8_wasIsLight_19 (nI_add _ _) ?_
    refine J_aload_n (pc := 20) dX8_wasIsLight_20 rfl ?_
    refine K_getR (pc := 21) dX8_wasIsLight_21 kf_X8_28 job_140 jrf_140_7 ?_
    refine J_iload_n (pc := 24) dX8_wasIsLight_24 rfl ?_
    refine K_ialdn (pc := 25) (id := 147) dX8_wasIsLight_25 jar_147 (by omega) (by decide) ?_
    refine J_top (b := (finR m P k)) ((congrFun (wasR_i (by decide) k) k).trans (mfill_lt hk)) ?_
    refine K_iastn (pc := 26) (id := 141) dX8_wasIsLight_26 jar_141 (by omega) (by decide) ?_
    refine Jn_iinc (pc := 27) (ls' := [some _, some _]) dX8_wasIsLight_27 rfl knz_1 rfl rfl ?_
    refine J_goto (pc := 30) (tgt := 6) dX8_wasIsLight_30 (by decide) ?_
    exact ih6
  ·
    show K x _ _ 6 [some (.ref (jxb x + 140)), some (.int (nI 48))] _ ((wasR m P 48)) _
    refine J_iload_n (pc := 6) dX8_wasIsLight_6 rfl ?_
    refine J_bipush (pc := 7) dX8_wasIsLight_7 knb_48 ?_
    refine Jn_ge (pc := 9) (tgt := 33) dX8_wasIsLight_9 (by decide) (by omega) (by omega) (fun h9 => ?_) (fun h9 => absurd h9 (by omega))
    refine K_vret (pc := 33) dX8_wasIsLight_33 rfl ⟨rfl, rfl⟩
set_option maxRecDepth 100000 in
set_option maxHeartbeats 400000 in
theorem m_settle {x : jX} {m : jm} {d : Nat} {P : Nat} (hP : m 141 0 = nI P) (h48 : P ≤ 48) (hw : wfR m 141) : Ct x (d + 3) eX8_settle [.ref (jxb x + 140)] m (ji fun v m' => v = nI (cnt (chR m) P) ∧ m' = setR m P) := by
  refine J_start (by decide +kernel) (Nat.le_of_ble_eq_true rfl) (ls := [some (.ref (jxb x + 140)), none, none, none]) rfl rfl ?_
  refine J_iconst (pc := 0) dX8_settle_0 kni_0 ?_
  refine J_istore_n (pc := 1) (ls' := [some _, some _, none, none]) dX8_settle_1 rfl (Nat.le_of_ble_eq_true rfl) rfl ?_
  refine J_iconst (pc := 2) dX8_settle_2 kni_0 ?_
  refine J_istore_n (pc := 3) (ls' := [some _, some _, some _, none]) dX8_settle_3 rfl (Nat.le_of_ble_eq_true rfl) rfl ?_
  refine K_for' (pc := 4) P (fun p => [some (.ref (jxb x + 140)), some (.int (nI (cnt (chR m) p))), some (.int (nI p)), none]) (fun p => (setR m p)) (by rfl) (by rfl) (fun p hp ih4 => ?_) ?_
  ·
    show K x _ _ 4 [some (.ref (jxb x + 140)), some (.int (nI (cnt (chR m) p))), some (.int (nI p)), none] _ ((setR m p)) _
    have hc := cnt_le (chR m) p
    have hwp : wfR (setR m p) 141 := wfR_c hw (fun j hj => setR_j p (fun q hq => by omega))
    refine J_iload_n (pc := 4) dX8_settle_4 rfl ?_
    refine J_aload_n (pc := 5) dX8_settle_5 rfl ?_
    refine K_getR (pc := 6) dX8_settle_6 kf_X8_7 job_140 jrf_140_0 ?_
    refine J_iconst (pc := 9) dX8_settle_9 kni_0 ?_
    refine K_ialdn (pc := 10) (id := 141) dX8_settle_10 jar_141 (by decide) (by decide) ?_
    refine J_top (b := nI P) ((setR_j _ (fun q hq => by omega)).trans hP) ?_
    refine Jn_ge (pc := 11) (tgt := 63) dX8_settle_11 (by decide) (by omega) (by omega) (fun h11 => absurd h11 (by omega)) (fun h11 => ?_)
    refine J_aload_n (pc := 14) dX8_settle_14 rfl ?_
    refine J_iload_n (pc := 15) dX8_settle_15 rfl ?_
    refine K_callVp (pc := 16) (id := 140) (As := [_]) dX8_settle_16 kl_X8_107 rfl job_140 rfl rfl (Nat.le_of_ble_eq_true rfl) (m_aimOf (m := (setR m p)) (p := p) (by omega) hwp) ?_
    refine J_top (b := (aimR m 141 p)) (aimR_c hw (by omega) (fun j hj => setR_j p (fun q hq => by omega))) ?_
    refine J_istore_n (pc := 19) (ls' := [some _, some _, some _, some _]) dX8_settle_19 rfl (Nat.le_of_ble_eq_true rfl) rfl ?_
    refine J_iload_n (pc := 20) dX8_settle_20 rfl ?_
    refine J_aload_n (pc := 21) dX8_settle_21 rfl ?_
    refine K_getR (pc := 22) dX8_settle_22 kf_X8_7 job_140 jrf_140_0 ?_
    refine J_aload_n (pc := 25) dX8_settle_25 rfl ?_
    refine J_iload_n (pc := 26) dX8_settle_26 rfl ?_
    refine K_callVp (pc := 27) (id := 140) (As := [_]) dX8_settle_27 kl_X8_81 rfl job_140 rfl rfl (Nat.le_of_ble_eq_true rfl) (m_partAt (m := (setR m p))) ?_
    refine J_iconst (pc := 30) dX8_settle_30 kni_5 ?_
    refine J_iaddv (pc := 31) dX8_settle_31 (nI_add _ _) ?_
    refine K_ialdn (pc := 32) (id := 141) dX8_settle_32 jar_141 (by omega) (by decide) ?_
    refine J_top (b := (m 141 (90 + 6 * p + 5))) (setR_j p (fun q hq => by omega)) ?_
    refine J_iload_n (pc := 33) dX8_settle_33 rfl ?_
    refine J_icmp_ne (pc := 34) (tgt := 41) dX8_settle_34 (by decide) (fun h34 => ?_) (fun h34 => ?_)
    · 
      refine J_iconst (pc := 41) dX8_settle_41 kni_1 ?_
      refine J_iaddv (pc := 42) dX8_settle_42 (nI_add _ _) ?_
      refine J_istore_n (pc := 43) (ls' := [some _, some _, some _, some _]) dX8_settle_43 rfl (Nat.le_of_ble_eq_true rfl) rfl ?_
      refine J_aload_n (pc := 44) dX8_settle_44 rfl ?_
      refine K_getR (pc := 45) dX8_settle_45 kf_X8_7 job_140 jrf_140_0 ?_
      refine J_aload_n (pc := 48) dX8_settle_48 rfl ?_
      refine J_iload_n (pc := 49) dX8_settle_49 rfl ?_
      refine K_callVp (pc := 50) (id := 140) (As := [_]) dX8_settle_50 kl_X8_81 rfl job_140 rfl rfl (Nat.le_of_ble_eq_true rfl) (m_partAt (m := (setR m p))) ?_
      refine J_iconst (pc := 53) dX8_settle_53 kni_5 ?_
      refine J_iaddv (pc := 54) dX8_settle_54 (nI_add _ _) ?_
      refine J_iload_n (pc := 55) dX8_settle_55 rfl ?_
      refine K_iastn (pc := 56) (id := 141) dX8_settle_56 jar_141 (by omega) (by decide) ?_
      refine Jn_iinc (pc := 57) (ls' := [some _, some _, some _, some _]) dX8_settle_57 rfl knz_1 rfl rfl ?_
      refine J_goto (pc := 60) (tgt := 4) dX8_settle_60 (by decide) ?_
      have ec : cnt (chR m) (p + 1) = cnt (chR m) p + 1 := cnt_t (decide_eq_true h34)
      refine J_wk' (ls' := [some (.ref (jxb x + 140)), some (.int (nI (cnt (chR m) p + 1))), some (.int (nI (p + 1))), none]) ?_ rfl ?_
      · rw [← ec]
        exact ih4
      · rintro (_ | _ | _ | _ | _ | k) v hv <;> first | exact hv | cases hv
    · 
      refine J_iconst (pc := 37) dX8_settle_37 kni_0 ?_
      refine J_goto (pc := 38) (tgt := 42) dX8_settle_38 (by decide) ?_
      refine J_iaddv (pc := 42) dX8_settle_42 (nI_add _ _) ?_
      refine J_istore_n (pc := 43) (ls' := [some _, some _, some _, some _]) dX8_settle_43 rfl (Nat.le_of_ble_eq_true rfl) rfl ?_
      refine J_aload_n (pc := 44) dX8_settle_44 rfl ?_
      refine K_getR (pc := 45) dX8_settle_45 kf_X8_7 job_140 jrf_140_0 ?_
      refine J_aload_n (pc := 48) dX8_settle_48 rfl ?_
      refine J_iload_n (pc := 49) dX8_settle_49 rfl ?_
      refine K_callVp (pc := 50) (id := 140) (As := [_]) dX8_settle_50 kl_X8_81 rfl job_140 rfl rfl (Nat.le_of_ble_eq_true rfl) (m_partAt (m := (setR m p))) ?_
      refine J_iconst (pc := 53) dX8_settle_53 kni_5 ?_
      refine J_iaddv (pc := 54) dX8_settle_54 (nI_add _ _) ?_
      refine J_iload_n (pc := 55) dX8_settle_55 rfl ?_
      refine K_iastn (pc := 56) (id := 141) dX8_settle_56 jar_141 (by omega) (by decide) ?_
      refine Jn_iinc (pc := 57) (ls' := [some _, some _, some _, some _]) dX8_settle_57 rfl knz_1 rfl rfl ?_
      refine J_goto (pc := 60) (tgt := 4) dX8_settle_60 (by decide) ?_
      have ec : cnt (chR m) (p + 1) = cnt (chR m) p + 0 := cnt_f (fun z => of_decide_eq_true z h34)
      refine J_wk' (ls' := [some (.ref (jxb x + 140)), some (.int (nI (cnt (chR m) p + 0))), some (.int (nI (p + 1))), none]) ?_ rfl ?_
      · rw [← ec]
        exact ih4
      · rintro (_ | _ | _ | _ | _ | k) v hv <;> first | exact hv | cases hv
  ·
    show K x _ _ 4 [some (.ref (jxb x + 140)), some (.int (nI (cnt (chR m) P))), some (.int (nI P)), none] _ ((setR m P)) _
    have hc := cnt_le (chR m) P
    refine J_iload_n (pc := 4) dX8_settle_4 rfl ?_
    refine J_aload_n (pc := 5) dX8_settle_5 rfl ?_
    refine K_getR (pc := 6) dX8_settle_6 kf_X8_7 job_140 jrf_140_0 ?_
    refine J_iconst (pc := 9) dX8_settle_9 kni_0 ?_
    refine K_ialdn (pc := 10) (id := 141) dX8_settle_10 jar_141 (by decide) (by decide) ?_
    refine J_top (b := nI P) ((setR_j _ (fun q hq => by omega)).trans hP) ?_
    refine Jn_ge (pc := 11) (tgt := 63) dX8_settle_11 (by decide) (by omega) (by omega) (fun h11 => ?_) (fun h11 => absurd h11 (by omega))
    refine J_iload_n (pc := 63) dX8_settle_63 rfl ?_
    refine K_iret (pc := 64) dX8_settle_64 rfl ⟨_, rfl, ?_⟩
    exact ⟨rfl, rfl⟩
