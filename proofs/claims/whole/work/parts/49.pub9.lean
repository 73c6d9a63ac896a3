theorem rest_ge (m : jm) (o : Nat) : ∀ p, 0 ≤ restS m o p
  | 0 => by show 0 ≤ nI 0; decide
  | p + 1 => by
    have h := rest_ge m o p
    unfold restS
    split
    · exact h
    · unfold maxV
      split
      · next q => exact Int32.le_trans h (Int32.le_of_lt q)
      · exact h
theorem rest_n (m : jm) (o p : Nat) : ∃ k, k < 2 ^ 31 ∧ restS m o p = nI k := by
  have h := rest_ge m o p
  have h2 := (restS m o p).toInt_lt
  rw [Int32.le_iff_toInt_le, show (0 : Int32).toInt = 0 from rfl] at h
  refine ⟨(restS m o p).toInt.toNat, by omega, Int32.toInt_inj.mp ?_⟩
  rw [nI_toInt (by omega)]
  omega
def mxV (f : Nat → Int32) (a : Int32) : Nat → Int32
  | 0 => a
  | p + 1 => maxV (mxV f a p) (f p)
/-- the most that light changes in a tick, from a state on -/
def chgV (t : jm) (P : Nat) : Nat → Int32
  | 0 => nI 0
  | i + 1 => mxV (fun p => absV (lightS (goN t 27 P (i + 1)) 27 p - goN t 27 P (i + 1) 35 p)) (chgV t P i) 48
set_option maxRecDepth 100000 in
set_option maxHeartbeats 400000 in
theorem p_change {x : jX} {m : jm} {d : Nat} {P : Nat} (hP : m 1 0 = nI P) (h48 : P ≤ 48) (hat : wfAt m 1) (hw : wfPt m 1) : Ct x (d + 6) eX7_change [.ref (jxb x + 0)] m (ji fun rv m' => rv = chgV (becM m 27 1) P (tN (restS (becM m 27 1) 27 P)) ∧ ∀ i, i < 27 ∨ 39 < i → m' i = m i) := by
  refine J_start (by decide +kernel) (Nat.le_of_ble_eq_true rfl) (ls := [some (.ref (jxb x + 0)), none, none, none, none]) rfl rfl ?_
  refine J_aload_n (pc := 0) dX7_change_0 rfl ?_
  refine K_getR (pc := 1) dX7_change_1 kf_X7_19 job_0 jrf_0_2 ?_
  refine J_aload_n (pc := 4) dX7_change_4 rfl ?_
  refine K_getR (pc := 5) dX7_change_5 kf_X7_10 job_0 jrf_0_0 ?_
  refine K_callVv (pc := 8) (id := 27) (As := [_]) dX7_change_8 kl_X7_174 rfl job_27 rfl rfl (Nat.le_of_ble_eq_true rfl) (c_becomes (o := 27) (o2 := 1) (Or.inr (Or.inr (Or.inl rfl))) (Or.inl rfl)) (fun m8 h8 => ?_)
  subst h8
  have ha : apart 27 1 := Or.inr (by decide)
  have hat0 : wfAt (becM m 27 1) 27 := fun q hq => by rw [show (becM m 27 1) (27 + 7) q = m 8 q from bec_7 ha hq]; exact hat q hq
  have hw0 : wfPt (becM m 27 1) 27 := wfPt_x (o := 27) (o2 := 1) (fun j hj => bec_5 ha hj) (fun j hj => bec_9 ha hj) hw
  have hP0 : (becM m 27 1) 27 0 = nI P := (bec_f0 ha).trans hP
  obtain ⟨k, hk, hke⟩ := rest_n (becM m 27 1) 27 P
  have htk : tN (restS (becM m 27 1) 27 P) = k := by rw [hke]; exact tN_n hk
  refine J_aload_n (pc := 11) dX7_change_11 rfl ?_
  refine K_getR (pc := 12) dX7_change_12 kf_X7_19 job_0 jrf_0_2 ?_
  refine K_callVp (pc := 15) (id := 27) (As := []) dX7_change_15 kl_X7_171 rfl job_27 rfl rfl (Nat.le_of_ble_eq_true rfl) (c_ticksToRest (m := (becM m 27 1)) (o := 27) (P := P) (Or.inr (Or.inr (Or.inl rfl))) hw0 hP0 h48) ?_
  refine J_top (b := nI k) (hke) ?_
  refine J_istore_n (pc := 18) (ls' := [some _, some _, none, none, none]) dX7_change_18 rfl (Nat.le_of_ble_eq_true rfl) rfl ?_
  refine J_iconst (pc := 19) dX7_change_19 kni_0 ?_
  refine J_istore_n (pc := 20) (ls' := [some _, some _, some _, none, none]) dX7_change_20 rfl (Nat.le_of_ble_eq_true rfl) rfl ?_
  refine J_iconst (pc := 21) dX7_change_21 kni_0 ?_
  refine J_istore_n (pc := 22) (ls' := [some _, some _, some _, some _, none]) dX7_change_22 rfl (Nat.le_of_ble_eq_true rfl) rfl ?_
  refine K_for' (pc := 23) k (fun i => [some (.ref (jxb x + 0)), some (.int (nI k)), some (.int ((chgV (becM m 27 1) P i))), some (.int (nI i)), none]) (fun i => (goN (becM m 27 1) 27 P i)) (by rfl) (by rfl) (fun i hi ih23 => ?_) ?_
  ·
    show K x _ _ 23 [some (.ref (jxb x + 0)), some (.int (nI k)), some (.int ((chgV (becM m 27 1) P i))), some (.int (nI i)), none] _ ((goN (becM m 27 1) 27 P i)) _
    refine J_iload_n (pc := 23) dX7_change_23 rfl ?_
    refine J_iload_n (pc := 24) dX7_change_24 rfl ?_
    refine Jn_ge (pc := 25) (tgt := 85) dX7_change_25 (by decide) (by omega) (by omega) (fun h25 => absurd h25 (by omega)) (fun h25 => ?_)
    refine J_aload_n (pc := 28) dX7_change_28 rfl ?_
    refine K_getR (pc := 29) dX7_change_29 kf_X7_19 job_0 jrf_0_2 ?_
    refine K_callVv (pc := 32) (id := 27) (As := []) dX7_change_32 kl_X7_161 rfl job_27 rfl rfl (Nat.le_of_ble_eq_true rfl) (c_goOn (m := goN (becM m 27 1) 27 P i) (o := 27) (P := P) (Or.inr (Or.inr (Or.inl rfl))) (goN_at hat0 i) (goN_pt hw0 i) ((goN_0 i).trans hP0) h48) (fun m32 h32 => ?_)
    subst h32
    refine J_iconst (pc := 35) dX7_change_35 kni_0 ?_
    refine J_istore (pc := 36) (ls' := [some _, some _, some _, some _, some _]) dX7_change_36 rfl (Nat.le_of_ble_eq_true rfl) rfl ?_
    refine K_for' (pc := 38) 48 (fun p => [some (.ref (jxb x + 0)), some (.int (nI k)), some (.int ((mxV (fun p => absV (lightS (goN (becM m 27 1) 27 P (i + 1)) 27 p - goN (becM m 27 1) 27 P (i + 1) 35 p)) (chgV (becM m 27 1) P i) p))), some (.int (nI i)), some (.int (nI p))]) (fun p => (goN (becM m 27 1) 27 P (i + 1))) (by rfl) (by rfl) (fun p hp ih38 => ?_) ?_
    ·
      show K x _ _ 38 [some (.ref (jxb x + 0)), some (.int (nI k)), some (.int ((mxV (fun p => absV (lightS (goN (becM m 27 1) 27 P (i + 1)) 27 p - goN (becM m 27 1) 27 P (i + 1) 35 p)) (chgV (becM m 27 1) P i) p))), some (.int (nI i)), some (.int (nI p))] _ ((goN (becM m 27 1) 27 P (i + 1))) _
      refine J_iload (pc := 38) dX7_change_38 rfl ?_
      refine J_bipush (pc := 40) dX7_change_40 knb_48 ?_
      refine Jn_ge (pc := 42) (tgt := 79) dX7_change_42 (by decide) (by omega) (by omega) (fun h42 => absurd h42 (by omega)) (fun h42 => ?_)
      refine J_iload_n (pc := 45) dX7_change_45 rfl ?_
      refine J_aload_n (pc := 46) dX7_change_46 rfl ?_
      refine K_getR (pc := 47) dX7_change_47 kf_X7_19 job_0 jrf_0_2 ?_
      refine J_iload (pc := 50) dX7_change_50 rfl ?_
      refine K_callVp (pc := 52) (id := 27) (As := [_]) dX7_change_52 kl_X7_149 rfl job_27 rfl rfl (Nat.le_of_ble_eq_true rfl) (c_lightAt (m := (goN (becM m 27 1) 27 P (i + 1))) (o := 27) (q := p) (Or.inr (Or.inr (Or.inl rfl))) (by omega) (goN_at hat0 (i + 1))) ?_
      refine J_aload_n (pc := 55) dX7_change_55 rfl ?_
      refine K_getR (pc := 56) dX7_change_56 kf_X7_19 job_0 jrf_0_2 ?_
      refine K_getR (pc := 59) dX7_change_59 kf_X7_152 job_27 jrf_27_8 ?_
      refine J_iload (pc := 62) dX7_change_62 rfl ?_
      refine K_ialdn (pc := 64) (id := 35) dX7_change_64 jar_35 (by omega) (by decide) ?_
      refine J_isub (pc := 65) dX7_change_65 ?_
      refine K_absV (pc := 66) dX7_change_66 kx_X7_178 (Nat.le_of_ble_eq_true rfl) ?_
      refine K_maxV (pc := 69) dX7_change_69 kx_X7_183 (Nat.le_of_ble_eq_true rfl) ?_
      refine J_istore_n (pc := 72) (ls' := [some _, some _, some _, some _, some _]) dX7_change_72 rfl (Nat.le_of_ble_eq_true rfl) rfl ?_
      refine Jn_iinc (pc := 73) (ls' := [some _, some _, some _, some _, some _]) dX7_change_73 rfl knz_1 rfl rfl ?_
      refine J_goto (pc := 76) (tgt := 38) dX7_change_76 (by decide) ?_
      exact ih38
    ·
      show K x _ _ 38 [some (.ref (jxb x + 0)), some (.int (nI k)), some (.int ((mxV (fun p => absV (lightS (goN (becM m 27 1) 27 P (i + 1)) 27 p - goN (becM m 27 1) 27 P (i + 1) 35 p)) (chgV (becM m 27 1) P i) 48))), some (.int (nI i)), some (.int (nI 48))] _ ((goN (becM m 27 1) 27 P (i + 1))) _
      refine J_iload (pc := 38) dX7_change_38 rfl ?_
      refine J_bipush (pc := 40) dX7_change_40 knb_48 ?_
      refine Jn_ge (pc := 42) (tgt := 79) dX7_change_42 (by decide) (by omega) (by omega) (fun h42 => ?_) (fun h42 => absurd h42 (by omega))
      refine Jn_iinc (pc := 79) (ls' := [some _, some _, some _, some _, some _]) dX7_change_79 rfl knz_1 rfl rfl ?_
      refine J_goto (pc := 82) (tgt := 23) dX7_change_82 (by decide) ?_
      refine J_wk' ih23 rfl ?_
      rintro (_ | _ | _ | _ | _ | _ | _ | _ | _ | _ | k) v hv <;> first | exact hv | cases hv
  ·
    show K x _ _ 23 [some (.ref (jxb x + 0)), some (.int (nI k)), some (.int ((chgV (becM m 27 1) P k))), some (.int (nI k)), none] _ ((goN (becM m 27 1) 27 P k)) _
    refine J_iload_n (pc := 23) dX7_change_23 rfl ?_
    refine J_iload_n (pc := 24) dX7_change_24 rfl ?_
    refine Jn_ge (pc := 25) (tgt := 85) dX7_change_25 (by decide) (by omega) (by omega) (fun h25 => ?_) (fun h25 => absurd h25 (by omega))
    refine J_iload_n (pc := 85) dX7_change_85 rfl ?_
    refine K_iret (pc := 86) dX7_change_86 rfl ⟨_, rfl, ?_⟩
    refine ⟨by rw [htk], fun i hi => ?_⟩
    rw [goN_i (by omega) (by omega) (by omega) k]
    exact bec_i hi
