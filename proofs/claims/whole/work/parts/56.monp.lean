/-- the part on a place: the last one told there, or -1 -/
def onP (m : jm) (r : Nat) (q : Int32) : Nat → Int32
  | 0 => -1
  | p + 1 => if m r (90 + 6 * p + 1) = q then nI p else onP m r q p
set_option maxRecDepth 100000 in
set_option maxHeartbeats 400000 in
theorem m_onPlace {x : jX} {m : jm} {d : Nat} (q : Int32) {P : Nat} (hP : m 141 0 = nI P) (h48 : P ≤ 48) : Ct x (d + 1) eX8_onPlace [.ref (jxb x + 140), .int q] m (jp (onP m 141 q P) m) := by
  refine J_start (by decide +kernel) (Nat.le_of_ble_eq_true rfl) (ls := [some (.ref (jxb x + 140)), some (.int q), none, none]) rfl rfl ?_
  refine J_iconst (pc := 0) dX8_onPlace_0 kni_m1 ?_
  refine J_istore_n (pc := 1) (ls' := [some _, some _, some _, none]) dX8_onPlace_1 rfl (Nat.le_of_ble_eq_true rfl) rfl ?_
  refine J_iconst (pc := 2) dX8_onPlace_2 kni_0 ?_
  refine J_istore_n (pc := 3) (ls' := [some _, some _, some _, some _]) dX8_onPlace_3 rfl (Nat.le_of_ble_eq_true rfl) rfl ?_
  refine K_for' (pc := 4) P (fun i => [some (.ref (jxb x + 140)), some (.int q), some (.int ((onP m 141 q i))), some (.int (nI i))]) (fun i => m) (by rfl) (by rfl) (fun i hi ih4 => ?_) ?_
  ·
    show K x _ _ 4 [some (.ref (jxb x + 140)), some (.int q), some (.int ((onP m 141 q i))), some (.int (nI i))] _ m _
    refine J_iload_n (pc := 4) dX8_onPlace_4 rfl ?_
    refine J_aload_n (pc := 5) dX8_onPlace_5 rfl ?_
    refine K_getR (pc := 6) dX8_onPlace_6 kf_X8_7 job_140 jrf_140_0 ?_
    refine J_iconst (pc := 9) dX8_onPlace_9 kni_0 ?_
    refine K_ialdn (pc := 10) (id := 141) dX8_onPlace_10 jar_141 (by decide) (by decide) ?_
    refine J_top (b := nI P) (hP) ?_
    refine Jn_ge (pc := 11) (tgt := 42) dX8_onPlace_11 (by decide) (by omega) (by omega) (fun h11 => absurd h11 (by omega)) (fun h11 => ?_)
    refine J_aload_n (pc := 14) dX8_onPlace_14 rfl ?_
    refine K_getR (pc := 15) dX8_onPlace_15 kf_X8_7 job_140 jrf_140_0 ?_
    refine J_aload_n (pc := 18) dX8_onPlace_18 rfl ?_
    refine J_iload_n (pc := 19) dX8_onPlace_19 rfl ?_
    refine K_callVp (pc := 20) (id := 140) (As := [_]) dX8_onPlace_20 kl_X8_81 rfl job_140 rfl rfl (Nat.le_of_ble_eq_true rfl) (m_partAt) ?_
    refine J_iconst (pc := 23) dX8_onPlace_23 kni_1 ?_
    refine J_iaddv (pc := 24) dX8_onPlace_24 (nI_add _ _) ?_
    refine K_ialdn (pc := 25) (id := 141) dX8_onPlace_25 jar_141 (by omega) (by decide) ?_
    refine J_iload_n (pc := 26) dX8_onPlace_26 rfl ?_
    refine J_icmp_ne (pc := 27) (tgt := 34) dX8_onPlace_27 (by decide) (fun h27 => ?_) (fun h27 => ?_)
    · 
      refine J_iload_n (pc := 34) dX8_onPlace_34 rfl ?_
      refine J_istore_n (pc := 35) (ls' := [some _, some _, some _, some _]) dX8_onPlace_35 rfl (Nat.le_of_ble_eq_true rfl) rfl ?_
      refine Jn_iinc (pc := 36) (ls' := [some _, some _, some _, some _]) dX8_onPlace_36 rfl knz_1 rfl rfl ?_
      refine J_goto (pc := 39) (tgt := 4) dX8_onPlace_39 (by decide) ?_
      have eo : onP m 141 q (i + 1) = onP m 141 q i := if_neg h27
      rw [eo] at ih4
      exact ih4
    · 
      refine J_iload_n (pc := 30) dX8_onPlace_30 rfl ?_
      refine J_goto (pc := 31) (tgt := 35) dX8_onPlace_31 (by decide) ?_
      refine J_istore_n (pc := 35) (ls' := [some _, some _, some _, some _]) dX8_onPlace_35 rfl (Nat.le_of_ble_eq_true rfl) rfl ?_
      refine Jn_iinc (pc := 36) (ls' := [some _, some _, some _, some _]) dX8_onPlace_36 rfl knz_1 rfl rfl ?_
      refine J_goto (pc := 39) (tgt := 4) dX8_onPlace_39 (by decide) ?_
      have eo : onP m 141 q (i + 1) = nI i := if_pos h27
      rw [eo] at ih4
      exact ih4
  ·
    show K x _ _ 4 [some (.ref (jxb x + 140)), some (.int q), some (.int ((onP m 141 q P))), some (.int (nI P))] _ m _
    refine J_iload_n (pc := 4) dX8_onPlace_4 rfl ?_
    refine J_aload_n (pc := 5) dX8_onPlace_5 rfl ?_
    refine K_getR (pc := 6) dX8_onPlace_6 kf_X8_7 job_140 jrf_140_0 ?_
    refine J_iconst (pc := 9) dX8_onPlace_9 kni_0 ?_
    refine K_ialdn (pc := 10) (id := 141) dX8_onPlace_10 jar_141 (by decide) (by decide) ?_
    refine J_top (b := nI P) (hP) ?_
    refine Jn_ge (pc := 11) (tgt := 42) dX8_onPlace_11 (by decide) (by omega) (by omega) (fun h11 => ?_) (fun h11 => absurd h11 (by omega))
    refine J_iload_n (pc := 42) dX8_onPlace_42 rfl ?_
    refine K_iret (pc := 43) dX8_onPlace_43 rfl ⟨_, rfl, ?_⟩
    exact ⟨rfl, rfl⟩
