def szR (m : jm) : Nat → Int32 := fun p => m 141 (90 + 6 * p + 5)
def kdR (m : jm) (w : Int32) : Nat → Bool := fun p => decide (m 141 (90 + 6 * p) = w)
def lnR (m : jm) : Nat → Bool := fun l => decide (¬ m 144 l < 0)
set_option maxRecDepth 100000 in
set_option maxHeartbeats 400000 in
theorem m_sizes {x : jX} {m : jm} {d : Nat} {P : Nat} (hP : m 141 0 = nI P) (h48 : P ≤ 48) : Ct x (d + 1) eX8_sizes [.ref (jxb x + 140)] m (jp (sumV (szR m) P) m) := by
  refine J_start (by decide +kernel) (Nat.le_of_ble_eq_true rfl) (ls := [some (.ref (jxb x + 140)), none, none]) rfl rfl ?_
  refine J_iconst (pc := 0) dX8_sizes_0 kni_0 ?_
  refine J_istore_n (pc := 1) (ls' := [some _, some _, none]) dX8_sizes_1 rfl (Nat.le_of_ble_eq_true rfl) rfl ?_
  refine J_iconst (pc := 2) dX8_sizes_2 kni_0 ?_
  refine J_istore_n (pc := 3) (ls' := [some _, some _, some _]) dX8_sizes_3 rfl (Nat.le_of_ble_eq_true rfl) rfl ?_
  refine K_for' (pc := 4) P (fun p => [some (.ref (jxb x + 140)), some (.int ((sumV (szR m) p))), some (.int (nI p))]) (fun p => m) (by rfl) (by rfl) (fun p hp ih4 => ?_) ?_
  ·
    show K x _ _ 4 [some (.ref (jxb x + 140)), some (.int ((sumV (szR m) p))), some (.int (nI p))] _ m _
    refine J_iload_n (pc := 4) dX8_sizes_4 rfl ?_
    refine J_aload_n (pc := 5) dX8_sizes_5 rfl ?_
    refine K_getR (pc := 6) dX8_sizes_6 kf_X8_7 job_140 jrf_140_0 ?_
    refine J_iconst (pc := 9) dX8_sizes_9 kni_0 ?_
    refine K_ialdn (pc := 10) (id := 141) dX8_sizes_10 jar_141 (by decide) (by decide) ?_
    refine J_top (b := nI P) (hP) ?_
    refine Jn_ge (pc := 11) (tgt := 35) dX8_sizes_11 (by decide) (by omega) (by omega) (fun h11 => absurd h11 (by omega)) (fun h11 => ?_)
    refine J_iload_n (pc := 14) dX8_sizes_14 rfl ?_
    refine J_aload_n (pc := 15) dX8_sizes_15 rfl ?_
    refine K_getR (pc := 16) dX8_sizes_16 kf_X8_7 job_140 jrf_140_0 ?_
    refine J_aload_n (pc := 19) dX8_sizes_19 rfl ?_
    refine J_iload_n (pc := 20) dX8_sizes_20 rfl ?_
    refine K_callVp (pc := 21) (id := 140) (As := [_]) dX8_sizes_21 kl_X8_81 rfl job_140 rfl rfl (Nat.le_of_ble_eq_true rfl) (m_partAt) ?_
    refine J_iconst (pc := 24) dX8_sizes_24 kni_5 ?_
    refine J_iaddv (pc := 25) dX8_sizes_25 (nI_add _ _) ?_
    refine K_ialdn (pc := 26) (id := 141) dX8_sizes_26 jar_141 (by omega) (by decide) ?_
    refine J_iadd (pc := 27) dX8_sizes_27 ?_
    refine J_istore_n (pc := 28) (ls' := [some _, some _, some _]) dX8_sizes_28 rfl (Nat.le_of_ble_eq_true rfl) rfl ?_
    refine Jn_iinc (pc := 29) (ls' := [some _, some _, some _]) dX8_sizes_29 rfl knz_1 rfl rfl ?_
    refine J_goto (pc := 32) (tgt := 4) dX8_sizes_32 (by decide) ?_
    exact ih4
  ·
    show K x _ _ 4 [some (.ref (jxb x + 140)), some (.int ((sumV (szR m) P))), some (.int (nI P))] _ m _
    refine J_iload_n (pc := 4) dX8_sizes_4 rfl ?_
    refine J_aload_n (pc := 5) dX8_sizes_5 rfl ?_
    refine K_getR (pc := 6) dX8_sizes_6 kf_X8_7 job_140 jrf_140_0 ?_
    refine J_iconst (pc := 9) dX8_sizes_9 kni_0 ?_
    refine K_ialdn (pc := 10) (id := 141) dX8_sizes_10 jar_141 (by decide) (by decide) ?_
    refine J_top (b := nI P) (hP) ?_
    refine Jn_ge (pc := 11) (tgt := 35) dX8_sizes_11 (by decide) (by omega) (by omega) (fun h11 => ?_) (fun h11 => absurd h11 (by omega))
    refine J_iload_n (pc := 35) dX8_sizes_35 rfl ?_
    refine K_iret (pc := 36) dX8_sizes_36 rfl ⟨_, rfl, ?_⟩
    exact ⟨rfl, rfl⟩
set_option maxRecDepth 100000 in
set_option maxHeartbeats 400000 in
theorem m_partsOf {x : jX} {m : jm} {d : Nat} {P : Nat} (hP : m 141 0 = nI P) (h48 : P ≤ 48) (w : Int32) : Ct x (d + 1) eX8_partsOf [.ref (jxb x + 140), .int w] m (jp (nI (cnt (kdR m w) P)) m) := by
  refine J_start (by decide +kernel) (Nat.le_of_ble_eq_true rfl) (ls := [some (.ref (jxb x + 140)), some (.int w), none, none]) rfl rfl ?_
  refine J_iconst (pc := 0) dX8_partsOf_0 kni_0 ?_
  refine J_istore_n (pc := 1) (ls' := [some _, some _, some _, none]) dX8_partsOf_1 rfl (Nat.le_of_ble_eq_true rfl) rfl ?_
  refine J_iconst (pc := 2) dX8_partsOf_2 kni_0 ?_
  refine J_istore_n (pc := 3) (ls' := [some _, some _, some _, some _]) dX8_partsOf_3 rfl (Nat.le_of_ble_eq_true rfl) rfl ?_
  refine K_for' (pc := 4) P (fun p => [some (.ref (jxb x + 140)), some (.int w), some (.int (nI (cnt (kdR m w) p))), some (.int (nI p))]) (fun p => m) (by rfl) (by rfl) (fun p hp ih4 => ?_) ?_
  ·
    show K x _ _ 4 [some (.ref (jxb x + 140)), some (.int w), some (.int (nI (cnt (kdR m w) p))), some (.int (nI p))] _ m _
    refine J_iload_n (pc := 4) dX8_partsOf_4 rfl ?_
    refine J_aload_n (pc := 5) dX8_partsOf_5 rfl ?_
    refine K_getR (pc := 6) dX8_partsOf_6 kf_X8_7 job_140 jrf_140_0 ?_
    refine J_iconst (pc := 9) dX8_partsOf_9 kni_0 ?_
    refine K_ialdn (pc := 10) (id := 141) dX8_partsOf_10 jar_141 (by decide) (by decide) ?_
    refine J_top (b := nI P) (hP) ?_
    refine Jn_ge (pc := 11) (tgt := 42) dX8_partsOf_11 (by decide) (by omega) (by omega) (fun h11 => absurd h11 (by omega)) (fun h11 => ?_)
    refine J_iload_n (pc := 14) dX8_partsOf_14 rfl ?_
    refine J_aload_n (pc := 15) dX8_partsOf_15 rfl ?_
    refine K_getR (pc := 16) dX8_partsOf_16 kf_X8_7 job_140 jrf_140_0 ?_
    refine J_aload_n (pc := 19) dX8_partsOf_19 rfl ?_
    refine J_iload_n (pc := 20) dX8_partsOf_20 rfl ?_
    refine K_callVp (pc := 21) (id := 140) (As := [_]) dX8_partsOf_21 kl_X8_81 rfl job_140 rfl rfl (Nat.le_of_ble_eq_true rfl) (m_partAt) ?_
    refine K_ialdn (pc := 24) (id := 141) dX8_partsOf_24 jar_141 (by omega) (by decide) ?_
    refine J_iload_n (pc := 25) dX8_partsOf_25 rfl ?_
    refine J_icmp_ne (pc := 26) (tgt := 33) dX8_partsOf_26 (by decide) (fun h26 => ?_) (fun h26 => ?_)
    · 
      refine J_iconst (pc := 33) dX8_partsOf_33 kni_0 ?_
      refine J_iaddv (pc := 34) dX8_partsOf_34 (nI_add _ _) ?_
      refine J_istore_n (pc := 35) (ls' := [some _, some _, some _, some _]) dX8_partsOf_35 rfl (Nat.le_of_ble_eq_true rfl) rfl ?_
      refine Jn_iinc (pc := 36) (ls' := [some _, some _, some _, some _]) dX8_partsOf_36 rfl knz_1 rfl rfl ?_
      refine J_goto (pc := 39) (tgt := 4) dX8_partsOf_39 (by decide) ?_
      have ec : cnt (kdR m w) (p + 1) = cnt (kdR m w) p + 0 := cnt_f (fun z => absurd (of_decide_eq_true z) h26)
      rw [ec] at ih4
      exact ih4
    · 
      refine J_iconst (pc := 29) dX8_partsOf_29 kni_1 ?_
      refine J_goto (pc := 30) (tgt := 34) dX8_partsOf_30 (by decide) ?_
      refine J_iaddv (pc := 34) dX8_partsOf_34 (nI_add _ _) ?_
      refine J_istore_n (pc := 35) (ls' := [some _, some _, some _, some _]) dX8_partsOf_35 rfl (Nat.le_of_ble_eq_true rfl) rfl ?_
      refine Jn_iinc (pc := 36) (ls' := [some _, some _, some _, some _]) dX8_partsOf_36 rfl knz_1 rfl rfl ?_
      refine J_goto (pc := 39) (tgt := 4) dX8_partsOf_39 (by decide) ?_
      have ec : cnt (kdR m w) (p + 1) = cnt (kdR m w) p + 1 := cnt_t (decide_eq_true h26)
      rw [ec] at ih4
      exact ih4
  ·
    show K x _ _ 4 [some (.ref (jxb x + 140)), some (.int w), some (.int (nI (cnt (kdR m w) P))), some (.int (nI P))] _ m _
    refine J_iload_n (pc := 4) dX8_partsOf_4 rfl ?_
    refine J_aload_n (pc := 5) dX8_partsOf_5 rfl ?_
    refine K_getR (pc := 6) dX8_partsOf_6 kf_X8_7 job_140 jrf_140_0 ?_
    refine J_iconst (pc := 9) dX8_partsOf_9 kni_0 ?_
    refine K_ialdn (pc := 10) (id := 141) dX8_partsOf_10 jar_141 (by decide) (by decide) ?_
    refine J_top (b := nI P) (hP) ?_
    refine Jn_ge (pc := 11) (tgt := 42) dX8_partsOf_11 (by decide) (by omega) (by omega) (fun h11 => ?_) (fun h11 => absurd h11 (by omega))
    refine J_iload_n (pc := 42) dX8_partsOf_42 rfl ?_
    refine K_iret (pc := 43) dX8_partsOf_43 rfl ⟨_, rfl, ?_⟩
    exact ⟨rfl, rfl⟩
set_option maxRecDepth 100000 in
set_option maxHeartbeats 400000 in
theorem m_lines {x : jX} {m : jm} {d : Nat}  : Ct x d eX8_lines [.ref (jxb x + 140)] m (jp (nI (cnt (lnR m) 24)) m) := by
  refine J_start (by decide +kernel) (Nat.le_of_ble_eq_true rfl) (ls := [some (.ref (jxb x + 140)), none, none]) rfl rfl ?_
  refine J_iconst (pc := 0) dX8_lines_0 kni_0 ?_
  refine J_istore_n (pc := 1) (ls' := [some _, some _, none]) dX8_lines_1 rfl (Nat.le_of_ble_eq_true rfl) rfl ?_
  refine J_iconst (pc := 2) dX8_lines_2 kni_0 ?_
  refine J_istore_n (pc := 3) (ls' := [some _, some _, some _]) dX8_lines_3 rfl (Nat.le_of_ble_eq_true rfl) rfl ?_
  refine K_for' (pc := 4) 24 (fun l => [some (.ref (jxb x + 140)), some (.int (nI (cnt (lnR m) l))), some (.int (nI l))]) (fun l => m) (by rfl) (by rfl) (fun l hl ih4 => ?_) ?_
  ·
    show K x _ _ 4 [some (.ref (jxb x + 140)), some (.int (nI (cnt (lnR m) l))), some (.int (nI l))] _ m _
    refine J_iload_n (pc := 4) dX8_lines_4 rfl ?_
    refine J_bipush (pc := 5) dX8_lines_5 knb_24 ?_
    refine Jn_ge (pc := 7) (tgt := 33) dX8_lines_7 (by decide) (by omega) (by omega) (fun h7 => absurd h7 (by omega)) (fun h7 => ?_)
    refine J_iload_n (pc := 10) dX8_lines_10 rfl ?_
    refine J_aload_n (pc := 11) dX8_lines_11 rfl ?_
    refine K_getR (pc := 12) dX8_lines_12 kf_X8_19 job_140 jrf_140_4 ?_
    refine J_iload_n (pc := 15) dX8_lines_15 rfl ?_
    refine K_ialdn (pc := 16) (id := 144) dX8_lines_16 jar_144 (by omega) (by decide) ?_
    refine J_if_lt (pc := 17) (tgt := 24) dX8_lines_17 (by decide) (fun h17 => ?_) (fun h17 => ?_)
    · 
      refine J_iconst (pc := 24) dX8_lines_24 kni_0 ?_
      refine J_iaddv (pc := 25) dX8_lines_25 (nI_add _ _) ?_
      refine J_istore_n (pc := 26) (ls' := [some _, some _, some _]) dX8_lines_26 rfl (Nat.le_of_ble_eq_true rfl) rfl ?_
      refine Jn_iinc (pc := 27) (ls' := [some _, some _, some _]) dX8_lines_27 rfl knz_1 rfl rfl ?_
      refine J_goto (pc := 30) (tgt := 4) dX8_lines_30 (by decide) ?_
      have ec : cnt (lnR m) (l + 1) = cnt (lnR m) l + 0 := cnt_f (fun z => absurd (of_decide_eq_true z) (fun z => z h17))
      rw [ec] at ih4
      exact ih4
    · 
      refine J_iconst (pc := 20) dX8_lines_20 kni_1 ?_
      refine J_goto (pc := 21) (tgt := 25) dX8_lines_21 (by decide) ?_
      refine J_iaddv (pc := 25) dX8_lines_25 (nI_add _ _) ?_
      refine J_istore_n (pc := 26) (ls' := [some _, some _, some _]) dX8_lines_26 rfl (Nat.le_of_ble_eq_true rfl) rfl ?_
      refine Jn_iinc (pc := 27) (ls' := [some _, some _, some _]) dX8_lines_27 rfl knz_1 rfl rfl ?_
      refine J_goto (pc := 30) (tgt := 4) dX8_lines_30 (by decide) ?_
      have ec : cnt (lnR m) (l + 1) = cnt (lnR m) l + 1 := cnt_t (decide_eq_true h17)
      rw [ec] at ih4
      exact ih4
  ·
    show K x _ _ 4 [some (.ref (jxb x + 140)), some (.int (nI (cnt (lnR m) 24))), some (.int (nI 24))] _ m _
    refine J_iload_n (pc := 4) dX8_lines_4 rfl ?_
    refine J_bipush (pc := 5) dX8_lines_5 knb_24 ?_
    refine Jn_ge (pc := 7) (tgt := 33) dX8_lines_7 (by decide) (by omega) (by omega) (fun h7 => ?_) (fun h7 => absurd h7 (by omega))
    refine J_iload_n (pc := 33) dX8_lines_33 rfl ?_
    refine K_iret (pc := 34) dX8_lines_34 rfl ⟨_, rfl, ?_⟩
    exact ⟨rfl, rfl⟩
