set_option maxRecDepth 100000 in
set_option maxHeartbeats 400000 in
theorem m_setAside {x : jX} {m : jm} {d : Nat} {ar ar2 nn : Nat} (har : jArr ar 0 nn) (har2 : jArr ar2 0 nn) (hnn : nn = 3450) (hne : ar ≠ ar2) : Ct x d eX8_setAside [.ref (jxb x + 140), .ref (jxb x + ar), .ref (jxb x + ar2)] m (jv fun m' => m' = mfill m ar2 3450 (m ar)) := by
  refine J_start (by decide +kernel) (Nat.le_of_ble_eq_true rfl) (ls := [some (.ref (jxb x + 140)), some (.ref (jxb x + ar)), some (.ref (jxb x + ar2)), none]) rfl rfl ?_
  refine J_iconst (pc := 0) dX8_setAside_0 kni_0 ?_
  refine J_istore_n (pc := 1) (ls' := [some _, some _, some _, some _]) dX8_setAside_1 rfl (Nat.le_of_ble_eq_true rfl) rfl ?_
  refine K_for' (pc := 2) 3450 (fun k => [some (.ref (jxb x + 140)), some (.ref (jxb x + ar)), some (.ref (jxb x + ar2)), some (.int (nI k))]) (fun k => (mfill m ar2 k (m ar))) (by rfl) (by rw [mfill_0]) (fun k hk ih2 => ?_) ?_
  ·
    show K x _ _ 2 [some (.ref (jxb x + 140)), some (.ref (jxb x + ar)), some (.ref (jxb x + ar2)), some (.int (nI k))] _ ((mfill m ar2 k (m ar))) _
    refine J_iload_n (pc := 2) dX8_setAside_2 rfl ?_
    refine J_sipush (pc := 3) dX8_setAside_3 kns_3450 ?_
    refine Jn_ge (pc := 6) (tgt := 21) dX8_setAside_6 (by decide) (by omega) (by omega) (fun h6 => absurd h6 (by omega)) (fun h6 => ?_)
    refine J_aload_n (pc := 9) dX8_setAside_9 rfl ?_
    refine J_iload_n (pc := 10) dX8_setAside_10 rfl ?_
    refine J_aload_n (pc := 11) dX8_setAside_11 rfl ?_
    refine J_iload_n (pc := 12) dX8_setAside_12 rfl ?_
    refine K_ialdn (pc := 13) (id := ar) dX8_setAside_13 har (by omega) (by omega) ?_
    refine K_iastn (pc := 14) (id := ar2) dX8_setAside_14 har2 (by omega) (by omega) ?_
    refine Jn_iinc (pc := 15) (ls' := [some _, some _, some _, some _]) dX8_setAside_15 rfl knz_1 rfl rfl ?_
    refine J_goto (pc := 18) (tgt := 2) dX8_setAside_18 (by decide) ?_
    have ev : (((mfill m ar2 k (m ar)) ar k)) = m ar k := by
      rw [mfill_i hne]
    rw [mfill_s _ _ _ _ ev]
    exact ih2
  ·
    show K x _ _ 2 [some (.ref (jxb x + 140)), some (.ref (jxb x + ar)), some (.ref (jxb x + ar2)), some (.int (nI 3450))] _ ((mfill m ar2 3450 (m ar))) _
    refine J_iload_n (pc := 2) dX8_setAside_2 rfl ?_
    refine J_sipush (pc := 3) dX8_setAside_3 kns_3450 ?_
    refine Jn_ge (pc := 6) (tgt := 21) dX8_setAside_6 (by decide) (by omega) (by omega) (fun h6 => ?_) (fun h6 => absurd h6 (by omega))
    refine K_vret (pc := 21) dX8_setAside_21 rfl ⟨rfl, rfl⟩
