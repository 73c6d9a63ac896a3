theorem lgc_lt {a b : Int64} : lg_cmp a b < 0 ↔ a < b := by
  unfold lg_cmp
  by_cases h : a > b
  · rw [if_pos h]
    exact ⟨fun q => absurd q (by decide), fun q => by rw [gt_iff_lt, Int64.lt_iff_toInt_lt] at h; rw [Int64.lt_iff_toInt_lt] at q; omega⟩
  · rw [if_neg h]
    by_cases e : a = b
    · rw [if_pos e, e]
      exact ⟨fun q => absurd q (by decide), fun q => by rw [Int64.lt_iff_toInt_lt] at q; omega⟩
    · rw [if_neg e]
      refine ⟨fun _ => ?_, fun _ => by decide⟩
      rw [gt_iff_lt, Int64.lt_iff_toInt_lt] at h
      rw [Int64.lt_iff_toInt_lt]
      have : a.toInt ≠ b.toInt := fun q => e (Int64.toInt_inj.mp q)
      omega
theorem lgc_gt {a b : Int64} : 0 < lg_cmp a b ↔ b < a := by
  unfold lg_cmp
  by_cases h : a > b
  · rw [if_pos h]; exact ⟨fun _ => h, fun _ => by decide⟩
  · rw [if_neg h]
    by_cases e : a = b
    · rw [if_pos e]; exact ⟨fun q => absurd q (by decide), fun q => absurd q h⟩
    · rw [if_neg e]; exact ⟨fun q => absurd q (by decide), fun q => absurd q h⟩
theorem jb_iff {c e : Prop} [Decidable c] [Decidable e] (h : c ↔ e) : jb c = jb e := by
  unfold jb
  by_cases q : e
  · rw [if_pos q, if_pos (h.mpr q)]
  · rw [if_neg q, if_neg (fun z => q (h.mp z))]
set_option maxRecDepth 100000 in
set_option maxHeartbeats 400000 in
theorem m_isIn {x : jX} {m : jm} {d : Nat} (a l h : Int64) : Ct x d eX8_isIn [.long a, .long l, .long h] m (jp (jb (l ≤ a ∧ a ≤ h)) m) := by
  refine J_start (by decide +kernel) (Nat.le_of_ble_eq_true rfl) (ls := [some (.long a), none, some (.long l), none, some (.long h), none]) rfl rfl ?_
  refine J_lload_n (pc := 0) dX8_isIn_0 rfl ?_
  refine J_lload_n (pc := 1) dX8_isIn_1 rfl ?_
  refine J_lcmp (pc := 2) dX8_isIn_2 ?_
  refine J_if_lt (pc := 3) (tgt := 17) dX8_isIn_3 (by decide) (fun h3 => ?_) (fun h3 => ?_)
  · 
    refine J_iconst (pc := 17) dX8_isIn_17 kni_0 ?_
    refine K_zret (pc := 18) dX8_isIn_18 rfl rfl ⟨_, rfl, ?_⟩
    exact ⟨(if_neg (fun q => by have := lgc_lt.mp h3; have := q.1; rw [Int64.le_iff_toInt_le] at this; rw [Int64.lt_iff_toInt_lt] at *; omega)).symm, rfl⟩
  · 
    have h3 : ¬ lg_cmp a l < 0 := h3
    refine J_lload_n (pc := 6) dX8_isIn_6 rfl ?_
    refine J_lload (pc := 7) dX8_isIn_7 rfl ?_
    refine J_lcmp (pc := 9) dX8_isIn_9 ?_
    refine J_if_gt (pc := 10) (tgt := 17) dX8_isIn_10 (by decide) (fun h10 => ?_) (fun h10 => ?_)
    · 
      refine J_iconst (pc := 17) dX8_isIn_17 kni_0 ?_
      refine K_zret (pc := 18) dX8_isIn_18 rfl rfl ⟨_, rfl, ?_⟩
      exact ⟨(if_neg (fun q => by have := lgc_gt.mp h10; have := q.2; rw [Int64.le_iff_toInt_le] at this; rw [Int64.lt_iff_toInt_lt] at *; omega)).symm, rfl⟩
    · 
      refine J_iconst (pc := 13) dX8_isIn_13 kni_1 ?_
      refine J_goto (pc := 14) (tgt := 18) dX8_isIn_14 (by decide) ?_
      refine K_zret (pc := 18) dX8_isIn_18 rfl rfl ⟨_, rfl, ?_⟩
      exact ⟨(if_pos ⟨by
        have q : ¬ a < l := fun z => h3 (lgc_lt.mpr z)
        rw [Int64.lt_iff_toInt_lt] at q
        rw [Int64.le_iff_toInt_le]
        omega, by
        have q : ¬ h < a := fun z => h10 (lgc_gt.mpr z)
        rw [Int64.lt_iff_toInt_lt] at q
        rw [Int64.le_iff_toInt_le]
        omega⟩).symm, rfl⟩
theorem in32 {v : Int32} {l h : Int64} {a b : Int32} (hl : l = a.toInt64) (hh : h = b.toInt64) : (l ≤ v.toInt64 ∧ v.toInt64 ≤ h) ↔ (a ≤ v ∧ v ≤ b) := by
  rw [hl, hh, Int64.le_iff_toInt_le, Int64.le_iff_toInt_le, Int32.toInt_toInt64, Int32.toInt_toInt64, Int32.toInt_toInt64, Int32.le_iff_toInt_le, Int32.le_iff_toInt_le]
set_option maxRecDepth 100000 in
set_option maxHeartbeats 400000 in
theorem m_isPlace {x : jX} {m : jm} {d : Nat} (v : Int32) : Ct x (d + 1) eX8_isPlace [.int v] m (jp (jb (nI 0 ≤ v ∧ v ≤ nI 47)) m) := by
  refine J_start (by decide +kernel) (Nat.le_of_ble_eq_true rfl) (ls := [some (.int v)]) rfl rfl ?_
  refine J_iload_n (pc := 0) dX8_isPlace_0 rfl ?_
  refine J_i2l (pc := 1) dX8_isPlace_1 ?_
  refine J_lconst (pc := 2) (v := 0) dX8_isPlace_2 rfl ?_
  refine J_ldc2 (pc := 3) dX8_isPlace_3 kg_X8_75 ?_
  refine K_callSp (pc := 6) (As := [_, _, _]) dX8_isPlace_6 kl_X8_71 rfl rfl (Nat.le_of_ble_eq_true rfl) (m_isIn _ _ _) ?_
  refine K_zret (pc := 9) dX8_isPlace_9 rfl (jb_nar _) ⟨_, rfl, ?_⟩
  exact ⟨jb_iff (in32 (by decide) (by decide)), rfl⟩
set_option maxRecDepth 100000 in
set_option maxHeartbeats 400000 in
theorem m_isGround {x : jX} {m : jm} {d : Nat} (v : Int32) : Ct x (d + 1) eX8_isGround [.int v] m (jp (jb (nI 0 ≤ v ∧ v ≤ nI 3)) m) := by
  refine J_start (by decide +kernel) (Nat.le_of_ble_eq_true rfl) (ls := [some (.int v)]) rfl rfl ?_
  refine J_iload_n (pc := 0) dX8_isGround_0 rfl ?_
  refine J_i2l (pc := 1) dX8_isGround_1 ?_
  refine J_lconst (pc := 2) (v := 0) dX8_isGround_2 rfl ?_
  refine J_ldc2 (pc := 3) dX8_isGround_3 kg_X8_77 ?_
  refine K_callSp (pc := 6) (As := [_, _, _]) dX8_isGround_6 kl_X8_71 rfl rfl (Nat.le_of_ble_eq_true rfl) (m_isIn _ _ _) ?_
  refine K_zret (pc := 9) dX8_isGround_9 rfl (jb_nar _) ⟨_, rfl, ?_⟩
  exact ⟨jb_iff (in32 (by decide) (by decide)), rfl⟩
set_option maxRecDepth 100000 in
set_option maxHeartbeats 400000 in
theorem m_isGroup {x : jX} {m : jm} {d : Nat} (v : Int32) : Ct x (d + 1) eX8_isGroup [.int v] m (jp (jb (nI 0 ≤ v ∧ v ≤ nI 5)) m) := by
  refine J_start (by decide +kernel) (Nat.le_of_ble_eq_true rfl) (ls := [some (.int v)]) rfl rfl ?_
  refine J_iload_n (pc := 0) dX8_isGroup_0 rfl ?_
  refine J_i2l (pc := 1) dX8_isGroup_1 ?_
  refine J_lconst (pc := 2) (v := 0) dX8_isGroup_2 rfl ?_
  refine J_ldc2 (pc := 3) dX8_isGroup_3 kg_X8_79 ?_
  refine K_callSp (pc := 6) (As := [_, _, _]) dX8_isGroup_6 kl_X8_71 rfl rfl (Nat.le_of_ble_eq_true rfl) (m_isIn _ _ _) ?_
  refine K_zret (pc := 9) dX8_isGroup_9 rfl (jb_nar _) ⟨_, rfl, ?_⟩
  exact ⟨jb_iff (in32 (by decide) (by decide)), rfl⟩
set_option maxRecDepth 100000 in
set_option maxHeartbeats 400000 in
theorem m_isLine {x : jX} {m : jm} {d : Nat} (v : Int32) : Ct x (d + 1) eX8_isLine [.int v] m (jp (jb (nI 0 ≤ v ∧ v ≤ nI 23)) m) := by
  refine J_start (by decide +kernel) (Nat.le_of_ble_eq_true rfl) (ls := [some (.int v)]) rfl rfl ?_
  refine J_iload_n (pc := 0) dX8_isLine_0 rfl ?_
  refine J_i2l (pc := 1) dX8_isLine_1 ?_
  refine J_lconst (pc := 2) (v := 0) dX8_isLine_2 rfl ?_
  refine J_ldc2 (pc := 3) dX8_isLine_3 kg_X8_158 ?_
  refine K_callSp (pc := 6) (As := [_, _, _]) dX8_isLine_6 kl_X8_71 rfl rfl (Nat.le_of_ble_eq_true rfl) (m_isIn _ _ _) ?_
  refine K_zret (pc := 9) dX8_isLine_9 rfl (jb_nar _) ⟨_, rfl, ?_⟩
  exact ⟨jb_iff (in32 (by decide) (by decide)), rfl⟩
set_option maxRecDepth 100000 in
set_option maxHeartbeats 400000 in
theorem m_isPart {x : jX} {m : jm} {d : Nat} (v : Int32) : Ct x (d + 1) eX8_isPart [.ref (jxb x + 140), .int v] m (jp (jb (nI 0 ≤ v ∧ v ≤ m 141 0 - nI 1)) m) := by
  refine J_start (by decide +kernel) (Nat.le_of_ble_eq_true rfl) (ls := [some (.ref (jxb x + 140)), some (.int v)]) rfl rfl ?_
  refine J_iload_n (pc := 0) dX8_isPart_0 rfl ?_
  refine J_i2l (pc := 1) dX8_isPart_1 ?_
  refine J_lconst (pc := 2) (v := 0) dX8_isPart_2 rfl ?_
  refine J_aload_n (pc := 3) dX8_isPart_3 rfl ?_
  refine K_getR (pc := 4) dX8_isPart_4 kf_X8_7 job_140 jrf_140_0 ?_
  refine J_iconst (pc := 7) dX8_isPart_7 kni_0 ?_
  refine K_ialdn (pc := 8) (id := 141) dX8_isPart_8 jar_141 (by decide) (by decide) ?_
  refine J_iconst (pc := 9) dX8_isPart_9 kni_1 ?_
  refine J_isub (pc := 10) dX8_isPart_10 ?_
  refine J_i2l (pc := 11) dX8_isPart_11 ?_
  refine K_callSp (pc := 12) (As := [_, _, _]) dX8_isPart_12 kl_X8_71 rfl rfl (Nat.le_of_ble_eq_true rfl) (m_isIn _ _ _) ?_
  refine K_zret (pc := 15) dX8_isPart_15 rfl (jb_nar _) ⟨_, rfl, ?_⟩
  exact ⟨jb_iff (in32 (by decide) rfl), rfl⟩
set_option maxRecDepth 100000 in
set_option maxHeartbeats 400000 in
theorem m_isText {x : jX} {m : jm} {d : Nat} (v : Int32) : Ct x (d + 1) eX8_isText [.ref (jxb x + 140), .int v] m (jp (jb (nI 0 ≤ v ∧ v ≤ m 141 6 - nI 1)) m) := by
  refine J_start (by decide +kernel) (Nat.le_of_ble_eq_true rfl) (ls := [some (.ref (jxb x + 140)), some (.int v)]) rfl rfl ?_
  refine J_iload_n (pc := 0) dX8_isText_0 rfl ?_
  refine J_i2l (pc := 1) dX8_isText_1 ?_
  refine J_lconst (pc := 2) (v := 0) dX8_isText_2 rfl ?_
  refine J_aload_n (pc := 3) dX8_isText_3 rfl ?_
  refine K_getR (pc := 4) dX8_isText_4 kf_X8_7 job_140 jrf_140_0 ?_
  refine J_bipush (pc := 7) dX8_isText_7 knb_6 ?_
  refine K_ialdn (pc := 9) (id := 141) dX8_isText_9 jar_141 (by decide) (by decide) ?_
  refine J_iconst (pc := 10) dX8_isText_10 kni_1 ?_
  refine J_isub (pc := 11) dX8_isText_11 ?_
  refine J_i2l (pc := 12) dX8_isText_12 ?_
  refine K_callSp (pc := 13) (As := [_, _, _]) dX8_isText_13 kl_X8_71 rfl rfl (Nat.le_of_ble_eq_true rfl) (m_isIn _ _ _) ?_
  refine K_zret (pc := 16) dX8_isText_16 rfl (jb_nar _) ⟨_, rfl, ?_⟩
  exact ⟨jb_iff (in32 (by decide) rfl), rfl⟩
