/-- the reference: SkinShowModel -/
def inV (a l h : Int64) : Prop := l ≤ a ∧ a ≤ h
def orN (v : Int32) : Int32 := if v < 0 then -1000000005 else v
def lstV (a b : Int32) : Int32 := if a < b then a else b
def sizV (v : Int32) : Int32 := if v < 0 then -v else v
def hldV (v k : Int32) : Int32 := if v < 0 then nI 0 else if k < v then k else v
theorem ifg {c d : Prop} [Decidable c] [Decidable d] {α : Type} {a b : α} (h : d ↔ ¬ c) : (if c then a else b) = if d then b else a := by
  by_cases q : c
  · rw [if_pos q, if_neg (fun z => h.mp z q)]
  · rw [if_neg q, if_pos (h.mpr q)]
set_option maxRecDepth 100000 in
set_option maxHeartbeats 400000 in
theorem m_orNone {x : jX} {m : jm} {d : Nat} (v : Int32) : Ct x d eX8_orNone [.int v] m (jp (orN v) m) := by
  refine J_start (by decide +kernel) (Nat.le_of_ble_eq_true rfl) (ls := [some (.int v)]) rfl rfl ?_
  refine J_iload_n (pc := 0) dX8_orNone_0 rfl ?_
  refine J_if_ge (pc := 1) (tgt := 9) dX8_orNone_1 (by decide) (fun h1 => ?_) (fun h1 => ?_)
  · 
    refine J_iload_n (pc := 9) dX8_orNone_9 rfl ?_
    refine K_iret (pc := 10) dX8_orNone_10 rfl ⟨_, rfl, ?_⟩
    unfold orN
    exact ⟨(if_neg (Int32.not_lt.mpr h1)).symm, rfl⟩
  · 
    refine J_ldc (pc := 4) dX8_orNone_4 kc_X8_66 ?_
    refine J_goto (pc := 6) (tgt := 10) dX8_orNone_6 (by decide) ?_
    refine K_iret (pc := 10) dX8_orNone_10 rfl ⟨_, rfl, ?_⟩
    unfold orN
    exact ⟨(if_pos (Int32.not_le.mp h1)).symm, rfl⟩
set_option maxRecDepth 100000 in
set_option maxHeartbeats 400000 in
theorem m_least {x : jX} {m : jm} {d : Nat} (a b : Int32) : Ct x d eX8_least [.int a, .int b] m (jp (lstV a b) m) := by
  refine J_start (by decide +kernel) (Nat.le_of_ble_eq_true rfl) (ls := [some (.int a), some (.int b)]) rfl rfl ?_
  refine J_iload_n (pc := 0) dX8_least_0 rfl ?_
  refine J_iload_n (pc := 1) dX8_least_1 rfl ?_
  refine J_icmp_ge (pc := 2) (tgt := 9) dX8_least_2 (by decide) (fun h2 => ?_) (fun h2 => ?_)
  · 
    refine J_iload_n (pc := 9) dX8_least_9 rfl ?_
    refine K_iret (pc := 10) dX8_least_10 rfl ⟨_, rfl, ?_⟩
    unfold lstV
    exact ⟨(if_neg (Int32.not_lt.mpr h2)).symm, rfl⟩
  · 
    refine J_iload_n (pc := 5) dX8_least_5 rfl ?_
    refine J_goto (pc := 6) (tgt := 10) dX8_least_6 (by decide) ?_
    refine K_iret (pc := 10) dX8_least_10 rfl ⟨_, rfl, ?_⟩
    unfold lstV
    exact ⟨(if_pos (Int32.not_le.mp h2)).symm, rfl⟩
set_option maxRecDepth 100000 in
set_option maxHeartbeats 400000 in
theorem m_size {x : jX} {m : jm} {d : Nat} (v : Int32) : Ct x d eX8_size [.int v] m (jp (sizV v) m) := by
  refine J_start (by decide +kernel) (Nat.le_of_ble_eq_true rfl) (ls := [some (.int v)]) rfl rfl ?_
  refine J_iload_n (pc := 0) dX8_size_0 rfl ?_
  refine J_if_ge (pc := 1) (tgt := 9) dX8_size_1 (by decide) (fun h1 => ?_) (fun h1 => ?_)
  · 
    refine J_iload_n (pc := 9) dX8_size_9 rfl ?_
    refine K_iret (pc := 10) dX8_size_10 rfl ⟨_, rfl, ?_⟩
    unfold sizV
    exact ⟨(if_neg (Int32.not_lt.mpr h1)).symm, rfl⟩
  · 
    refine J_iload_n (pc := 4) dX8_size_4 rfl ?_
    refine J_ineg (pc := 5) dX8_size_5 ?_
    refine J_goto (pc := 6) (tgt := 10) dX8_size_6 (by decide) ?_
    refine K_iret (pc := 10) dX8_size_10 rfl ⟨_, rfl, ?_⟩
    unfold sizV
    exact ⟨(if_pos (Int32.not_le.mp h1)).symm, rfl⟩
set_option maxRecDepth 100000 in
set_option maxHeartbeats 400000 in
theorem m_held {x : jX} {m : jm} {d : Nat} (v k : Int32) : Ct x d eX8_held [.int v, .int k] m (jp (hldV v k) m) := by
  refine J_start (by decide +kernel) (Nat.le_of_ble_eq_true rfl) (ls := [some (.int v), some (.int k)]) rfl rfl ?_
  refine J_iload_n (pc := 0) dX8_held_0 rfl ?_
  refine J_if_ge (pc := 1) (tgt := 8) dX8_held_1 (by decide) (fun h1 => ?_) (fun h1 => ?_)
  · 
    refine J_iload_n (pc := 8) dX8_held_8 rfl ?_
    refine J_iload_n (pc := 9) dX8_held_9 rfl ?_
    refine J_icmp_le (pc := 10) (tgt := 17) dX8_held_10 (by decide) (fun h10 => ?_) (fun h10 => ?_)
    · 
      refine J_iload_n (pc := 17) dX8_held_17 rfl ?_
      refine K_iret (pc := 18) dX8_held_18 rfl ⟨_, rfl, ?_⟩
      unfold hldV
      exact ⟨((if_neg (Int32.not_lt.mpr h1)).trans (if_neg (Int32.not_lt.mpr h10))).symm, rfl⟩
    · 
      refine J_iload_n (pc := 13) dX8_held_13 rfl ?_
      refine J_goto (pc := 14) (tgt := 18) dX8_held_14 (by decide) ?_
      refine K_iret (pc := 18) dX8_held_18 rfl ⟨_, rfl, ?_⟩
      unfold hldV
      exact ⟨((if_neg (Int32.not_lt.mpr h1)).trans (if_pos (Int32.not_le.mp h10))).symm, rfl⟩
  · 
    refine J_iconst (pc := 4) dX8_held_4 kni_0 ?_
    refine J_goto (pc := 5) (tgt := 18) dX8_held_5 (by decide) ?_
    refine K_iret (pc := 18) dX8_held_18 rfl ⟨_, rfl, ?_⟩
    unfold hldV
    exact ⟨(if_pos (Int32.not_le.mp h1)).symm, rfl⟩
set_option maxRecDepth 100000 in
set_option maxHeartbeats 400000 in
theorem m_partAt {x : jX} {m : jm} {d : Nat} {p : Nat} : Ct x d eX8_partAt [.ref (jxb x + 140), .int (nI p)] m (jp (nI (90 + 6 * p)) m) := by
  refine J_start (by decide +kernel) (Nat.le_of_ble_eq_true rfl) (ls := [some (.ref (jxb x + 140)), some (.int (nI p))]) rfl rfl ?_
  refine J_bipush (pc := 0) dX8_partAt_0 knb_90 ?_
  refine J_bipush (pc := 2) dX8_partAt_2 knb_6 ?_
  refine J_iload_n (pc := 4) dX8_partAt_4 rfl ?_
  refine J_imulv (pc := 5) dX8_partAt_5 (pk_mul _ _) ?_
  refine J_iaddv (pc := 6) dX8_partAt_6 (nI_add _ _) ?_
  refine K_iret (pc := 7) dX8_partAt_7 rfl ⟨_, rfl, ?_⟩
  exact ⟨rfl, rfl⟩
set_option maxRecDepth 100000 in
set_option maxHeartbeats 400000 in
theorem m_textAt {x : jX} {m : jm} {d : Nat} {t : Nat} : Ct x d eX8_textAt [.ref (jxb x + 140), .int (nI t)] m (jp (nI (440 + 200 * t)) m) := by
  refine J_start (by decide +kernel) (Nat.le_of_ble_eq_true rfl) (ls := [some (.ref (jxb x + 140)), some (.int (nI t))]) rfl rfl ?_
  refine J_sipush (pc := 0) dX8_textAt_0 kns_440 ?_
  refine J_sipush (pc := 3) dX8_textAt_3 kns_200 ?_
  refine J_iload_n (pc := 6) dX8_textAt_6 rfl ?_
  refine J_imulv (pc := 7) dX8_textAt_7 (pk_mul _ _) ?_
  refine J_iaddv (pc := 8) dX8_textAt_8 (nI_add _ _) ?_
  refine K_iret (pc := 9) dX8_textAt_9 rfl ⟨_, rfl, ?_⟩
  exact ⟨rfl, rfl⟩
