def besW (p w : Nat) : Int32 := if w = 0 then (if p % 8 < 7 then nI (p + 1) else -1) else if w = 1 then (if 0 < p % 8 then nI (p - 1) else -1) else if w = 2 then (if p + 8 < 48 then nI (p + 8) else -1) else nI p - nI 8
set_option maxRecDepth 100000 in
set_option maxHeartbeats 400000 in
theorem m_beside {x : jX} {m : jm} {d : Nat} {p w : Nat} (hp : p < 48) (hw : w < 4) : Ct x d eX8_beside [.int (nI p), .int (nI w)] m (jp (besW p w) m) := by
  refine J_start (by decide +kernel) (Nat.le_of_ble_eq_true rfl) (ls := [some (.int (nI p)), some (.int (nI w)), none]) rfl rfl ?_
  refine J_iload_n (pc := 0) dX8_beside_0 rfl ?_
  refine J_bipush (pc := 1) dX8_beside_1 knb_8 ?_
  refine J_irem (pc := 3) (v := nI (p % 8)) dX8_beside_3 (by decide) (pk_rem (by omega) (by omega) (by omega)) ?_
  refine J_istore_n (pc := 4) (ls' := [some _, some _, some _]) dX8_beside_4 rfl (Nat.le_of_ble_eq_true rfl) rfl ?_
  refine J_iload_n (pc := 5) dX8_beside_5 rfl ?_
  by_cases c6_0 : nI w = nI 0
  ·
    refine J_tsIn (pc := 6) (tgt := 32) (off := 26) dX8_beside_6 (by rw [c6_0]; decide) (by rw [c6_0]; decide) (by rw [c6_0]; rfl) (by decide) ?_
    refine J_iload_n (pc := 32) dX8_beside_32 rfl ?_
    refine J_bipush (pc := 33) dX8_beside_33 knb_7 ?_
    refine Jn_ge (pc := 35) (tgt := 44) dX8_beside_35 (by decide) (by omega) (by omega) (fun h35 => ?_) (fun h35 => ?_)
    · 
      refine J_iconst (pc := 44) dX8_beside_44 kni_m1 ?_
      refine K_iret (pc := 45) dX8_beside_45 rfl ⟨_, rfl, ?_⟩
      unfold besW
      have hw : w = 0 := (nI_eq (by omega) (by decide)).mp c6_0
      exact ⟨by rw [if_pos hw, if_neg (by omega)], rfl⟩
    · 
      refine J_iload_n (pc := 38) dX8_beside_38 rfl ?_
      refine J_iconst (pc := 39) dX8_beside_39 kni_1 ?_
      refine J_iaddv (pc := 40) dX8_beside_40 (nI_add _ _) ?_
      refine J_goto (pc := 41) (tgt := 45) dX8_beside_41 (by decide) ?_
      refine K_iret (pc := 45) dX8_beside_45 rfl ⟨_, rfl, ?_⟩
      unfold besW
      have hw : w = 0 := (nI_eq (by omega) (by decide)).mp c6_0
      exact ⟨by rw [if_pos hw, if_pos (by omega)], rfl⟩
  by_cases c6_1 : nI w = nI 1
  ·
    refine J_tsIn (pc := 6) (tgt := 46) (off := 40) dX8_beside_6 (by rw [c6_1]; decide) (by rw [c6_1]; decide) (by rw [c6_1]; rfl) (by decide) ?_
    refine J_iload_n (pc := 46) dX8_beside_46 rfl ?_
    refine Jn_if_le (pc := 47) (tgt := 56) dX8_beside_47 (by decide) (by omega) (fun h47 => ?_) (fun h47 => ?_)
    · 
      refine J_iconst (pc := 56) dX8_beside_56 kni_m1 ?_
      refine K_iret (pc := 57) dX8_beside_57 rfl ⟨_, rfl, ?_⟩
      unfold besW
      have hw : w = 1 := (nI_eq (by omega) (by decide)).mp c6_1
      exact ⟨by rw [if_neg (by omega), if_pos hw, if_neg (by omega)], rfl⟩
    · 
      refine J_iload_n (pc := 50) dX8_beside_50 rfl ?_
      refine J_iconst (pc := 51) dX8_beside_51 kni_1 ?_
      refine J_isubv (pc := 52) dX8_beside_52 (pk_sub (by omega)) ?_
      refine J_goto (pc := 53) (tgt := 57) dX8_beside_53 (by decide) ?_
      refine K_iret (pc := 57) dX8_beside_57 rfl ⟨_, rfl, ?_⟩
      unfold besW
      have hw : w = 1 := (nI_eq (by omega) (by decide)).mp c6_1
      exact ⟨by rw [if_neg (by omega), if_pos hw, if_pos (by omega)], rfl⟩
  by_cases c6_2 : nI w = nI 2
  ·
    refine J_tsIn (pc := 6) (tgt := 58) (off := 52) dX8_beside_6 (by rw [c6_2]; decide) (by rw [c6_2]; decide) (by rw [c6_2]; rfl) (by decide) ?_
    refine J_iload_n (pc := 58) dX8_beside_58 rfl ?_
    refine J_bipush (pc := 59) dX8_beside_59 knb_8 ?_
    refine J_iaddv (pc := 61) dX8_beside_61 (nI_add _ _) ?_
    refine J_bipush (pc := 62) dX8_beside_62 knb_48 ?_
    refine Jn_ge (pc := 64) (tgt := 74) dX8_beside_64 (by decide) (by omega) (by omega) (fun h64 => ?_) (fun h64 => ?_)
    · 
      refine J_iconst (pc := 74) dX8_beside_74 kni_m1 ?_
      refine K_iret (pc := 75) dX8_beside_75 rfl ⟨_, rfl, ?_⟩
      unfold besW
      have hw : w = 2 := (nI_eq (by omega) (by decide)).mp c6_2
      exact ⟨by rw [if_neg (by omega), if_neg (by omega), if_pos hw, if_neg (by omega)], rfl⟩
    · 
      refine J_iload_n (pc := 67) dX8_beside_67 rfl ?_
      refine J_bipush (pc := 68) dX8_beside_68 knb_8 ?_
      refine J_iaddv (pc := 70) dX8_beside_70 (nI_add _ _) ?_
      refine J_goto (pc := 71) (tgt := 75) dX8_beside_71 (by decide) ?_
      refine K_iret (pc := 75) dX8_beside_75 rfl ⟨_, rfl, ?_⟩
      unfold besW
      have hw : w = 2 := (nI_eq (by omega) (by decide)).mp c6_2
      exact ⟨by rw [if_neg (by omega), if_neg (by omega), if_pos hw, if_pos (by omega)], rfl⟩
  refine J_tsOut (pc := 6) (tgt := 76) dX8_beside_6 (by have qc6_0 := jsw_ne c6_0 (by decide); have qc6_1 := jsw_ne c6_1 (by decide); have qc6_2 := jsw_ne c6_2 (by decide); omega) (by decide) ?_
  refine J_iload_n (pc := 76) dX8_beside_76 rfl ?_
  refine J_bipush (pc := 77) dX8_beside_77 knb_8 ?_
  refine J_isub (pc := 79) dX8_beside_79 ?_
  refine K_iret (pc := 80) dX8_beside_80 rfl ⟨_, rfl, ?_⟩
  unfold besW
  have w0 : ¬ w = 0 := fun q => c6_0 (congrArg nI q)
  have w1 : ¬ w = 1 := fun q => c6_1 (congrArg nI q)
  have w2 : ¬ w = 2 := fun q => c6_2 (congrArg nI q)
  exact ⟨by rw [if_neg w0, if_neg w1, if_neg w2], rfl⟩
theorem besW_in {p w : Nat} (hp : p < 48) (hw : w < 4) : besW p w < 0 ∨ ∃ b, b < 48 ∧ besW p w = nI b := by
  unfold besW
  have n1 : (-1 : Int32) < 0 := by decide
  by_cases a : w = 0
  · rw [if_pos a]
    by_cases b : p % 8 < 7
    · rw [if_pos b]; exact Or.inr ⟨p + 1, by omega, rfl⟩
    · rw [if_neg b]; exact Or.inl n1
  · rw [if_neg a]
    by_cases a1 : w = 1
    · rw [if_pos a1]
      by_cases b : 0 < p % 8
      · rw [if_pos b]; exact Or.inr ⟨p - 1, by omega, rfl⟩
      · rw [if_neg b]; exact Or.inl n1
    · rw [if_neg a1]
      by_cases a2 : w = 2
      · rw [if_pos a2]
        by_cases b : p + 8 < 48
        · rw [if_pos b]; exact Or.inr ⟨p + 8, by omega, rfl⟩
        · rw [if_neg b]; exact Or.inl n1
      · rw [if_neg a2]
        by_cases b : p < 8
        · left
          have e : (nI p - nI 8).toInt = (p : Int) - 8 := by
            rw [Int32.toInt_sub, nI_toInt (by omega), nI_toInt (by decide)]
            exact Int.bmod_eq_of_le (by omega) (by omega)
          rw [Int32.lt_iff_toInt_lt, e, show (0 : Int32).toInt = 0 from rfl]
          omega
        · exact Or.inr ⟨p - 8, by omega, pk_sub (by omega)⟩
