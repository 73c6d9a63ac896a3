/-- the reference's small numbers as the class's -/
theorem siz_abs (v : Int32) : sizV v = absV v := by
  unfold sizV absV
  by_cases h : v < 0
  · rw [if_pos h, if_neg (Int32.not_le.mpr h), Int32.zero_sub]
  · rw [if_neg h, if_pos (Int32.not_lt.mp h)]
theorem hld_held {v k : Int32} (hk : 0 ≤ k) : hldV v k = heldV v k := by
  have z0 : (nI 0).toInt = 0 := rfl
  have z1 : (0 : Int32).toInt = 0 := rfl
  rw [Int32.le_iff_toInt_le] at hk
  unfold hldV heldV
  by_cases h : v < 0
  · have h' := h
    rw [Int32.lt_iff_toInt_lt] at h'
    have e : minV k v = v := by
      by_cases c : v < k
      · exact if_pos c
      · exact absurd c (fun q => q (by rw [Int32.lt_iff_toInt_lt]; omega))
    rw [if_pos h, e]
    exact (if_neg (fun q => by rw [Int32.lt_iff_toInt_lt] at q; omega)).symm
  · rw [if_neg h]
    have h' := h
    rw [Int32.lt_iff_toInt_lt] at h'
    by_cases h1 : k < v
    · have e : minV k v = k := if_neg (fun q => by rw [Int32.lt_iff_toInt_lt] at *; omega)
      rw [if_pos h1, e]
      by_cases h2 : nI 0 < k
      · exact (if_pos h2).symm
      · refine Eq.trans (Int32.toInt_inj.mp ?_) (if_neg h2).symm
        rw [Int32.lt_iff_toInt_lt] at h2
        omega
    · rw [if_neg h1]
      have e : minV k v = v := by
        by_cases c : v < k
        · exact if_pos c
        · exact (if_neg c).trans (Int32.toInt_inj.mp (by rw [Int32.lt_iff_toInt_lt] at h1 c; omega))
      rw [e]
      by_cases h2 : nI 0 < v
      · exact (if_pos h2).symm
      · refine Eq.trans (Int32.toInt_inj.mp ?_) (if_neg h2).symm
        rw [Int32.lt_iff_toInt_lt] at h2
        omega
/-- how many groups are told -/
noncomputable def tgN (v : Int32) : Nat := by classical exact if okW v then nG (tN v) else 0
def tg0 (q : Nat) : Nat := if 99 < q then (if q / 100 < 6 ∧ q / 10 % 10 < 6 ∧ q % 10 < 6 ∧ q / 100 ≠ q / 10 % 10 ∧ q / 100 ≠ q % 10 ∧ q / 10 % 10 ≠ q % 10 then 3 else 0) else if 9 < q then (if q / 100 < 6 ∧ q / 10 % 10 < 6 ∧ q % 10 < 6 ∧ q / 10 % 10 ≠ q % 10 then 2 else 0) else (if q / 100 < 6 ∧ q / 10 % 10 < 6 ∧ q % 10 < 6 then 1 else 0)
theorem tgN_eq {q : Nat} (h : q ≤ 999) : tgN (nI q) = tg0 q := by
  have hv : vp_in (nI q) 1000 := vp_in_nI (by omega) (by decide)
  have hd : q / 10 / 10 % 10 = q / 100 := by omega
  have ho : okW (nI q) ↔ okG q := by
    unfold okW
    rw [tN_n (by omega)]
    exact ⟨fun z => z.2, fun z => ⟨hv, z⟩⟩
  unfold tgN tg0
  rw [tN_n (by omega)]
  by_cases a : 99 < q
  · rw [if_pos a]
    have e : okG q ↔ (q / 100 < 6 ∧ q / 10 % 10 < 6 ∧ q % 10 < 6 ∧ q / 100 ≠ q / 10 % 10 ∧ q / 100 ≠ q % 10 ∧ q / 10 % 10 ≠ q % 10) := by
      unfold okG
      rw [if_pos a, hd]
      omega
    by_cases b : q / 100 < 6 ∧ q / 10 % 10 < 6 ∧ q % 10 < 6 ∧ q / 100 ≠ q / 10 % 10 ∧ q / 100 ≠ q % 10 ∧ q / 10 % 10 ≠ q % 10
    · rw [if_pos b, if_pos (ho.mpr (e.mpr b))]
      exact if_pos a
    · rw [if_neg b, if_neg (fun z => b (e.mp (ho.mp z)))]
  · rw [if_neg a]
    by_cases c : 9 < q
    · rw [if_pos c]
      have e : okG q ↔ (q / 100 < 6 ∧ q / 10 % 10 < 6 ∧ q % 10 < 6 ∧ q / 10 % 10 ≠ q % 10) := by
        unfold okG
        rw [if_neg a, if_pos c]
        omega
      by_cases b : q / 100 < 6 ∧ q / 10 % 10 < 6 ∧ q % 10 < 6 ∧ q / 10 % 10 ≠ q % 10
      · rw [if_pos b, if_pos (ho.mpr (e.mpr b))]
        exact (if_neg a).trans (if_pos c)
      · rw [if_neg b, if_neg (fun z => b (e.mp (ho.mp z)))]
    · rw [if_neg c]
      have e : okG q ↔ (q / 100 < 6 ∧ q / 10 % 10 < 6 ∧ q % 10 < 6) := by
        unfold okG
        rw [if_neg a, if_neg c]
        omega
      by_cases b : q / 100 < 6 ∧ q / 10 % 10 < 6 ∧ q % 10 < 6
      · rw [if_pos b, if_pos (ho.mpr (e.mpr b))]
        exact (if_neg a).trans (if_neg c)
      · rw [if_neg b, if_neg (fun z => b (e.mp (ho.mp z)))]
theorem tgN_no {v : Int32} (h : ¬ (nI 0 ≤ v ∧ v ≤ nI 999)) : tgN v = 0 := by
  unfold tgN
  exact if_neg (fun z => h (w_in.mpr z.1))
theorem tgN_ok {v : Int32} (h : okW v) : tgN v = nG (tN v) := by
  unfold tgN
  exact if_pos h
theorem tgN_0 {v : Int32} : tgN v = 0 ↔ ¬ okW v := by
  unfold tgN
  by_cases h : okW v
  · rw [if_pos h]
    have := nG_3 (tN v)
    exact ⟨fun z => by omega, fun z => absurd h z⟩
  · rw [if_neg h]
    exact ⟨fun _ => h, fun _ => rfl⟩
set_option maxRecDepth 100000 in
set_option maxHeartbeats 400000 in
theorem m_toldGroups {x : jX} {m : jm} {d : Nat} (v : Int32) : Ct x (d + 1) eX8_toldGroups [.int v] m (jp (nI (tgN v)) m) := by
  refine J_start (by decide +kernel) (Nat.le_of_ble_eq_true rfl) (ls := [some (.int v), none, none, none, none]) rfl rfl ?_
  refine J_iload_n (pc := 0) dX8_toldGroups_0 rfl ?_
  refine J_i2l (pc := 1) dX8_toldGroups_1 ?_
  refine J_lconst (pc := 2) (v := 0) dX8_toldGroups_2 rfl ?_
  refine J_ldc2 (pc := 3) dX8_toldGroups_3 kg_X8_317 ?_
  refine K_callSp (pc := 6) (As := [_, _, _]) dX8_toldGroups_6 kl_X8_71 rfl rfl (Nat.le_of_ble_eq_true rfl) (m_in32 (v := v) (a := nI 0) (b := nI 999) (by decide) (by decide)) ?_
  refine Jb_ne (pc := 9) (tgt := 14) dX8_toldGroups_9 (by decide) (fun h9 => ?_) (fun h9 => ?_)
  · 
    obtain ⟨q, hq, hqe⟩ := w_of h9 (by decide)
    subst hqe
    have htg := tgN_eq hq
    unfold tg0 at htg
    refine J_iload_n (pc := 14) dX8_toldGroups_14 rfl ?_
    refine J_bipush (pc := 15) dX8_toldGroups_15 knb_100 ?_
    refine J_idiv (pc := 17) (v := nI (q / 100)) dX8_toldGroups_17 (by decide) (pk_div (by omega) (by omega) (by omega)) ?_
    refine J_istore_n (pc := 18) (ls' := [some _, some _, none, none, none]) dX8_toldGroups_18 rfl (Nat.le_of_ble_eq_true rfl) rfl ?_
    refine J_iload_n (pc := 19) dX8_toldGroups_19 rfl ?_
    refine J_bipush (pc := 20) dX8_toldGroups_20 knb_10 ?_
    refine J_idiv (pc := 22) (v := nI (q / 10)) dX8_toldGroups_22 (by decide) (pk_div (by omega) (by omega) (by omega)) ?_
    refine J_bipush (pc := 23) dX8_toldGroups_23 knb_10 ?_
    refine J_irem (pc := 25) (v := nI ((q / 10) % 10)) dX8_toldGroups_25 (by decide) (pk_rem (by omega) (by omega) (by omega)) ?_
    refine J_istore_n (pc := 26) (ls' := [some _, some _, some _, none, none]) dX8_toldGroups_26 rfl (Nat.le_of_ble_eq_true rfl) rfl ?_
    refine J_iload_n (pc := 27) dX8_toldGroups_27 rfl ?_
    refine J_bipush (pc := 28) dX8_toldGroups_28 knb_10 ?_
    refine J_irem (pc := 30) (v := nI (q % 10)) dX8_toldGroups_30 (by decide) (pk_rem (by omega) (by omega) (by omega)) ?_
    refine J_istore_n (pc := 31) (ls' := [some _, some _, some _, some _, none]) dX8_toldGroups_31 rfl (Nat.le_of_ble_eq_true rfl) rfl ?_
    refine J_iload_n (pc := 32) dX8_toldGroups_32 rfl ?_
    refine J_bipush (pc := 33) dX8_toldGroups_33 knb_6 ?_
    refine Jn_ge (pc := 35) (tgt := 54) dX8_toldGroups_35 (by decide) (by omega) (by omega) (fun h35 => ?_) (fun h35 => ?_)
    · 
      refine J_iconst (pc := 54) dX8_toldGroups_54 kni_0 ?_
      refine J_istore (pc := 55) (ls' := [some _, some _, some _, some _, some _]) dX8_toldGroups_55 rfl (Nat.le_of_ble_eq_true rfl) rfl ?_
      refine J_iload_n (pc := 57) dX8_toldGroups_57 rfl ?_
      refine J_bipush (pc := 58) dX8_toldGroups_58 knb_99 ?_
      refine Jn_le (pc := 60) (tgt := 89) dX8_toldGroups_60 (by decide) (by omega) (by omega) (fun h60 => ?_) (fun h60 => ?_)
      · 
        refine J_iload_n (pc := 89) dX8_toldGroups_89 rfl ?_
        refine J_bipush (pc := 90) dX8_toldGroups_90 knb_9 ?_
        refine Jn_le (pc := 92) (tgt := 113) dX8_toldGroups_92 (by decide) (by omega) (by omega) (fun h92 => ?_) (fun h92 => ?_)
        · 
          refine J_iload (pc := 113) dX8_toldGroups_113 rfl ?_
          refine Jn_if_eq (pc := 115) (tgt := 122) dX8_toldGroups_115 (by decide) (by omega) (fun h115 => ?_) (fun h115 => absurd h115 (by omega))
          refine J_iconst (pc := 122) dX8_toldGroups_122 kni_0 ?_
          refine K_iret (pc := 123) dX8_toldGroups_123 rfl ⟨_, rfl, ?_⟩
          refine ⟨congrArg nI ?_, rfl⟩
          rw [htg]
          rw [if_neg (by omega)]
          rw [if_neg (by omega)]
          exact (if_neg (by omega)).symm
        · 
          refine J_iload (pc := 95) dX8_toldGroups_95 rfl ?_
          refine Jn_if_eq (pc := 97) (tgt := 109) dX8_toldGroups_97 (by decide) (by omega) (fun h97 => ?_) (fun h97 => absurd h97 (by omega))
          refine J_iconst (pc := 109) dX8_toldGroups_109 kni_0 ?_
          refine J_goto (pc := 110) (tgt := 123) dX8_toldGroups_110 (by decide) ?_
          refine K_iret (pc := 123) dX8_toldGroups_123 rfl ⟨_, rfl, ?_⟩
          refine ⟨congrArg nI ?_, rfl⟩
          rw [htg]
          rw [if_neg (by omega)]
          rw [if_pos (by omega)]
          exact (if_neg (by omega)).symm
      · 
        refine J_iload (pc := 63) dX8_toldGroups_63 rfl ?_
        refine Jn_if_eq (pc := 65) (tgt := 87) dX8_toldGroups_65 (by decide) (by omega) (fun h65 => ?_) (fun h65 => absurd h65 (by omega))
        refine J_iconst (pc := 87) dX8_toldGroups_87 kni_0 ?_
        refine K_iret (pc := 88) dX8_toldGroups_88 rfl ⟨_, rfl, ?_⟩
        refine ⟨congrArg nI ?_, rfl⟩
        rw [htg]
        rw [if_pos h60]
        exact (if_neg (by omega)).symm
    · 
      refine J_iload_n (pc := 38) dX8_toldGroups_38 rfl ?_
      refine J_bipush (pc := 39) dX8_toldGroups_39 knb_6 ?_
      refine Jn_ge (pc := 41) (tgt := 54) dX8_toldGroups_41 (by decide) (by omega) (by omega) (fun h41 => ?_) (fun h41 => ?_)
      · 
        refine J_iconst (pc := 54) dX8_toldGroups_54 kni_0 ?_
        refine J_istore (pc := 55) (ls' := [some _, some _, some _, some _, some _]) dX8_toldGroups_55 rfl (Nat.le_of_ble_eq_true rfl) rfl ?_
        refine J_iload_n (pc := 57) dX8_toldGroups_57 rfl ?_
        refine J_bipush (pc := 58) dX8_toldGroups_58 knb_99 ?_
        refine Jn_le (pc := 60) (tgt := 89) dX8_toldGroups_60 (by decide) (by omega) (by omega) (fun h60 => ?_) (fun h60 => ?_)
        · 
          refine J_iload_n (pc := 89) dX8_toldGroups_89 rfl ?_
          refine J_bipush (pc := 90) dX8_toldGroups_90 knb_9 ?_
          refine Jn_le (pc := 92) (tgt := 113) dX8_toldGroups_92 (by decide) (by omega) (by omega) (fun h92 => ?_) (fun h92 => ?_)
          · 
            refine J_iload (pc := 113) dX8_toldGroups_113 rfl ?_
            refine Jn_if_eq (pc := 115) (tgt := 122) dX8_toldGroups_115 (by decide) (by omega) (fun h115 => ?_) (fun h115 => absurd h115 (by omega))
            refine J_iconst (pc := 122) dX8_toldGroups_122 kni_0 ?_
            refine K_iret (pc := 123) dX8_toldGroups_123 rfl ⟨_, rfl, ?_⟩
            refine ⟨congrArg nI ?_, rfl⟩
            rw [htg]
            rw [if_neg (by omega)]
            rw [if_neg (by omega)]
            exact (if_neg (by omega)).symm
          · 
            refine J_iload (pc := 95) dX8_toldGroups_95 rfl ?_
            refine Jn_if_eq (pc := 97) (tgt := 109) dX8_toldGroups_97 (by decide) (by omega) (fun h97 => ?_) (fun h97 => absurd h97 (by omega))
            refine J_iconst (pc := 109) dX8_toldGroups_109 kni_0 ?_
            refine J_goto (pc := 110) (tgt := 123) dX8_toldGroups_110 (by decide) ?_
            refine K_iret (pc := 123) dX8_toldGroups_123 rfl ⟨_, rfl, ?_⟩
            refine ⟨congrArg nI ?_, rfl⟩
            rw [htg]
            rw [if_neg (by omega)]
            rw [if_pos (by omega)]
            exact (if_neg (by omega)).symm
        · 
          refine J_iload (pc := 63) dX8_toldGroups_63 rfl ?_
          refine Jn_if_eq (pc := 65) (tgt := 87) dX8_toldGroups_65 (by decide) (by omega) (fun h65 => ?_) (fun h65 => absurd h65 (by omega))
          refine J_iconst (pc := 87) dX8_toldGroups_87 kni_0 ?_
          refine K_iret (pc := 88) dX8_toldGroups_88 rfl ⟨_, rfl, ?_⟩
          refine ⟨congrArg nI ?_, rfl⟩
          rw [htg]
          rw [if_pos h60]
          exact (if_neg (by omega)).symm
      · 
        refine J_iload_n (pc := 44) dX8_toldGroups_44 rfl ?_
        refine J_bipush (pc := 45) dX8_toldGroups_45 knb_6 ?_
        refine Jn_ge (pc := 47) (tgt := 54) dX8_toldGroups_47 (by decide) (by omega) (by omega) (fun h47 => ?_) (fun h47 => ?_)
        · 
          refine J_iconst (pc := 54) dX8_toldGroups_54 kni_0 ?_
          refine J_istore (pc := 55) (ls' := [some _, some _, some _, some _, some _]) dX8_toldGroups_55 rfl (Nat.le_of_ble_eq_true rfl) rfl ?_
          refine J_iload_n (pc := 57) dX8_toldGroups_57 rfl ?_
          refine J_bipush (pc := 58) dX8_toldGroups_58 knb_99 ?_
          refine Jn_le (pc := 60) (tgt := 89) dX8_toldGroups_60 (by decide) (by omega) (by omega) (fun h60 => ?_) (fun h60 => ?_)
          · 
            refine J_iload_n (pc := 89) dX8_toldGroups_89 rfl ?_
            refine J_bipush (pc := 90) dX8_toldGroups_90 knb_9 ?_
            refine Jn_le (pc := 92) (tgt := 113) dX8_toldGroups_92 (by decide) (by omega) (by omega) (fun h92 => ?_) (fun h92 => ?_)
            · 
              refine J_iload (pc := 113) dX8_toldGroups_113 rfl ?_
              refine Jn_if_eq (pc := 115) (tgt := 122) dX8_toldGroups_115 (by decide) (by omega) (fun h115 => ?_) (fun h115 => absurd h115 (by omega))
              refine J_iconst (pc := 122) dX8_toldGroups_122 kni_0 ?_
              refine K_iret (pc := 123) dX8_toldGroups_123 rfl ⟨_, rfl, ?_⟩
              refine ⟨congrArg nI ?_, rfl⟩
              rw [htg]
              rw [if_neg (by omega)]
              rw [if_neg (by omega)]
              exact (if_neg (by omega)).symm
            · 
              refine J_iload (pc := 95) dX8_toldGroups_95 rfl ?_
              refine Jn_if_eq (pc := 97) (tgt := 109) dX8_toldGroups_97 (by decide) (by omega) (fun h97 => ?_) (fun h97 => absurd h97 (by omega))
              refine J_iconst (pc := 109) dX8_toldGroups_109 kni_0 ?_
              refine J_goto (pc := 110) (tgt := 123) dX8_toldGroups_110 (by decide) ?_
              refine K_iret (pc := 123) dX8_toldGroups_123 rfl ⟨_, rfl, ?_⟩
              refine ⟨congrArg nI ?_, rfl⟩
              rw [htg]
              rw [if_neg (by omega)]
              rw [if_pos (by omega)]
              exact (if_neg (by omega)).symm
          · 
            refine J_iload (pc := 63) dX8_toldGroups_63 rfl ?_
            refine Jn_if_eq (pc := 65) (tgt := 87) dX8_toldGroups_65 (by decide) (by omega) (fun h65 => ?_) (fun h65 => absurd h65 (by omega))
            refine J_iconst (pc := 87) dX8_toldGroups_87 kni_0 ?_
            refine K_iret (pc := 88) dX8_toldGroups_88 rfl ⟨_, rfl, ?_⟩
            refine ⟨congrArg nI ?_, rfl⟩
            rw [htg]
            rw [if_pos h60]
            exact (if_neg (by omega)).symm
        · 
          refine J_iconst (pc := 50) dX8_toldGroups_50 kni_1 ?_
          refine J_goto (pc := 51) (tgt := 55) dX8_toldGroups_51 (by decide) ?_
          refine J_istore (pc := 55) (ls' := [some _, some _, some _, some _, some _]) dX8_toldGroups_55 rfl (Nat.le_of_ble_eq_true rfl) rfl ?_
          refine J_iload_n (pc := 57) dX8_toldGroups_57 rfl ?_
          refine J_bipush (pc := 58) dX8_toldGroups_58 knb_99 ?_
          refine Jn_le (pc := 60) (tgt := 89) dX8_toldGroups_60 (by decide) (by omega) (by omega) (fun h60 => ?_) (fun h60 => ?_)
          · 
            refine J_iload_n (pc := 89) dX8_toldGroups_89 rfl ?_
            refine J_bipush (pc := 90) dX8_toldGroups_90 knb_9 ?_
            refine Jn_le (pc := 92) (tgt := 113) dX8_toldGroups_92 (by decide) (by omega) (by omega) (fun h92 => ?_) (fun h92 => ?_)
            · 
              refine J_iload (pc := 113) dX8_toldGroups_113 rfl ?_
              refine Jn_if_eq (pc := 115) (tgt := 122) dX8_toldGroups_115 (by decide) (by omega) (fun h115 => absurd h115 (by omega)) (fun h115 => ?_)
              refine J_iconst (pc := 118) dX8_toldGroups_118 kni_1 ?_
              refine J_goto (pc := 119) (tgt := 123) dX8_toldGroups_119 (by decide) ?_
              refine K_iret (pc := 123) dX8_toldGroups_123 rfl ⟨_, rfl, ?_⟩
              refine ⟨congrArg nI ?_, rfl⟩
              rw [htg]
              rw [if_neg (by omega)]
              rw [if_neg (by omega)]
              exact (if_pos (by omega)).symm
            · 
              refine J_iload (pc := 95) dX8_toldGroups_95 rfl ?_
              refine Jn_if_eq (pc := 97) (tgt := 109) dX8_toldGroups_97 (by decide) (by omega) (fun h97 => absurd h97 (by omega)) (fun h97 => ?_)
              refine J_iload_n (pc := 100) dX8_toldGroups_100 rfl ?_
              refine J_iload_n (pc := 101) dX8_toldGroups_101 rfl ?_
              refine Jn_eq (pc := 102) (tgt := 109) dX8_toldGroups_102 (by decide) (by omega) (by omega) (fun h102 => ?_) (fun h102 => ?_)
              · 
                refine J_iconst (pc := 109) dX8_toldGroups_109 kni_0 ?_
                refine J_goto (pc := 110) (tgt := 123) dX8_toldGroups_110 (by decide) ?_
                refine K_iret (pc := 123) dX8_toldGroups_123 rfl ⟨_, rfl, ?_⟩
                refine ⟨congrArg nI ?_, rfl⟩
                rw [htg]
                rw [if_neg (by omega)]
                rw [if_pos (by omega)]
                exact (if_neg (by omega)).symm
              · 
                refine J_iconst (pc := 105) dX8_toldGroups_105 kni_2 ?_
                refine J_goto (pc := 106) (tgt := 123) dX8_toldGroups_106 (by decide) ?_
                refine K_iret (pc := 123) dX8_toldGroups_123 rfl ⟨_, rfl, ?_⟩
                refine ⟨congrArg nI ?_, rfl⟩
                rw [htg]
                rw [if_neg (by omega)]
                rw [if_pos (by omega)]
                exact (if_pos (by omega)).symm
          · 
            refine J_iload (pc := 63) dX8_toldGroups_63 rfl ?_
            refine Jn_if_eq (pc := 65) (tgt := 87) dX8_toldGroups_65 (by decide) (by omega) (fun h65 => absurd h65 (by omega)) (fun h65 => ?_)
            refine J_iload_n (pc := 68) dX8_toldGroups_68 rfl ?_
            refine J_iload_n (pc := 69) dX8_toldGroups_69 rfl ?_
            refine Jn_eq (pc := 70) (tgt := 87) dX8_toldGroups_70 (by decide) (by omega) (by omega) (fun h70 => ?_) (fun h70 => ?_)
            · 
              refine J_iconst (pc := 87) dX8_toldGroups_87 kni_0 ?_
              refine K_iret (pc := 88) dX8_toldGroups_88 rfl ⟨_, rfl, ?_⟩
              refine ⟨congrArg nI ?_, rfl⟩
              rw [htg]
              rw [if_pos h60]
              exact (if_neg (by omega)).symm
            · 
              refine J_iload_n (pc := 73) dX8_toldGroups_73 rfl ?_
              refine J_iload_n (pc := 74) dX8_toldGroups_74 rfl ?_
              refine Jn_eq (pc := 75) (tgt := 87) dX8_toldGroups_75 (by decide) (by omega) (by omega) (fun h75 => ?_) (fun h75 => ?_)
              · 
                refine J_iconst (pc := 87) dX8_toldGroups_87 kni_0 ?_
                refine K_iret (pc := 88) dX8_toldGroups_88 rfl ⟨_, rfl, ?_⟩
                refine ⟨congrArg nI ?_, rfl⟩
                rw [htg]
                rw [if_pos h60]
                exact (if_neg (by omega)).symm
              · 
                refine J_iload_n (pc := 78) dX8_toldGroups_78 rfl ?_
                refine J_iload_n (pc := 79) dX8_toldGroups_79 rfl ?_
                refine Jn_eq (pc := 80) (tgt := 87) dX8_toldGroups_80 (by decide) (by omega) (by omega) (fun h80 => ?_) (fun h80 => ?_)
                · 
                  refine J_iconst (pc := 87) dX8_toldGroups_87 kni_0 ?_
                  refine K_iret (pc := 88) dX8_toldGroups_88 rfl ⟨_, rfl, ?_⟩
                  refine ⟨congrArg nI ?_, rfl⟩
                  rw [htg]
                  rw [if_pos h60]
                  exact (if_neg (by omega)).symm
                · 
                  refine J_iconst (pc := 83) dX8_toldGroups_83 kni_3 ?_
                  refine J_goto (pc := 84) (tgt := 88) dX8_toldGroups_84 (by decide) ?_
                  refine K_iret (pc := 88) dX8_toldGroups_88 rfl ⟨_, rfl, ?_⟩
                  refine ⟨congrArg nI ?_, rfl⟩
                  rw [htg]
                  rw [if_pos h60]
                  exact (if_pos (by omega)).symm
  · 
    refine J_iconst (pc := 12) dX8_toldGroups_12 kni_0 ?_
    refine K_iret (pc := 13) dX8_toldGroups_13 rfl ⟨_, rfl, ?_⟩
    exact ⟨by rw [tgN_no h9], rfl⟩
