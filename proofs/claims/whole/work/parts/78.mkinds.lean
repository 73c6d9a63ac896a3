set_option maxRecDepth 100000 in
set_option maxHeartbeats 400000 in
theorem m_kindsOf {x : jX} {m : jm} {d : Nat} {P n : Nat} (hP : m 141 0 = nI P) (h48 : P ≤ 48) (hn : m 141 8 = nI n) (hn12 : n ≤ 12) (wo : Int32) : Ct x (d + 1) eX8_kindsOf [.ref (jxb x + 140), .int wo] m (jp (nI (unlR m wo n (min 29 P))) m) := by
  refine J_start (by decide +kernel) (Nat.le_of_ble_eq_true rfl) (ls := [some (.ref (jxb x + 140)), some (.int wo), none, none, none, none]) rfl rfl ?_
  refine J_iconst (pc := 0) dX8_kindsOf_0 kni_0 ?_
  refine J_istore_n (pc := 1) (ls' := [some _, some _, some _, none, none, none]) dX8_kindsOf_1 rfl (Nat.le_of_ble_eq_true rfl) rfl ?_
  refine J_iconst (pc := 2) dX8_kindsOf_2 kni_0 ?_
  refine J_istore_n (pc := 3) (ls' := [some _, some _, some _, some _, none, none]) dX8_kindsOf_3 rfl (Nat.le_of_ble_eq_true rfl) rfl ?_
  refine K_for' (pc := 4) ((min 29 P)) (fun p => [some (.ref (jxb x + 140)), some (.int wo), some (.int (nI (cnt (fun p => allB (frR m wo n p) p) p))), some (.int (nI p)), none, none]) (fun p => m) (by rfl) (by rfl) (fun p hp ih4 => ?_) ?_
  ·
    show K x _ _ 4 [some (.ref (jxb x + 140)), some (.int wo), some (.int (nI (cnt (fun p => allB (frR m wo n p) p) p))), some (.int (nI p)), none, none] _ m _
    have hcl := cnt_le (fun p => allB (frR m wo n p) p) p
    refine J_iload_n (pc := 4) dX8_kindsOf_4 rfl ?_
    refine J_bipush (pc := 5) dX8_kindsOf_5 knb_29 ?_
    refine J_aload_n (pc := 7) dX8_kindsOf_7 rfl ?_
    refine K_getR (pc := 8) dX8_kindsOf_8 kf_X8_7 job_140 jrf_140_0 ?_
    refine J_iconst (pc := 11) dX8_kindsOf_11 kni_0 ?_
    refine K_ialdn (pc := 12) (id := 141) dX8_kindsOf_12 jar_141 (by decide) (by decide) ?_
    refine J_top (b := nI P) (hP) ?_
    refine K_callSp (pc := 13) (As := [_, _]) dX8_kindsOf_13 kl_X8_100 rfl rfl (Nat.le_of_ble_eq_true rfl) (m_least (nI 29) (nI P)) ?_
    refine J_top (b := nI ((min 29 P))) ((lst_min _ _).trans (minV_n (by decide) (by omega))) ?_
    refine Jn_ge (pc := 16) (tgt := 84) dX8_kindsOf_16 (by decide) (by omega) (by omega) (fun h16 => absurd h16 (by omega)) (fun h16 => ?_)
    refine J_iconst (pc := 19) dX8_kindsOf_19 kni_1 ?_
    refine J_istore (pc := 20) (ls' := [some _, some _, some _, some _, some _, none]) dX8_kindsOf_20 rfl (Nat.le_of_ble_eq_true rfl) rfl ?_
    refine J_iconst (pc := 22) dX8_kindsOf_22 kni_0 ?_
    refine J_istore (pc := 23) (ls' := [some _, some _, some _, some _, some _, some _]) dX8_kindsOf_23 rfl (Nat.le_of_ble_eq_true rfl) rfl ?_
    refine K_for' (pc := 25) p (fun q => [some (.ref (jxb x + 140)), some (.int wo), some (.int (nI (cnt (fun p => allB (frR m wo n p) p) p))), some (.int (nI p)), some (.int (jb (allB (frR m wo n p) q = true))), some (.int (nI q))]) (fun q => m) (by rfl) (by rfl) (fun q hq ih25 => ?_) ?_
    ·
      show K x _ _ 25 [some (.ref (jxb x + 140)), some (.int wo), some (.int (nI (cnt (fun p => allB (frR m wo n p) p) p))), some (.int (nI p)), some (.int (jb (allB (frR m wo n p) q = true))), some (.int (nI q))] _ m _
      refine J_iload (pc := 25) dX8_kindsOf_25 rfl ?_
      refine J_iload_n (pc := 27) dX8_kindsOf_27 rfl ?_
      refine Jn_ge (pc := 28) (tgt := 65) dX8_kindsOf_28 (by decide) (by omega) (by omega) (fun h28 => absurd h28 (by omega)) (fun h28 => ?_)
      refine J_iload (pc := 31) dX8_kindsOf_31 rfl ?_
      refine K_merge (jc := 57) (ls' := [some (.ref (jxb x + 140)), some (.int wo), some (.int (nI (cnt (fun p => allB (frR m wo n p) p) p))), some (.int (nI p)), some (.int (jb (allB (frR m wo n p) q = true))), some (.int (nI q))]) (st' := [.int (jb (allB (frR m wo n p) (q + 1) = true))]) (m' := m) ?_ (fun hj57 => ?_)
      ·
        refine J_istore (pc := 57) (ls' := [some _, some _, some _, some _, some _, some _]) dX8_kindsOf_57 rfl (Nat.le_of_ble_eq_true rfl) rfl ?_
        refine Jn_iinc (pc := 59) (ls' := [some _, some _, some _, some _, some _, some _]) dX8_kindsOf_59 rfl knz_1 rfl rfl ?_
        refine J_goto (pc := 62) (tgt := 25) dX8_kindsOf_62 (by decide) ?_
        exact ih25
      ·
        refine Jb_eq (pc := 33) (tgt := 56) dX8_kindsOf_33 (by decide) (fun h33 => ?_) (fun h33 => ?_)
        · 
          refine J_iconst (pc := 56) dX8_kindsOf_56 kni_0 ?_
          have e57 : jb (allB (frR m wo n p) (q + 1) = true) = nI 0 := allB_f (fun z => h33 z.1)
          rw [e57] at hj57
          exact hj57
        · 
          refine J_aload_n (pc := 36) dX8_kindsOf_36 rfl ?_
          refine J_iload (pc := 37) dX8_kindsOf_37 rfl ?_
          refine J_iload_n (pc := 39) dX8_kindsOf_39 rfl ?_
          refine K_callVp (pc := 40) (id := 140) (As := [_, _]) dX8_kindsOf_40 kl_X8_360 rfl job_140 rfl rfl (Nat.le_of_ble_eq_true rfl) (m_rowsOf hn hn12 q wo) ?_
          refine J_aload_n (pc := 43) dX8_kindsOf_43 rfl ?_
          refine J_iload_n (pc := 44) dX8_kindsOf_44 rfl ?_
          refine J_iload_n (pc := 45) dX8_kindsOf_45 rfl ?_
          refine K_callVp (pc := 46) (id := 140) (As := [_, _]) dX8_kindsOf_46 kl_X8_360 rfl job_140 rfl rfl (Nat.le_of_ble_eq_true rfl) (m_rowsOf hn hn12 p wo) ?_
          refine J_icmp_eq (pc := 49) (tgt := 56) dX8_kindsOf_49 (by decide) (fun h49 => ?_) (fun h49 => ?_)
          · 
            refine J_iconst (pc := 56) dX8_kindsOf_56 kni_0 ?_
            have e57 : jb (allB (frR m wo n p) (q + 1) = true) = nI 0 := allB_f (fun z => of_decide_eq_true z.2 h49)
            rw [e57] at hj57
            exact hj57
          · 
            refine J_iconst (pc := 52) dX8_kindsOf_52 kni_1 ?_
            refine J_goto (pc := 53) (tgt := 57) dX8_kindsOf_53 (by decide) ?_
            have e57 : jb (allB (frR m wo n p) (q + 1) = true) = nI 1 := allB_t h33 (decide_eq_true h49)
            rw [e57] at hj57
            exact hj57
    ·
      show K x _ _ 25 [some (.ref (jxb x + 140)), some (.int wo), some (.int (nI (cnt (fun p => allB (frR m wo n p) p) p))), some (.int (nI p)), some (.int (jb (allB (frR m wo n p) p = true))), some (.int (nI p))] _ m _
      refine J_iload (pc := 25) dX8_kindsOf_25 rfl ?_
      refine J_iload_n (pc := 27) dX8_kindsOf_27 rfl ?_
      refine Jn_ge (pc := 28) (tgt := 65) dX8_kindsOf_28 (by decide) (by omega) (by omega) (fun h28 => ?_) (fun h28 => absurd h28 (by omega))
      refine J_iload_n (pc := 65) dX8_kindsOf_65 rfl ?_
      refine J_iload (pc := 66) dX8_kindsOf_66 rfl ?_
      refine Jb_eq (pc := 68) (tgt := 75) dX8_kindsOf_68 (by decide) (fun h68 => ?_) (fun h68 => ?_)
      · 
        refine J_iconst (pc := 75) dX8_kindsOf_75 kni_0 ?_
        refine J_iaddv (pc := 76) dX8_kindsOf_76 (nI_add _ _) ?_
        refine J_istore_n (pc := 77) (ls' := [some _, some _, some _, some _, some _, some _]) dX8_kindsOf_77 rfl (Nat.le_of_ble_eq_true rfl) rfl ?_
        refine Jn_iinc (pc := 78) (ls' := [some _, some _, some _, some _, some _, some _]) dX8_kindsOf_78 rfl knz_1 rfl rfl ?_
        refine J_goto (pc := 81) (tgt := 4) dX8_kindsOf_81 (by decide) ?_
        have ec : cnt (fun p => allB (frR m wo n p) p) (p + 1) = cnt (fun p => allB (frR m wo n p) p) p + 0 := cnt_f (c := fun p => allB (frR m wo n p) p) h68
        rw [ec] at ih4
        refine J_wk' ih4 rfl ?_
        rintro (_ | _ | _ | _ | _ | _ | _ | _ | _ | _ | k) v hv <;> first | exact hv | cases hv
      · 
        refine J_iconst (pc := 71) dX8_kindsOf_71 kni_1 ?_
        refine J_goto (pc := 72) (tgt := 76) dX8_kindsOf_72 (by decide) ?_
        refine J_iaddv (pc := 76) dX8_kindsOf_76 (nI_add _ _) ?_
        refine J_istore_n (pc := 77) (ls' := [some _, some _, some _, some _, some _, some _]) dX8_kindsOf_77 rfl (Nat.le_of_ble_eq_true rfl) rfl ?_
        refine Jn_iinc (pc := 78) (ls' := [some _, some _, some _, some _, some _, some _]) dX8_kindsOf_78 rfl knz_1 rfl rfl ?_
        refine J_goto (pc := 81) (tgt := 4) dX8_kindsOf_81 (by decide) ?_
        have ec : cnt (fun p => allB (frR m wo n p) p) (p + 1) = cnt (fun p => allB (frR m wo n p) p) p + 1 := cnt_t (c := fun p => allB (frR m wo n p) p) h68
        rw [ec] at ih4
        refine J_wk' ih4 rfl ?_
        rintro (_ | _ | _ | _ | _ | _ | _ | _ | _ | _ | k) v hv <;> first | exact hv | cases hv
  ·
    show K x _ _ 4 [some (.ref (jxb x + 140)), some (.int wo), some (.int (nI (cnt (fun p => allB (frR m wo n p) p) ((min 29 P))))), some (.int (nI ((min 29 P)))), none, none] _ m _
    refine J_iload_n (pc := 4) dX8_kindsOf_4 rfl ?_
    refine J_bipush (pc := 5) dX8_kindsOf_5 knb_29 ?_
    refine J_aload_n (pc := 7) dX8_kindsOf_7 rfl ?_
    refine K_getR (pc := 8) dX8_kindsOf_8 kf_X8_7 job_140 jrf_140_0 ?_
    refine J_iconst (pc := 11) dX8_kindsOf_11 kni_0 ?_
    refine K_ialdn (pc := 12) (id := 141) dX8_kindsOf_12 jar_141 (by decide) (by decide) ?_
    refine J_top (b := nI P) (hP) ?_
    refine K_callSp (pc := 13) (As := [_, _]) dX8_kindsOf_13 kl_X8_100 rfl rfl (Nat.le_of_ble_eq_true rfl) (m_least (nI 29) (nI P)) ?_
    refine J_top (b := nI ((min 29 P))) ((lst_min _ _).trans (minV_n (by decide) (by omega))) ?_
    refine Jn_ge (pc := 16) (tgt := 84) dX8_kindsOf_16 (by decide) (by omega) (by omega) (fun h16 => ?_) (fun h16 => absurd h16 (by omega))
    refine J_iload_n (pc := 84) dX8_kindsOf_84 rfl ?_
    refine K_iret (pc := 85) dX8_kindsOf_85 rfl ⟨_, rfl, ?_⟩
    exact ⟨rfl, rfl⟩
def R_kinds (m : jm) (w : Int32) : Int32 × jm := if ¬ (-1 ≤ w ∧ w ≤ m 141 8 - nI 1) then (-1000000001, m) else (nI (unlR m w (tN (m 141 8)) (min 29 (tN (m 141 0)))), m)
/-- the row that parts most, below w; -1 -/
def prtR (m : jm) (P n : Nat) : Nat → Int32 × Nat
  | 0 => (-1, 0)
  | w + 1 => if (prtR m P n w).1 < 0 ∨ unlR m (nI w) n (min 29 P) < (prtR m P n w).2 then (nI w, unlR m (nI w) n (min 29 P)) else prtR m P n w
theorem unlR_29 (m : jm) (P n : Nat) (w : Int32) : unlR m w n (min 29 P) ≤ 29 := Nat.le_trans (cnt_le _ _) (Nat.min_le_left _ _)
theorem prtR_29 (m : jm) (P n : Nat) : ∀ w, (prtR m P n w).2 ≤ 29
  | 0 => Nat.zero_le _
  | w + 1 => by
    rw [prtR]
    by_cases h : (prtR m P n w).1 < 0 ∨ unlR m (nI w) n (min 29 P) < (prtR m P n w).2
    · rw [if_pos h]; exact unlR_29 m P n (nI w)
    · rw [if_neg h]; exact prtR_29 m P n w
set_option maxRecDepth 100000 in
set_option maxHeartbeats 400000 in
theorem m_kinds {x : jX} {m : jm} {d : Nat} (w : Int32) {P n : Nat} (hP : m 141 0 = nI P) (h48 : P ≤ 48) (hn : m 141 8 = nI n) (hn12 : n ≤ 12) : Ct x (d + 2) eX8_kinds [.ref (jxb x + 140), .int w] m (ji fun rv m' => (rv, m') = R_kinds m w) := by
  refine J_start (by decide +kernel) (Nat.le_of_ble_eq_true rfl) (ls := [some (.ref (jxb x + 140)), some (.int w)]) rfl rfl ?_
  have htP : tN (m 141 0) = P := by rw [hP]; exact tN_n (by omega)
  have htn : tN (m 141 8) = n := by rw [hn]; exact tN_n (by omega)
  refine J_iload_n (pc := 0) dX8_kinds_0 rfl ?_
  refine J_i2l (pc := 1) dX8_kinds_1 ?_
  refine J_ldc2 (pc := 2) dX8_kinds_2 kg_X8_163 ?_
  refine J_aload_n (pc := 5) dX8_kinds_5 rfl ?_
  refine K_getR (pc := 6) dX8_kinds_6 kf_X8_7 job_140 jrf_140_0 ?_
  refine J_bipush (pc := 9) dX8_kinds_9 knb_8 ?_
  refine K_ialdn (pc := 11) (id := 141) dX8_kinds_11 jar_141 (by omega) (by decide) ?_
  refine J_iconst (pc := 12) dX8_kinds_12 kni_1 ?_
  refine J_isub (pc := 13) dX8_kinds_13 ?_
  refine J_i2l (pc := 14) dX8_kinds_14 ?_
  refine K_callSp (pc := 15) (As := [_, _, _]) dX8_kinds_15 kl_X8_71 rfl rfl (Nat.le_of_ble_eq_true rfl) (m_in32 (v := w) (a := -1) (b := m 141 8 - nI 1) (by decide) rfl) ?_
  refine Jb_eq (pc := 18) (tgt := 29) dX8_kinds_18 (by decide) (fun h18 => ?_) (fun h18 => ?_)
  · 
    refine J_ldc (pc := 29) dX8_kinds_29 kc_X8_91 ?_
    refine K_iret (pc := 31) dX8_kinds_31 rfl ⟨_, rfl, ?_⟩
    show (_, _) = _
    unfold R_kinds
    try rw [htP, htn]
    try first | rw [if_pos h18] | rw [if_neg h18] | rw [if_neg (Classical.not_not.mpr h18)]
    try rfl
  · 
    refine J_aload_n (pc := 21) dX8_kinds_21 rfl ?_
    refine J_iload_n (pc := 22) dX8_kinds_22 rfl ?_
    refine K_callVp (pc := 23) (id := 140) (As := [_]) dX8_kinds_23 kl_X8_363 rfl job_140 rfl rfl (Nat.le_of_ble_eq_true rfl) (m_kindsOf hP h48 hn hn12 w) ?_
    refine J_goto (pc := 26) (tgt := 31) dX8_kinds_26 (by decide) ?_
    refine K_iret (pc := 31) dX8_kinds_31 rfl ⟨_, rfl, ?_⟩
    show (_, _) = _
    unfold R_kinds
    try rw [htP, htn]
    try first | rw [if_pos h18] | rw [if_neg h18] | rw [if_neg (Classical.not_not.mpr h18)]
    try rfl
set_option maxRecDepth 100000 in
set_option maxHeartbeats 400000 in
theorem m_parts {x : jX} {m : jm} {d : Nat} {P n : Nat} (hP : m 141 0 = nI P) (h48 : P ≤ 48) (hn : m 141 8 = nI n) (hn12 : n ≤ 12) : Ct x (d + 2) eX8_parts [.ref (jxb x + 140)] m (jp (orN (prtR m P n n).1) m) := by
  refine J_start (by decide +kernel) (Nat.le_of_ble_eq_true rfl) (ls := [some (.ref (jxb x + 140)), none, none, none, none]) rfl rfl ?_
  refine J_iconst (pc := 0) dX8_parts_0 kni_m1 ?_
  refine J_istore_n (pc := 1) (ls' := [some _, some _, none, none, none]) dX8_parts_1 rfl (Nat.le_of_ble_eq_true rfl) rfl ?_
  refine J_iconst (pc := 2) dX8_parts_2 kni_0 ?_
  refine J_istore_n (pc := 3) (ls' := [some _, some _, some _, none, none]) dX8_parts_3 rfl (Nat.le_of_ble_eq_true rfl) rfl ?_
  refine J_iconst (pc := 4) dX8_parts_4 kni_0 ?_
  refine J_istore_n (pc := 5) (ls' := [some _, some _, some _, some _, none]) dX8_parts_5 rfl (Nat.le_of_ble_eq_true rfl) rfl ?_
  refine K_for' (pc := 6) n (fun w => [some (.ref (jxb x + 140)), some (.int ((prtR m P n w).1)), some (.int (nI ((prtR m P n w).2))), some (.int (nI w)), none]) (fun w => m) (by rfl) (by rfl) (fun w hw ih6 => ?_) ?_
  ·
    show K x _ _ 6 [some (.ref (jxb x + 140)), some (.int ((prtR m P n w).1)), some (.int (nI ((prtR m P n w).2))), some (.int (nI w)), none] _ m _
    have hu29 := unlR_29 m P n (nI w)
    have hp30 := prtR_29 m P n w
    refine J_iload_n (pc := 6) dX8_parts_6 rfl ?_
    refine J_aload_n (pc := 7) dX8_parts_7 rfl ?_
    refine K_getR (pc := 8) dX8_parts_8 kf_X8_7 job_140 jrf_140_0 ?_
    refine J_bipush (pc := 11) dX8_parts_11 knb_8 ?_
    refine K_ialdn (pc := 13) (id := 141) dX8_parts_13 jar_141 (by decide) (by decide) ?_
    refine J_top (b := nI n) (hn) ?_
    refine Jn_ge (pc := 14) (tgt := 45) dX8_parts_14 (by decide) (by omega) (by omega) (fun h14 => absurd h14 (by omega)) (fun h14 => ?_)
    refine J_aload_n (pc := 17) dX8_parts_17 rfl ?_
    refine J_iload_n (pc := 18) dX8_parts_18 rfl ?_
    refine K_callVp (pc := 19) (id := 140) (As := [_]) dX8_parts_19 kl_X8_363 rfl job_140 rfl rfl (Nat.le_of_ble_eq_true rfl) (m_kindsOf hP h48 hn hn12 (nI w)) ?_
    refine J_istore (pc := 22) (ls' := [some _, some _, some _, some _, some _]) dX8_parts_22 rfl (Nat.le_of_ble_eq_true rfl) rfl ?_
    refine J_iload_n (pc := 24) dX8_parts_24 rfl ?_
    refine J_if_lt (pc := 25) (tgt := 34) dX8_parts_25 (by decide) (fun h25 => ?_) (fun h25 => ?_)
    · 
      refine J_iload_n (pc := 34) dX8_parts_34 rfl ?_
      refine J_istore_n (pc := 35) (ls' := [some _, some _, some _, some _, some _]) dX8_parts_35 rfl (Nat.le_of_ble_eq_true rfl) rfl ?_
      refine J_iload (pc := 36) dX8_parts_36 rfl ?_
      refine J_istore_n (pc := 38) (ls' := [some _, some _, some _, some _, some _]) dX8_parts_38 rfl (Nat.le_of_ble_eq_true rfl) rfl ?_
      refine Jn_iinc (pc := 39) (ls' := [some _, some _, some _, some _, some _]) dX8_parts_39 rfl knz_1 rfl rfl ?_
      refine J_goto (pc := 42) (tgt := 6) dX8_parts_42 (by decide) ?_
      have ep : prtR m P n (w + 1) = (nI w, unlR m (nI w) n (min 29 P)) := by rw [prtR]; exact if_pos (Or.inl h25)
      rw [ep] at ih6
      refine J_wk' ih6 rfl ?_
      rintro (_ | _ | _ | _ | _ | _ | _ | _ | _ | _ | k) v hv <;> first | exact hv | cases hv
    · 
      refine J_iload (pc := 28) dX8_parts_28 rfl ?_
      refine J_iload_n (pc := 30) dX8_parts_30 rfl ?_
      refine Jn_ge (pc := 31) (tgt := 39) dX8_parts_31 (by decide) (by omega) (by omega) (fun h31 => ?_) (fun h31 => ?_)
      · 
        refine Jn_iinc (pc := 39) (ls' := [some _, some _, some _, some _, some _]) dX8_parts_39 rfl knz_1 rfl rfl ?_
        refine J_goto (pc := 42) (tgt := 6) dX8_parts_42 (by decide) ?_
        have ep : prtR m P n (w + 1) = prtR m P n w := by rw [prtR]; exact if_neg (fun q => q.elim h25 (fun r => absurd r (Nat.not_lt.mpr h31)))
        rw [ep] at ih6
        refine J_wk' ih6 rfl ?_
        rintro (_ | _ | _ | _ | _ | _ | _ | _ | _ | _ | k) v hv <;> first | exact hv | cases hv
      · 
        refine J_iload_n (pc := 34) dX8_parts_34 rfl ?_
        refine J_istore_n (pc := 35) (ls' := [some _, some _, some _, some _, some _]) dX8_parts_35 rfl (Nat.le_of_ble_eq_true rfl) rfl ?_
        refine J_iload (pc := 36) dX8_parts_36 rfl ?_
        refine J_istore_n (pc := 38) (ls' := [some _, some _, some _, some _, some _]) dX8_parts_38 rfl (Nat.le_of_ble_eq_true rfl) rfl ?_
        refine Jn_iinc (pc := 39) (ls' := [some _, some _, some _, some _, some _]) dX8_parts_39 rfl knz_1 rfl rfl ?_
        refine J_goto (pc := 42) (tgt := 6) dX8_parts_42 (by decide) ?_
        have ep : prtR m P n (w + 1) = (nI w, unlR m (nI w) n (min 29 P)) := by rw [prtR]; exact if_pos (Or.inr h31)
        rw [ep] at ih6
        refine J_wk' ih6 rfl ?_
        rintro (_ | _ | _ | _ | _ | _ | _ | _ | _ | _ | k) v hv <;> first | exact hv | cases hv
  ·
    show K x _ _ 6 [some (.ref (jxb x + 140)), some (.int ((prtR m P n n).1)), some (.int (nI ((prtR m P n n).2))), some (.int (nI n)), none] _ m _
    refine J_iload_n (pc := 6) dX8_parts_6 rfl ?_
    refine J_aload_n (pc := 7) dX8_parts_7 rfl ?_
    refine K_getR (pc := 8) dX8_parts_8 kf_X8_7 job_140 jrf_140_0 ?_
    refine J_bipush (pc := 11) dX8_parts_11 knb_8 ?_
    refine K_ialdn (pc := 13) (id := 141) dX8_parts_13 jar_141 (by decide) (by decide) ?_
    refine J_top (b := nI n) (hn) ?_
    refine Jn_ge (pc := 14) (tgt := 45) dX8_parts_14 (by decide) (by omega) (by omega) (fun h14 => ?_) (fun h14 => absurd h14 (by omega))
    refine J_iload_n (pc := 45) dX8_parts_45 rfl ?_
    refine K_callSp (pc := 46) (As := [_]) dX8_parts_46 kl_X8_133 rfl rfl (Nat.le_of_ble_eq_true rfl) (m_orNone _) ?_
    refine K_iret (pc := 49) dX8_parts_49 rfl ⟨_, rfl, ?_⟩
    exact ⟨rfl, rfl⟩
def R_back (m : jm) : Int32 × jm := if m 140 3 = 0 then (-1000000002, m) else (m 142 1, mup (mfill m 141 3450 (m 142)) 140 33 (nI 0))
def R_count (m : jm) (w : Int32) : Int32 × jm :=
  if w = nI 0 then (m 141 0, m) else if w = nI 1 ∨ w = nI 2 ∨ w = nI 3 ∨ w = nI 4 ∨ w = nI 5 then (nI (cnt (kdR m w) (tN (m 141 0))), m) else if w = nI 6 then (sumV (szR m) (tN (m 141 0)), m) else if w = nI 7 then (m 141 6, m) else if w = nI 8 then (m 141 7, m) else if w = nI 9 then (m 141 8, m) else if w = nI 10 then (nI (cnt (lnR m) 24), m) else if w = nI 11 then (m 140 35, m) else if w = nI 12 then (m 140 11, m) else if w = nI 13 then (m 141 1, m) else (-1000000001, m)
set_option maxRecDepth 100000 in
set_option maxHeartbeats 400000 in
theorem m_back {x : jX} {m : jm} {d : Nat}  : Ct x (d + 1) eX8_back [.ref (jxb x + 140)] m (ji fun rv m' => (rv, m') = R_back m) := by
  refine J_start (by decide +kernel) (Nat.le_of_ble_eq_true rfl) (ls := [some (.ref (jxb x + 140))]) rfl rfl ?_
  refine J_aload_n (pc := 0) dX8_back_0 rfl ?_
  refine K_getI (pc := 1) dX8_back_1 kf_X8_371 job_140 jrf_140_3 ?_
  refine J_if_ne (pc := 4) (tgt := 10) dX8_back_4 (by decide) (fun h4 => ?_) (fun h4 => ?_)
  · 
    refine J_aload_n (pc := 10) dX8_back_10 rfl ?_
    refine J_aload_n (pc := 11) dX8_back_11 rfl ?_
    refine K_getR (pc := 12) dX8_back_12 kf_X8_13 job_140 jrf_140_1 ?_
    refine J_aload_n (pc := 15) dX8_back_15 rfl ?_
    refine K_getR (pc := 16) dX8_back_16 kf_X8_7 job_140 jrf_140_0 ?_
    refine K_callVv (pc := 19) (id := 140) (As := [_, _]) dX8_back_19 kl_X8_151 rfl job_140 rfl rfl (Nat.le_of_ble_eq_true rfl) (m_setAside (m := m) (ar := 142) (ar2 := 141) (nn := 3450) jar_142 jar_141 rfl (by decide)) (fun m19 h19 => ?_)
    subst h19
    refine J_aload_n (pc := 22) dX8_back_22 rfl ?_
    refine J_iconst (pc := 23) dX8_back_23 kni_0 ?_
    refine K_put (pc := 24) dX8_back_24 kp_X8_67 job_140 jrf_140_33 rfl rfl ?_
    refine J_aload_n (pc := 27) dX8_back_27 rfl ?_
    refine K_getR (pc := 28) dX8_back_28 kf_X8_7 job_140 jrf_140_0 ?_
    refine J_iconst (pc := 31) dX8_back_31 kni_1 ?_
    refine K_ialdn (pc := 32) (id := 141) dX8_back_32 jar_141 (by decide) (by decide) ?_
    refine J_top (b := (m 142 1)) ((mup_i (by decide)).trans (mfill_lt (by decide))) ?_
    refine K_iret (pc := 33) dX8_back_33 rfl ⟨_, rfl, ?_⟩
    show (_, _) = _
    unfold R_back
    try first | rw [if_pos h4] | rw [if_neg h4] | rw [if_neg (Classical.not_not.mpr h4)]
    try rfl
  · 
    refine J_ldc (pc := 7) dX8_back_7 kc_X8_95 ?_
    refine K_iret (pc := 9) dX8_back_9 rfl ⟨_, rfl, ?_⟩
    show (_, _) = _
    unfold R_back
    try first | rw [if_pos h4] | rw [if_neg h4] | rw [if_neg (Classical.not_not.mpr h4)]
    try rfl
set_option maxRecDepth 100000 in
set_option maxHeartbeats 400000 in
theorem m_count {x : jX} {m : jm} {d : Nat} (w : Int32) {P : Nat} (hP : m 141 0 = nI P) (h48 : P ≤ 48) : Ct x (d + 2) eX8_count [.ref (jxb x + 140), .int w] m (ji fun rv m' => (rv, m') = R_count m w) := by
  refine J_start (by decide +kernel) (Nat.le_of_ble_eq_true rfl) (ls := [some (.ref (jxb x + 140)), some (.int w)]) rfl rfl ?_
  have htP : tN (m 141 0) = P := by rw [hP]; exact tN_n (by omega)
  refine J_iload_n (pc := 0) dX8_count_0 rfl ?_
  by_cases c1_0 : w = nI 0
  ·
    refine J_tsIn (pc := 1) (tgt := 72) (off := 71) dX8_count_1 (by rw [c1_0]; decide) (by rw [c1_0]; decide) (by rw [c1_0]; rfl) (by decide) ?_
    refine J_aload_n (pc := 72) dX8_count_72 rfl ?_
    refine K_getR (pc := 73) dX8_count_73 kf_X8_7 job_140 jrf_140_0 ?_
    refine J_iconst (pc := 76) dX8_count_76 kni_0 ?_
    refine K_ialdn (pc := 77) (id := 141) dX8_count_77 jar_141 (by decide) (by decide) ?_
    refine K_iret (pc := 78) dX8_count_78 rfl ⟨_, rfl, ?_⟩
    show (_, _) = _
    unfold R_count
    rw [if_pos c1_0]
  by_cases c1_1 : w = nI 1
  ·
    refine J_tsIn (pc := 1) (tgt := 79) (off := 78) dX8_count_1 (by rw [c1_1]; decide) (by rw [c1_1]; decide) (by rw [c1_1]; rfl) (by decide) ?_
    refine J_aload_n (pc := 79) dX8_count_79 rfl ?_
    refine J_iload_n (pc := 80) dX8_count_80 rfl ?_
    refine K_callVp (pc := 81) (id := 140) (As := [_]) dX8_count_81 kl_X8_377 rfl job_140 rfl rfl (Nat.le_of_ble_eq_true rfl) (m_partsOf hP h48 w) ?_
    refine K_iret (pc := 84) dX8_count_84 rfl ⟨_, rfl, ?_⟩
    show (_, _) = _
    unfold R_count
    rw [if_neg c1_0, if_pos (Or.inl c1_1), htP]
  by_cases c1_2 : w = nI 2
  ·
    refine J_tsIn (pc := 1) (tgt := 79) (off := 78) dX8_count_1 (by rw [c1_2]; decide) (by rw [c1_2]; decide) (by rw [c1_2]; rfl) (by decide) ?_
    refine J_aload_n (pc := 79) dX8_count_79 rfl ?_
    refine J_iload_n (pc := 80) dX8_count_80 rfl ?_
    refine K_callVp (pc := 81) (id := 140) (As := [_]) dX8_count_81 kl_X8_377 rfl job_140 rfl rfl (Nat.le_of_ble_eq_true rfl) (m_partsOf hP h48 w) ?_
    refine K_iret (pc := 84) dX8_count_84 rfl ⟨_, rfl, ?_⟩
    show (_, _) = _
    unfold R_count
    rw [if_neg c1_0, if_pos (Or.inr (Or.inl c1_2)), htP]
  by_cases c1_3 : w = nI 3
  ·
    refine J_tsIn (pc := 1) (tgt := 79) (off := 78) dX8_count_1 (by rw [c1_3]; decide) (by rw [c1_3]; decide) (by rw [c1_3]; rfl) (by decide) ?_
    refine J_aload_n (pc := 79) dX8_count_79 rfl ?_
    refine J_iload_n (pc := 80) dX8_count_80 rfl ?_
    refine K_callVp (pc := 81) (id := 140) (As := [_]) dX8_count_81 kl_X8_377 rfl job_140 rfl rfl (Nat.le_of_ble_eq_true rfl) (m_partsOf hP h48 w) ?_
    refine K_iret (pc := 84) dX8_count_84 rfl ⟨_, rfl, ?_⟩
    show (_, _) = _
    unfold R_count
    rw [if_neg c1_0, if_pos (Or.inr (Or.inr (Or.inl c1_3))), htP]
  by_cases c1_4 : w = nI 4
  ·
    refine J_tsIn (pc := 1) (tgt := 79) (off := 78) dX8_count_1 (by rw [c1_4]; decide) (by rw [c1_4]; decide) (by rw [c1_4]; rfl) (by decide) ?_
    refine J_aload_n (pc := 79) dX8_count_79 rfl ?_
    refine J_iload_n (pc := 80) dX8_count_80 rfl ?_
    refine K_callVp (pc := 81) (id := 140) (As := [_]) dX8_count_81 kl_X8_377 rfl job_140 rfl rfl (Nat.le_of_ble_eq_true rfl) (m_partsOf hP h48 w) ?_
    refine K_iret (pc := 84) dX8_count_84 rfl ⟨_, rfl, ?_⟩
    show (_, _) = _
    unfold R_count
    rw [if_neg c1_0, if_pos (Or.inr (Or.inr (Or.inr (Or.inl c1_4)))), htP]
  by_cases c1_5 : w = nI 5
  ·
    refine J_tsIn (pc := 1) (tgt := 79) (off := 78) dX8_count_1 (by rw [c1_5]; decide) (by rw [c1_5]; decide) (by rw [c1_5]; rfl) (by decide) ?_
    refine J_aload_n (pc := 79) dX8_count_79 rfl ?_
    refine J_iload_n (pc := 80) dX8_count_80 rfl ?_
    refine K_callVp (pc := 81) (id := 140) (As := [_]) dX8_count_81 kl_X8_377 rfl job_140 rfl rfl (Nat.le_of_ble_eq_true rfl) (m_partsOf hP h48 w) ?_
    refine K_iret (pc := 84) dX8_count_84 rfl ⟨_, rfl, ?_⟩
    show (_, _) = _
    unfold R_count
    rw [if_neg c1_0, if_pos (Or.inr (Or.inr (Or.inr (Or.inr (c1_5))))), htP]
  by_cases c1_6 : w = nI 6
  ·
    refine J_tsIn (pc := 1) (tgt := 85) (off := 84) dX8_count_1 (by rw [c1_6]; decide) (by rw [c1_6]; decide) (by rw [c1_6]; rfl) (by decide) ?_
    refine J_aload_n (pc := 85) dX8_count_85 rfl ?_
    refine K_callVp (pc := 86) (id := 140) (As := []) dX8_count_86 kl_X8_374 rfl job_140 rfl rfl (Nat.le_of_ble_eq_true rfl) (m_sizes hP h48) ?_
    refine K_iret (pc := 89) dX8_count_89 rfl ⟨_, rfl, ?_⟩
    show (_, _) = _
    unfold R_count
    rw [if_neg c1_0, if_neg (fun z => z.elim c1_1 (fun z => z.elim c1_2 (fun z => z.elim c1_3 (fun z => z.elim c1_4 c1_5)))), if_pos c1_6, htP]
  by_cases c1_7 : w = nI 7
  ·
    refine J_tsIn (pc := 1) (tgt := 90) (off := 89) dX8_count_1 (by rw [c1_7]; decide) (by rw [c1_7]; decide) (by rw [c1_7]; rfl) (by decide) ?_
    refine J_aload_n (pc := 90) dX8_count_90 rfl ?_
    refine K_getR (pc := 91) dX8_count_91 kf_X8_7 job_140 jrf_140_0 ?_
    refine J_bipush (pc := 94) dX8_count_94 knb_6 ?_
    refine K_ialdn (pc := 96) (id := 141) dX8_count_96 jar_141 (by decide) (by decide) ?_
    refine K_iret (pc := 97) dX8_count_97 rfl ⟨_, rfl, ?_⟩
    show (_, _) = _
    unfold R_count
    rw [if_neg c1_0, if_neg (fun z => z.elim c1_1 (fun z => z.elim c1_2 (fun z => z.elim c1_3 (fun z => z.elim c1_4 c1_5)))), if_neg c1_6, if_pos c1_7]
  by_cases c1_8 : w = nI 8
  ·
    refine J_tsIn (pc := 1) (tgt := 98) (off := 97) dX8_count_1 (by rw [c1_8]; decide) (by rw [c1_8]; decide) (by rw [c1_8]; rfl) (by decide) ?_
    refine J_aload_n (pc := 98) dX8_count_98 rfl ?_
    refine K_getR (pc := 99) dX8_count_99 kf_X8_7 job_140 jrf_140_0 ?_
    refine J_bipush (pc := 102) dX8_count_102 knb_7 ?_
    refine K_ialdn (pc := 104) (id := 141) dX8_count_104 jar_141 (by decide) (by decide) ?_
    refine K_iret (pc := 105) dX8_count_105 rfl ⟨_, rfl, ?_⟩
    show (_, _) = _
    unfold R_count
    rw [if_neg c1_0, if_neg (fun z => z.elim c1_1 (fun z => z.elim c1_2 (fun z => z.elim c1_3 (fun z => z.elim c1_4 c1_5)))), if_neg c1_6, if_neg c1_7, if_pos c1_8]
  by_cases c1_9 : w = nI 9
  ·
    refine J_tsIn (pc := 1) (tgt := 106) (off := 105) dX8_count_1 (by rw [c1_9]; decide) (by rw [c1_9]; decide) (by rw [c1_9]; rfl) (by decide) ?_
    refine J_aload_n (pc := 106) dX8_count_106 rfl ?_
    refine K_getR (pc := 107) dX8_count_107 kf_X8_7 job_140 jrf_140_0 ?_
    refine J_bipush (pc := 110) dX8_count_110 knb_8 ?_
    refine K_ialdn (pc := 112) (id := 141) dX8_count_112 jar_141 (by decide) (by decide) ?_
    refine K_iret (pc := 113) dX8_count_113 rfl ⟨_, rfl, ?_⟩
    show (_, _) = _
    unfold R_count
    rw [if_neg c1_0, if_neg (fun z => z.elim c1_1 (fun z => z.elim c1_2 (fun z => z.elim c1_3 (fun z => z.elim c1_4 c1_5)))), if_neg c1_6, if_neg c1_7, if_neg c1_8, if_pos c1_9]
  by_cases c1_10 : w = nI 10
  ·
    refine J_tsIn (pc := 1) (tgt := 114) (off := 113) dX8_count_1 (by rw [c1_10]; decide) (by rw [c1_10]; decide) (by rw [c1_10]; rfl) (by decide) ?_
    refine J_aload_n (pc := 114) dX8_count_114 rfl ?_
    refine K_callVp (pc := 115) (id := 140) (As := []) dX8_count_115 kl_X8_380 rfl job_140 rfl rfl (Nat.le_of_ble_eq_true rfl) (m_lines) ?_
    refine K_iret (pc := 118) dX8_count_118 rfl ⟨_, rfl, ?_⟩
    show (_, _) = _
    unfold R_count
    rw [if_neg c1_0, if_neg (fun z => z.elim c1_1 (fun z => z.elim c1_2 (fun z => z.elim c1_3 (fun z => z.elim c1_4 c1_5)))), if_neg c1_6, if_neg c1_7, if_neg c1_8, if_neg c1_9, if_pos c1_10]
  by_cases c1_11 : w = nI 11
  ·
    refine J_tsIn (pc := 1) (tgt := 119) (off := 118) dX8_count_1 (by rw [c1_11]; decide) (by rw [c1_11]; decide) (by rw [c1_11]; rfl) (by decide) ?_
    refine J_aload_n (pc := 119) dX8_count_119 rfl ?_
    refine K_getI (pc := 120) dX8_count_120 kf_X8_366 job_140 jrf_140_35 ?_
    refine K_iret (pc := 123) dX8_count_123 rfl ⟨_, rfl, ?_⟩
    show (_, _) = _
    unfold R_count
    rw [if_neg c1_0, if_neg (fun z => z.elim c1_1 (fun z => z.elim c1_2 (fun z => z.elim c1_3 (fun z => z.elim c1_4 c1_5)))), if_neg c1_6, if_neg c1_7, if_neg c1_8, if_neg c1_9, if_neg c1_10, if_pos c1_11]
  by_cases c1_12 : w = nI 12
  ·
    refine J_tsIn (pc := 1) (tgt := 124) (off := 123) dX8_count_1 (by rw [c1_12]; decide) (by rw [c1_12]; decide) (by rw [c1_12]; rfl) (by decide) ?_
    refine J_aload_n (pc := 124) dX8_count_124 rfl ?_
    refine K_getI (pc := 125) dX8_count_125 kf_X8_180 job_140 jrf_140_11 ?_
    refine K_iret (pc := 128) dX8_count_128 rfl ⟨_, rfl, ?_⟩
    show (_, _) = _
    unfold R_count
    rw [if_neg c1_0, if_neg (fun z => z.elim c1_1 (fun z => z.elim c1_2 (fun z => z.elim c1_3 (fun z => z.elim c1_4 c1_5)))), if_neg c1_6, if_neg c1_7, if_neg c1_8, if_neg c1_9, if_neg c1_10, if_neg c1_11, if_pos c1_12]
  by_cases c1_13 : w = nI 13
  ·
    refine J_tsIn (pc := 1) (tgt := 129) (off := 128) dX8_count_1 (by rw [c1_13]; decide) (by rw [c1_13]; decide) (by rw [c1_13]; rfl) (by decide) ?_
    refine J_aload_n (pc := 129) dX8_count_129 rfl ?_
    refine K_getR (pc := 130) dX8_count_130 kf_X8_7 job_140 jrf_140_0 ?_
    refine J_iconst (pc := 133) dX8_count_133 kni_1 ?_
    refine K_ialdn (pc := 134) (id := 141) dX8_count_134 jar_141 (by decide) (by decide) ?_
    refine K_iret (pc := 135) dX8_count_135 rfl ⟨_, rfl, ?_⟩
    show (_, _) = _
    unfold R_count
    rw [if_neg c1_0, if_neg (fun z => z.elim c1_1 (fun z => z.elim c1_2 (fun z => z.elim c1_3 (fun z => z.elim c1_4 c1_5)))), if_neg c1_6, if_neg c1_7, if_neg c1_8, if_neg c1_9, if_neg c1_10, if_neg c1_11, if_neg c1_12, if_pos c1_13]
  refine J_tsOut (pc := 1) (tgt := 136) dX8_count_1 (by have qc1_0 := jsw_ne c1_0 (by decide); have qc1_1 := jsw_ne c1_1 (by decide); have qc1_2 := jsw_ne c1_2 (by decide); have qc1_3 := jsw_ne c1_3 (by decide); have qc1_4 := jsw_ne c1_4 (by decide); have qc1_5 := jsw_ne c1_5 (by decide); have qc1_6 := jsw_ne c1_6 (by decide); have qc1_7 := jsw_ne c1_7 (by decide); have qc1_8 := jsw_ne c1_8 (by decide); have qc1_9 := jsw_ne c1_9 (by decide); have qc1_10 := jsw_ne c1_10 (by decide); have qc1_11 := jsw_ne c1_11 (by decide); have qc1_12 := jsw_ne c1_12 (by decide); have qc1_13 := jsw_ne c1_13 (by decide); omega) (by decide) ?_
  refine J_ldc (pc := 136) dX8_count_136 kc_X8_91 ?_
  refine K_iret (pc := 138) dX8_count_138 rfl ⟨_, rfl, ?_⟩
  show (_, _) = _
  unfold R_count
  rw [if_neg c1_0, if_neg (fun z => z.elim c1_1 (fun z => z.elim c1_2 (fun z => z.elim c1_3 (fun z => z.elim c1_4 c1_5)))), if_neg c1_6, if_neg c1_7, if_neg c1_8, if_neg c1_9, if_neg c1_10, if_neg c1_11, if_neg c1_12, if_neg c1_13]
