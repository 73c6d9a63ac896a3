/-- what the calls answer, and what they leave -/
theorem w_of {w : Int32} {k : Nat} (h : nI 0 ≤ w ∧ w ≤ nI k) (hk : k < 2 ^ 31) : ∃ q, q ≤ k ∧ w = nI q := by
  obtain ⟨h1, h2⟩ := h
  rw [Int32.le_iff_toInt_le, nI_toInt (by omega)] at h1 h2
  refine ⟨w.toInt.toNat, by omega, Int32.toInt_inj.mp ?_⟩
  rw [nI_toInt (by omega)]
  omega
theorem w_sub {w z : Int32} {P : Nat} (hz : z = nI P) (h48 : P ≤ 48) (h : nI 0 ≤ w ∧ w ≤ z - nI 1) : ∃ q, q < P ∧ w = nI q := by
  obtain ⟨h1, h2⟩ := h
  have e : (nI P - nI 1).toInt = (P : Int) - 1 := by
    rw [Int32.toInt_sub, nI_toInt (by omega), nI_toInt (by omega)]
    exact Int.bmod_eq_of_le (by omega) (by omega)
  rw [hz, Int32.le_iff_toInt_le] at h2
  rw [Int32.le_iff_toInt_le, nI_toInt (by omega)] at h1
  refine ⟨w.toInt.toNat, by omega, Int32.toInt_inj.mp ?_⟩
  rw [nI_toInt (by omega)]
  omega
abbrev inR (w a b : Int32) : Prop := a ≤ w ∧ w ≤ b
def F_part (m : jm) (k p a s n : Int32) : Int32 × jm :=
  if ¬ (nI 0 ≤ k ∧ k ≤ nI 5) then (-1000000001, m) else if ¬ (nI 0 ≤ p ∧ p ≤ nI 47) then (-1000000001, m) else if ¬ (nI 0 ≤ a ∧ a ≤ nI 9) then (-1000000001, m) else if ¬ (nI 0 ≤ s ∧ s ≤ nI 9) then (-1000000001, m) else if ¬ (nI 0 ≤ n ∧ n ≤ nI 9) then (-1000000001, m)
  else if ¬ m 8 (tN p) = -1000000005 then (-1000000002, m) else if 48 ≤ tN (m 1 0) then (-1000000003, m) else (m 1 0, addM m 1 (tN (m 1 0)) (tN p) k a s n)
set_option maxRecDepth 100000 in
set_option maxHeartbeats 400000 in
theorem p_part {x : jX} {m : jm} {d : Nat} (k p a s n : Int32) {P : Nat} (hP : m 1 0 = nI P) (h48 : P ≤ 48) : Ct x (d + 1) eX7_part [.ref (jxb x + 0), .int k, .int p, .int a, .int s, .int n] m (ji fun rv m' => (rv, m') = F_part m k p a s n) := by
  refine J_start (by decide +kernel) (Nat.le_of_ble_eq_true rfl) (ls := [some (.ref (jxb x + 0)), some (.int k), some (.int p), some (.int a), some (.int s), some (.int n)]) rfl rfl ?_
  refine J_iload_n (pc := 0) dX7_part_0 rfl ?_
  refine J_iconst (pc := 1) dX7_part_1 kni_0 ?_
  refine J_iconst (pc := 2) dX7_part_2 kni_5 ?_
  refine K_callSp (pc := 3) (As := [_, _, _]) dX7_part_3 kl_X7_76 rfl rfl (Nat.le_of_ble_eq_true rfl) (c_within _ _ _) ?_
  refine Jb_eq (pc := 6) (tgt := 29) dX7_part_6 (by decide) (fun h6 => ?_) (fun h6 => ?_)
  · 
    refine J_ldc (pc := 29) dX7_part_29 kc_X7_80 ?_
    refine K_iret (pc := 31) dX7_part_31 rfl ⟨_, rfl, ?_⟩
    show (_, _) = _
    unfold F_part
    try first | rw [if_pos h6] | rw [if_neg h6] | rw [if_neg (Classical.not_not.mpr h6)]
    try rfl
  · 
    refine J_iload_n (pc := 9) dX7_part_9 rfl ?_
    refine J_iconst (pc := 10) dX7_part_10 kni_0 ?_
    refine J_bipush (pc := 11) dX7_part_11 knb_47 ?_
    refine K_callSp (pc := 13) (As := [_, _, _]) dX7_part_13 kl_X7_76 rfl rfl (Nat.le_of_ble_eq_true rfl) (c_within _ _ _) ?_
    refine Jb_eq (pc := 16) (tgt := 29) dX7_part_16 (by decide) (fun h16 => ?_) (fun h16 => ?_)
    · 
      refine J_ldc (pc := 29) dX7_part_29 kc_X7_80 ?_
      refine K_iret (pc := 31) dX7_part_31 rfl ⟨_, rfl, ?_⟩
      show (_, _) = _
      unfold F_part
      try first | rw [if_pos h6] | rw [if_neg h6] | rw [if_neg (Classical.not_not.mpr h6)]
      try first | rw [if_pos h16] | rw [if_neg h16] | rw [if_neg (Classical.not_not.mpr h16)]
      try rfl
    · 
      refine J_iload_n (pc := 19) dX7_part_19 rfl ?_
      refine J_iconst (pc := 20) dX7_part_20 kni_0 ?_
      refine J_bipush (pc := 21) dX7_part_21 knb_9 ?_
      refine K_callSp (pc := 23) (As := [_, _, _]) dX7_part_23 kl_X7_76 rfl rfl (Nat.le_of_ble_eq_true rfl) (c_within _ _ _) ?_
      refine Jb_ne (pc := 26) (tgt := 32) dX7_part_26 (by decide) (fun h26 => ?_) (fun h26 => ?_)
      · 
        refine J_iload (pc := 32) dX7_part_32 rfl ?_
        refine J_iconst (pc := 34) dX7_part_34 kni_0 ?_
        refine J_bipush (pc := 35) dX7_part_35 knb_9 ?_
        refine K_callSp (pc := 37) (As := [_, _, _]) dX7_part_37 kl_X7_76 rfl rfl (Nat.le_of_ble_eq_true rfl) (c_within _ _ _) ?_
        refine Jb_eq (pc := 40) (tgt := 54) dX7_part_40 (by decide) (fun h40 => ?_) (fun h40 => ?_)
        · 
          refine J_ldc (pc := 54) dX7_part_54 kc_X7_80 ?_
          refine K_iret (pc := 56) dX7_part_56 rfl ⟨_, rfl, ?_⟩
          show (_, _) = _
          unfold F_part
          try first | rw [if_pos h6] | rw [if_neg h6] | rw [if_neg (Classical.not_not.mpr h6)]
          try first | rw [if_pos h16] | rw [if_neg h16] | rw [if_neg (Classical.not_not.mpr h16)]
          try first | rw [if_pos h26] | rw [if_neg h26] | rw [if_neg (Classical.not_not.mpr h26)]
          try first | rw [if_pos h40] | rw [if_neg h40] | rw [if_neg (Classical.not_not.mpr h40)]
          try rfl
        · 
          refine J_iload (pc := 43) dX7_part_43 rfl ?_
          refine J_iconst (pc := 45) dX7_part_45 kni_0 ?_
          refine J_bipush (pc := 46) dX7_part_46 knb_9 ?_
          refine K_callSp (pc := 48) (As := [_, _, _]) dX7_part_48 kl_X7_76 rfl rfl (Nat.le_of_ble_eq_true rfl) (c_within _ _ _) ?_
          refine Jb_ne (pc := 51) (tgt := 57) dX7_part_51 (by decide) (fun h51 => ?_) (fun h51 => ?_)
          · 
            have htP : tN (m 1 0) = P := by rw [hP]; exact tN_n (by omega)
            obtain ⟨q, hq, hqe⟩ := w_of h16 (by decide)
            have htq : tN p = q := by rw [hqe]; exact tN_n (by omega)
            subst hqe
            refine J_aload_n (pc := 57) dX7_part_57 rfl ?_
            refine K_getR (pc := 58) dX7_part_58 kf_X7_10 job_0 jrf_0_0 ?_
            refine K_getR (pc := 61) dX7_part_61 kf_X7_81 job_1 jrf_1_7 ?_
            refine J_iload_n (pc := 64) dX7_part_64 rfl ?_
            refine K_ialdn (pc := 65) (id := 8) dX7_part_65 jar_8 (by omega) (by decide) ?_
            refine J_ldc (pc := 66) dX7_part_66 kc_X7_84 ?_
            refine J_icmp_eq (pc := 68) (tgt := 74) dX7_part_68 (by decide) (fun h68 => ?_) (fun h68 => ?_)
            · 
              refine J_aload_n (pc := 74) dX7_part_74 rfl ?_
              refine K_getR (pc := 75) dX7_part_75 kf_X7_10 job_0 jrf_0_0 ?_
              refine K_getI (pc := 78) dX7_part_78 kf_X7_86 job_1 jrf_1_0 ?_
              refine J_top (b := nI P) (hP) ?_
              refine J_bipush (pc := 81) dX7_part_81 knb_48 ?_
              refine Jn_lt (pc := 83) (tgt := 91) dX7_part_83 (by decide) (by omega) (by omega) (fun h83 => ?_) (fun h83 => ?_)
              · 
                refine J_aload_n (pc := 91) dX7_part_91 rfl ?_
                refine K_getR (pc := 92) dX7_part_92 kf_X7_10 job_0 jrf_0_0 ?_
                refine J_iload_n (pc := 95) dX7_part_95 rfl ?_
                refine J_iload_n (pc := 96) dX7_part_96 rfl ?_
                refine J_iload_n (pc := 97) dX7_part_97 rfl ?_
                refine J_iload (pc := 98) dX7_part_98 rfl ?_
                refine J_iload (pc := 100) dX7_part_100 rfl ?_
                refine K_callVi (pc := 102) (id := 1) (As := [_, _, _, _, _]) dX7_part_102 kl_X7_90 rfl job_1 rfl rfl (Nat.le_of_ble_eq_true rfl) (c_add (o := 1) (P := P) (q := q) (Or.inl rfl) hP (by omega) (by omega) k a s n) (fun v102 m102 h102 => ?_)
                obtain ⟨rfl, rfl⟩ := h102
                refine K_iret (pc := 105) dX7_part_105 rfl ⟨_, rfl, ?_⟩
                show (_, _) = _
                unfold F_part
                rw [htq, htP, hP]
                try first | rw [if_pos h6] | rw [if_neg h6] | rw [if_neg (Classical.not_not.mpr h6)]
                try first | rw [if_pos h16] | rw [if_neg h16] | rw [if_neg (Classical.not_not.mpr h16)]
                try first | rw [if_pos h26] | rw [if_neg h26] | rw [if_neg (Classical.not_not.mpr h26)]
                try first | rw [if_pos h40] | rw [if_neg h40] | rw [if_neg (Classical.not_not.mpr h40)]
                try first | rw [if_pos h51] | rw [if_neg h51] | rw [if_neg (Classical.not_not.mpr h51)]
                try first | rw [if_pos h68] | rw [if_neg h68] | rw [if_neg (Classical.not_not.mpr h68)]
                try first | rw [if_pos h83] | rw [if_neg h83] | rw [if_neg (Classical.not_not.mpr h83)]
                try rw [if_neg (by omega)]
              · 
                refine J_ldc (pc := 86) dX7_part_86 kc_X7_89 ?_
                refine J_goto (pc := 88) (tgt := 105) dX7_part_88 (by decide) ?_
                refine K_iret (pc := 105) dX7_part_105 rfl ⟨_, rfl, ?_⟩
                show (_, _) = _
                unfold F_part
                rw [htq, htP, hP]
                try first | rw [if_pos h6] | rw [if_neg h6] | rw [if_neg (Classical.not_not.mpr h6)]
                try first | rw [if_pos h16] | rw [if_neg h16] | rw [if_neg (Classical.not_not.mpr h16)]
                try first | rw [if_pos h26] | rw [if_neg h26] | rw [if_neg (Classical.not_not.mpr h26)]
                try first | rw [if_pos h40] | rw [if_neg h40] | rw [if_neg (Classical.not_not.mpr h40)]
                try first | rw [if_pos h51] | rw [if_neg h51] | rw [if_neg (Classical.not_not.mpr h51)]
                try first | rw [if_pos h68] | rw [if_neg h68] | rw [if_neg (Classical.not_not.mpr h68)]
                try first | rw [if_pos h83] | rw [if_neg h83] | rw [if_neg (Classical.not_not.mpr h83)]
                try rw [if_neg (by omega)]
            · 
              refine J_ldc (pc := 71) dX7_part_71 kc_X7_85 ?_
              refine K_iret (pc := 73) dX7_part_73 rfl ⟨_, rfl, ?_⟩
              show (_, _) = _
              unfold F_part
              rw [htq, htP]
              try first | rw [if_pos h6] | rw [if_neg h6] | rw [if_neg (Classical.not_not.mpr h6)]
              try first | rw [if_pos h16] | rw [if_neg h16] | rw [if_neg (Classical.not_not.mpr h16)]
              try first | rw [if_pos h26] | rw [if_neg h26] | rw [if_neg (Classical.not_not.mpr h26)]
              try first | rw [if_pos h40] | rw [if_neg h40] | rw [if_neg (Classical.not_not.mpr h40)]
              try first | rw [if_pos h51] | rw [if_neg h51] | rw [if_neg (Classical.not_not.mpr h51)]
              try first | rw [if_pos h68] | rw [if_neg h68] | rw [if_neg (Classical.not_not.mpr h68)]
              try rfl
          · 
            refine J_ldc (pc := 54) dX7_part_54 kc_X7_80 ?_
            refine K_iret (pc := 56) dX7_part_56 rfl ⟨_, rfl, ?_⟩
            show (_, _) = _
            unfold F_part
            try first | rw [if_pos h6] | rw [if_neg h6] | rw [if_neg (Classical.not_not.mpr h6)]
            try first | rw [if_pos h16] | rw [if_neg h16] | rw [if_neg (Classical.not_not.mpr h16)]
            try first | rw [if_pos h26] | rw [if_neg h26] | rw [if_neg (Classical.not_not.mpr h26)]
            try first | rw [if_pos h40] | rw [if_neg h40] | rw [if_neg (Classical.not_not.mpr h40)]
            try first | rw [if_pos h51] | rw [if_neg h51] | rw [if_neg (Classical.not_not.mpr h51)]
            try rfl
      · 
        refine J_ldc (pc := 29) dX7_part_29 kc_X7_80 ?_
        refine K_iret (pc := 31) dX7_part_31 rfl ⟨_, rfl, ?_⟩
        show (_, _) = _
        unfold F_part
        try first | rw [if_pos h6] | rw [if_neg h6] | rw [if_neg (Classical.not_not.mpr h6)]
        try first | rw [if_pos h16] | rw [if_neg h16] | rw [if_neg (Classical.not_not.mpr h16)]
        try first | rw [if_pos h26] | rw [if_neg h26] | rw [if_neg (Classical.not_not.mpr h26)]
        try rfl
def F_told (m : jm) (p w : Int32) : Int32 × jm :=
  if ¬ (nI 0 ≤ p ∧ p ≤ m 1 0 - nI 1) then (-1000000001, m) else if w = nI 0 then (m 2 (tN p), m) else if w = nI 1 then (m 3 (tN p), m) else if w = nI 2 then (m 4 (tN p), m) else if w = nI 3 then (m 5 (tN p), m) else if w = nI 4 then (m 6 (tN p), m) else if w = nI 5 then (m 7 (tN p), m) else if w = nI 6 then (aimS m 1 (tN p), m) else if w = nI 7 then (paceS m 1 (tN p), m) else if w = nI 8 then (givenS m 1 (tN p), m) else (-1000000001, m)
set_option maxRecDepth 100000 in
set_option maxHeartbeats 400000 in
theorem p_told {x : jX} {m : jm} {d : Nat} (p w : Int32) {P : Nat} (hP : m 1 0 = nI P) (h48 : P ≤ 48) (hw : wfPt m 1) : Ct x (d + 2) eX7_told [.ref (jxb x + 0), .int p, .int w] m (ji fun rv m' => (rv, m') = F_told m p w) := by
  refine J_start (by decide +kernel) (Nat.le_of_ble_eq_true rfl) (ls := [some (.ref (jxb x + 0)), some (.int p), some (.int w)]) rfl rfl ?_
  refine J_iload_n (pc := 0) dX7_told_0 rfl ?_
  refine J_iconst (pc := 1) dX7_told_1 kni_0 ?_
  refine J_aload_n (pc := 2) dX7_told_2 rfl ?_
  refine K_getR (pc := 3) dX7_told_3 kf_X7_10 job_0 jrf_0_0 ?_
  refine K_getI (pc := 6) dX7_told_6 kf_X7_86 job_1 jrf_1_0 ?_
  refine J_iconst (pc := 9) dX7_told_9 kni_1 ?_
  refine J_isub (pc := 10) dX7_told_10 ?_
  refine K_callSp (pc := 11) (As := [_, _, _]) dX7_told_11 kl_X7_76 rfl rfl (Nat.le_of_ble_eq_true rfl) (c_within _ _ _) ?_
  refine Jb_ne (pc := 14) (tgt := 20) dX7_told_14 (by decide) (fun h14 => ?_) (fun h14 => ?_)
  · 
    obtain ⟨q, hq, hqe⟩ := w_sub hP h48 h14
    have htq : tN p = q := by rw [hqe]; exact tN_n (by omega)
    subst hqe
    refine J_iload_n (pc := 20) dX7_told_20 rfl ?_
    by_cases c21_0 : w = nI 0
    ·
      refine J_tsIn (pc := 21) (tgt := 72) (off := 51) dX7_told_21 (by rw [c21_0]; decide) (by rw [c21_0]; decide) (by rw [c21_0]; rfl) (by decide) ?_
      refine J_aload_n (pc := 72) dX7_told_72 rfl ?_
      refine K_getR (pc := 73) dX7_told_73 kf_X7_10 job_0 jrf_0_0 ?_
      refine K_getR (pc := 76) dX7_told_76 kf_X7_94 job_1 jrf_1_1 ?_
      refine J_iload_n (pc := 79) dX7_told_79 rfl ?_
      refine K_ialdn (pc := 80) (id := 2) dX7_told_80 jar_2 (by omega) (by decide) ?_
      refine K_iret (pc := 81) dX7_told_81 rfl ⟨_, rfl, ?_⟩
      show (_, _) = _
      unfold F_told
      rw [htq]
      try first | rw [if_pos h14] | rw [if_neg h14] | rw [if_neg (Classical.not_not.mpr h14)]
      try first | rw [if_pos c21_0] | rw [if_neg c21_0] | rw [if_neg (Classical.not_not.mpr c21_0)]
      try rfl
    by_cases c21_1 : w = nI 1
    ·
      refine J_tsIn (pc := 21) (tgt := 82) (off := 61) dX7_told_21 (by rw [c21_1]; decide) (by rw [c21_1]; decide) (by rw [c21_1]; rfl) (by decide) ?_
      refine J_aload_n (pc := 82) dX7_told_82 rfl ?_
      refine K_getR (pc := 83) dX7_told_83 kf_X7_10 job_0 jrf_0_0 ?_
      refine K_getR (pc := 86) dX7_told_86 kf_X7_97 job_1 jrf_1_2 ?_
      refine J_iload_n (pc := 89) dX7_told_89 rfl ?_
      refine K_ialdn (pc := 90) (id := 3) dX7_told_90 jar_3 (by omega) (by decide) ?_
      refine K_iret (pc := 91) dX7_told_91 rfl ⟨_, rfl, ?_⟩
      show (_, _) = _
      unfold F_told
      rw [htq]
      try first | rw [if_pos h14] | rw [if_neg h14] | rw [if_neg (Classical.not_not.mpr h14)]
      try first | rw [if_pos c21_0] | rw [if_neg c21_0] | rw [if_neg (Classical.not_not.mpr c21_0)]
      try first | rw [if_pos c21_1] | rw [if_neg c21_1] | rw [if_neg (Classical.not_not.mpr c21_1)]
      try rfl
    by_cases c21_2 : w = nI 2
    ·
      refine J_tsIn (pc := 21) (tgt := 92) (off := 71) dX7_told_21 (by rw [c21_2]; decide) (by rw [c21_2]; decide) (by rw [c21_2]; rfl) (by decide) ?_
      refine J_aload_n (pc := 92) dX7_told_92 rfl ?_
      refine K_getR (pc := 93) dX7_told_93 kf_X7_10 job_0 jrf_0_0 ?_
      refine K_getR (pc := 96) dX7_told_96 kf_X7_100 job_1 jrf_1_3 ?_
      refine J_iload_n (pc := 99) dX7_told_99 rfl ?_
      refine K_ialdn (pc := 100) (id := 4) dX7_told_100 jar_4 (by omega) (by decide) ?_
      refine K_iret (pc := 101) dX7_told_101 rfl ⟨_, rfl, ?_⟩
      show (_, _) = _
      unfold F_told
      rw [htq]
      try first | rw [if_pos h14] | rw [if_neg h14] | rw [if_neg (Classical.not_not.mpr h14)]
      try first | rw [if_pos c21_0] | rw [if_neg c21_0] | rw [if_neg (Classical.not_not.mpr c21_0)]
      try first | rw [if_pos c21_1] | rw [if_neg c21_1] | rw [if_neg (Classical.not_not.mpr c21_1)]
      try first | rw [if_pos c21_2] | rw [if_neg c21_2] | rw [if_neg (Classical.not_not.mpr c21_2)]
      try rfl
    by_cases c21_3 : w = nI 3
    ·
      refine J_tsIn (pc := 21) (tgt := 102) (off := 81) dX7_told_21 (by rw [c21_3]; decide) (by rw [c21_3]; decide) (by rw [c21_3]; rfl) (by decide) ?_
      refine J_aload_n (pc := 102) dX7_told_102 rfl ?_
      refine K_getR (pc := 103) dX7_told_103 kf_X7_10 job_0 jrf_0_0 ?_
      refine K_getR (pc := 106) dX7_told_106 kf_X7_103 job_1 jrf_1_4 ?_
      refine J_iload_n (pc := 109) dX7_told_109 rfl ?_
      refine K_ialdn (pc := 110) (id := 5) dX7_told_110 jar_5 (by omega) (by decide) ?_
      refine K_iret (pc := 111) dX7_told_111 rfl ⟨_, rfl, ?_⟩
      show (_, _) = _
      unfold F_told
      rw [htq]
      try first | rw [if_pos h14] | rw [if_neg h14] | rw [if_neg (Classical.not_not.mpr h14)]
      try first | rw [if_pos c21_0] | rw [if_neg c21_0] | rw [if_neg (Classical.not_not.mpr c21_0)]
      try first | rw [if_pos c21_1] | rw [if_neg c21_1] | rw [if_neg (Classical.not_not.mpr c21_1)]
      try first | rw [if_pos c21_2] | rw [if_neg c21_2] | rw [if_neg (Classical.not_not.mpr c21_2)]
      try first | rw [if_pos c21_3] | rw [if_neg c21_3] | rw [if_neg (Classical.not_not.mpr c21_3)]
      try rfl
    by_cases c21_4 : w = nI 4
    ·
      refine J_tsIn (pc := 21) (tgt := 112) (off := 91) dX7_told_21 (by rw [c21_4]; decide) (by rw [c21_4]; decide) (by rw [c21_4]; rfl) (by decide) ?_
      refine J_aload_n (pc := 112) dX7_told_112 rfl ?_
      refine K_getR (pc := 113) dX7_told_113 kf_X7_10 job_0 jrf_0_0 ?_
      refine K_getR (pc := 116) dX7_told_116 kf_X7_106 job_1 jrf_1_5 ?_
      refine J_iload_n (pc := 119) dX7_told_119 rfl ?_
      refine K_ialdn (pc := 120) (id := 6) dX7_told_120 jar_6 (by omega) (by decide) ?_
      refine K_iret (pc := 121) dX7_told_121 rfl ⟨_, rfl, ?_⟩
      show (_, _) = _
      unfold F_told
      rw [htq]
      try first | rw [if_pos h14] | rw [if_neg h14] | rw [if_neg (Classical.not_not.mpr h14)]
      try first | rw [if_pos c21_0] | rw [if_neg c21_0] | rw [if_neg (Classical.not_not.mpr c21_0)]
      try first | rw [if_pos c21_1] | rw [if_neg c21_1] | rw [if_neg (Classical.not_not.mpr c21_1)]
      try first | rw [if_pos c21_2] | rw [if_neg c21_2] | rw [if_neg (Classical.not_not.mpr c21_2)]
      try first | rw [if_pos c21_3] | rw [if_neg c21_3] | rw [if_neg (Classical.not_not.mpr c21_3)]
      try first | rw [if_pos c21_4] | rw [if_neg c21_4] | rw [if_neg (Classical.not_not.mpr c21_4)]
      try rfl
    by_cases c21_5 : w = nI 5
    ·
      refine J_tsIn (pc := 21) (tgt := 122) (off := 101) dX7_told_21 (by rw [c21_5]; decide) (by rw [c21_5]; decide) (by rw [c21_5]; rfl) (by decide) ?_
      refine J_aload_n (pc := 122) dX7_told_122 rfl ?_
      refine K_getR (pc := 123) dX7_told_123 kf_X7_10 job_0 jrf_0_0 ?_
      refine K_getR (pc := 126) dX7_told_126 kf_X7_109 job_1 jrf_1_6 ?_
      refine J_iload_n (pc := 129) dX7_told_129 rfl ?_
      refine K_ialdn (pc := 130) (id := 7) dX7_told_130 jar_7 (by omega) (by decide) ?_
      refine K_iret (pc := 131) dX7_told_131 rfl ⟨_, rfl, ?_⟩
      show (_, _) = _
      unfold F_told
      rw [htq]
      try first | rw [if_pos h14] | rw [if_neg h14] | rw [if_neg (Classical.not_not.mpr h14)]
      try first | rw [if_pos c21_0] | rw [if_neg c21_0] | rw [if_neg (Classical.not_not.mpr c21_0)]
      try first | rw [if_pos c21_1] | rw [if_neg c21_1] | rw [if_neg (Classical.not_not.mpr c21_1)]
      try first | rw [if_pos c21_2] | rw [if_neg c21_2] | rw [if_neg (Classical.not_not.mpr c21_2)]
      try first | rw [if_pos c21_3] | rw [if_neg c21_3] | rw [if_neg (Classical.not_not.mpr c21_3)]
      try first | rw [if_pos c21_4] | rw [if_neg c21_4] | rw [if_neg (Classical.not_not.mpr c21_4)]
      try first | rw [if_pos c21_5] | rw [if_neg c21_5] | rw [if_neg (Classical.not_not.mpr c21_5)]
      try rfl
    by_cases c21_6 : w = nI 6
    ·
      refine J_tsIn (pc := 21) (tgt := 132) (off := 111) dX7_told_21 (by rw [c21_6]; decide) (by rw [c21_6]; decide) (by rw [c21_6]; rfl) (by decide) ?_
      refine J_aload_n (pc := 132) dX7_told_132 rfl ?_
      refine K_getR (pc := 133) dX7_told_133 kf_X7_10 job_0 jrf_0_0 ?_
      refine J_iload_n (pc := 136) dX7_told_136 rfl ?_
      refine K_callVp (pc := 137) (id := 1) (As := [_]) dX7_told_137 kl_X7_112 rfl job_1 rfl rfl (Nat.le_of_ble_eq_true rfl) (c_aimOf (o := 1) (Or.inl rfl) (by omega) (hw.1 q (by omega)) (hw.g (by omega))) ?_
      refine K_iret (pc := 140) dX7_told_140 rfl ⟨_, rfl, ?_⟩
      show (_, _) = _
      unfold F_told
      rw [htq]
      try first | rw [if_pos h14] | rw [if_neg h14] | rw [if_neg (Classical.not_not.mpr h14)]
      try first | rw [if_pos c21_0] | rw [if_neg c21_0] | rw [if_neg (Classical.not_not.mpr c21_0)]
      try first | rw [if_pos c21_1] | rw [if_neg c21_1] | rw [if_neg (Classical.not_not.mpr c21_1)]
      try first | rw [if_pos c21_2] | rw [if_neg c21_2] | rw [if_neg (Classical.not_not.mpr c21_2)]
      try first | rw [if_pos c21_3] | rw [if_neg c21_3] | rw [if_neg (Classical.not_not.mpr c21_3)]
      try first | rw [if_pos c21_4] | rw [if_neg c21_4] | rw [if_neg (Classical.not_not.mpr c21_4)]
      try first | rw [if_pos c21_5] | rw [if_neg c21_5] | rw [if_neg (Classical.not_not.mpr c21_5)]
      try first | rw [if_pos c21_6] | rw [if_neg c21_6] | rw [if_neg (Classical.not_not.mpr c21_6)]
      try rfl
    by_cases c21_7 : w = nI 7
    ·
      refine J_tsIn (pc := 21) (tgt := 141) (off := 120) dX7_told_21 (by rw [c21_7]; decide) (by rw [c21_7]; decide) (by rw [c21_7]; rfl) (by decide) ?_
      refine J_aload_n (pc := 141) dX7_told_141 rfl ?_
      refine K_getR (pc := 142) dX7_told_142 kf_X7_10 job_0 jrf_0_0 ?_
      refine J_iload_n (pc := 145) dX7_told_145 rfl ?_
      refine K_callVp (pc := 146) (id := 1) (As := [_]) dX7_told_146 kl_X7_116 rfl job_1 rfl rfl (Nat.le_of_ble_eq_true rfl) (c_paceOf (o := 1) (Or.inl rfl) (by omega)) ?_
      refine K_iret (pc := 149) dX7_told_149 rfl ⟨_, rfl, ?_⟩
      show (_, _) = _
      unfold F_told
      rw [htq]
      try first | rw [if_pos h14] | rw [if_neg h14] | rw [if_neg (Classical.not_not.mpr h14)]
      try first | rw [if_pos c21_0] | rw [if_neg c21_0] | rw [if_neg (Classical.not_not.mpr c21_0)]
      try first | rw [if_pos c21_1] | rw [if_neg c21_1] | rw [if_neg (Classical.not_not.mpr c21_1)]
      try first | rw [if_pos c21_2] | rw [if_neg c21_2] | rw [if_neg (Classical.not_not.mpr c21_2)]
      try first | rw [if_pos c21_3] | rw [if_neg c21_3] | rw [if_neg (Classical.not_not.mpr c21_3)]
      try first | rw [if_pos c21_4] | rw [if_neg c21_4] | rw [if_neg (Classical.not_not.mpr c21_4)]
      try first | rw [if_pos c21_5] | rw [if_neg c21_5] | rw [if_neg (Classical.not_not.mpr c21_5)]
      try first | rw [if_pos c21_6] | rw [if_neg c21_6] | rw [if_neg (Classical.not_not.mpr c21_6)]
      try first | rw [if_pos c21_7] | rw [if_neg c21_7] | rw [if_neg (Classical.not_not.mpr c21_7)]
      try rfl
    by_cases c21_8 : w = nI 8
    ·
      refine J_tsIn (pc := 21) (tgt := 150) (off := 129) dX7_told_21 (by rw [c21_8]; decide) (by rw [c21_8]; decide) (by rw [c21_8]; rfl) (by decide) ?_
      refine J_aload_n (pc := 150) dX7_told_150 rfl ?_
      refine K_getR (pc := 151) dX7_told_151 kf_X7_10 job_0 jrf_0_0 ?_
      refine J_iload_n (pc := 154) dX7_told_154 rfl ?_
      refine K_callVp (pc := 155) (id := 1) (As := [_]) dX7_told_155 kl_X7_119 rfl job_1 rfl rfl (Nat.le_of_ble_eq_true rfl) (c_givenBy (o := 1) (Or.inl rfl) (by omega)) ?_
      refine K_iret (pc := 158) dX7_told_158 rfl ⟨_, rfl, ?_⟩
      show (_, _) = _
      unfold F_told
      rw [htq]
      try first | rw [if_pos h14] | rw [if_neg h14] | rw [if_neg (Classical.not_not.mpr h14)]
      try first | rw [if_pos c21_0] | rw [if_neg c21_0] | rw [if_neg (Classical.not_not.mpr c21_0)]
      try first | rw [if_pos c21_1] | rw [if_neg c21_1] | rw [if_neg (Classical.not_not.mpr c21_1)]
      try first | rw [if_pos c21_2] | rw [if_neg c21_2] | rw [if_neg (Classical.not_not.mpr c21_2)]
      try first | rw [if_pos c21_3] | rw [if_neg c21_3] | rw [if_neg (Classical.not_not.mpr c21_3)]
      try first | rw [if_pos c21_4] | rw [if_neg c21_4] | rw [if_neg (Classical.not_not.mpr c21_4)]
      try first | rw [if_pos c21_5] | rw [if_neg c21_5] | rw [if_neg (Classical.not_not.mpr c21_5)]
      try first | rw [if_pos c21_6] | rw [if_neg c21_6] | rw [if_neg (Classical.not_not.mpr c21_6)]
      try first | rw [if_pos c21_7] | rw [if_neg c21_7] | rw [if_neg (Classical.not_not.mpr c21_7)]
      try first | rw [if_pos c21_8] | rw [if_neg c21_8] | rw [if_neg (Classical.not_not.mpr c21_8)]
      try rfl
    refine J_tsOut (pc := 21) (tgt := 159) dX7_told_21 (by have qc21_0 := jsw_ne c21_0 (by decide); have qc21_1 := jsw_ne c21_1 (by decide); have qc21_2 := jsw_ne c21_2 (by decide); have qc21_3 := jsw_ne c21_3 (by decide); have qc21_4 := jsw_ne c21_4 (by decide); have qc21_5 := jsw_ne c21_5 (by decide); have qc21_6 := jsw_ne c21_6 (by decide); have qc21_7 := jsw_ne c21_7 (by decide); have qc21_8 := jsw_ne c21_8 (by decide); omega) (by decide) ?_
    refine J_ldc (pc := 159) dX7_told_159 kc_X7_80 ?_
    refine K_iret (pc := 161) dX7_told_161 rfl ⟨_, rfl, ?_⟩
    show (_, _) = _
    unfold F_told
    try first | rw [if_pos h14] | rw [if_neg h14] | rw [if_neg (Classical.not_not.mpr h14)]
    try first | rw [if_pos c21_0] | rw [if_neg c21_0] | rw [if_neg (Classical.not_not.mpr c21_0)]
    try first | rw [if_pos c21_1] | rw [if_neg c21_1] | rw [if_neg (Classical.not_not.mpr c21_1)]
    try first | rw [if_pos c21_2] | rw [if_neg c21_2] | rw [if_neg (Classical.not_not.mpr c21_2)]
    try first | rw [if_pos c21_3] | rw [if_neg c21_3] | rw [if_neg (Classical.not_not.mpr c21_3)]
    try first | rw [if_pos c21_4] | rw [if_neg c21_4] | rw [if_neg (Classical.not_not.mpr c21_4)]
    try first | rw [if_pos c21_5] | rw [if_neg c21_5] | rw [if_neg (Classical.not_not.mpr c21_5)]
    try first | rw [if_pos c21_6] | rw [if_neg c21_6] | rw [if_neg (Classical.not_not.mpr c21_6)]
    try first | rw [if_pos c21_7] | rw [if_neg c21_7] | rw [if_neg (Classical.not_not.mpr c21_7)]
    try first | rw [if_pos c21_8] | rw [if_neg c21_8] | rw [if_neg (Classical.not_not.mpr c21_8)]
    try rfl
  · 
    refine J_ldc (pc := 17) dX7_told_17 kc_X7_80 ?_
    refine K_iret (pc := 19) dX7_told_19 rfl ⟨_, rfl, ?_⟩
    show (_, _) = _
    unfold F_told
    try first | rw [if_pos h14] | rw [if_neg h14] | rw [if_neg (Classical.not_not.mpr h14)]
    try rfl
noncomputable def F_as (m : jm) (p k : Int32) : Int32 × jm := by
  classical exact if ¬ (nI 0 ≤ p ∧ p ≤ m 1 0 - nI 1) then (-1000000001, m) else if ¬ (nI 0 ≤ k ∧ k ≤ nI 5) then (-1000000001, m) else if isOfP (m 2 (tN p)) k then (m 4 (tN p), m) else (-1000000012, m)
set_option maxRecDepth 100000 in
set_option maxHeartbeats 400000 in
theorem p_as {x : jX} {m : jm} {d : Nat} (p k : Int32) {P : Nat} (hP : m 1 0 = nI P) (h48 : P ≤ 48) (hk : ∀ p, p < P → vp_in (m 2 p) 6) : Ct x (d + 1) eX7_as [.ref (jxb x + 0), .int p, .int k] m (ji fun rv m' => (rv, m') = F_as m p k) := by
  refine J_start (by decide +kernel) (Nat.le_of_ble_eq_true rfl) (ls := [some (.ref (jxb x + 0)), some (.int p), some (.int k)]) rfl rfl ?_
  refine J_iload_n (pc := 0) dX7_as_0 rfl ?_
  refine J_iconst (pc := 1) dX7_as_1 kni_0 ?_
  refine J_aload_n (pc := 2) dX7_as_2 rfl ?_
  refine K_getR (pc := 3) dX7_as_3 kf_X7_10 job_0 jrf_0_0 ?_
  refine K_getI (pc := 6) dX7_as_6 kf_X7_86 job_1 jrf_1_0 ?_
  refine J_iconst (pc := 9) dX7_as_9 kni_1 ?_
  refine J_isub (pc := 10) dX7_as_10 ?_
  refine K_callSp (pc := 11) (As := [_, _, _]) dX7_as_11 kl_X7_76 rfl rfl (Nat.le_of_ble_eq_true rfl) (c_within _ _ _) ?_
  refine Jb_eq (pc := 14) (tgt := 26) dX7_as_14 (by decide) (fun h14 => ?_) (fun h14 => ?_)
  · 
    refine J_ldc (pc := 26) dX7_as_26 kc_X7_80 ?_
    refine K_iret (pc := 28) dX7_as_28 rfl ⟨_, rfl, ?_⟩
    show (_, _) = _
    unfold F_as
    try first | rw [if_pos h14] | rw [if_neg h14] | rw [if_neg (Classical.not_not.mpr h14)]
    try rfl
  · 
    refine J_iload_n (pc := 17) dX7_as_17 rfl ?_
    refine J_iconst (pc := 18) dX7_as_18 kni_0 ?_
    refine J_iconst (pc := 19) dX7_as_19 kni_5 ?_
    refine K_callSp (pc := 20) (As := [_, _, _]) dX7_as_20 kl_X7_76 rfl rfl (Nat.le_of_ble_eq_true rfl) (c_within _ _ _) ?_
    refine Jb_ne (pc := 23) (tgt := 29) dX7_as_23 (by decide) (fun h23 => ?_) (fun h23 => ?_)
    · 
      obtain ⟨q, hq, hqe⟩ := w_sub hP h48 h14
      have htq : tN p = q := by rw [hqe]; exact tN_n (by omega)
      subst hqe
      refine J_aload_n (pc := 29) dX7_as_29 rfl ?_
      refine K_getR (pc := 30) dX7_as_30 kf_X7_10 job_0 jrf_0_0 ?_
      refine J_iload_n (pc := 33) dX7_as_33 rfl ?_
      refine J_iload_n (pc := 34) dX7_as_34 rfl ?_
      refine K_callVp (pc := 35) (id := 1) (As := [_, _]) dX7_as_35 kl_X7_122 rfl job_1 rfl rfl (Nat.le_of_ble_eq_true rfl) (c_isOf (o := 1) (p := q) (Or.inl rfl) (by omega) (hk q hq) k) ?_
      refine Jp_eq (pc := 38) (tgt := 53) dX7_as_38 (by decide) (fun h38 => ?_) (fun h38 => ?_)
      · 
        refine J_ldc (pc := 53) dX7_as_53 kc_X7_126 ?_
        refine K_iret (pc := 55) dX7_as_55 rfl ⟨_, rfl, ?_⟩
        show (_, _) = _
        unfold F_as
        rw [htq]
        try first | rw [if_pos h14] | rw [if_neg h14] | rw [if_neg (Classical.not_not.mpr h14)]
        try first | rw [if_pos h23] | rw [if_neg h23] | rw [if_neg (Classical.not_not.mpr h23)]
        try first | rw [if_pos h38] | rw [if_neg h38] | rw [if_neg (Classical.not_not.mpr h38)]
        try rfl
      · 
        refine J_aload_n (pc := 41) dX7_as_41 rfl ?_
        refine K_getR (pc := 42) dX7_as_42 kf_X7_10 job_0 jrf_0_0 ?_
        refine K_getR (pc := 45) dX7_as_45 kf_X7_100 job_1 jrf_1_3 ?_
        refine J_iload_n (pc := 48) dX7_as_48 rfl ?_
        refine K_ialdn (pc := 49) (id := 4) dX7_as_49 jar_4 (by omega) (by decide) ?_
        refine J_goto (pc := 50) (tgt := 55) dX7_as_50 (by decide) ?_
        refine K_iret (pc := 55) dX7_as_55 rfl ⟨_, rfl, ?_⟩
        show (_, _) = _
        unfold F_as
        rw [htq]
        try first | rw [if_pos h14] | rw [if_neg h14] | rw [if_neg (Classical.not_not.mpr h14)]
        try first | rw [if_pos h23] | rw [if_neg h23] | rw [if_neg (Classical.not_not.mpr h23)]
        try first | rw [if_pos h38] | rw [if_neg h38] | rw [if_neg (Classical.not_not.mpr h38)]
        try rfl
    · 
      refine J_ldc (pc := 26) dX7_as_26 kc_X7_80 ?_
      refine K_iret (pc := 28) dX7_as_28 rfl ⟨_, rfl, ?_⟩
      show (_, _) = _
      unfold F_as
      try first | rw [if_pos h14] | rw [if_neg h14] | rw [if_neg (Classical.not_not.mpr h14)]
      try first | rw [if_pos h23] | rw [if_neg h23] | rw [if_neg (Classical.not_not.mpr h23)]
      try rfl
def F_dies (m : jm) (p : Int32) : Int32 × jm :=
  if ¬ (nI 0 ≤ p ∧ p ≤ m 1 0 - nI 1) then (-1000000001, m) else if m 2 (tN p) = nI 5 then (-1000000002, m) else (nI 1, mup m 2 (tN p) (nI 5))
set_option maxRecDepth 100000 in
set_option maxHeartbeats 400000 in
theorem p_dies {x : jX} {m : jm} {d : Nat} (p : Int32) {P : Nat} (hP : m 1 0 = nI P) (h48 : P ≤ 48) : Ct x (d + 1) eX7_dies [.ref (jxb x + 0), .int p] m (ji fun rv m' => (rv, m') = F_dies m p) := by
  refine J_start (by decide +kernel) (Nat.le_of_ble_eq_true rfl) (ls := [some (.ref (jxb x + 0)), some (.int p)]) rfl rfl ?_
  refine J_iload_n (pc := 0) dX7_dies_0 rfl ?_
  refine J_iconst (pc := 1) dX7_dies_1 kni_0 ?_
  refine J_aload_n (pc := 2) dX7_dies_2 rfl ?_
  refine K_getR (pc := 3) dX7_dies_3 kf_X7_10 job_0 jrf_0_0 ?_
  refine K_getI (pc := 6) dX7_dies_6 kf_X7_86 job_1 jrf_1_0 ?_
  refine J_iconst (pc := 9) dX7_dies_9 kni_1 ?_
  refine J_isub (pc := 10) dX7_dies_10 ?_
  refine K_callSp (pc := 11) (As := [_, _, _]) dX7_dies_11 kl_X7_76 rfl rfl (Nat.le_of_ble_eq_true rfl) (c_within _ _ _) ?_
  refine Jb_ne (pc := 14) (tgt := 20) dX7_dies_14 (by decide) (fun h14 => ?_) (fun h14 => ?_)
  · 
    obtain ⟨q, hq, hqe⟩ := w_sub hP h48 h14
    have htq : tN p = q := by rw [hqe]; exact tN_n (by omega)
    subst hqe
    refine J_aload_n (pc := 20) dX7_dies_20 rfl ?_
    refine K_getR (pc := 21) dX7_dies_21 kf_X7_10 job_0 jrf_0_0 ?_
    refine K_getR (pc := 24) dX7_dies_24 kf_X7_94 job_1 jrf_1_1 ?_
    refine J_iload_n (pc := 27) dX7_dies_27 rfl ?_
    refine K_ialdn (pc := 28) (id := 2) dX7_dies_28 jar_2 (by omega) (by decide) ?_
    refine J_iconst (pc := 29) dX7_dies_29 kni_5 ?_
    refine J_icmp_ne (pc := 30) (tgt := 36) dX7_dies_30 (by decide) (fun h30 => ?_) (fun h30 => ?_)
    · 
      refine J_aload_n (pc := 36) dX7_dies_36 rfl ?_
      refine K_getR (pc := 37) dX7_dies_37 kf_X7_10 job_0 jrf_0_0 ?_
      refine K_getR (pc := 40) dX7_dies_40 kf_X7_94 job_1 jrf_1_1 ?_
      refine J_iload_n (pc := 43) dX7_dies_43 rfl ?_
      refine J_iconst (pc := 44) dX7_dies_44 kni_5 ?_
      refine K_iastn (pc := 45) (id := 2) dX7_dies_45 jar_2 (by omega) (by decide) ?_
      refine J_iconst (pc := 46) dX7_dies_46 kni_1 ?_
      refine K_iret (pc := 47) dX7_dies_47 rfl ⟨_, rfl, ?_⟩
      show (_, _) = _
      unfold F_dies
      rw [htq]
      try first | rw [if_pos h14] | rw [if_neg h14] | rw [if_neg (Classical.not_not.mpr h14)]
      try first | rw [if_pos h30] | rw [if_neg h30] | rw [if_neg (Classical.not_not.mpr h30)]
      try rfl
    · 
      refine J_ldc (pc := 33) dX7_dies_33 kc_X7_85 ?_
      refine K_iret (pc := 35) dX7_dies_35 rfl ⟨_, rfl, ?_⟩
      show (_, _) = _
      unfold F_dies
      rw [htq]
      try first | rw [if_pos h14] | rw [if_neg h14] | rw [if_neg (Classical.not_not.mpr h14)]
      try first | rw [if_pos h30] | rw [if_neg h30] | rw [if_neg (Classical.not_not.mpr h30)]
      try rfl
  · 
    refine J_ldc (pc := 17) dX7_dies_17 kc_X7_80 ?_
    refine K_iret (pc := 19) dX7_dies_19 rfl ⟨_, rfl, ?_⟩
    show (_, _) = _
    unfold F_dies
    try first | rw [if_pos h14] | rw [if_neg h14] | rw [if_neg (Classical.not_not.mpr h14)]
    try rfl
def F_nerve (m : jm) (n w v : Int32) : Int32 × jm :=
  if ¬ (nI 0 ≤ n ∧ n ≤ nI 9) then (-1000000001, m) else if w = 0 ∧ nI 0 ≤ v ∧ v ≤ nI 5 then (m 10 (tN n), mup m 10 (tN n) v) else if w = nI 1 ∧ nI 1 ≤ v ∧ v ≤ nI 9 then (m 11 (tN n), mup m 11 (tN n) v) else (-1000000001, m)
set_option maxRecDepth 100000 in
set_option maxHeartbeats 400000 in
theorem p_nerve {x : jX} {m : jm} {d : Nat} (n w v : Int32) : Ct x (d + 1) eX7_nerve [.ref (jxb x + 0), .int n, .int w, .int v] m (ji fun rv m' => (rv, m') = F_nerve m n w v) := by
  refine J_start (by decide +kernel) (Nat.le_of_ble_eq_true rfl) (ls := [some (.ref (jxb x + 0)), some (.int n), some (.int w), some (.int v)]) rfl rfl ?_
  refine J_iload_n (pc := 0) dX7_nerve_0 rfl ?_
  refine J_iconst (pc := 1) dX7_nerve_1 kni_0 ?_
  refine J_bipush (pc := 2) dX7_nerve_2 knb_9 ?_
  refine K_callSp (pc := 4) (As := [_, _, _]) dX7_nerve_4 kl_X7_76 rfl rfl (Nat.le_of_ble_eq_true rfl) (c_within _ _ _) ?_
  refine Jb_ne (pc := 7) (tgt := 13) dX7_nerve_7 (by decide) (fun h7 => ?_) (fun h7 => ?_)
  · 
    obtain ⟨q, hq, hqe⟩ := w_of h7 (by decide)
    have htq : tN n = q := by rw [hqe]; exact tN_n (by omega)
    subst hqe
    refine J_iload_n (pc := 13) dX7_nerve_13 rfl ?_
    refine J_if_ne (pc := 14) (tgt := 39) dX7_nerve_14 (by decide) (fun h14 => ?_) (fun h14 => ?_)
    · 
      refine J_iload_n (pc := 39) dX7_nerve_39 rfl ?_
      refine J_iconst (pc := 40) dX7_nerve_40 kni_1 ?_
      refine J_icmp_ne (pc := 41) (tgt := 67) dX7_nerve_41 (by decide) (fun h41 => ?_) (fun h41 => ?_)
      · 
        refine J_ldc (pc := 67) dX7_nerve_67 kc_X7_80 ?_
        refine K_iret (pc := 69) dX7_nerve_69 rfl ⟨_, rfl, ?_⟩
        show (_, _) = _
        unfold F_nerve
        try rw [htq]
        rw [if_neg (Classical.not_not.mpr h7), if_neg (fun q => h14 q.1), if_neg (fun q => h41 q.1)]
      · 
        refine J_iload_n (pc := 44) dX7_nerve_44 rfl ?_
        refine J_iconst (pc := 45) dX7_nerve_45 kni_1 ?_
        refine J_bipush (pc := 46) dX7_nerve_46 knb_9 ?_
        refine K_callSp (pc := 48) (As := [_, _, _]) dX7_nerve_48 kl_X7_76 rfl rfl (Nat.le_of_ble_eq_true rfl) (c_within _ _ _) ?_
        refine Jb_eq (pc := 51) (tgt := 67) dX7_nerve_51 (by decide) (fun h51 => ?_) (fun h51 => ?_)
        · 
          refine J_ldc (pc := 67) dX7_nerve_67 kc_X7_80 ?_
          refine K_iret (pc := 69) dX7_nerve_69 rfl ⟨_, rfl, ?_⟩
          show (_, _) = _
          unfold F_nerve
          try rw [htq]
          rw [if_neg (Classical.not_not.mpr h7), if_neg (fun q => h14 q.1), if_neg (fun q => h51 q.2)]
        · 
          refine J_aload_n (pc := 54) dX7_nerve_54 rfl ?_
          refine K_getR (pc := 55) dX7_nerve_55 kf_X7_10 job_0 jrf_0_0 ?_
          refine K_getR (pc := 58) dX7_nerve_58 kf_X7_134 job_1 jrf_1_10 ?_
          refine J_iload_n (pc := 61) dX7_nerve_61 rfl ?_
          refine J_iload_n (pc := 62) dX7_nerve_62 rfl ?_
          refine K_callSi (pc := 63) (As := [_, _, _]) dX7_nerve_63 kl_X7_130 rfl rfl (Nat.le_of_ble_eq_true rfl) (c_replaced (ar := 11) (nn := 10) (j := q) (jSt_weight (Or.inl rfl)) (by omega) (by decide) v) (fun vr mr hr => ?_)
          obtain ⟨rfl, rfl⟩ := hr
          refine K_iret (pc := 66) dX7_nerve_66 rfl ⟨_, rfl, ?_⟩
          show (_, _) = _
          unfold F_nerve
          try rw [htq]
          rw [if_neg (Classical.not_not.mpr h7), if_neg (fun q => h14 q.1), if_pos ⟨h41, h51⟩]
    · 
      refine J_iload_n (pc := 17) dX7_nerve_17 rfl ?_
      refine J_iconst (pc := 18) dX7_nerve_18 kni_0 ?_
      refine J_iconst (pc := 19) dX7_nerve_19 kni_5 ?_
      refine K_callSp (pc := 20) (As := [_, _, _]) dX7_nerve_20 kl_X7_76 rfl rfl (Nat.le_of_ble_eq_true rfl) (c_within _ _ _) ?_
      refine Jb_eq (pc := 23) (tgt := 39) dX7_nerve_23 (by decide) (fun h23 => ?_) (fun h23 => ?_)
      · 
        refine J_iload_n (pc := 39) dX7_nerve_39 rfl ?_
        refine J_iconst (pc := 40) dX7_nerve_40 kni_1 ?_
        refine J_icmp_ne (pc := 41) (tgt := 67) dX7_nerve_41 (by decide) (fun h41 => ?_) (fun h41 => ?_)
        · 
          refine J_ldc (pc := 67) dX7_nerve_67 kc_X7_80 ?_
          refine K_iret (pc := 69) dX7_nerve_69 rfl ⟨_, rfl, ?_⟩
          show (_, _) = _
          unfold F_nerve
          try rw [htq]
          rw [if_neg (Classical.not_not.mpr h7), if_neg (fun q => h23 q.2), if_neg (fun q => h41 q.1)]
        · 
          refine J_iload_n (pc := 44) dX7_nerve_44 rfl ?_
          refine J_iconst (pc := 45) dX7_nerve_45 kni_1 ?_
          refine J_bipush (pc := 46) dX7_nerve_46 knb_9 ?_
          refine K_callSp (pc := 48) (As := [_, _, _]) dX7_nerve_48 kl_X7_76 rfl rfl (Nat.le_of_ble_eq_true rfl) (c_within _ _ _) ?_
          refine Jb_eq (pc := 51) (tgt := 67) dX7_nerve_51 (by decide) (fun h51 => ?_) (fun h51 => ?_)
          · 
            refine J_ldc (pc := 67) dX7_nerve_67 kc_X7_80 ?_
            refine K_iret (pc := 69) dX7_nerve_69 rfl ⟨_, rfl, ?_⟩
            show (_, _) = _
            unfold F_nerve
            try rw [htq]
            rw [if_neg (Classical.not_not.mpr h7), if_neg (fun q => h23 q.2), if_neg (fun q => h51 q.2)]
          · 
            refine J_aload_n (pc := 54) dX7_nerve_54 rfl ?_
            refine K_getR (pc := 55) dX7_nerve_55 kf_X7_10 job_0 jrf_0_0 ?_
            refine K_getR (pc := 58) dX7_nerve_58 kf_X7_134 job_1 jrf_1_10 ?_
            refine J_iload_n (pc := 61) dX7_nerve_61 rfl ?_
            refine J_iload_n (pc := 62) dX7_nerve_62 rfl ?_
            refine K_callSi (pc := 63) (As := [_, _, _]) dX7_nerve_63 kl_X7_130 rfl rfl (Nat.le_of_ble_eq_true rfl) (c_replaced (ar := 11) (nn := 10) (j := q) (jSt_weight (Or.inl rfl)) (by omega) (by decide) v) (fun vr mr hr => ?_)
            obtain ⟨rfl, rfl⟩ := hr
            refine K_iret (pc := 66) dX7_nerve_66 rfl ⟨_, rfl, ?_⟩
            show (_, _) = _
            unfold F_nerve
            try rw [htq]
            rw [if_neg (Classical.not_not.mpr h7), if_neg (fun q => h23 q.2), if_pos ⟨h41, h51⟩]
      · 
        refine J_aload_n (pc := 26) dX7_nerve_26 rfl ?_
        refine K_getR (pc := 27) dX7_nerve_27 kf_X7_10 job_0 jrf_0_0 ?_
        refine K_getR (pc := 30) dX7_nerve_30 kf_X7_127 job_1 jrf_1_9 ?_
        refine J_iload_n (pc := 33) dX7_nerve_33 rfl ?_
        refine J_iload_n (pc := 34) dX7_nerve_34 rfl ?_
        refine K_callSi (pc := 35) (As := [_, _, _]) dX7_nerve_35 kl_X7_130 rfl rfl (Nat.le_of_ble_eq_true rfl) (c_replaced (ar := 10) (nn := 10) (j := q) (jSt_group (Or.inl rfl)) (by omega) (by decide) v) (fun vr mr hr => ?_)
        obtain ⟨rfl, rfl⟩ := hr
        refine K_iret (pc := 38) dX7_nerve_38 rfl ⟨_, rfl, ?_⟩
        show (_, _) = _
        unfold F_nerve
        try rw [htq]
        rw [if_neg (Classical.not_not.mpr h7), if_pos ⟨h14, h23⟩]
  · 
    refine J_ldc (pc := 10) dX7_nerve_10 kc_X7_80 ?_
    refine K_iret (pc := 12) dX7_nerve_12 rfl ⟨_, rfl, ?_⟩
    show (_, _) = _
    unfold F_nerve
    try first | rw [if_pos h7] | rw [if_neg h7] | rw [if_neg (Classical.not_not.mpr h7)]
    try rfl
def F_pull (m : jm) (g v : Int32) : Int32 × jm :=
  if ¬ (nI 0 ≤ g ∧ g ≤ nI 5) then (-1000000001, m) else if ¬ (nI 0 ≤ v ∧ v ≤ nI 9) then (-1000000001, m) else (m 12 (tN g), mup m 12 (tN g) v)
set_option maxRecDepth 100000 in
set_option maxHeartbeats 400000 in
theorem p_pull {x : jX} {m : jm} {d : Nat} (g v : Int32) : Ct x (d + 1) eX7_pull [.ref (jxb x + 0), .int g, .int v] m (ji fun rv m' => (rv, m') = F_pull m g v) := by
  refine J_start (by decide +kernel) (Nat.le_of_ble_eq_true rfl) (ls := [some (.ref (jxb x + 0)), some (.int g), some (.int v)]) rfl rfl ?_
  refine J_iload_n (pc := 0) dX7_pull_0 rfl ?_
  refine J_iconst (pc := 1) dX7_pull_1 kni_0 ?_
  refine J_iconst (pc := 2) dX7_pull_2 kni_5 ?_
  refine K_callSp (pc := 3) (As := [_, _, _]) dX7_pull_3 kl_X7_76 rfl rfl (Nat.le_of_ble_eq_true rfl) (c_within _ _ _) ?_
  refine Jb_eq (pc := 6) (tgt := 19) dX7_pull_6 (by decide) (fun h6 => ?_) (fun h6 => ?_)
  · 
    refine J_ldc (pc := 19) dX7_pull_19 kc_X7_80 ?_
    refine K_iret (pc := 21) dX7_pull_21 rfl ⟨_, rfl, ?_⟩
    show (_, _) = _
    unfold F_pull
    try first | rw [if_pos h6] | rw [if_neg h6] | rw [if_neg (Classical.not_not.mpr h6)]
    try rfl
  · 
    refine J_iload_n (pc := 9) dX7_pull_9 rfl ?_
    refine J_iconst (pc := 10) dX7_pull_10 kni_0 ?_
    refine J_bipush (pc := 11) dX7_pull_11 knb_9 ?_
    refine K_callSp (pc := 13) (As := [_, _, _]) dX7_pull_13 kl_X7_76 rfl rfl (Nat.le_of_ble_eq_true rfl) (c_within _ _ _) ?_
    refine Jb_ne (pc := 16) (tgt := 22) dX7_pull_16 (by decide) (fun h16 => ?_) (fun h16 => ?_)
    · 
      obtain ⟨q, hq, hqe⟩ := w_of h6 (by decide)
      have htq : tN g = q := by rw [hqe]; exact tN_n (by omega)
      subst hqe
      refine J_aload_n (pc := 22) dX7_pull_22 rfl ?_
      refine K_getR (pc := 23) dX7_pull_23 kf_X7_10 job_0 jrf_0_0 ?_
      refine K_getR (pc := 26) dX7_pull_26 kf_X7_137 job_1 jrf_1_11 ?_
      refine J_iload_n (pc := 29) dX7_pull_29 rfl ?_
      refine J_iload_n (pc := 30) dX7_pull_30 rfl ?_
      refine K_callSi (pc := 31) (As := [_, _, _]) dX7_pull_31 kl_X7_130 rfl rfl (Nat.le_of_ble_eq_true rfl) (c_replaced (ar := 12) (nn := 6) (j := q) (jSt_pull (Or.inl rfl)) (by omega) (by decide) v) (fun vr mr hr => ?_)
      obtain ⟨rfl, rfl⟩ := hr
      refine K_iret (pc := 34) dX7_pull_34 rfl ⟨_, rfl, ?_⟩
      show (_, _) = _
      unfold F_pull
      rw [htq]
      try first | rw [if_pos h6] | rw [if_neg h6] | rw [if_neg (Classical.not_not.mpr h6)]
      try first | rw [if_pos h16] | rw [if_neg h16] | rw [if_neg (Classical.not_not.mpr h16)]
      try rfl
    · 
      refine J_ldc (pc := 19) dX7_pull_19 kc_X7_80 ?_
      refine K_iret (pc := 21) dX7_pull_21 rfl ⟨_, rfl, ?_⟩
      show (_, _) = _
      unfold F_pull
      try first | rw [if_pos h6] | rw [if_neg h6] | rw [if_neg (Classical.not_not.mpr h6)]
      try first | rw [if_pos h16] | rw [if_neg h16] | rw [if_neg (Classical.not_not.mpr h16)]
      try rfl
def F_rule (m : jm) (w v : Int32) : Int32 × jm :=
  if ¬ (nI 0 ≤ w ∧ w ≤ nI 3) then (-1000000001, m) else if ¬ ((jtb 2).getD (tN w) 0 ≤ v ∧ v ≤ (jtb 3).getD (tN w) 0) then (-1000000001, m) else (m 13 (tN w), mup m 13 (tN w) v)
set_option maxRecDepth 100000 in
set_option maxHeartbeats 400000 in
theorem p_rule {x : jX} {m : jm} {d : Nat} (w v : Int32) : Ct x (d + 1) eX7_rule [.ref (jxb x + 0), .int w, .int v] m (ji fun rv m' => (rv, m') = F_rule m w v) := by
  refine J_start (by decide +kernel) (Nat.le_of_ble_eq_true rfl) (ls := [some (.ref (jxb x + 0)), some (.int w), some (.int v)]) rfl rfl ?_
  refine J_iload_n (pc := 0) dX7_rule_0 rfl ?_
  refine J_iconst (pc := 1) dX7_rule_1 kni_0 ?_
  refine J_iconst (pc := 2) dX7_rule_2 kni_3 ?_
  refine K_callSp (pc := 3) (As := [_, _, _]) dX7_rule_3 kl_X7_76 rfl rfl (Nat.le_of_ble_eq_true rfl) (c_within _ _ _) ?_
  refine Jb_eq (pc := 6) (tgt := 26) dX7_rule_6 (by decide) (fun h6 => ?_) (fun h6 => ?_)
  · 
    refine J_ldc (pc := 26) dX7_rule_26 kc_X7_80 ?_
    refine K_iret (pc := 28) dX7_rule_28 rfl ⟨_, rfl, ?_⟩
    show (_, _) = _
    unfold F_rule
    try rw [htq]
    try first | rw [if_pos h6] | rw [if_neg h6] | rw [if_neg (Classical.not_not.mpr h6)]
    try rfl
  · 
    obtain ⟨q, hq, hqe⟩ := w_of h6 (by decide)
    have htq : tN w = q := by rw [hqe]; exact tN_n (by omega)
    subst hqe
    refine J_iload_n (pc := 9) dX7_rule_9 rfl ?_
    refine J_gets (pc := 10) (j := 2) dX7_rule_10 (by decide) ks_X7_140 ?_
    refine J_iload_n (pc := 13) dX7_rule_13 rfl ?_
    refine K_tldn (pc := 14) dX7_rule_14 (by decide) (by have e : (jtb 2).length = 4 := rfl; omega) ?_
    refine J_gets (pc := 15) (j := 3) dX7_rule_15 (by decide) ks_X7_143 ?_
    refine J_iload_n (pc := 18) dX7_rule_18 rfl ?_
    refine K_tldn (pc := 19) dX7_rule_19 (by decide) (by have e : (jtb 3).length = 4 := rfl; omega) ?_
    refine K_callSp (pc := 20) (As := [_, _, _]) dX7_rule_20 kl_X7_76 rfl rfl (Nat.le_of_ble_eq_true rfl) (c_within _ _ _) ?_
    refine Jb_ne (pc := 23) (tgt := 29) dX7_rule_23 (by decide) (fun h23 => ?_) (fun h23 => ?_)
    · 
      refine J_aload_n (pc := 29) dX7_rule_29 rfl ?_
      refine K_getR (pc := 30) dX7_rule_30 kf_X7_10 job_0 jrf_0_0 ?_
      refine K_getR (pc := 33) dX7_rule_33 kf_X7_146 job_1 jrf_1_12 ?_
      refine J_iload_n (pc := 36) dX7_rule_36 rfl ?_
      refine J_iload_n (pc := 37) dX7_rule_37 rfl ?_
      refine K_callSi (pc := 38) (As := [_, _, _]) dX7_rule_38 kl_X7_130 rfl rfl (Nat.le_of_ble_eq_true rfl) (c_replaced (ar := 13) (nn := 4) (j := q) (jSt_rules (Or.inl rfl)) (by omega) (by decide) v) (fun vr mr hr => ?_)
      obtain ⟨rfl, rfl⟩ := hr
      refine K_iret (pc := 41) dX7_rule_41 rfl ⟨_, rfl, ?_⟩
      show (_, _) = _
      unfold F_rule
      rw [htq]
      try first | rw [if_pos h6] | rw [if_neg h6] | rw [if_neg (Classical.not_not.mpr h6)]
      try first | rw [if_pos h23] | rw [if_neg h23] | rw [if_neg (Classical.not_not.mpr h23)]
      try rfl
    · 
      refine J_ldc (pc := 26) dX7_rule_26 kc_X7_80 ?_
      refine K_iret (pc := 28) dX7_rule_28 rfl ⟨_, rfl, ?_⟩
      show (_, _) = _
      unfold F_rule
      try rw [htq]
      try first | rw [if_pos h6] | rw [if_neg h6] | rw [if_neg (Classical.not_not.mpr h6)]
      try first | rw [if_pos h23] | rw [if_neg h23] | rw [if_neg (Classical.not_not.mpr h23)]
      try rfl
