def F_put (m : jm) (l p v : Int32) : Int32 × jm :=
  if ¬ (nI 0 ≤ l ∧ l ≤ nI 23) then (-1000000001, m) else if m 41 (tN l) = -1 then (-1000000011, m) else if ¬ (nI 0 ≤ p ∧ p ≤ m 42 (tN l) - nI 1) then (-1000000013, m) else (m (44 + tN l) (tN p), mup m (44 + tN l) (tN p) (if m 41 (tN l) = 0 then v.toInt8.toInt32 else v))
set_option maxRecDepth 100000 in
set_option maxHeartbeats 400000 in
theorem p_put {x : jX} {m : jm} {d : Nat} (l p v : Int32) (hL : ∀ l, l < 24 → ∃ n, n ≤ 24 ∧ m 42 l = nI n) : Ct x (d + 1) eX7_put [.ref (jxb x + 0), .int l, .int p, .int v] m (ji fun rv m' => (rv, m') = F_put m l p v) := by
  refine J_start (by decide +kernel) (Nat.le_of_ble_eq_true rfl) (ls := [some (.ref (jxb x + 0)), some (.int l), some (.int p), some (.int v)]) rfl rfl ?_
  refine J_iload_n (pc := 0) dX7_put_0 rfl ?_
  refine J_iconst (pc := 1) dX7_put_1 kni_0 ?_
  refine J_bipush (pc := 2) dX7_put_2 knb_23 ?_
  refine K_callSp (pc := 4) (As := [_, _, _]) dX7_put_4 kl_X7_76 rfl rfl (Nat.le_of_ble_eq_true rfl) (c_within _ _ _) ?_
  refine Jb_ne (pc := 7) (tgt := 13) dX7_put_7 (by decide) (fun h7 => ?_) (fun h7 => ?_)
  · 
    obtain ⟨q, hq, hqe⟩ := w_of h7 (by decide)
    have htq : tN l = q := by rw [hqe]; exact tN_n (by omega)
    subst hqe
    refine J_aload_n (pc := 13) dX7_put_13 rfl ?_
    refine K_getR (pc := 14) dX7_put_14 kf_X7_25 job_0 jrf_0_3 ?_
    refine K_getR (pc := 17) dX7_put_17 kf_X7_192 job_40 jrf_40_0 ?_
    refine J_iload_n (pc := 20) dX7_put_20 rfl ?_
    refine K_ialdn (pc := 21) (id := 41) dX7_put_21 jar_41 (by omega) (by decide) ?_
    refine J_iconst (pc := 22) dX7_put_22 kni_m1 ?_
    refine J_icmp_ne (pc := 23) (tgt := 29) dX7_put_23 (by decide) (fun h23 => ?_) (fun h23 => ?_)
    · 
      refine J_iload_n (pc := 29) dX7_put_29 rfl ?_
      refine J_iconst (pc := 30) dX7_put_30 kni_0 ?_
      refine J_aload_n (pc := 31) dX7_put_31 rfl ?_
      refine K_getR (pc := 32) dX7_put_32 kf_X7_25 job_0 jrf_0_3 ?_
      refine K_getR (pc := 35) dX7_put_35 kf_X7_196 job_40 jrf_40_1 ?_
      refine J_iload_n (pc := 38) dX7_put_38 rfl ?_
      refine K_ialdn (pc := 39) (id := 42) dX7_put_39 jar_42 (by omega) (by decide) ?_
      refine J_iconst (pc := 40) dX7_put_40 kni_1 ?_
      refine J_isub (pc := 41) dX7_put_41 ?_
      refine K_callSp (pc := 42) (As := [_, _, _]) dX7_put_42 kl_X7_76 rfl rfl (Nat.le_of_ble_eq_true rfl) (c_within _ _ _) ?_
      refine Jb_ne (pc := 45) (tgt := 51) dX7_put_45 (by decide) (fun h45 => ?_) (fun h45 => ?_)
      · 
        obtain ⟨ln, hln, hle⟩ := hL q (by omega)
        obtain ⟨r, hr, hre⟩ := w_sub hle (by omega) h45
        have htr : tN p = r := by rw [hre]; exact tN_n (by omega)
        subst hre
        refine J_aload_n (pc := 51) dX7_put_51 rfl ?_
        refine K_getR (pc := 52) dX7_put_52 kf_X7_25 job_0 jrf_0_3 ?_
        refine K_getR (pc := 55) dX7_put_55 kf_X7_200 job_40 jrf_40_2 ?_
        refine J_iload_n (pc := 58) dX7_put_58 rfl ?_
        refine K_aaldn (pc := 59) (t := 44 + q) dX7_put_59 job_43 (by omega) (by decide) (jgr_line (by omega)) ?_
        refine J_iload_n (pc := 60) dX7_put_60 rfl ?_
        refine J_aload_n (pc := 61) dX7_put_61 rfl ?_
        refine K_getR (pc := 62) dX7_put_62 kf_X7_25 job_0 jrf_0_3 ?_
        refine K_getR (pc := 65) dX7_put_65 kf_X7_192 job_40 jrf_40_0 ?_
        refine J_iload_n (pc := 68) dX7_put_68 rfl ?_
        refine K_ialdn (pc := 69) (id := 41) dX7_put_69 jar_41 (by omega) (by decide) ?_
        refine J_if_ne (pc := 70) (tgt := 78) dX7_put_70 (by decide) (fun h70 => ?_) (fun h70 => ?_)
        · 
          refine J_iload_n (pc := 78) dX7_put_78 rfl ?_
          refine K_callSi (pc := 79) (As := [_, _, _]) dX7_put_79 kl_X7_130 rfl rfl (Nat.le_of_ble_eq_true rfl) (c_replaced (ar := 44 + q) (nn := 24) (j := r) (jar_line (j := q) (by omega)) (by omega) (by decide) v) (fun vr mr hr2 => ?_)
          obtain ⟨rfl, rfl⟩ := hr2
          refine K_iret (pc := 82) dX7_put_82 rfl ⟨_, rfl, ?_⟩
          show (_, _) = _
          unfold F_put
          rw [htq, htr]
          try first | rw [if_pos h7] | rw [if_neg h7] | rw [if_neg (Classical.not_not.mpr h7)]
          try first | rw [if_pos h23] | rw [if_neg h23] | rw [if_neg (Classical.not_not.mpr h23)]
          try first | rw [if_pos h45] | rw [if_neg h45] | rw [if_neg (Classical.not_not.mpr h45)]
          try first | rw [if_pos h70] | rw [if_neg h70] | rw [if_neg (Classical.not_not.mpr h70)]
          try rfl
        · 
          refine J_iload_n (pc := 73) dX7_put_73 rfl ?_
          refine J_i2b (pc := 74) dX7_put_74 ?_
          refine J_goto (pc := 75) (tgt := 79) dX7_put_75 (by decide) ?_
          refine K_callSi (pc := 79) (As := [_, _, _]) dX7_put_79 kl_X7_130 rfl rfl (Nat.le_of_ble_eq_true rfl) (c_replaced (ar := 44 + q) (nn := 24) (j := r) (jar_line (j := q) (by omega)) (by omega) (by decide) (((v).toInt8.toInt32))) (fun vr mr hr2 => ?_)
          obtain ⟨rfl, rfl⟩ := hr2
          refine K_iret (pc := 82) dX7_put_82 rfl ⟨_, rfl, ?_⟩
          show (_, _) = _
          unfold F_put
          rw [htq, htr]
          try first | rw [if_pos h7] | rw [if_neg h7] | rw [if_neg (Classical.not_not.mpr h7)]
          try first | rw [if_pos h23] | rw [if_neg h23] | rw [if_neg (Classical.not_not.mpr h23)]
          try first | rw [if_pos h45] | rw [if_neg h45] | rw [if_neg (Classical.not_not.mpr h45)]
          try first | rw [if_pos h70] | rw [if_neg h70] | rw [if_neg (Classical.not_not.mpr h70)]
          try rfl
      · 
        refine J_ldc (pc := 48) dX7_put_48 kc_X7_199 ?_
        refine K_iret (pc := 50) dX7_put_50 rfl ⟨_, rfl, ?_⟩
        show (_, _) = _
        unfold F_put
        rw [htq]
        try first | rw [if_pos h7] | rw [if_neg h7] | rw [if_neg (Classical.not_not.mpr h7)]
        try first | rw [if_pos h23] | rw [if_neg h23] | rw [if_neg (Classical.not_not.mpr h23)]
        try first | rw [if_pos h45] | rw [if_neg h45] | rw [if_neg (Classical.not_not.mpr h45)]
        try rfl
    · 
      refine J_ldc (pc := 26) dX7_put_26 kc_X7_195 ?_
      refine K_iret (pc := 28) dX7_put_28 rfl ⟨_, rfl, ?_⟩
      show (_, _) = _
      unfold F_put
      rw [htq]
      try first | rw [if_pos h7] | rw [if_neg h7] | rw [if_neg (Classical.not_not.mpr h7)]
      try first | rw [if_pos h23] | rw [if_neg h23] | rw [if_neg (Classical.not_not.mpr h23)]
      try rfl
  · 
    refine J_ldc (pc := 10) dX7_put_10 kc_X7_80 ?_
    refine K_iret (pc := 12) dX7_put_12 rfl ⟨_, rfl, ?_⟩
    show (_, _) = _
    unfold F_put
    try first | rw [if_pos h7] | rw [if_neg h7] | rw [if_neg (Classical.not_not.mpr h7)]
    try rfl
theorem has_n {a z y : Int32} {L : Nat} (hy : y = nI L) (hL : L ≤ 24) (h : 0 ≤ z ∧ 0 ≤ a ∧ a ≤ y - z) : ∃ i k, i + k ≤ L ∧ a = nI i ∧ z = nI k := by
  obtain ⟨h1, h2, h3⟩ := h
  rw [Int32.le_iff_toInt_le, show (0 : Int32).toInt = 0 from rfl] at h1 h2
  have hz := z.toInt_lt
  have e : (y - z).toInt = (L : Int) - z.toInt := by
    rw [Int32.toInt_sub, hy, nI_toInt (by omega)]
    exact Int.bmod_eq_of_le (by omega) (by omega)
  rw [Int32.le_iff_toInt_le, e] at h3
  refine ⟨a.toInt.toNat, z.toInt.toNat, by omega, Int32.toInt_inj.mp ?_, Int32.toInt_inj.mp ?_⟩ <;> (rw [nI_toInt (by omega)]; omega)
def F_copy (m : jm) (f a t b z : Int32) : Int32 × jm :=
  if ¬ (nI 0 ≤ f ∧ f ≤ nI 23) then (-1000000001, m) else if ¬ (nI 0 ≤ t ∧ t ≤ nI 23) then (-1000000001, m) else if m 41 (tN f) = -1 then (-1000000011, m) else if m 41 (tN t) = -1 then (-1000000011, m) else if ¬ m 41 (tN f) = m 41 (tN t) then (-1000000012, m)
  else if ¬ (0 ≤ z ∧ 0 ≤ a ∧ a ≤ m 42 (tN f) - z) then (-1000000013, m) else if ¬ (0 ≤ z ∧ 0 ≤ b ∧ b ≤ m 42 (tN t) - z) then (-1000000013, m) else (z, mcpy m (44 + tN f) (44 + tN t) (tN a) (tN b) (tN z))
set_option maxRecDepth 100000 in
set_option maxHeartbeats 400000 in
theorem p_copy {x : jX} {m : jm} {d : Nat} (f a t b z : Int32) (hL : ∀ l, l < 24 → ∃ n, n ≤ 24 ∧ m 42 l = nI n) : Ct x (d + 1) eX7_copy [.ref (jxb x + 0), .int f, .int a, .int t, .int b, .int z] m (ji fun rv m' => (rv, m') = F_copy m f a t b z) := by
  refine J_start (by decide +kernel) (Nat.le_of_ble_eq_true rfl) (ls := [some (.ref (jxb x + 0)), some (.int f), some (.int a), some (.int t), some (.int b), some (.int z)]) rfl rfl ?_
  refine J_iload_n (pc := 0) dX7_copy_0 rfl ?_
  refine J_iconst (pc := 1) dX7_copy_1 kni_0 ?_
  refine J_bipush (pc := 2) dX7_copy_2 knb_23 ?_
  refine K_callSp (pc := 4) (As := [_, _, _]) dX7_copy_4 kl_X7_76 rfl rfl (Nat.le_of_ble_eq_true rfl) (c_within _ _ _) ?_
  refine Jb_eq (pc := 7) (tgt := 20) dX7_copy_7 (by decide) (fun h7 => ?_) (fun h7 => ?_)
  · 
    refine J_ldc (pc := 20) dX7_copy_20 kc_X7_80 ?_
    refine K_iret (pc := 22) dX7_copy_22 rfl ⟨_, rfl, ?_⟩
    show (_, _) = _
    unfold F_copy
    try first | rw [if_pos h7] | rw [if_neg h7] | rw [if_neg (Classical.not_not.mpr h7)]
    try rfl
  · 
    refine J_iload_n (pc := 10) dX7_copy_10 rfl ?_
    refine J_iconst (pc := 11) dX7_copy_11 kni_0 ?_
    refine J_bipush (pc := 12) dX7_copy_12 knb_23 ?_
    refine K_callSp (pc := 14) (As := [_, _, _]) dX7_copy_14 kl_X7_76 rfl rfl (Nat.le_of_ble_eq_true rfl) (c_within _ _ _) ?_
    refine Jb_ne (pc := 17) (tgt := 23) dX7_copy_17 (by decide) (fun h17 => ?_) (fun h17 => ?_)
    · 
      obtain ⟨q, hq, hqe⟩ := w_of h7 (by decide)
      have htq : tN f = q := by rw [hqe]; exact tN_n (by omega)
      subst hqe
      obtain ⟨r, hr, hre⟩ := w_of h17 (by decide)
      have htr : tN t = r := by rw [hre]; exact tN_n (by omega)
      subst hre
      refine J_aload_n (pc := 23) dX7_copy_23 rfl ?_
      refine K_getR (pc := 24) dX7_copy_24 kf_X7_25 job_0 jrf_0_3 ?_
      refine K_getR (pc := 27) dX7_copy_27 kf_X7_192 job_40 jrf_40_0 ?_
      refine J_iload_n (pc := 30) dX7_copy_30 rfl ?_
      refine K_ialdn (pc := 31) (id := 41) dX7_copy_31 jar_41 (by omega) (by decide) ?_
      refine J_iconst (pc := 32) dX7_copy_32 kni_m1 ?_
      refine J_icmp_eq (pc := 33) (tgt := 49) dX7_copy_33 (by decide) (fun h33 => ?_) (fun h33 => ?_)
      · 
        refine J_ldc (pc := 49) dX7_copy_49 kc_X7_195 ?_
        refine K_iret (pc := 51) dX7_copy_51 rfl ⟨_, rfl, ?_⟩
        show (_, _) = _
        unfold F_copy
        rw [htq, htr]
        try first | rw [if_pos h7] | rw [if_neg h7] | rw [if_neg (Classical.not_not.mpr h7)]
        try first | rw [if_pos h17] | rw [if_neg h17] | rw [if_neg (Classical.not_not.mpr h17)]
        try first | rw [if_pos h33] | rw [if_neg h33] | rw [if_neg (Classical.not_not.mpr h33)]
        try rfl
      · 
        refine J_aload_n (pc := 36) dX7_copy_36 rfl ?_
        refine K_getR (pc := 37) dX7_copy_37 kf_X7_25 job_0 jrf_0_3 ?_
        refine K_getR (pc := 40) dX7_copy_40 kf_X7_192 job_40 jrf_40_0 ?_
        refine J_iload_n (pc := 43) dX7_copy_43 rfl ?_
        refine K_ialdn (pc := 44) (id := 41) dX7_copy_44 jar_41 (by omega) (by decide) ?_
        refine J_iconst (pc := 45) dX7_copy_45 kni_m1 ?_
        refine J_icmp_ne (pc := 46) (tgt := 52) dX7_copy_46 (by decide) (fun h46 => ?_) (fun h46 => ?_)
        · 
          refine J_aload_n (pc := 52) dX7_copy_52 rfl ?_
          refine K_getR (pc := 53) dX7_copy_53 kf_X7_25 job_0 jrf_0_3 ?_
          refine K_getR (pc := 56) dX7_copy_56 kf_X7_192 job_40 jrf_40_0 ?_
          refine J_iload_n (pc := 59) dX7_copy_59 rfl ?_
          refine K_ialdn (pc := 60) (id := 41) dX7_copy_60 jar_41 (by omega) (by decide) ?_
          refine J_aload_n (pc := 61) dX7_copy_61 rfl ?_
          refine K_getR (pc := 62) dX7_copy_62 kf_X7_25 job_0 jrf_0_3 ?_
          refine K_getR (pc := 65) dX7_copy_65 kf_X7_192 job_40 jrf_40_0 ?_
          refine J_iload_n (pc := 68) dX7_copy_68 rfl ?_
          refine K_ialdn (pc := 69) (id := 41) dX7_copy_69 jar_41 (by omega) (by decide) ?_
          refine J_icmp_eq (pc := 70) (tgt := 76) dX7_copy_70 (by decide) (fun h70 => ?_) (fun h70 => ?_)
          · 
            refine J_aload_n (pc := 76) dX7_copy_76 rfl ?_
            refine K_getR (pc := 77) dX7_copy_77 kf_X7_25 job_0 jrf_0_3 ?_
            refine J_iload_n (pc := 80) dX7_copy_80 rfl ?_
            refine J_iload_n (pc := 81) dX7_copy_81 rfl ?_
            refine J_iload (pc := 82) dX7_copy_82 rfl ?_
            refine K_callVp (pc := 84) (id := 40) (As := [_, _, _]) dX7_copy_84 kl_X7_204 rfl job_40 rfl rfl (Nat.le_of_ble_eq_true rfl) (c_has (l := q) (by omega) a z) ?_
            refine Jb_eq (pc := 87) (tgt := 105) dX7_copy_87 (by decide) (fun h87 => ?_) (fun h87 => ?_)
            · 
              refine J_ldc (pc := 105) dX7_copy_105 kc_X7_199 ?_
              refine K_iret (pc := 107) dX7_copy_107 rfl ⟨_, rfl, ?_⟩
              show (_, _) = _
              unfold F_copy
              rw [htq, htr]
              try first | rw [if_pos h7] | rw [if_neg h7] | rw [if_neg (Classical.not_not.mpr h7)]
              try first | rw [if_pos h17] | rw [if_neg h17] | rw [if_neg (Classical.not_not.mpr h17)]
              try first | rw [if_pos h33] | rw [if_neg h33] | rw [if_neg (Classical.not_not.mpr h33)]
              try first | rw [if_pos h46] | rw [if_neg h46] | rw [if_neg (Classical.not_not.mpr h46)]
              try first | rw [if_pos h70] | rw [if_neg h70] | rw [if_neg (Classical.not_not.mpr h70)]
              try first | rw [if_pos h87] | rw [if_neg h87] | rw [if_neg (Classical.not_not.mpr h87)]
              try rfl
            · 
              refine J_aload_n (pc := 90) dX7_copy_90 rfl ?_
              refine K_getR (pc := 91) dX7_copy_91 kf_X7_25 job_0 jrf_0_3 ?_
              refine J_iload_n (pc := 94) dX7_copy_94 rfl ?_
              refine J_iload (pc := 95) dX7_copy_95 rfl ?_
              refine J_iload (pc := 97) dX7_copy_97 rfl ?_
              refine K_callVp (pc := 99) (id := 40) (As := [_, _, _]) dX7_copy_99 kl_X7_204 rfl job_40 rfl rfl (Nat.le_of_ble_eq_true rfl) (c_has (l := r) (by omega) b z) ?_
              refine Jb_ne (pc := 102) (tgt := 108) dX7_copy_102 (by decide) (fun h102 => ?_) (fun h102 => ?_)
              · 
                obtain ⟨l1, hl1, e1⟩ := hL q (by omega)
                obtain ⟨l2, hl2, e2⟩ := hL r (by omega)
                obtain ⟨i, k, hik, hie, hke⟩ := has_n e1 hl1 h87
                obtain ⟨j, k2, hjk, hje, hke2⟩ := has_n e2 hl2 h102
                have hkk : k = k2 := by
                  have hz := z.toInt_lt
                  have y1 := congrArg tN hke
                  have y2 := congrArg tN hke2
                  rw [tN_n (by omega)] at y1 y2
                  omega
                have hti : tN a = i := by rw [hie]; exact tN_n (by omega)
                have htj : tN b = j := by rw [hje]; exact tN_n (by omega)
                have htk : tN z = k := by rw [hke]; exact tN_n (by omega)
                clear hke2
                subst hie hje hke
                refine J_aload_n (pc := 108) dX7_copy_108 rfl ?_
                refine K_getR (pc := 109) dX7_copy_109 kf_X7_25 job_0 jrf_0_3 ?_
                refine K_getR (pc := 112) dX7_copy_112 kf_X7_200 job_40 jrf_40_2 ?_
                refine J_iload_n (pc := 115) dX7_copy_115 rfl ?_
                refine K_aaldn (pc := 116) (t := 44 + q) dX7_copy_116 job_43 (by omega) (by decide) (jgr_line (by omega)) ?_
                refine J_iload_n (pc := 117) dX7_copy_117 rfl ?_
                refine J_aload_n (pc := 118) dX7_copy_118 rfl ?_
                refine K_getR (pc := 119) dX7_copy_119 kf_X7_25 job_0 jrf_0_3 ?_
                refine K_getR (pc := 122) dX7_copy_122 kf_X7_200 job_40 jrf_40_2 ?_
                refine J_iload_n (pc := 125) dX7_copy_125 rfl ?_
                refine K_aaldn (pc := 126) (t := 44 + r) dX7_copy_126 job_43 (by omega) (by decide) (jgr_line (by omega)) ?_
                refine J_iload (pc := 127) dX7_copy_127 rfl ?_
                refine J_iload (pc := 129) dX7_copy_129 rfl ?_
                refine K_acopy (pc := 131) (id0 := (44 + q)) (id1 := (44 + r)) dX7_copy_131 ky_X7_207 (jar_line (j := q) (by omega)) (jar_line (j := r) (by omega)) (by omega) (by omega) (by decide) (by decide) (Nat.le_of_ble_eq_true rfl) ?_
                refine J_iload (pc := 134) dX7_copy_134 rfl ?_
                refine K_iret (pc := 136) dX7_copy_136 rfl ⟨_, rfl, ?_⟩
                show (_, _) = _
                unfold F_copy
                rw [htq, htr, hti, htj, htk]
                try first | rw [if_pos h7] | rw [if_neg h7] | rw [if_neg (Classical.not_not.mpr h7)]
                try first | rw [if_pos h17] | rw [if_neg h17] | rw [if_neg (Classical.not_not.mpr h17)]
                try first | rw [if_pos h33] | rw [if_neg h33] | rw [if_neg (Classical.not_not.mpr h33)]
                try first | rw [if_pos h46] | rw [if_neg h46] | rw [if_neg (Classical.not_not.mpr h46)]
                try first | rw [if_pos h70] | rw [if_neg h70] | rw [if_neg (Classical.not_not.mpr h70)]
                try first | rw [if_pos h87] | rw [if_neg h87] | rw [if_neg (Classical.not_not.mpr h87)]
                try first | rw [if_pos h102] | rw [if_neg h102] | rw [if_neg (Classical.not_not.mpr h102)]
                try rfl
              · 
                refine J_ldc (pc := 105) dX7_copy_105 kc_X7_199 ?_
                refine K_iret (pc := 107) dX7_copy_107 rfl ⟨_, rfl, ?_⟩
                show (_, _) = _
                unfold F_copy
                rw [htq, htr]
                try first | rw [if_pos h7] | rw [if_neg h7] | rw [if_neg (Classical.not_not.mpr h7)]
                try first | rw [if_pos h17] | rw [if_neg h17] | rw [if_neg (Classical.not_not.mpr h17)]
                try first | rw [if_pos h33] | rw [if_neg h33] | rw [if_neg (Classical.not_not.mpr h33)]
                try first | rw [if_pos h46] | rw [if_neg h46] | rw [if_neg (Classical.not_not.mpr h46)]
                try first | rw [if_pos h70] | rw [if_neg h70] | rw [if_neg (Classical.not_not.mpr h70)]
                try first | rw [if_pos h87] | rw [if_neg h87] | rw [if_neg (Classical.not_not.mpr h87)]
                try first | rw [if_pos h102] | rw [if_neg h102] | rw [if_neg (Classical.not_not.mpr h102)]
                try rfl
          · 
            refine J_ldc (pc := 73) dX7_copy_73 kc_X7_126 ?_
            refine K_iret (pc := 75) dX7_copy_75 rfl ⟨_, rfl, ?_⟩
            show (_, _) = _
            unfold F_copy
            rw [htq, htr]
            try first | rw [if_pos h7] | rw [if_neg h7] | rw [if_neg (Classical.not_not.mpr h7)]
            try first | rw [if_pos h17] | rw [if_neg h17] | rw [if_neg (Classical.not_not.mpr h17)]
            try first | rw [if_pos h33] | rw [if_neg h33] | rw [if_neg (Classical.not_not.mpr h33)]
            try first | rw [if_pos h46] | rw [if_neg h46] | rw [if_neg (Classical.not_not.mpr h46)]
            try first | rw [if_pos h70] | rw [if_neg h70] | rw [if_neg (Classical.not_not.mpr h70)]
            try rfl
        · 
          refine J_ldc (pc := 49) dX7_copy_49 kc_X7_195 ?_
          refine K_iret (pc := 51) dX7_copy_51 rfl ⟨_, rfl, ?_⟩
          show (_, _) = _
          unfold F_copy
          rw [htq, htr]
          try first | rw [if_pos h7] | rw [if_neg h7] | rw [if_neg (Classical.not_not.mpr h7)]
          try first | rw [if_pos h17] | rw [if_neg h17] | rw [if_neg (Classical.not_not.mpr h17)]
          try first | rw [if_pos h33] | rw [if_neg h33] | rw [if_neg (Classical.not_not.mpr h33)]
          try first | rw [if_pos h46] | rw [if_neg h46] | rw [if_neg (Classical.not_not.mpr h46)]
          try rfl
    · 
      refine J_ldc (pc := 20) dX7_copy_20 kc_X7_80 ?_
      refine K_iret (pc := 22) dX7_copy_22 rfl ⟨_, rfl, ?_⟩
      show (_, _) = _
      unfold F_copy
      try first | rw [if_pos h7] | rw [if_neg h7] | rw [if_neg (Classical.not_not.mpr h7)]
      try first | rw [if_pos h17] | rw [if_neg h17] | rw [if_neg (Classical.not_not.mpr h17)]
      try rfl
theorem unlV_c {m m' : jm} (h : m' 137 = m 137) (wo : Int32) (w n : Nat) : unlV m' wo w n = unlV m wo w n := by
  have e : frB m' wo w = frB m wo w := by funext p q; unfold frB; rw [mkV_c h, mkV_c h]
  unfold unlV
  rw [e]
/-- the row that parts most, below w -/
def prtV (m : jm) (P n : Nat) : Nat → Int32 × Nat
  | 0 => (-1000000005, 30)
  | w + 1 => if unlV m (nI w) n (min P 29) < (prtV m P n w).2 then (nI w, unlV m (nI w) n (min P 29)) else prtV m P n w
theorem unl_29 (m : jm) (P n : Nat) (w : Int32) : unlV m w n (min P 29) ≤ 29 := Nat.le_trans (cnt_le _ _) (Nat.min_le_right _ _)
theorem prt_30 (m : jm) (P n : Nat) : ∀ w, (prtV m P n w).2 ≤ 30
  | 0 => Nat.le_refl _
  | w + 1 => by
    have := prt_30 m P n w
    have := unl_29 m P n (nI w)
    unfold prtV
    split
    · show unlV m (nI w) n (min P 29) ≤ 30; omega
    · assumption
set_option maxRecDepth 100000 in
set_option maxHeartbeats 400000 in
theorem p_parts {x : jX} {m : jm} {d : Nat} {P n : Nat} (hP : m 1 0 = nI P) (h48 : P ≤ 48) (hn : m 1 16 = nI n) (hn12 : n ≤ 12) : Ct x (d + 2) eX7_parts [.ref (jxb x + 0)] m (ji fun rv m' => rv = (prtV m P n n).1 ∧ exs [138] m m') := by
  refine J_start (by decide +kernel) (Nat.le_of_ble_eq_true rfl) (ls := [some (.ref (jxb x + 0)), none, none, none, none]) rfl rfl ?_
  refine J_ldc (pc := 0) dX7_parts_0 kc_X7_84 ?_
  refine J_istore_n (pc := 2) (ls' := [some _, some _, none, none, none]) dX7_parts_2 rfl (Nat.le_of_ble_eq_true rfl) rfl ?_
  refine J_bipush (pc := 3) dX7_parts_3 knb_30 ?_
  refine J_istore_n (pc := 5) (ls' := [some _, some _, some _, none, none]) dX7_parts_5 rfl (Nat.le_of_ble_eq_true rfl) rfl ?_
  refine J_iconst (pc := 6) dX7_parts_6 kni_0 ?_
  refine J_istore_n (pc := 7) (ls' := [some _, some _, some _, some _, none]) dX7_parts_7 rfl (Nat.le_of_ble_eq_true rfl) rfl ?_
  refine K_inv (pc := 8) n (fun w lsq mq => lsq = [some (.ref (jxb x + 0)), some (.int ((prtV m P n w).1)), some (.int (nI ((prtV m P n w).2))), some (.int (nI w)), none] ∧ (exs [138] m mq)) (fun w hw lsq mm hI8 ih8 => ?_) (fun lsq mm hI8 => ?_) 0 (Nat.zero_le _) _ _ (⟨rfl, exs_rf _ _⟩)
  ·
    obtain ⟨rfl, hx⟩ := hI8
    have hu29 := unl_29 m P n (nI w)
    have hp30 := prt_30 m P n w
    refine J_iload_n (pc := 8) dX7_parts_8 rfl ?_
    refine J_aload_n (pc := 9) dX7_parts_9 rfl ?_
    refine K_getR (pc := 10) dX7_parts_10 kf_X7_10 job_0 jrf_0_0 ?_
    refine K_getI (pc := 13) dX7_parts_13 kf_X7_318 job_1 jrf_1_16 ?_
    refine J_top (b := nI n) (by rw [hx 1 (by decide)]; exact hn) ?_
    refine Jn_ge (pc := 16) (tgt := 50) dX7_parts_16 (by decide) (by omega) (by omega) (fun h16 => absurd h16 (by omega)) (fun h16 => ?_)
    refine J_aload_n (pc := 19) dX7_parts_19 rfl ?_
    refine K_getR (pc := 20) dX7_parts_20 kf_X7_60 job_0 jrf_0_8 ?_
    refine J_aload_n (pc := 23) dX7_parts_23 rfl ?_
    refine K_getR (pc := 24) dX7_parts_24 kf_X7_10 job_0 jrf_0_0 ?_
    refine J_iload_n (pc := 27) dX7_parts_27 rfl ?_
    refine K_callVi (pc := 28) (id := 126) (As := [_, _]) dX7_parts_28 kl_X7_327 rfl job_126 rfl rfl (Nat.le_of_ble_eq_true rfl) (c_unlike (m := mm) (o := 1) (P := P) (w := n) (Or.inl rfl) (by rw [hx 1 (by decide)]; exact hP) h48 (by rw [hx 1 (by decide)]; exact hn) hn12 (nI w)) (fun vu mu hu => ?_)
    obtain ⟨rfl, rfl⟩ := hu
    refine J_top (b := nI (unlV m (nI w) n (min P 29))) (by rw [unlV_c (hx 137 (by decide))]) ?_
    refine J_istore (pc := 31) (ls' := [some _, some _, some _, some _, some _]) dX7_parts_31 rfl (Nat.le_of_ble_eq_true rfl) rfl ?_
    refine J_iload (pc := 33) dX7_parts_33 rfl ?_
    refine J_iload_n (pc := 35) dX7_parts_35 rfl ?_
    refine Jn_ge (pc := 36) (tgt := 44) dX7_parts_36 (by decide) (by omega) (by omega) (fun h36 => ?_) (fun h36 => ?_)
    · 
      refine Jn_iinc (pc := 44) (ls' := [some _, some _, some _, some _, some _]) dX7_parts_44 rfl knz_1 rfl rfl ?_
      refine J_goto (pc := 47) (tgt := 8) dX7_parts_47 (by decide) ?_
      have ep : prtV m P n (w + 1) = prtV m P n w := if_neg (Nat.not_lt.mpr h36)
      refine J_wk' (ih8 [some (.ref (jxb x + 0)), some (.int ((prtV m P n w).1)), some (.int (nI ((prtV m P n w).2))), some (.int (nI (w + 1))), none] _ ⟨by rw [ep], fun k hk => (mfill_i' (fun z => hk (by rw [z]; decide))).trans (hx k hk)⟩) rfl ?_
      rintro (_ | _ | _ | _ | _ | k) v hv <;> first | exact hv | cases hv
    · 
      refine J_iload (pc := 39) dX7_parts_39 rfl ?_
      refine J_istore_n (pc := 41) (ls' := [some _, some _, some _, some _, some _]) dX7_parts_41 rfl (Nat.le_of_ble_eq_true rfl) rfl ?_
      refine J_iload_n (pc := 42) dX7_parts_42 rfl ?_
      refine J_istore_n (pc := 43) (ls' := [some _, some _, some _, some _, some _]) dX7_parts_43 rfl (Nat.le_of_ble_eq_true rfl) rfl ?_
      refine Jn_iinc (pc := 44) (ls' := [some _, some _, some _, some _, some _]) dX7_parts_44 rfl knz_1 rfl rfl ?_
      refine J_goto (pc := 47) (tgt := 8) dX7_parts_47 (by decide) ?_
      have ep : prtV m P n (w + 1) = (nI w, unlV m (nI w) n (min P 29)) := if_pos h36
      refine J_wk' (ih8 [some (.ref (jxb x + 0)), some (.int (nI w)), some (.int (nI (unlV m (nI w) n (min P 29)))), some (.int (nI (w + 1))), none] _ ⟨by rw [ep], fun k hk => (mfill_i' (fun z => hk (by rw [z]; decide))).trans (hx k hk)⟩) rfl ?_
      rintro (_ | _ | _ | _ | _ | k) v hv <;> first | exact hv | cases hv
  ·
    obtain ⟨rfl, hx⟩ := hI8
    refine J_iload_n (pc := 8) dX7_parts_8 rfl ?_
    refine J_aload_n (pc := 9) dX7_parts_9 rfl ?_
    refine K_getR (pc := 10) dX7_parts_10 kf_X7_10 job_0 jrf_0_0 ?_
    refine K_getI (pc := 13) dX7_parts_13 kf_X7_318 job_1 jrf_1_16 ?_
    refine J_top (b := nI n) (by rw [hx 1 (by decide)]; exact hn) ?_
    refine Jn_ge (pc := 16) (tgt := 50) dX7_parts_16 (by decide) (by omega) (by omega) (fun h16 => ?_) (fun h16 => absurd h16 (by omega))
    refine J_iload_n (pc := 50) dX7_parts_50 rfl ?_
    refine K_iret (pc := 51) dX7_parts_51 rfl ⟨_, rfl, ?_⟩
    exact ⟨rfl, hx⟩
