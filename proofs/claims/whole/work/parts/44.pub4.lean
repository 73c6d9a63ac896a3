/-- halves: parts of a group that lie lighter, less the others -/
def hlfV (m : jm) (g : Nat) (gr mean : Int32) : Nat → Int32
  | 0 => nI 0
  | p + 1 => if m 10 (tN (m 6 p)) = gr then hlfV m g gr mean p + (if mean < shadeS m g (tN (m 3 p)) then nI 1 else -1) else hlfV m g gr mean p
theorem askM_i {m : jm} {g i : Nat} {e : Int32} (h : i ≠ 68) (h2 : i ≠ 69) : askM m g e i = m i := by
  unfold askM
  rw [mup_i' h2, mup_i' h2, mup_i' h2, mup_i' h2, mfill_i' h]
def F_half (m : jm) (P : Nat) (g w : Int32) : Int32 × jm :=
  if ¬ (nI 0 ≤ g ∧ g ≤ nI 3) then (-1000000001, m) else if ¬ (nI 0 ≤ w ∧ w ≤ nI 5) then (-1000000001, m) else (hlfV m (tN g) w (q0V (shadeS m (tN g))) P, askM m (tN g) (m 13 2))
set_option maxRecDepth 100000 in
set_option maxHeartbeats 400000 in
theorem p_half {x : jX} {m : jm} {d : Nat} (g w : Int32) {P : Nat} (hP : m 1 0 = nI P) (h48 : P ≤ 48) (hw : wfPt m 1) (hpl : ∀ p, p < P → vp_in (m 3 p) 48) : Ct x (d + 4) eX7_half [.ref (jxb x + 0), .int g, .int w] m (ji fun rv m' => (rv, m') = F_half m P g w) := by
  refine J_start (by decide +kernel) (Nat.le_of_ble_eq_true rfl) (ls := [some (.ref (jxb x + 0)), some (.int g), some (.int w), none, none, none]) rfl rfl ?_
  refine J_iload_n (pc := 0) dX7_half_0 rfl ?_
  refine K_callSp (pc := 1) (As := [_]) dX7_half_1 kl_X7_213 rfl rfl (Nat.le_of_ble_eq_true rfl) (c_isGround g) ?_
  refine Jb_eq (pc := 4) (tgt := 16) dX7_half_4 (by decide) (fun h4 => ?_) (fun h4 => ?_)
  · 
    refine J_ldc (pc := 16) dX7_half_16 kc_X7_80 ?_
    refine K_iret (pc := 18) dX7_half_18 rfl ⟨_, rfl, ?_⟩
    show (_, _) = _
    unfold F_half
    try first | rw [if_pos h4] | rw [if_neg h4] | rw [if_neg (Classical.not_not.mpr h4)]
    try rfl
  · 
    refine J_iload_n (pc := 7) dX7_half_7 rfl ?_
    refine J_iconst (pc := 8) dX7_half_8 kni_0 ?_
    refine J_iconst (pc := 9) dX7_half_9 kni_5 ?_
    refine K_callSp (pc := 10) (As := [_, _, _]) dX7_half_10 kl_X7_76 rfl rfl (Nat.le_of_ble_eq_true rfl) (c_within _ _ _) ?_
    refine Jb_ne (pc := 13) (tgt := 19) dX7_half_13 (by decide) (fun h13 => ?_) (fun h13 => ?_)
    · 
      obtain ⟨q, hq, hqe⟩ := w_of h4 (by decide)
      have htq : tN g = q := by rw [hqe]; exact tN_n (by omega)
      subst hqe
      refine J_aload_n (pc := 19) dX7_half_19 rfl ?_
      refine K_getR (pc := 20) dX7_half_20 kf_X7_25 job_0 jrf_0_3 ?_
      refine J_iload_n (pc := 23) dX7_half_23 rfl ?_
      refine J_aload_n (pc := 24) dX7_half_24 rfl ?_
      refine K_getR (pc := 25) dX7_half_25 kf_X7_10 job_0 jrf_0_0 ?_
      refine K_getR (pc := 28) dX7_half_28 kf_X7_146 job_1 jrf_1_12 ?_
      refine J_iconst (pc := 31) dX7_half_31 kni_2 ?_
      refine K_ialdn (pc := 32) (id := 13) dX7_half_32 jar_13 (by decide) (by decide) ?_
      refine K_callVr (pc := 33) (id := 40) (As := [_, _]) dX7_half_33 kl_X7_220 rfl job_40 rfl rfl (Nat.le_of_ble_eq_true rfl) (c_askAll (g := q) (by omega) (m 13 2)) (fun m33 h33 => ?_)
      subst h33
      refine J_iconst (pc := 36) dX7_half_36 kni_0 ?_
      refine K_ialdn (pc := 37) (id := 69) dX7_half_37 jar_69 (by decide) (by decide) ?_
      refine J_top (b := (q0V (shadeS m q))) (rfl) ?_
      refine J_istore_n (pc := 38) (ls' := [some _, some _, some _, some _, none, none]) dX7_half_38 rfl (Nat.le_of_ble_eq_true rfl) rfl ?_
      refine J_iconst (pc := 39) dX7_half_39 kni_0 ?_
      refine J_istore (pc := 40) (ls' := [some _, some _, some _, some _, some _, none]) dX7_half_40 rfl (Nat.le_of_ble_eq_true rfl) rfl ?_
      refine J_iconst (pc := 42) dX7_half_42 kni_0 ?_
      refine J_istore (pc := 43) (ls' := [some _, some _, some _, some _, some _, some _]) dX7_half_43 rfl (Nat.le_of_ble_eq_true rfl) rfl ?_
      refine K_for' (pc := 45) P (fun i => [some (.ref (jxb x + 0)), some (.int (nI q)), some (.int w), some (.int ((q0V (shadeS m q)))), some (.int ((hlfV m q w (q0V (shadeS m q)) i))), some (.int (nI i))]) (fun i => (askM m q (m 13 2))) (by rfl) (by rfl) (fun i hi ih45 => ?_) ?_
      ·
        show K x _ _ 45 [some (.ref (jxb x + 0)), some (.int (nI q)), some (.int w), some (.int ((q0V (shadeS m q)))), some (.int ((hlfV m q w (q0V (shadeS m q)) i))), some (.int (nI i))] _ ((askM m q (m 13 2))) _
        refine J_iload (pc := 45) dX7_half_45 rfl ?_
        refine J_aload_n (pc := 47) dX7_half_47 rfl ?_
        refine K_getR (pc := 48) dX7_half_48 kf_X7_10 job_0 jrf_0_0 ?_
        refine K_getI (pc := 51) dX7_half_51 kf_X7_86 job_1 jrf_1_0 ?_
        refine J_top (b := nI P) (hP) ?_
        refine Jn_ge (pc := 54) (tgt := 117) dX7_half_54 (by decide) (by omega) (by omega) (fun h54 => absurd h54 (by omega)) (fun h54 => ?_)
        refine J_aload_n (pc := 57) dX7_half_57 rfl ?_
        refine K_getR (pc := 58) dX7_half_58 kf_X7_10 job_0 jrf_0_0 ?_
        refine K_getR (pc := 61) dX7_half_61 kf_X7_127 job_1 jrf_1_9 ?_
        refine J_aload_n (pc := 64) dX7_half_64 rfl ?_
        refine K_getR (pc := 65) dX7_half_65 kf_X7_10 job_0 jrf_0_0 ?_
        refine K_getR (pc := 68) dX7_half_68 kf_X7_106 job_1 jrf_1_5 ?_
        refine J_iload (pc := 71) dX7_half_71 rfl ?_
        refine K_ialdn (pc := 73) (id := 6) dX7_half_73 jar_6 (by omega) (by decide) ?_
        refine J_top (b := (m 6 i)) (rfl) ?_
        refine K_iald (pc := 74) (id := 10) dX7_half_74 jar_10 (hw.1 i (by omega)) ?_
        refine J_top (b := (m 10 (tN (m 6 i)))) (rfl) ?_
        refine J_iload_n (pc := 75) dX7_half_75 rfl ?_
        refine J_icmp_ne (pc := 76) (tgt := 111) dX7_half_76 (by decide) (fun h76 => ?_) (fun h76 => ?_)
        · 
          refine Jn_iinc (pc := 111) (ls' := [some _, some _, some _, some _, some _, some _]) dX7_half_111 rfl knz_1 rfl rfl ?_
          refine J_goto (pc := 114) (tgt := 45) dX7_half_114 (by decide) ?_
          have eh : (hlfV m q w (q0V (shadeS m q)) (i + 1)) = (hlfV m q w (q0V (shadeS m q)) i) := if_neg h76
          rw [eh] at ih45
          exact ih45
        · 
          refine J_iload (pc := 79) dX7_half_79 rfl ?_
          refine J_aload_n (pc := 81) dX7_half_81 rfl ?_
          refine K_getR (pc := 82) dX7_half_82 kf_X7_25 job_0 jrf_0_3 ?_
          refine J_iload_n (pc := 85) dX7_half_85 rfl ?_
          refine J_aload_n (pc := 86) dX7_half_86 rfl ?_
          refine K_getR (pc := 87) dX7_half_87 kf_X7_10 job_0 jrf_0_0 ?_
          refine K_getR (pc := 90) dX7_half_90 kf_X7_97 job_1 jrf_1_2 ?_
          refine J_iload (pc := 93) dX7_half_93 rfl ?_
          refine K_ialdn (pc := 95) (id := 3) dX7_half_95 jar_3 (by omega) (by decide) ?_
          refine J_top (b := nI (tN (m 3 i))) (tN_eq (hpl i hi) (by decide)) ?_
          refine K_callVp (pc := 96) (id := 40) (As := [_, _]) dX7_half_96 kl_X7_217 rfl job_40 rfl rfl (Nat.le_of_ble_eq_true rfl) (c_shadeAt (m := (askM m q (m 13 2))) (g := q) (p := tN (m 3 i)) (by omega) (tN_lt (hpl i hi) (by decide))) ?_
          refine J_top (b := (shadeS m q (tN (m 3 i)))) (shadeS_c (m := m) (m' := askM m q (m 13 2)) (g := q) rfl rfl (fun l hl => askM_i (by omega) (by omega)) (by omega) (tN_lt (hpl i hi) (by decide))) ?_
          refine J_iload_n (pc := 99) dX7_half_99 rfl ?_
          refine J_icmp_le (pc := 100) (tgt := 107) dX7_half_100 (by decide) (fun h100 => ?_) (fun h100 => ?_)
          · 
            refine J_iconst (pc := 107) dX7_half_107 kni_m1 ?_
            refine J_iadd (pc := 108) dX7_half_108 ?_
            refine J_istore (pc := 109) (ls' := [some _, some _, some _, some _, some _, some _]) dX7_half_109 rfl (Nat.le_of_ble_eq_true rfl) rfl ?_
            refine Jn_iinc (pc := 111) (ls' := [some _, some _, some _, some _, some _, some _]) dX7_half_111 rfl knz_1 rfl rfl ?_
            refine J_goto (pc := 114) (tgt := 45) dX7_half_114 (by decide) ?_
            have eh : (hlfV m q w (q0V (shadeS m q)) (i + 1)) = ((hlfV m q w (q0V (shadeS m q)) i) + (-1)) := (if_pos h76).trans (congrArg ((hlfV m q w (q0V (shadeS m q)) i) + ·) (if_neg (Int32.not_lt.mpr h100)))
            rw [eh] at ih45
            exact ih45
          · 
            refine J_iconst (pc := 103) dX7_half_103 kni_1 ?_
            refine J_goto (pc := 104) (tgt := 108) dX7_half_104 (by decide) ?_
            refine J_iadd (pc := 108) dX7_half_108 ?_
            refine J_istore (pc := 109) (ls' := [some _, some _, some _, some _, some _, some _]) dX7_half_109 rfl (Nat.le_of_ble_eq_true rfl) rfl ?_
            refine Jn_iinc (pc := 111) (ls' := [some _, some _, some _, some _, some _, some _]) dX7_half_111 rfl knz_1 rfl rfl ?_
            refine J_goto (pc := 114) (tgt := 45) dX7_half_114 (by decide) ?_
            have eh : (hlfV m q w (q0V (shadeS m q)) (i + 1)) = ((hlfV m q w (q0V (shadeS m q)) i) + nI 1) := (if_pos h76).trans (congrArg ((hlfV m q w (q0V (shadeS m q)) i) + ·) (if_pos (Int32.not_le.mp h100)))
            rw [eh] at ih45
            exact ih45
      ·
        show K x _ _ 45 [some (.ref (jxb x + 0)), some (.int (nI q)), some (.int w), some (.int ((q0V (shadeS m q)))), some (.int ((hlfV m q w (q0V (shadeS m q)) P))), some (.int (nI P))] _ ((askM m q (m 13 2))) _
        refine J_iload (pc := 45) dX7_half_45 rfl ?_
        refine J_aload_n (pc := 47) dX7_half_47 rfl ?_
        refine K_getR (pc := 48) dX7_half_48 kf_X7_10 job_0 jrf_0_0 ?_
        refine K_getI (pc := 51) dX7_half_51 kf_X7_86 job_1 jrf_1_0 ?_
        refine J_top (b := nI P) (hP) ?_
        refine Jn_ge (pc := 54) (tgt := 117) dX7_half_54 (by decide) (by omega) (by omega) (fun h54 => ?_) (fun h54 => absurd h54 (by omega))
        refine J_iload (pc := 117) dX7_half_117 rfl ?_
        refine K_iret (pc := 119) dX7_half_119 rfl ⟨_, rfl, ?_⟩
        show (_, _) = _
        unfold F_half
        rw [htq]
        try first | rw [if_pos h4] | rw [if_neg h4] | rw [if_neg (Classical.not_not.mpr h4)]
        try first | rw [if_pos h13] | rw [if_neg h13] | rw [if_neg (Classical.not_not.mpr h13)]
        try first | rw [if_pos h54] | rw [if_neg h54] | rw [if_neg (Classical.not_not.mpr h54)]
        try rfl
    · 
      refine J_ldc (pc := 16) dX7_half_16 kc_X7_80 ?_
      refine K_iret (pc := 18) dX7_half_18 rfl ⟨_, rfl, ?_⟩
      show (_, _) = _
      unfold F_half
      try first | rw [if_pos h4] | rw [if_neg h4] | rw [if_neg (Classical.not_not.mpr h4)]
      try first | rw [if_pos h13] | rw [if_neg h13] | rw [if_neg (Classical.not_not.mpr h13)]
      try rfl
def lrnM (m : jm) (g n : Nat) (a : Int32) : jm := mup (mcpy (askM (mup m 127 n a) g (m 13 2)) 69 (129 + n) 0 0 4) 1 15 (nI (n + 1))
def F_learn (m : jm) (g a : Int32) : Int32 × jm :=
  if ¬ (nI 0 ≤ g ∧ g ≤ nI 3) then (-1000000001, m) else if ¬ (nI 0 ≤ a ∧ a ≤ nI 9) then (-1000000001, m) else if 8 ≤ tN (m 1 15) then (-1000000003, m) else (nI (tN (m 1 15)), lrnM m (tN g) (tN (m 1 15)) a)
set_option maxRecDepth 100000 in
set_option maxHeartbeats 400000 in
theorem p_learn {x : jX} {m : jm} {d : Nat} (g a : Int32) {n : Nat} (hn : m 1 15 = nI n) (hn8 : n ≤ 8) : Ct x (d + 4) eX7_learn [.ref (jxb x + 0), .int g, .int a] m (ji fun rv m' => (rv, m') = F_learn m g a) := by
  refine J_start (by decide +kernel) (Nat.le_of_ble_eq_true rfl) (ls := [some (.ref (jxb x + 0)), some (.int g), some (.int a)]) rfl rfl ?_
  have htn : tN (m 1 15) = n := by rw [hn]; exact tN_n (by omega)
  refine J_iload_n (pc := 0) dX7_learn_0 rfl ?_
  refine K_callSp (pc := 1) (As := [_]) dX7_learn_1 kl_X7_213 rfl rfl (Nat.le_of_ble_eq_true rfl) (c_isGround g) ?_
  refine Jb_eq (pc := 4) (tgt := 17) dX7_learn_4 (by decide) (fun h4 => ?_) (fun h4 => ?_)
  · 
    refine J_ldc (pc := 17) dX7_learn_17 kc_X7_80 ?_
    refine K_iret (pc := 19) dX7_learn_19 rfl ⟨_, rfl, ?_⟩
    show (_, _) = _
    unfold F_learn
    try first | rw [if_pos h4] | rw [if_neg h4] | rw [if_neg (Classical.not_not.mpr h4)]
    try rfl
  · 
    refine J_iload_n (pc := 7) dX7_learn_7 rfl ?_
    refine J_iconst (pc := 8) dX7_learn_8 kni_0 ?_
    refine J_bipush (pc := 9) dX7_learn_9 knb_9 ?_
    refine K_callSp (pc := 11) (As := [_, _, _]) dX7_learn_11 kl_X7_76 rfl rfl (Nat.le_of_ble_eq_true rfl) (c_within _ _ _) ?_
    refine Jb_ne (pc := 14) (tgt := 20) dX7_learn_14 (by decide) (fun h14 => ?_) (fun h14 => ?_)
    · 
      obtain ⟨q, hq, hqe⟩ := w_of h4 (by decide)
      have htq : tN g = q := by rw [hqe]; exact tN_n (by omega)
      subst hqe
      refine J_aload_n (pc := 20) dX7_learn_20 rfl ?_
      refine K_getR (pc := 21) dX7_learn_21 kf_X7_10 job_0 jrf_0_0 ?_
      refine K_getI (pc := 24) dX7_learn_24 kf_X7_300 job_1 jrf_1_15 ?_
      refine J_top (b := nI n) (hn) ?_
      refine J_bipush (pc := 27) dX7_learn_27 knb_8 ?_
      refine Jn_lt (pc := 29) (tgt := 35) dX7_learn_29 (by decide) (by omega) (by omega) (fun h29 => ?_) (fun h29 => ?_)
      · 
        refine J_aload_n (pc := 35) dX7_learn_35 rfl ?_
        refine K_getR (pc := 36) dX7_learn_36 kf_X7_60 job_0 jrf_0_8 ?_
        refine K_getR (pc := 39) dX7_learn_39 kf_X7_303 job_126 jrf_126_0 ?_
        refine J_aload_n (pc := 42) dX7_learn_42 rfl ?_
        refine K_getR (pc := 43) dX7_learn_43 kf_X7_10 job_0 jrf_0_0 ?_
        refine K_getI (pc := 46) dX7_learn_46 kf_X7_300 job_1 jrf_1_15 ?_
        refine J_top (b := nI n) (hn) ?_
        refine J_iload_n (pc := 49) dX7_learn_49 rfl ?_
        refine K_iastn (pc := 50) (id := 127) dX7_learn_50 jar_127 (by omega) (by decide) ?_
        refine J_aload_n (pc := 51) dX7_learn_51 rfl ?_
        refine K_getR (pc := 52) dX7_learn_52 kf_X7_25 job_0 jrf_0_3 ?_
        refine J_iload_n (pc := 55) dX7_learn_55 rfl ?_
        refine J_aload_n (pc := 56) dX7_learn_56 rfl ?_
        refine K_getR (pc := 57) dX7_learn_57 kf_X7_10 job_0 jrf_0_0 ?_
        refine K_getR (pc := 60) dX7_learn_60 kf_X7_146 job_1 jrf_1_12 ?_
        refine J_iconst (pc := 63) dX7_learn_63 kni_2 ?_
        refine K_ialdn (pc := 64) (id := 13) dX7_learn_64 jar_13 (by decide) (by decide) ?_
        refine J_top (b := (m 13 2)) (rfl) ?_
        refine K_callVr (pc := 65) (id := 40) (As := [_, _]) dX7_learn_65 kl_X7_220 rfl job_40 rfl rfl (Nat.le_of_ble_eq_true rfl) (c_askAll (m := (mup m 127 n a)) (g := q) (by omega) (m 13 2)) (fun m65 h65 => ?_)
        subst h65
        refine J_iconst (pc := 68) dX7_learn_68 kni_0 ?_
        refine J_aload_n (pc := 69) dX7_learn_69 rfl ?_
        refine K_getR (pc := 70) dX7_learn_70 kf_X7_60 job_0 jrf_0_8 ?_
        refine K_getR (pc := 73) dX7_learn_73 kf_X7_306 job_126 jrf_126_1 ?_
        refine J_aload_n (pc := 76) dX7_learn_76 rfl ?_
        refine K_getR (pc := 77) dX7_learn_77 kf_X7_10 job_0 jrf_0_0 ?_
        refine K_getI (pc := 80) dX7_learn_80 kf_X7_300 job_1 jrf_1_15 ?_
        refine J_top (b := nI n) (hn) ?_
        refine K_aaldn (pc := 83) (t := 129 + n) dX7_learn_83 job_128 (by omega) (by decide) (jgr_asked (by omega)) ?_
        refine J_iconst (pc := 84) dX7_learn_84 kni_0 ?_
        refine J_iconst (pc := 85) dX7_learn_85 kni_4 ?_
        refine K_acopy (pc := 86) (id0 := 69) (id1 := (129 + n)) dX7_learn_86 ky_X7_207 jar_69 (jar_asked (j := n) (by omega)) (by omega) (by omega) (by decide) (by decide) (Nat.le_of_ble_eq_true rfl) ?_
        refine J_aload_n (pc := 89) dX7_learn_89 rfl ?_
        refine K_getR (pc := 90) dX7_learn_90 kf_X7_10 job_0 jrf_0_0 ?_
        refine J_dup (pc := 93) dX7_learn_93 rfl ?_
        refine K_getI (pc := 94) dX7_learn_94 kf_X7_300 job_1 jrf_1_15 ?_
        refine J_top (b := nI n) (by rw [mcpy_i (by omega)]; exact hn) ?_
        refine J_dup_x1 (pc := 97) dX7_learn_97 rfl rfl ?_
        refine J_iconst (pc := 98) dX7_learn_98 kni_1 ?_
        refine J_iaddv (pc := 99) dX7_learn_99 (nI_add _ _) ?_
        refine K_put (pc := 100) dX7_learn_100 kp_X7_300 job_1 jrf_1_15 rfl rfl ?_
        refine K_iret (pc := 103) dX7_learn_103 rfl ⟨_, rfl, ?_⟩
        show (_, _) = _
        unfold F_learn
        rw [htq, htn]
        try first | rw [if_pos h4] | rw [if_neg h4] | rw [if_neg (Classical.not_not.mpr h4)]
        try first | rw [if_pos h14] | rw [if_neg h14] | rw [if_neg (Classical.not_not.mpr h14)]
        try first | rw [if_pos h29] | rw [if_neg h29] | rw [if_neg (Classical.not_not.mpr h29)]
        try rw [if_neg (by omega)]; rfl
      · 
        refine J_ldc (pc := 32) dX7_learn_32 kc_X7_89 ?_
        refine K_iret (pc := 34) dX7_learn_34 rfl ⟨_, rfl, ?_⟩
        show (_, _) = _
        unfold F_learn
        rw [htn]
        try first | rw [if_pos h4] | rw [if_neg h4] | rw [if_neg (Classical.not_not.mpr h4)]
        try first | rw [if_pos h14] | rw [if_neg h14] | rw [if_neg (Classical.not_not.mpr h14)]
        try first | rw [if_pos h29] | rw [if_neg h29] | rw [if_neg (Classical.not_not.mpr h29)]
        try rw [if_pos (by omega)]
    · 
      refine J_ldc (pc := 17) dX7_learn_17 kc_X7_80 ?_
      refine K_iret (pc := 19) dX7_learn_19 rfl ⟨_, rfl, ?_⟩
      show (_, _) = _
      unfold F_learn
      try first | rw [if_pos h4] | rw [if_neg h4] | rw [if_neg (Classical.not_not.mpr h4)]
      try first | rw [if_pos h14] | rw [if_neg h14] | rw [if_neg (Classical.not_not.mpr h14)]
      try rfl
noncomputable def F_apart (m : jm) (w : Int32) : Int32 × jm := by
  classical exact if ¬ (nI 0 ≤ w ∧ w ≤ nI 15) then (-1000000001, m) else if (∀ i, i < tN (m 1 15) → ∀ j, j < i → apaP m w i j) then (nI 1, m) else (nI 0, m)
set_option maxRecDepth 100000 in
set_option maxHeartbeats 400000 in
theorem p_apart {x : jX} {m : jm} {d : Nat} (w : Int32) {n : Nat} (hn : m 1 15 = nI n) (hn8 : n ≤ 8) : Ct x (d + 2) eX7_apart [.ref (jxb x + 0), .int w] m (ji fun rv m' => (rv, m') = F_apart m w) := by
  refine J_start (by decide +kernel) (Nat.le_of_ble_eq_true rfl) (ls := [some (.ref (jxb x + 0)), some (.int w)]) rfl rfl ?_
  have htn : tN (m 1 15) = n := by rw [hn]; exact tN_n (by omega)
  refine J_iload_n (pc := 0) dX7_apart_0 rfl ?_
  refine J_iconst (pc := 1) dX7_apart_1 kni_0 ?_
  refine J_bipush (pc := 2) dX7_apart_2 knb_15 ?_
  refine K_callSp (pc := 4) (As := [_, _, _]) dX7_apart_4 kl_X7_76 rfl rfl (Nat.le_of_ble_eq_true rfl) (c_within _ _ _) ?_
  refine Jb_ne (pc := 7) (tgt := 13) dX7_apart_7 (by decide) (fun h7 => ?_) (fun h7 => ?_)
  · 
    refine J_aload_n (pc := 13) dX7_apart_13 rfl ?_
    refine K_getR (pc := 14) dX7_apart_14 kf_X7_60 job_0 jrf_0_8 ?_
    refine J_iload_n (pc := 17) dX7_apart_17 rfl ?_
    refine J_aload_n (pc := 18) dX7_apart_18 rfl ?_
    refine K_getR (pc := 19) dX7_apart_19 kf_X7_10 job_0 jrf_0_0 ?_
    refine K_getI (pc := 22) dX7_apart_22 kf_X7_300 job_1 jrf_1_15 ?_
    refine J_top (b := nI n) (hn) ?_
    refine K_callVp (pc := 25) (id := 126) (As := [_, _]) dX7_apart_25 kl_X7_309 rfl job_126 rfl rfl (Nat.le_of_ble_eq_true rfl) (c_tellsApart hn8 w) ?_
    refine Jp_eq (pc := 28) (tgt := 35) dX7_apart_28 (by decide) (fun h28 => ?_) (fun h28 => ?_)
    · 
      refine J_iconst (pc := 35) dX7_apart_35 kni_0 ?_
      refine K_iret (pc := 36) dX7_apart_36 rfl ⟨_, rfl, ?_⟩
      show (_, _) = _
      unfold F_apart
      rw [htn]
      try first | rw [if_pos h7] | rw [if_neg h7] | rw [if_neg (Classical.not_not.mpr h7)]
      try first | rw [if_pos h28] | rw [if_neg h28] | rw [if_neg (Classical.not_not.mpr h28)]
      try rfl
    · 
      refine J_iconst (pc := 31) dX7_apart_31 kni_1 ?_
      refine J_goto (pc := 32) (tgt := 36) dX7_apart_32 (by decide) ?_
      refine K_iret (pc := 36) dX7_apart_36 rfl ⟨_, rfl, ?_⟩
      show (_, _) = _
      unfold F_apart
      rw [htn]
      try first | rw [if_pos h7] | rw [if_neg h7] | rw [if_neg (Classical.not_not.mpr h7)]
      try first | rw [if_pos h28] | rw [if_neg h28] | rw [if_neg (Classical.not_not.mpr h28)]
      try rfl
  · 
    refine J_ldc (pc := 10) dX7_apart_10 kc_X7_80 ?_
    refine K_iret (pc := 12) dX7_apart_12 rfl ⟨_, rfl, ?_⟩
    show (_, _) = _
    unfold F_apart
    try first | rw [if_pos h7] | rw [if_neg h7] | rw [if_neg (Classical.not_not.mpr h7)]
    try rfl
def F_watch (m : jm) (w : Int32) : Int32 × jm :=
  if ¬ (nI 0 ≤ w ∧ w ≤ 536870911) then (-1000000001, m) else if 12 ≤ tN (m 1 16) then (-1000000003, m) else (nI (tN (m 1 16)), mup (mup m 137 (tN (m 1 16)) w) 1 16 (nI (tN (m 1 16) + 1)))
set_option maxRecDepth 100000 in
set_option maxHeartbeats 400000 in
theorem p_watch {x : jX} {m : jm} {d : Nat} (w : Int32) {n : Nat} (hn : m 1 16 = nI n) (hn8 : n ≤ 12) : Ct x (d + 1) eX7_watch [.ref (jxb x + 0), .int w] m (ji fun rv m' => (rv, m') = F_watch m w) := by
  refine J_start (by decide +kernel) (Nat.le_of_ble_eq_true rfl) (ls := [some (.ref (jxb x + 0)), some (.int w)]) rfl rfl ?_
  have htn : tN (m 1 16) = n := by rw [hn]; exact tN_n (by omega)
  refine J_iload_n (pc := 0) dX7_watch_0 rfl ?_
  refine J_iconst (pc := 1) dX7_watch_1 kni_0 ?_
  refine J_ldcw (pc := 2) dX7_watch_2 kc_X7_317 ?_
  refine K_callSp (pc := 5) (As := [_, _, _]) dX7_watch_5 kl_X7_76 rfl rfl (Nat.le_of_ble_eq_true rfl) (c_within _ _ _) ?_
  refine Jb_ne (pc := 8) (tgt := 14) dX7_watch_8 (by decide) (fun h8 => ?_) (fun h8 => ?_)
  · 
    refine J_aload_n (pc := 14) dX7_watch_14 rfl ?_
    refine K_getR (pc := 15) dX7_watch_15 kf_X7_10 job_0 jrf_0_0 ?_
    refine K_getI (pc := 18) dX7_watch_18 kf_X7_318 job_1 jrf_1_16 ?_
    refine J_top (b := nI n) (hn) ?_
    refine J_bipush (pc := 21) dX7_watch_21 knb_12 ?_
    refine Jn_lt (pc := 23) (tgt := 29) dX7_watch_23 (by decide) (by omega) (by omega) (fun h23 => ?_) (fun h23 => ?_)
    · 
      refine J_aload_n (pc := 29) dX7_watch_29 rfl ?_
      refine K_getR (pc := 30) dX7_watch_30 kf_X7_60 job_0 jrf_0_8 ?_
      refine K_getR (pc := 33) dX7_watch_33 kf_X7_321 job_126 jrf_126_2 ?_
      refine J_aload_n (pc := 36) dX7_watch_36 rfl ?_
      refine K_getR (pc := 37) dX7_watch_37 kf_X7_10 job_0 jrf_0_0 ?_
      refine K_getI (pc := 40) dX7_watch_40 kf_X7_318 job_1 jrf_1_16 ?_
      refine J_top (b := nI n) (hn) ?_
      refine J_iload_n (pc := 43) dX7_watch_43 rfl ?_
      refine K_iastn (pc := 44) (id := 137) dX7_watch_44 jar_137 (by omega) (by decide) ?_
      refine J_aload_n (pc := 45) dX7_watch_45 rfl ?_
      refine K_getR (pc := 46) dX7_watch_46 kf_X7_10 job_0 jrf_0_0 ?_
      refine J_dup (pc := 49) dX7_watch_49 rfl ?_
      refine K_getI (pc := 50) dX7_watch_50 kf_X7_318 job_1 jrf_1_16 ?_
      refine J_top (b := nI n) (hn) ?_
      refine J_dup_x1 (pc := 53) dX7_watch_53 rfl rfl ?_
      refine J_iconst (pc := 54) dX7_watch_54 kni_1 ?_
      refine J_iaddv (pc := 55) dX7_watch_55 (nI_add _ _) ?_
      refine K_put (pc := 56) dX7_watch_56 kp_X7_318 job_1 jrf_1_16 rfl rfl ?_
      refine K_iret (pc := 59) dX7_watch_59 rfl ⟨_, rfl, ?_⟩
      show (_, _) = _
      unfold F_watch
      rw [htn]
      try first | rw [if_pos h8] | rw [if_neg h8] | rw [if_neg (Classical.not_not.mpr h8)]
      try first | rw [if_pos h23] | rw [if_neg h23] | rw [if_neg (Classical.not_not.mpr h23)]
      try rw [if_neg (by omega)]
    · 
      refine J_ldc (pc := 26) dX7_watch_26 kc_X7_89 ?_
      refine K_iret (pc := 28) dX7_watch_28 rfl ⟨_, rfl, ?_⟩
      show (_, _) = _
      unfold F_watch
      rw [htn]
      try first | rw [if_pos h8] | rw [if_neg h8] | rw [if_neg (Classical.not_not.mpr h8)]
      try first | rw [if_pos h23] | rw [if_neg h23] | rw [if_neg (Classical.not_not.mpr h23)]
      try rw [if_pos (by omega)]
  · 
    refine J_ldc (pc := 11) dX7_watch_11 kc_X7_80 ?_
    refine K_iret (pc := 13) dX7_watch_13 rfl ⟨_, rfl, ?_⟩
    show (_, _) = _
    unfold F_watch
    try first | rw [if_pos h8] | rw [if_neg h8] | rw [if_neg (Classical.not_not.mpr h8)]
    try rfl
def F_alike (m : jm) (a b : Int32) : Int32 × jm :=
  if ¬ (nI 0 ≤ a ∧ a ≤ nI 28) then (-1000000001, m) else if ¬ (nI 0 ≤ b ∧ b ≤ nI 28) then (-1000000001, m) else if a = b then (-1000000001, m) else if mkV m (tN a) (-1000000005) (tN (m 1 16)) = mkV m (tN b) (-1000000005) (tN (m 1 16)) then (nI 1, m) else (nI 0, m)
set_option maxRecDepth 100000 in
set_option maxHeartbeats 400000 in
theorem p_alike {x : jX} {m : jm} {d : Nat} (a b : Int32) {n : Nat} (hn : m 1 16 = nI n) (hn12 : n ≤ 12) : Ct x (d + 1) eX7_alike [.ref (jxb x + 0), .int a, .int b] m (ji fun rv m' => (rv, m') = F_alike m a b) := by
  refine J_start (by decide +kernel) (Nat.le_of_ble_eq_true rfl) (ls := [some (.ref (jxb x + 0)), some (.int a), some (.int b)]) rfl rfl ?_
  have htn : tN (m 1 16) = n := by rw [hn]; exact tN_n (by omega)
  refine J_iload_n (pc := 0) dX7_alike_0 rfl ?_
  refine J_iconst (pc := 1) dX7_alike_1 kni_0 ?_
  refine J_bipush (pc := 2) dX7_alike_2 knb_28 ?_
  refine K_callSp (pc := 4) (As := [_, _, _]) dX7_alike_4 kl_X7_76 rfl rfl (Nat.le_of_ble_eq_true rfl) (c_within _ _ _) ?_
  refine Jb_eq (pc := 7) (tgt := 25) dX7_alike_7 (by decide) (fun h7 => ?_) (fun h7 => ?_)
  · 
    refine J_ldc (pc := 25) dX7_alike_25 kc_X7_80 ?_
    refine K_iret (pc := 27) dX7_alike_27 rfl ⟨_, rfl, ?_⟩
    show (_, _) = _
    unfold F_alike
    try first | rw [if_pos h7] | rw [if_neg h7] | rw [if_neg (Classical.not_not.mpr h7)]
    try rfl
  · 
    refine J_iload_n (pc := 10) dX7_alike_10 rfl ?_
    refine J_iconst (pc := 11) dX7_alike_11 kni_0 ?_
    refine J_bipush (pc := 12) dX7_alike_12 knb_28 ?_
    refine K_callSp (pc := 14) (As := [_, _, _]) dX7_alike_14 kl_X7_76 rfl rfl (Nat.le_of_ble_eq_true rfl) (c_within _ _ _) ?_
    refine Jb_eq (pc := 17) (tgt := 25) dX7_alike_17 (by decide) (fun h17 => ?_) (fun h17 => ?_)
    · 
      refine J_ldc (pc := 25) dX7_alike_25 kc_X7_80 ?_
      refine K_iret (pc := 27) dX7_alike_27 rfl ⟨_, rfl, ?_⟩
      show (_, _) = _
      unfold F_alike
      try first | rw [if_pos h7] | rw [if_neg h7] | rw [if_neg (Classical.not_not.mpr h7)]
      try first | rw [if_pos h17] | rw [if_neg h17] | rw [if_neg (Classical.not_not.mpr h17)]
      try rfl
    · 
      refine J_iload_n (pc := 20) dX7_alike_20 rfl ?_
      refine J_iload_n (pc := 21) dX7_alike_21 rfl ?_
      refine J_icmp_ne (pc := 22) (tgt := 28) dX7_alike_22 (by decide) (fun h22 => ?_) (fun h22 => ?_)
      · 
        obtain ⟨q, hq, hqe⟩ := w_of h7 (by decide)
        have htq : tN a = q := by rw [hqe]; exact tN_n (by omega)
        subst hqe
        obtain ⟨r, hr, hre⟩ := w_of h17 (by decide)
        have htr : tN b = r := by rw [hre]; exact tN_n (by omega)
        subst hre
        refine J_aload_n (pc := 28) dX7_alike_28 rfl ?_
        refine K_getR (pc := 29) dX7_alike_29 kf_X7_60 job_0 jrf_0_8 ?_
        refine J_iload_n (pc := 32) dX7_alike_32 rfl ?_
        refine J_aload_n (pc := 33) dX7_alike_33 rfl ?_
        refine K_getR (pc := 34) dX7_alike_34 kf_X7_10 job_0 jrf_0_0 ?_
        refine K_getI (pc := 37) dX7_alike_37 kf_X7_318 job_1 jrf_1_16 ?_
        refine J_top (b := nI n) (hn) ?_
        refine J_ldc (pc := 40) dX7_alike_40 kc_X7_84 ?_
        refine K_callVp (pc := 42) (id := 126) (As := [_, _, _]) dX7_alike_42 kl_X7_324 rfl job_126 rfl rfl (Nat.le_of_ble_eq_true rfl) (c_marksOf (p := q) (n := n) hn12 (-1000000005)) ?_
        refine J_aload_n (pc := 45) dX7_alike_45 rfl ?_
        refine K_getR (pc := 46) dX7_alike_46 kf_X7_60 job_0 jrf_0_8 ?_
        refine J_iload_n (pc := 49) dX7_alike_49 rfl ?_
        refine J_aload_n (pc := 50) dX7_alike_50 rfl ?_
        refine K_getR (pc := 51) dX7_alike_51 kf_X7_10 job_0 jrf_0_0 ?_
        refine K_getI (pc := 54) dX7_alike_54 kf_X7_318 job_1 jrf_1_16 ?_
        refine J_top (b := nI n) (hn) ?_
        refine J_ldc (pc := 57) dX7_alike_57 kc_X7_84 ?_
        refine K_callVp (pc := 59) (id := 126) (As := [_, _, _]) dX7_alike_59 kl_X7_324 rfl job_126 rfl rfl (Nat.le_of_ble_eq_true rfl) (c_marksOf (p := r) (n := n) hn12 (-1000000005)) ?_
        refine J_icmp_ne (pc := 62) (tgt := 69) dX7_alike_62 (by decide) (fun h62 => ?_) (fun h62 => ?_)
        · 
          refine J_iconst (pc := 69) dX7_alike_69 kni_0 ?_
          refine K_iret (pc := 70) dX7_alike_70 rfl ⟨_, rfl, ?_⟩
          show (_, _) = _
          unfold F_alike
          rw [htq, htr, htn]
          try first | rw [if_pos h7] | rw [if_neg h7] | rw [if_neg (Classical.not_not.mpr h7)]
          try first | rw [if_pos h17] | rw [if_neg h17] | rw [if_neg (Classical.not_not.mpr h17)]
          try first | rw [if_pos h22] | rw [if_neg h22] | rw [if_neg (Classical.not_not.mpr h22)]
          try first | rw [if_pos h62] | rw [if_neg h62] | rw [if_neg (Classical.not_not.mpr h62)]
          try rfl
        · 
          refine J_iconst (pc := 65) dX7_alike_65 kni_1 ?_
          refine J_goto (pc := 66) (tgt := 70) dX7_alike_66 (by decide) ?_
          refine K_iret (pc := 70) dX7_alike_70 rfl ⟨_, rfl, ?_⟩
          show (_, _) = _
          unfold F_alike
          rw [htq, htr, htn]
          try first | rw [if_pos h7] | rw [if_neg h7] | rw [if_neg (Classical.not_not.mpr h7)]
          try first | rw [if_pos h17] | rw [if_neg h17] | rw [if_neg (Classical.not_not.mpr h17)]
          try first | rw [if_pos h22] | rw [if_neg h22] | rw [if_neg (Classical.not_not.mpr h22)]
          try first | rw [if_pos h62] | rw [if_neg h62] | rw [if_neg (Classical.not_not.mpr h62)]
          try rfl
      · 
        refine J_ldc (pc := 25) dX7_alike_25 kc_X7_80 ?_
        refine K_iret (pc := 27) dX7_alike_27 rfl ⟨_, rfl, ?_⟩
        show (_, _) = _
        unfold F_alike
        try first | rw [if_pos h7] | rw [if_neg h7] | rw [if_neg (Classical.not_not.mpr h7)]
        try first | rw [if_pos h17] | rw [if_neg h17] | rw [if_neg (Classical.not_not.mpr h17)]
        try first | rw [if_pos h22] | rw [if_neg h22] | rw [if_neg (Classical.not_not.mpr h22)]
        try rfl
def unlM (m : jm) (P n : Nat) (w : Int32) : jm := mfill m 138 (min P 29) (fun p => mkV m p w n)
def F_kinds (m : jm) (P n : Nat) (w : Int32) : Int32 × jm := if ¬ (-1 ≤ w ∧ w ≤ m 1 16 - nI 1) then (-1000000001, m) else (nI (unlV m w n (min P 29)), unlM m P n w)
set_option maxRecDepth 100000 in
set_option maxHeartbeats 400000 in
theorem p_kinds {x : jX} {m : jm} {d : Nat} (w : Int32) {P n : Nat} (hP : m 1 0 = nI P) (h48 : P ≤ 48) (hn : m 1 16 = nI n) (hn12 : n ≤ 12) : Ct x (d + 2) eX7_kinds [.ref (jxb x + 0), .int w] m (ji fun rv m' => (rv, m') = F_kinds m P n w) := by
  refine J_start (by decide +kernel) (Nat.le_of_ble_eq_true rfl) (ls := [some (.ref (jxb x + 0)), some (.int w)]) rfl rfl ?_
  refine J_iload_n (pc := 0) dX7_kinds_0 rfl ?_
  refine J_iconst (pc := 1) dX7_kinds_1 kni_m1 ?_
  refine J_aload_n (pc := 2) dX7_kinds_2 rfl ?_
  refine K_getR (pc := 3) dX7_kinds_3 kf_X7_10 job_0 jrf_0_0 ?_
  refine K_getI (pc := 6) dX7_kinds_6 kf_X7_318 job_1 jrf_1_16 ?_
  refine J_iconst (pc := 9) dX7_kinds_9 kni_1 ?_
  refine J_isub (pc := 10) dX7_kinds_10 ?_
  refine K_callSp (pc := 11) (As := [_, _, _]) dX7_kinds_11 kl_X7_76 rfl rfl (Nat.le_of_ble_eq_true rfl) (c_within _ _ _) ?_
  refine Jb_eq (pc := 14) (tgt := 32) dX7_kinds_14 (by decide) (fun h14 => ?_) (fun h14 => ?_)
  · 
    refine J_ldc (pc := 32) dX7_kinds_32 kc_X7_80 ?_
    refine K_iret (pc := 34) dX7_kinds_34 rfl ⟨_, rfl, ?_⟩
    show (_, _) = _
    unfold F_kinds
    try first | rw [if_pos h14] | rw [if_neg h14] | rw [if_neg (Classical.not_not.mpr h14)]
    try rfl
  · 
    refine J_aload_n (pc := 17) dX7_kinds_17 rfl ?_
    refine K_getR (pc := 18) dX7_kinds_18 kf_X7_60 job_0 jrf_0_8 ?_
    refine J_aload_n (pc := 21) dX7_kinds_21 rfl ?_
    refine K_getR (pc := 22) dX7_kinds_22 kf_X7_10 job_0 jrf_0_0 ?_
    refine J_iload_n (pc := 25) dX7_kinds_25 rfl ?_
    refine K_callVi (pc := 26) (id := 126) (As := [_, _]) dX7_kinds_26 kl_X7_327 rfl job_126 rfl rfl (Nat.le_of_ble_eq_true rfl) (c_unlike (m := m) (o := 1) (P := P) (w := n) (Or.inl rfl) hP h48 hn hn12 w) (fun vu mu hu => ?_)
    obtain ⟨rfl, rfl⟩ := hu
    refine J_goto (pc := 29) (tgt := 34) dX7_kinds_29 (by decide) ?_
    refine K_iret (pc := 34) dX7_kinds_34 rfl ⟨_, rfl, ?_⟩
    show (_, _) = _
    unfold F_kinds
    try first | rw [if_pos h14] | rw [if_neg h14] | rw [if_neg (Classical.not_not.mpr h14)]
    try rfl
def F_tell (m : jm) (v : Int32) : Int32 × jm := if 60 ≤ tN (m 0 10) then (-1000000003, m) else (nI (tN (m 0 10) + 1), mup (mup m 0 10 (nI (tN (m 0 10) + 1))) 139 (tN (m 0 10)) v)
set_option maxRecDepth 100000 in
set_option maxHeartbeats 400000 in
theorem p_tell {x : jX} {m : jm} {d : Nat} (v : Int32) {n : Nat} (hn : m 0 10 = nI n) (hn60 : n ≤ 60) : Ct x d eX7_tell [.ref (jxb x + 0), .int v] m (ji fun rv m' => (rv, m') = F_tell m v) := by
  refine J_start (by decide +kernel) (Nat.le_of_ble_eq_true rfl) (ls := [some (.ref (jxb x + 0)), some (.int v)]) rfl rfl ?_
  have htn : tN (m 0 10) = n := by rw [hn]; exact tN_n (by omega)
  refine J_aload_n (pc := 0) dX7_tell_0 rfl ?_
  refine K_getI (pc := 1) dX7_tell_1 kf_X7_68 job_0 jrf_0_10 ?_
  refine J_top (b := nI n) (hn) ?_
  refine J_bipush (pc := 4) dX7_tell_4 knb_60 ?_
  refine Jn_lt (pc := 6) (tgt := 12) dX7_tell_6 (by decide) (by omega) (by omega) (fun h6 => ?_) (fun h6 => ?_)
  · 
    refine J_aload_n (pc := 12) dX7_tell_12 rfl ?_
    refine K_getR (pc := 13) dX7_tell_13 kf_X7_64 job_0 jrf_0_9 ?_
    refine J_aload_n (pc := 16) dX7_tell_16 rfl ?_
    refine J_dup (pc := 17) dX7_tell_17 rfl ?_
    refine K_getI (pc := 18) dX7_tell_18 kf_X7_68 job_0 jrf_0_10 ?_
    refine J_top (b := nI n) (hn) ?_
    refine J_dup_x1 (pc := 21) dX7_tell_21 rfl rfl ?_
    refine J_iconst (pc := 22) dX7_tell_22 kni_1 ?_
    refine J_iaddv (pc := 23) dX7_tell_23 (nI_add _ _) ?_
    refine K_put (pc := 24) dX7_tell_24 kp_X7_68 job_0 jrf_0_10 rfl rfl ?_
    refine J_iload_n (pc := 27) dX7_tell_27 rfl ?_
    refine K_iastn (pc := 28) (id := 139) dX7_tell_28 jar_139 (by omega) (by decide) ?_
    refine J_aload_n (pc := 29) dX7_tell_29 rfl ?_
    refine K_getI (pc := 30) dX7_tell_30 kf_X7_68 job_0 jrf_0_10 ?_
    refine J_top (b := nI (n + 1)) (by rw [mup_i (by decide), mup_s]) ?_
    refine K_iret (pc := 33) dX7_tell_33 rfl ⟨_, rfl, ?_⟩
    show (_, _) = _
    unfold F_tell
    rw [htn]
    try first | rw [if_pos h6] | rw [if_neg h6] | rw [if_neg (Classical.not_not.mpr h6)]
    try rw [if_neg (by omega)]
  · 
    refine J_ldc (pc := 9) dX7_tell_9 kc_X7_89 ?_
    refine K_iret (pc := 11) dX7_tell_11 rfl ⟨_, rfl, ?_⟩
    show (_, _) = _
    unfold F_tell
    rw [htn]
    try first | rw [if_pos h6] | rw [if_neg h6] | rw [if_neg (Classical.not_not.mpr h6)]
    try rw [if_pos (by omega)]
def F_keep (m : jm) : Int32 × jm := (m 1 13, mup (becM m 14 1) 0 11 (nI 1))
def F_back (m : jm) : Int32 × jm := if m 0 11 = 0 then (-1000000002, m) else (m 14 13, becM m 1 14)
set_option maxRecDepth 100000 in
set_option maxHeartbeats 400000 in
theorem p_keep {x : jX} {m : jm} {d : Nat}  : Ct x (d + 2) eX7_keep [.ref (jxb x + 0)] m (ji fun rv m' => (rv, m') = F_keep m) := by
  refine J_start (by decide +kernel) (Nat.le_of_ble_eq_true rfl) (ls := [some (.ref (jxb x + 0))]) rfl rfl ?_
  refine J_aload_n (pc := 0) dX7_keep_0 rfl ?_
  refine K_getR (pc := 1) dX7_keep_1 kf_X7_16 job_0 jrf_0_1 ?_
  refine J_aload_n (pc := 4) dX7_keep_4 rfl ?_
  refine K_getR (pc := 5) dX7_keep_5 kf_X7_10 job_0 jrf_0_0 ?_
  refine K_callVv (pc := 8) (id := 14) (As := [_]) dX7_keep_8 kl_X7_174 rfl job_14 rfl rfl (Nat.le_of_ble_eq_true rfl) (c_becomes (o := 14) (o2 := 1) (Or.inr (Or.inl rfl)) (Or.inl rfl)) (fun m8 h8 => ?_)
  subst h8
  refine J_aload_n (pc := 11) dX7_keep_11 rfl ?_
  refine J_iconst (pc := 12) dX7_keep_12 kni_1 ?_
  refine K_put (pc := 13) dX7_keep_13 kp_X7_72 job_0 jrf_0_11 rfl rfl ?_
  refine J_aload_n (pc := 16) dX7_keep_16 rfl ?_
  refine K_getR (pc := 17) dX7_keep_17 kf_X7_10 job_0 jrf_0_0 ?_
  refine K_getI (pc := 20) dX7_keep_20 kf_X7_158 job_1 jrf_1_13 ?_
  refine J_top (b := (m 1 13)) (by rw [mup_i (by decide), bec_i (by decide)]) ?_
  refine K_iret (pc := 23) dX7_keep_23 rfl ⟨_, rfl, ?_⟩
  rfl
set_option maxRecDepth 100000 in
set_option maxHeartbeats 400000 in
theorem p_back {x : jX} {m : jm} {d : Nat}  : Ct x (d + 2) eX7_back [.ref (jxb x + 0)] m (ji fun rv m' => (rv, m') = F_back m) := by
  refine J_start (by decide +kernel) (Nat.le_of_ble_eq_true rfl) (ls := [some (.ref (jxb x + 0))]) rfl rfl ?_
  refine J_aload_n (pc := 0) dX7_back_0 rfl ?_
  refine K_getI (pc := 1) dX7_back_1 kf_X7_72 job_0 jrf_0_11 ?_
  refine J_if_ne (pc := 4) (tgt := 10) dX7_back_4 (by decide) (fun h4 => ?_) (fun h4 => ?_)
  · 
    refine J_aload_n (pc := 10) dX7_back_10 rfl ?_
    refine K_getR (pc := 11) dX7_back_11 kf_X7_10 job_0 jrf_0_0 ?_
    refine J_aload_n (pc := 14) dX7_back_14 rfl ?_
    refine K_getR (pc := 15) dX7_back_15 kf_X7_16 job_0 jrf_0_1 ?_
    refine K_callVv (pc := 18) (id := 1) (As := [_]) dX7_back_18 kl_X7_174 rfl job_1 rfl rfl (Nat.le_of_ble_eq_true rfl) (c_becomes (o := 1) (o2 := 14) (Or.inl rfl) (Or.inr (Or.inl rfl))) (fun m15 h15 => ?_)
    subst h15
    refine J_aload_n (pc := 21) dX7_back_21 rfl ?_
    refine K_getR (pc := 22) dX7_back_22 kf_X7_10 job_0 jrf_0_0 ?_
    refine K_getI (pc := 25) dX7_back_25 kf_X7_158 job_1 jrf_1_13 ?_
    refine J_top (b := (m 14 13)) (bec_f13 (Or.inl (by decide))) ?_
    refine K_iret (pc := 28) dX7_back_28 rfl ⟨_, rfl, ?_⟩
    show (_, _) = _
    unfold F_back
    try first | rw [if_pos h4] | rw [if_neg h4] | rw [if_neg (Classical.not_not.mpr h4)]
    try rfl
  · 
    refine J_ldc (pc := 7) dX7_back_7 kc_X7_85 ?_
    refine K_iret (pc := 9) dX7_back_9 rfl ⟨_, rfl, ?_⟩
    show (_, _) = _
    unfold F_back
    try first | rw [if_pos h4] | rw [if_neg h4] | rw [if_neg (Classical.not_not.mpr h4)]
    try rfl
def F_count (m : jm) (P : Nat) (w : Int32) : Int32 × jm :=
  if w = nI 0 then (m 1 0, m) else if w = nI 1 ∨ w = nI 2 ∨ w = nI 3 ∨ w = nI 4 ∨ w = nI 5 then (nI (cnt (fun p => decide (m 2 p = w)) P), m) else if w = nI 6 then (sumV (m 7) P, m) else if w = nI 7 then (m 1 14, m) else if w = nI 8 then (m 1 15, m) else if w = nI 9 then (m 1 16, m) else if w = nI 10 then (nI (cnt (fun l => decide (¬ m 41 l = -1)) 24), m) else if w = nI 11 then (m 0 10, m) else if w = nI 12 then (m 70 1, m) else if w = nI 13 then (m 1 13, m) else (-1000000001, m)
set_option maxRecDepth 100000 in
set_option maxHeartbeats 400000 in
theorem p_count {x : jX} {m : jm} {d : Nat} (w : Int32) {P : Nat} (hP : m 1 0 = nI P) (h48 : P ≤ 48) : Ct x (d + 1) eX7_count [.ref (jxb x + 0), .int w] m (ji fun rv m' => (rv, m') = F_count m P w) := by
  refine J_start (by decide +kernel) (Nat.le_of_ble_eq_true rfl) (ls := [some (.ref (jxb x + 0)), some (.int w)]) rfl rfl ?_
  refine J_iload_n (pc := 0) dX7_count_0 rfl ?_
  by_cases c1_0 : w = nI 0
  ·
    refine J_tsIn (pc := 1) (tgt := 72) (off := 71) dX7_count_1 (by rw [c1_0]; decide) (by rw [c1_0]; decide) (by rw [c1_0]; rfl) (by decide) ?_
    refine J_aload_n (pc := 72) dX7_count_72 rfl ?_
    refine K_getR (pc := 73) dX7_count_73 kf_X7_10 job_0 jrf_0_0 ?_
    refine K_getI (pc := 76) dX7_count_76 kf_X7_86 job_1 jrf_1_0 ?_
    refine K_iret (pc := 79) dX7_count_79 rfl ⟨_, rfl, ?_⟩
    show (_, _) = _
    unfold F_count
    rw [if_pos c1_0]
  by_cases c1_1 : w = nI 1
  ·
    refine J_tsIn (pc := 1) (tgt := 80) (off := 79) dX7_count_1 (by rw [c1_1]; decide) (by rw [c1_1]; decide) (by rw [c1_1]; rfl) (by decide) ?_
    refine J_aload_n (pc := 80) dX7_count_80 rfl ?_
    refine K_getR (pc := 81) dX7_count_81 kf_X7_10 job_0 jrf_0_0 ?_
    refine J_iload_n (pc := 84) dX7_count_84 rfl ?_
    refine K_callVp (pc := 85) (id := 1) (As := [_]) dX7_count_85 kl_X7_333 rfl job_1 rfl rfl (Nat.le_of_ble_eq_true rfl) (c_partsOf (o := 1) (P := P) (Or.inl rfl) hP h48 w) ?_
    refine K_iret (pc := 88) dX7_count_88 rfl ⟨_, rfl, ?_⟩
    show (_, _) = _
    unfold F_count
    rw [if_neg c1_0, if_pos (Or.inl c1_1)]
  by_cases c1_2 : w = nI 2
  ·
    refine J_tsIn (pc := 1) (tgt := 80) (off := 79) dX7_count_1 (by rw [c1_2]; decide) (by rw [c1_2]; decide) (by rw [c1_2]; rfl) (by decide) ?_
    refine J_aload_n (pc := 80) dX7_count_80 rfl ?_
    refine K_getR (pc := 81) dX7_count_81 kf_X7_10 job_0 jrf_0_0 ?_
    refine J_iload_n (pc := 84) dX7_count_84 rfl ?_
    refine K_callVp (pc := 85) (id := 1) (As := [_]) dX7_count_85 kl_X7_333 rfl job_1 rfl rfl (Nat.le_of_ble_eq_true rfl) (c_partsOf (o := 1) (P := P) (Or.inl rfl) hP h48 w) ?_
    refine K_iret (pc := 88) dX7_count_88 rfl ⟨_, rfl, ?_⟩
    show (_, _) = _
    unfold F_count
    rw [if_neg c1_0, if_pos (Or.inr (Or.inl c1_2))]
  by_cases c1_3 : w = nI 3
  ·
    refine J_tsIn (pc := 1) (tgt := 80) (off := 79) dX7_count_1 (by rw [c1_3]; decide) (by rw [c1_3]; decide) (by rw [c1_3]; rfl) (by decide) ?_
    refine J_aload_n (pc := 80) dX7_count_80 rfl ?_
    refine K_getR (pc := 81) dX7_count_81 kf_X7_10 job_0 jrf_0_0 ?_
    refine J_iload_n (pc := 84) dX7_count_84 rfl ?_
    refine K_callVp (pc := 85) (id := 1) (As := [_]) dX7_count_85 kl_X7_333 rfl job_1 rfl rfl (Nat.le_of_ble_eq_true rfl) (c_partsOf (o := 1) (P := P) (Or.inl rfl) hP h48 w) ?_
    refine K_iret (pc := 88) dX7_count_88 rfl ⟨_, rfl, ?_⟩
    show (_, _) = _
    unfold F_count
    rw [if_neg c1_0, if_pos (Or.inr (Or.inr (Or.inl c1_3)))]
  by_cases c1_4 : w = nI 4
  ·
    refine J_tsIn (pc := 1) (tgt := 80) (off := 79) dX7_count_1 (by rw [c1_4]; decide) (by rw [c1_4]; decide) (by rw [c1_4]; rfl) (by decide) ?_
    refine J_aload_n (pc := 80) dX7_count_80 rfl ?_
    refine K_getR (pc := 81) dX7_count_81 kf_X7_10 job_0 jrf_0_0 ?_
    refine J_iload_n (pc := 84) dX7_count_84 rfl ?_
    refine K_callVp (pc := 85) (id := 1) (As := [_]) dX7_count_85 kl_X7_333 rfl job_1 rfl rfl (Nat.le_of_ble_eq_true rfl) (c_partsOf (o := 1) (P := P) (Or.inl rfl) hP h48 w) ?_
    refine K_iret (pc := 88) dX7_count_88 rfl ⟨_, rfl, ?_⟩
    show (_, _) = _
    unfold F_count
    rw [if_neg c1_0, if_pos (Or.inr (Or.inr (Or.inr (Or.inl c1_4))))]
  by_cases c1_5 : w = nI 5
  ·
    refine J_tsIn (pc := 1) (tgt := 80) (off := 79) dX7_count_1 (by rw [c1_5]; decide) (by rw [c1_5]; decide) (by rw [c1_5]; rfl) (by decide) ?_
    refine J_aload_n (pc := 80) dX7_count_80 rfl ?_
    refine K_getR (pc := 81) dX7_count_81 kf_X7_10 job_0 jrf_0_0 ?_
    refine J_iload_n (pc := 84) dX7_count_84 rfl ?_
    refine K_callVp (pc := 85) (id := 1) (As := [_]) dX7_count_85 kl_X7_333 rfl job_1 rfl rfl (Nat.le_of_ble_eq_true rfl) (c_partsOf (o := 1) (P := P) (Or.inl rfl) hP h48 w) ?_
    refine K_iret (pc := 88) dX7_count_88 rfl ⟨_, rfl, ?_⟩
    show (_, _) = _
    unfold F_count
    rw [if_neg c1_0, if_pos (Or.inr (Or.inr (Or.inr (Or.inr (c1_5)))))]
  by_cases c1_6 : w = nI 6
  ·
    refine J_tsIn (pc := 1) (tgt := 89) (off := 88) dX7_count_1 (by rw [c1_6]; decide) (by rw [c1_6]; decide) (by rw [c1_6]; rfl) (by decide) ?_
    refine J_aload_n (pc := 89) dX7_count_89 rfl ?_
    refine K_getR (pc := 90) dX7_count_90 kf_X7_10 job_0 jrf_0_0 ?_
    refine K_callVp (pc := 93) (id := 1) (As := []) dX7_count_93 kl_X7_330 rfl job_1 rfl rfl (Nat.le_of_ble_eq_true rfl) (c_allSizes (o := 1) (P := P) (Or.inl rfl) hP h48) ?_
    refine K_iret (pc := 96) dX7_count_96 rfl ⟨_, rfl, ?_⟩
    show (_, _) = _
    unfold F_count
    rw [if_neg c1_0, if_neg (fun q => by rcases q with q | q | q | q | q <;> first | exact c1_1 q | exact c1_2 q | exact c1_3 q | exact c1_4 q | exact c1_5 q), if_pos c1_6]
  by_cases c1_7 : w = nI 7
  ·
    refine J_tsIn (pc := 1) (tgt := 97) (off := 96) dX7_count_1 (by rw [c1_7]; decide) (by rw [c1_7]; decide) (by rw [c1_7]; rfl) (by decide) ?_
    refine J_aload_n (pc := 97) dX7_count_97 rfl ?_
    refine K_getR (pc := 98) dX7_count_98 kf_X7_10 job_0 jrf_0_0 ?_
    refine K_getI (pc := 101) dX7_count_101 kf_X7_233 job_1 jrf_1_14 ?_
    refine K_iret (pc := 104) dX7_count_104 rfl ⟨_, rfl, ?_⟩
    show (_, _) = _
    unfold F_count
    rw [if_neg c1_0, if_neg (fun q => by rcases q with q | q | q | q | q <;> first | exact c1_1 q | exact c1_2 q | exact c1_3 q | exact c1_4 q | exact c1_5 q), if_neg c1_6, if_pos c1_7]
  by_cases c1_8 : w = nI 8
  ·
    refine J_tsIn (pc := 1) (tgt := 105) (off := 104) dX7_count_1 (by rw [c1_8]; decide) (by rw [c1_8]; decide) (by rw [c1_8]; rfl) (by decide) ?_
    refine J_aload_n (pc := 105) dX7_count_105 rfl ?_
    refine K_getR (pc := 106) dX7_count_106 kf_X7_10 job_0 jrf_0_0 ?_
    refine K_getI (pc := 109) dX7_count_109 kf_X7_300 job_1 jrf_1_15 ?_
    refine K_iret (pc := 112) dX7_count_112 rfl ⟨_, rfl, ?_⟩
    show (_, _) = _
    unfold F_count
    rw [if_neg c1_0, if_neg (fun q => by rcases q with q | q | q | q | q <;> first | exact c1_1 q | exact c1_2 q | exact c1_3 q | exact c1_4 q | exact c1_5 q), if_neg c1_6, if_neg c1_7, if_pos c1_8]
  by_cases c1_9 : w = nI 9
  ·
    refine J_tsIn (pc := 1) (tgt := 113) (off := 112) dX7_count_1 (by rw [c1_9]; decide) (by rw [c1_9]; decide) (by rw [c1_9]; rfl) (by decide) ?_
    refine J_aload_n (pc := 113) dX7_count_113 rfl ?_
    refine K_getR (pc := 114) dX7_count_114 kf_X7_10 job_0 jrf_0_0 ?_
    refine K_getI (pc := 117) dX7_count_117 kf_X7_318 job_1 jrf_1_16 ?_
    refine K_iret (pc := 120) dX7_count_120 rfl ⟨_, rfl, ?_⟩
    show (_, _) = _
    unfold F_count
    rw [if_neg c1_0, if_neg (fun q => by rcases q with q | q | q | q | q <;> first | exact c1_1 q | exact c1_2 q | exact c1_3 q | exact c1_4 q | exact c1_5 q), if_neg c1_6, if_neg c1_7, if_neg c1_8, if_pos c1_9]
  by_cases c1_10 : w = nI 10
  ·
    refine J_tsIn (pc := 1) (tgt := 121) (off := 120) dX7_count_1 (by rw [c1_10]; decide) (by rw [c1_10]; decide) (by rw [c1_10]; rfl) (by decide) ?_
    refine J_aload_n (pc := 121) dX7_count_121 rfl ?_
    refine K_getR (pc := 122) dX7_count_122 kf_X7_25 job_0 jrf_0_3 ?_
    refine K_callVp (pc := 125) (id := 40) (As := []) dX7_count_125 kl_X7_336 rfl job_40 rfl rfl (Nat.le_of_ble_eq_true rfl) (c_linesThere) ?_
    refine K_iret (pc := 128) dX7_count_128 rfl ⟨_, rfl, ?_⟩
    show (_, _) = _
    unfold F_count
    rw [if_neg c1_0, if_neg (fun q => by rcases q with q | q | q | q | q <;> first | exact c1_1 q | exact c1_2 q | exact c1_3 q | exact c1_4 q | exact c1_5 q), if_neg c1_6, if_neg c1_7, if_neg c1_8, if_neg c1_9, if_pos c1_10]
  by_cases c1_11 : w = nI 11
  ·
    refine J_tsIn (pc := 1) (tgt := 129) (off := 128) dX7_count_1 (by rw [c1_11]; decide) (by rw [c1_11]; decide) (by rw [c1_11]; rfl) (by decide) ?_
    refine J_aload_n (pc := 129) dX7_count_129 rfl ?_
    refine K_getI (pc := 130) dX7_count_130 kf_X7_68 job_0 jrf_0_10 ?_
    refine K_iret (pc := 133) dX7_count_133 rfl ⟨_, rfl, ?_⟩
    show (_, _) = _
    unfold F_count
    rw [if_neg c1_0, if_neg (fun q => by rcases q with q | q | q | q | q <;> first | exact c1_1 q | exact c1_2 q | exact c1_3 q | exact c1_4 q | exact c1_5 q), if_neg c1_6, if_neg c1_7, if_neg c1_8, if_neg c1_9, if_neg c1_10, if_pos c1_11]
  by_cases c1_12 : w = nI 12
  ·
    refine J_tsIn (pc := 1) (tgt := 134) (off := 133) dX7_count_1 (by rw [c1_12]; decide) (by rw [c1_12]; decide) (by rw [c1_12]; rfl) (by decide) ?_
    refine J_aload_n (pc := 134) dX7_count_134 rfl ?_
    refine K_getR (pc := 135) dX7_count_135 kf_X7_32 job_0 jrf_0_4 ?_
    refine K_getI (pc := 138) dX7_count_138 kf_X7_224 job_70 jrf_70_1 ?_
    refine K_iret (pc := 141) dX7_count_141 rfl ⟨_, rfl, ?_⟩
    show (_, _) = _
    unfold F_count
    rw [if_neg c1_0, if_neg (fun q => by rcases q with q | q | q | q | q <;> first | exact c1_1 q | exact c1_2 q | exact c1_3 q | exact c1_4 q | exact c1_5 q), if_neg c1_6, if_neg c1_7, if_neg c1_8, if_neg c1_9, if_neg c1_10, if_neg c1_11, if_pos c1_12]
  by_cases c1_13 : w = nI 13
  ·
    refine J_tsIn (pc := 1) (tgt := 142) (off := 141) dX7_count_1 (by rw [c1_13]; decide) (by rw [c1_13]; decide) (by rw [c1_13]; rfl) (by decide) ?_
    refine J_aload_n (pc := 142) dX7_count_142 rfl ?_
    refine K_getR (pc := 143) dX7_count_143 kf_X7_10 job_0 jrf_0_0 ?_
    refine K_getI (pc := 146) dX7_count_146 kf_X7_158 job_1 jrf_1_13 ?_
    refine K_iret (pc := 149) dX7_count_149 rfl ⟨_, rfl, ?_⟩
    show (_, _) = _
    unfold F_count
    rw [if_neg c1_0, if_neg (fun q => by rcases q with q | q | q | q | q <;> first | exact c1_1 q | exact c1_2 q | exact c1_3 q | exact c1_4 q | exact c1_5 q), if_neg c1_6, if_neg c1_7, if_neg c1_8, if_neg c1_9, if_neg c1_10, if_neg c1_11, if_neg c1_12, if_pos c1_13]
  refine J_tsOut (pc := 1) (tgt := 150) dX7_count_1 (by have qc1_0 := jsw_ne c1_0 (by decide); have qc1_1 := jsw_ne c1_1 (by decide); have qc1_2 := jsw_ne c1_2 (by decide); have qc1_3 := jsw_ne c1_3 (by decide); have qc1_4 := jsw_ne c1_4 (by decide); have qc1_5 := jsw_ne c1_5 (by decide); have qc1_6 := jsw_ne c1_6 (by decide); have qc1_7 := jsw_ne c1_7 (by decide); have qc1_8 := jsw_ne c1_8 (by decide); have qc1_9 := jsw_ne c1_9 (by decide); have qc1_10 := jsw_ne c1_10 (by decide); have qc1_11 := jsw_ne c1_11 (by decide); have qc1_12 := jsw_ne c1_12 (by decide); have qc1_13 := jsw_ne c1_13 (by decide); omega) (by decide) ?_
  refine J_ldc (pc := 150) dX7_count_150 kc_X7_80 ?_
  refine K_iret (pc := 152) dX7_count_152 rfl ⟨_, rfl, ?_⟩
  show (_, _) = _
  unfold F_count
  rw [if_neg c1_0, if_neg (fun q => by rcases q with q | q | q | q | q <;> first | exact c1_1 q | exact c1_2 q | exact c1_3 q | exact c1_4 q | exact c1_5 q), if_neg c1_6, if_neg c1_7, if_neg c1_8, if_neg c1_9, if_neg c1_10, if_neg c1_11, if_neg c1_12, if_neg c1_13]
