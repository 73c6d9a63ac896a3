def hlfR (m : jm) (g : Nat) (gr mean : Int32) : Nat → Int32
  | 0 => nI 0
  | p + 1 => hlfR m g gr mean p + (if ¬ nI (grp m 141 p) = gr then nI 0 else if mean < shdR m g (plR m p) then nI 1 else -1)
def R_half (m : jm) (g w : Int32) : Int32 × jm :=
  if ¬ (nI 0 ≤ g ∧ g ≤ nI 3) then (-1000000001, m) else if ¬ (nI 0 ≤ w ∧ w ≤ nI 5) then (-1000000001, m) else (hlfR m (tN g) w (qstR m (tN g) (nI 0)) (tN (m 141 0)), m)
set_option maxRecDepth 100000 in
set_option maxHeartbeats 400000 in
theorem m_half {x : jX} {m : jm} {d : Nat} (g w : Int32) {P : Nat} (hP : m 141 0 = nI P) (h48 : P ≤ 48) (hw : wfR m 141) (hplc : ∀ p, p < P → vp_in (m 141 (90 + 6 * p + 1)) 48) : Ct x (d + 3) eX8_half [.ref (jxb x + 140), .int g, .int w] m (ji fun rv m' => (rv, m') = R_half m g w) := by
  refine J_start (by decide +kernel) (Nat.le_of_ble_eq_true rfl) (ls := [some (.ref (jxb x + 140)), some (.int g), some (.int w), none, none, none, none]) rfl rfl ?_
  have htP : tN (m 141 0) = P := by rw [hP]; exact tN_n (by omega)
  refine J_iload_n (pc := 0) dX8_half_0 rfl ?_
  refine K_callSp (pc := 1) (As := [_]) dX8_half_1 kl_X8_168 rfl rfl (Nat.le_of_ble_eq_true rfl) (m_isGround g) ?_
  refine Jb_eq (pc := 4) (tgt := 14) dX8_half_4 (by decide) (fun h4 => ?_) (fun h4 => ?_)
  · 
    refine J_ldc (pc := 14) dX8_half_14 kc_X8_91 ?_
    refine K_iret (pc := 16) dX8_half_16 rfl ⟨_, rfl, ?_⟩
    show (_, _) = _
    unfold R_half
    try first | rw [if_pos h4] | rw [if_neg h4] | rw [if_neg (Classical.not_not.mpr h4)]
    try rfl
  · 
    refine J_iload_n (pc := 7) dX8_half_7 rfl ?_
    refine K_callSp (pc := 8) (As := [_]) dX8_half_8 kl_X8_117 rfl rfl (Nat.le_of_ble_eq_true rfl) (m_isGroup w) ?_
    refine Jb_ne (pc := 11) (tgt := 17) dX8_half_11 (by decide) (fun h11 => ?_) (fun h11 => ?_)
    · 
      obtain ⟨q, hq, hqe⟩ := w_of h4 (by decide)
      have htq : tN g = q := by rw [hqe]; exact tN_n (by omega)
      subst hqe
      refine J_aload_n (pc := 17) dX8_half_17 rfl ?_
      refine J_iload_n (pc := 18) dX8_half_18 rfl ?_
      refine J_iconst (pc := 19) dX8_half_19 kni_0 ?_
      refine K_callVp (pc := 20) (id := 140) (As := [_, _]) dX8_half_20 kl_X8_177 rfl job_140 rfl rfl (Nat.le_of_ble_eq_true rfl) (m_questionOf (g := q) (by omega) (nI 0)) ?_
      refine J_istore_n (pc := 23) (ls' := [some _, some _, some _, some _, none, none, none]) dX8_half_23 rfl (Nat.le_of_ble_eq_true rfl) rfl ?_
      refine J_iconst (pc := 24) dX8_half_24 kni_0 ?_
      refine J_istore (pc := 25) (ls' := [some _, some _, some _, some _, some _, none, none]) dX8_half_25 rfl (Nat.le_of_ble_eq_true rfl) rfl ?_
      refine J_iconst (pc := 27) dX8_half_27 kni_0 ?_
      refine J_istore (pc := 28) (ls' := [some _, some _, some _, some _, some _, some _, none]) dX8_half_28 rfl (Nat.le_of_ble_eq_true rfl) rfl ?_
      refine K_for' (pc := 30) P (fun p => [some (.ref (jxb x + 140)), some (.int (nI q)), some (.int w), some (.int ((qstR m q (nI 0)))), some (.int ((hlfR m q w (qstR m q (nI 0)) p))), some (.int (nI p)), none]) (fun p => m) (by rfl) (by rfl) (fun p hp ih30 => ?_) ?_
      ·
        show K x _ _ 30 [some (.ref (jxb x + 140)), some (.int (nI q)), some (.int w), some (.int ((qstR m q (nI 0)))), some (.int ((hlfR m q w (qstR m q (nI 0)) p))), some (.int (nI p)), none] _ m _
        refine J_iload (pc := 30) dX8_half_30 rfl ?_
        refine J_aload_n (pc := 32) dX8_half_32 rfl ?_
        refine K_getR (pc := 33) dX8_half_33 kf_X8_7 job_140 jrf_140_0 ?_
        refine J_iconst (pc := 36) dX8_half_36 kni_0 ?_
        refine K_ialdn (pc := 37) (id := 141) dX8_half_37 jar_141 (by decide) (by decide) ?_
        refine J_top (b := nI P) (hP) ?_
        refine Jn_ge (pc := 38) (tgt := 105) dX8_half_38 (by decide) (by omega) (by omega) (fun h38 => absurd h38 (by omega)) (fun h38 => ?_)
        refine J_aload_n (pc := 41) dX8_half_41 rfl ?_
        refine J_iload_n (pc := 42) dX8_half_42 rfl ?_
        refine J_aload_n (pc := 43) dX8_half_43 rfl ?_
        refine K_getR (pc := 44) dX8_half_44 kf_X8_7 job_140 jrf_140_0 ?_
        refine J_aload_n (pc := 47) dX8_half_47 rfl ?_
        refine J_iload (pc := 48) dX8_half_48 rfl ?_
        refine K_callVp (pc := 50) (id := 140) (As := [_]) dX8_half_50 kl_X8_81 rfl job_140 rfl rfl (Nat.le_of_ble_eq_true rfl) (m_partAt (p := p)) ?_
        refine J_iconst (pc := 53) dX8_half_53 kni_1 ?_
        refine J_iaddv (pc := 54) dX8_half_54 (nI_add _ _) ?_
        refine K_ialdn (pc := 55) (id := 141) dX8_half_55 jar_141 (by omega) (by decide) ?_
        refine J_top (b := nI (plR m p)) (tN_eq (hplc p hp) (by decide)) ?_
        refine K_callVp (pc := 56) (id := 140) (As := [_, _]) dX8_half_56 kl_X8_171 rfl job_140 rfl rfl (Nat.le_of_ble_eq_true rfl) (m_groundAt (g := q) (p := plR m p) (by omega) (tN_lt (hplc p hp) (by decide))) ?_
        refine J_iload_n (pc := 59) dX8_half_59 rfl ?_
        refine K_merge (jc := 68) (ls' := [some (.ref (jxb x + 140)), some (.int (nI q)), some (.int w), some (.int ((qstR m q (nI 0)))), some (.int ((hlfR m q w (qstR m q (nI 0)) p))), some (.int (nI p)), none]) (st' := [.int (jb (qstR m q (nI 0) < shdR m q (plR m p)))]) (m' := m) ?_ (fun hj68 => ?_)
        ·
          refine J_istore (pc := 68) (ls' := [some _, some _, some _, some _, some _, some _, some _]) dX8_half_68 rfl (Nat.le_of_ble_eq_true rfl) rfl ?_
          refine J_iload (pc := 70) dX8_half_70 rfl ?_
          refine J_aload_n (pc := 72) dX8_half_72 rfl ?_
          refine J_iload (pc := 73) dX8_half_73 rfl ?_
          refine K_callVp (pc := 75) (id := 140) (As := [_]) dX8_half_75 kl_X8_97 rfl job_140 rfl rfl (Nat.le_of_ble_eq_true rfl) (m_groupOf (p := p) (by omega) hw) ?_
          refine J_iload_n (pc := 78) dX8_half_78 rfl ?_
          refine J_icmp_eq (pc := 79) (tgt := 86) dX8_half_79 (by decide) (fun h79 => ?_) (fun h79 => ?_)
          · 
            refine J_iload (pc := 86) dX8_half_86 rfl ?_
            refine Jb_eq (pc := 88) (tgt := 95) dX8_half_88 (by decide) (fun h88 => ?_) (fun h88 => ?_)
            · 
              refine J_iconst (pc := 95) dX8_half_95 kni_m1 ?_
              refine J_iadd (pc := 96) dX8_half_96 ?_
              refine J_istore (pc := 97) (ls' := [some _, some _, some _, some _, some _, some _, some _]) dX8_half_97 rfl (Nat.le_of_ble_eq_true rfl) rfl ?_
              refine Jn_iinc (pc := 99) (ls' := [some _, some _, some _, some _, some _, some _, some _]) dX8_half_99 rfl knz_1 rfl rfl ?_
              refine J_goto (pc := 102) (tgt := 30) dX8_half_102 (by decide) ?_
              have ev : (hlfR m q w (qstR m q (nI 0)) (p + 1)) = (hlfR m q w (qstR m q (nI 0)) p) + (-1) := congrArg ((hlfR m q w (qstR m q (nI 0)) p) + ·) ((if_neg (fun z => z h79)).trans (if_neg h88))
              rw [ev] at ih30
              refine J_wk' ih30 rfl ?_
              rintro (_ | _ | _ | _ | _ | _ | _ | _ | _ | _ | k) v hv <;> first | exact hv | cases hv
            · 
              refine J_iconst (pc := 91) dX8_half_91 kni_1 ?_
              refine J_goto (pc := 92) (tgt := 96) dX8_half_92 (by decide) ?_
              refine J_iadd (pc := 96) dX8_half_96 ?_
              refine J_istore (pc := 97) (ls' := [some _, some _, some _, some _, some _, some _, some _]) dX8_half_97 rfl (Nat.le_of_ble_eq_true rfl) rfl ?_
              refine Jn_iinc (pc := 99) (ls' := [some _, some _, some _, some _, some _, some _, some _]) dX8_half_99 rfl knz_1 rfl rfl ?_
              refine J_goto (pc := 102) (tgt := 30) dX8_half_102 (by decide) ?_
              have ev : (hlfR m q w (qstR m q (nI 0)) (p + 1)) = (hlfR m q w (qstR m q (nI 0)) p) + nI 1 := congrArg ((hlfR m q w (qstR m q (nI 0)) p) + ·) ((if_neg (fun z => z h79)).trans (if_pos h88))
              rw [ev] at ih30
              refine J_wk' ih30 rfl ?_
              rintro (_ | _ | _ | _ | _ | _ | _ | _ | _ | _ | k) v hv <;> first | exact hv | cases hv
          · 
            refine J_iconst (pc := 82) dX8_half_82 kni_0 ?_
            refine J_goto (pc := 83) (tgt := 96) dX8_half_83 (by decide) ?_
            refine J_iadd (pc := 96) dX8_half_96 ?_
            refine J_istore (pc := 97) (ls' := [some _, some _, some _, some _, some _, some _, some _]) dX8_half_97 rfl (Nat.le_of_ble_eq_true rfl) rfl ?_
            refine Jn_iinc (pc := 99) (ls' := [some _, some _, some _, some _, some _, some _, some _]) dX8_half_99 rfl knz_1 rfl rfl ?_
            refine J_goto (pc := 102) (tgt := 30) dX8_half_102 (by decide) ?_
            have ev : (hlfR m q w (qstR m q (nI 0)) (p + 1)) = (hlfR m q w (qstR m q (nI 0)) p) + nI 0 := congrArg ((hlfR m q w (qstR m q (nI 0)) p) + ·) (if_pos h79)
            rw [ev] at ih30
            refine J_wk' ih30 rfl ?_
            rintro (_ | _ | _ | _ | _ | _ | _ | _ | _ | _ | k) v hv <;> first | exact hv | cases hv
        ·
          refine J_icmp_le (pc := 60) (tgt := 67) dX8_half_60 (by decide) (fun h60 => ?_) (fun h60 => ?_)
          · 
            refine J_iconst (pc := 67) dX8_half_67 kni_0 ?_
            have e68 : jb (qstR m q (nI 0) < shdR m q (plR m p)) = nI 0 := if_neg (Int32.not_lt.mpr h60)
            rw [e68] at hj68
            exact hj68
          · 
            refine J_iconst (pc := 63) dX8_half_63 kni_1 ?_
            refine J_goto (pc := 64) (tgt := 68) dX8_half_64 (by decide) ?_
            have e68 : jb (qstR m q (nI 0) < shdR m q (plR m p)) = nI 1 := if_pos (Int32.not_le.mp h60)
            rw [e68] at hj68
            exact hj68
      ·
        show K x _ _ 30 [some (.ref (jxb x + 140)), some (.int (nI q)), some (.int w), some (.int ((qstR m q (nI 0)))), some (.int ((hlfR m q w (qstR m q (nI 0)) P))), some (.int (nI P)), none] _ m _
        refine J_iload (pc := 30) dX8_half_30 rfl ?_
        refine J_aload_n (pc := 32) dX8_half_32 rfl ?_
        refine K_getR (pc := 33) dX8_half_33 kf_X8_7 job_140 jrf_140_0 ?_
        refine J_iconst (pc := 36) dX8_half_36 kni_0 ?_
        refine K_ialdn (pc := 37) (id := 141) dX8_half_37 jar_141 (by decide) (by decide) ?_
        refine J_top (b := nI P) (hP) ?_
        refine Jn_ge (pc := 38) (tgt := 105) dX8_half_38 (by decide) (by omega) (by omega) (fun h38 => ?_) (fun h38 => absurd h38 (by omega))
        refine J_iload (pc := 105) dX8_half_105 rfl ?_
        refine K_iret (pc := 107) dX8_half_107 rfl ⟨_, rfl, ?_⟩
        show (_, _) = _
        unfold R_half
        rw [htP, htq]
        try first | rw [if_pos h4] | rw [if_neg h4] | rw [if_neg (Classical.not_not.mpr h4)]
        try first | rw [if_pos h11] | rw [if_neg h11] | rw [if_neg (Classical.not_not.mpr h11)]
        try first | rw [if_pos h38] | rw [if_neg h38] | rw [if_neg (Classical.not_not.mpr h38)]
        try rfl
    · 
      refine J_ldc (pc := 14) dX8_half_14 kc_X8_91 ?_
      refine K_iret (pc := 16) dX8_half_16 rfl ⟨_, rfl, ?_⟩
      show (_, _) = _
      unfold R_half
      try first | rw [if_pos h4] | rw [if_neg h4] | rw [if_neg (Classical.not_not.mpr h4)]
      try first | rw [if_pos h11] | rw [if_neg h11] | rw [if_neg (Classical.not_not.mpr h11)]
      try rfl
theorem qstR_c {m m' : jm} (h1 : m' 144 = m 144) (h2 : m' 145 = m 145) (h3 : m' 146 = m 146) (h4 : m' 141 4 = m 141 4) (g : Nat) (q : Int32) : qstR m' g q = qstR m g q := by
  have hs : ∀ k, shdR m' g k = shdR m g k := shdR_c h1 h2 h3 g
  have hf : ∀ k w, farQ m' g k w = farQ m g k w := fun k w => by unfold farQ; rw [hs, hs]
  have hb : ∀ k n, briQ m' g k n = briQ m g k n := fun k n => by
    induction n with
    | zero => rfl
    | succ n ih => unfold briQ; rw [ih, h4, hf]
  have hw : ∀ k s n, wayQ m' g q k s n = wayQ m g q k s n := fun k s n => by
    induction n with
    | zero => rfl
    | succ n ih => unfold wayQ addQ; rw [ih, h4, hf]
  have ht : ∀ n, sumQ m' g q n = sumQ m g q n := fun n => by
    induction n with
    | zero => rfl
    | succ n ih => unfold sumQ ownQ lstQ; rw [ih, hw, hs, hb]
  unfold qstR
  rw [ht]
def lrnR (m : jm) (g n : Nat) (a : Int32) : jm := mup (mup (mrun m 141 (380 + 5 * n) (fun q => qstR m g (nI q)) 4) 141 (380 + 5 * n + 4) a) 141 7 (nI (n + 1))
def R_learn (m : jm) (g a : Int32) : Int32 × jm :=
  if ¬ (nI 0 ≤ g ∧ g ≤ nI 3) then (-1000000001, m) else if ¬ (nI 0 ≤ a ∧ a ≤ nI 9) then (-1000000001, m) else if tN (m 141 7) = 8 then (-1000000003, m) else (nI (tN (m 141 7)), lrnR m (tN g) (tN (m 141 7)) a)
set_option maxRecDepth 100000 in
set_option maxHeartbeats 400000 in
theorem m_learn {x : jX} {m : jm} {d : Nat} (g a : Int32) {n : Nat} (hn : m 141 7 = nI n) (hn8 : n ≤ 8) : Ct x (d + 3) eX8_learn [.ref (jxb x + 140), .int g, .int a] m (ji fun rv m' => (rv, m') = R_learn m g a) := by
  refine J_start (by decide +kernel) (Nat.le_of_ble_eq_true rfl) (ls := [some (.ref (jxb x + 140)), some (.int g), some (.int a), none, none]) rfl rfl ?_
  have htn : tN (m 141 7) = n := by rw [hn]; exact tN_n (by omega)
  refine J_iload_n (pc := 0) dX8_learn_0 rfl ?_
  refine K_callSp (pc := 1) (As := [_]) dX8_learn_1 kl_X8_168 rfl rfl (Nat.le_of_ble_eq_true rfl) (m_isGround g) ?_
  refine Jb_eq (pc := 4) (tgt := 19) dX8_learn_4 (by decide) (fun h4 => ?_) (fun h4 => ?_)
  · 
    refine J_ldc (pc := 19) dX8_learn_19 kc_X8_91 ?_
    refine K_iret (pc := 21) dX8_learn_21 rfl ⟨_, rfl, ?_⟩
    show (_, _) = _
    unfold R_learn
    try first | rw [if_pos h4] | rw [if_neg h4] | rw [if_neg (Classical.not_not.mpr h4)]
    try rfl
  · 
    refine J_iload_n (pc := 7) dX8_learn_7 rfl ?_
    refine J_i2l (pc := 8) dX8_learn_8 ?_
    refine J_lconst (pc := 9) (v := 0) dX8_learn_9 rfl ?_
    refine J_ldc2 (pc := 10) dX8_learn_10 kg_X8_89 ?_
    refine K_callSp (pc := 13) (As := [_, _, _]) dX8_learn_13 kl_X8_71 rfl rfl (Nat.le_of_ble_eq_true rfl) (m_in32 (v := a) (a := nI 0) (b := nI 9) (by decide) (by decide)) ?_
    refine Jb_ne (pc := 16) (tgt := 22) dX8_learn_16 (by decide) (fun h16 => ?_) (fun h16 => ?_)
    · 
      obtain ⟨r, hr, hre⟩ := w_of h4 (by decide)
      have htr : tN g = r := by rw [hre]; exact tN_n (by omega)
      subst hre
      refine J_aload_n (pc := 22) dX8_learn_22 rfl ?_
      refine K_getR (pc := 23) dX8_learn_23 kf_X8_7 job_140 jrf_140_0 ?_
      refine J_bipush (pc := 26) dX8_learn_26 knb_7 ?_
      refine K_ialdn (pc := 28) (id := 141) dX8_learn_28 jar_141 (by decide) (by decide) ?_
      refine J_top (b := nI n) (hn) ?_
      refine J_bipush (pc := 29) dX8_learn_29 knb_8 ?_
      refine Jn_ne (pc := 31) (tgt := 37) dX8_learn_31 (by decide) (by omega) (by omega) (fun h31 => ?_) (fun h31 => ?_)
      · 
        refine J_sipush (pc := 37) dX8_learn_37 kns_380 ?_
        refine J_iconst (pc := 40) dX8_learn_40 kni_5 ?_
        refine J_aload_n (pc := 41) dX8_learn_41 rfl ?_
        refine K_getR (pc := 42) dX8_learn_42 kf_X8_7 job_140 jrf_140_0 ?_
        refine J_bipush (pc := 45) dX8_learn_45 knb_7 ?_
        refine K_ialdn (pc := 47) (id := 141) dX8_learn_47 jar_141 (by decide) (by decide) ?_
        refine J_top (b := nI n) (hn) ?_
        refine J_imulv (pc := 48) dX8_learn_48 (pk_mul _ _) ?_
        refine J_iaddv (pc := 49) dX8_learn_49 (nI_add _ _) ?_
        refine J_istore_n (pc := 50) (ls' := [some _, some _, some _, some _, none]) dX8_learn_50 rfl (Nat.le_of_ble_eq_true rfl) rfl ?_
        refine J_iconst (pc := 51) dX8_learn_51 kni_0 ?_
        refine J_istore (pc := 52) (ls' := [some _, some _, some _, some _, some _]) dX8_learn_52 rfl (Nat.le_of_ble_eq_true rfl) rfl ?_
        refine K_for' (pc := 54) 4 (fun k => [some (.ref (jxb x + 140)), some (.int (nI r)), some (.int a), some (.int (nI (380 + 5 * n))), some (.int (nI k))]) (fun k => (mrun m 141 (380 + 5 * n) (fun q => qstR m r (nI q)) k)) (by rfl) (by rfl) (fun k hk ih54 => ?_) ?_
        ·
          show K x _ _ 54 [some (.ref (jxb x + 140)), some (.int (nI r)), some (.int a), some (.int (nI (380 + 5 * n))), some (.int (nI k))] _ ((mrun m 141 (380 + 5 * n) (fun q => qstR m r (nI q)) k)) _
          refine J_iload (pc := 54) dX8_learn_54 rfl ?_
          refine J_iconst (pc := 56) dX8_learn_56 kni_4 ?_
          refine Jn_ge (pc := 57) (tgt := 82) dX8_learn_57 (by decide) (by omega) (by omega) (fun h57 => absurd h57 (by omega)) (fun h57 => ?_)
          refine J_aload_n (pc := 60) dX8_learn_60 rfl ?_
          refine K_getR (pc := 61) dX8_learn_61 kf_X8_7 job_140 jrf_140_0 ?_
          refine J_iload_n (pc := 64) dX8_learn_64 rfl ?_
          refine J_iload (pc := 65) dX8_learn_65 rfl ?_
          refine J_iaddv (pc := 67) dX8_learn_67 (nI_add _ _) ?_
          refine J_aload_n (pc := 68) dX8_learn_68 rfl ?_
          refine J_iload_n (pc := 69) dX8_learn_69 rfl ?_
          refine J_iload (pc := 70) dX8_learn_70 rfl ?_
          refine K_callVp (pc := 72) (id := 140) (As := [_, _]) dX8_learn_72 kl_X8_177 rfl job_140 rfl rfl (Nat.le_of_ble_eq_true rfl) (m_questionOf (m := (mrun m 141 (380 + 5 * n) (fun q => qstR m r (nI q)) k)) (g := r) (by omega) (nI k)) ?_
          refine J_top (b := (qstR m r (nI k))) (qstR_c (mrun_i (by decide) k) (mrun_i (by decide) k) (mrun_i (by decide) k) (mrun_out k (by omega)) r (nI k)) ?_
          refine K_iastn (pc := 75) (id := 141) dX8_learn_75 jar_141 (by omega) (by decide) ?_
          refine Jn_iinc (pc := 76) (ls' := [some _, some _, some _, some _, some _]) dX8_learn_76 rfl knz_1 rfl rfl ?_
          refine J_goto (pc := 79) (tgt := 54) dX8_learn_79 (by decide) ?_
          exact ih54
        ·
          show K x _ _ 54 [some (.ref (jxb x + 140)), some (.int (nI r)), some (.int a), some (.int (nI (380 + 5 * n))), some (.int (nI 4))] _ ((mrun m 141 (380 + 5 * n) (fun q => qstR m r (nI q)) 4)) _
          refine J_iload (pc := 54) dX8_learn_54 rfl ?_
          refine J_iconst (pc := 56) dX8_learn_56 kni_4 ?_
          refine Jn_ge (pc := 57) (tgt := 82) dX8_learn_57 (by decide) (by omega) (by omega) (fun h57 => ?_) (fun h57 => absurd h57 (by omega))
          refine J_aload_n (pc := 82) dX8_learn_82 rfl ?_
          refine K_getR (pc := 83) dX8_learn_83 kf_X8_7 job_140 jrf_140_0 ?_
          refine J_iload_n (pc := 86) dX8_learn_86 rfl ?_
          refine J_iconst (pc := 87) dX8_learn_87 kni_4 ?_
          refine J_iaddv (pc := 88) dX8_learn_88 (nI_add _ _) ?_
          refine J_iload_n (pc := 89) dX8_learn_89 rfl ?_
          refine K_iastn (pc := 90) (id := 141) dX8_learn_90 jar_141 (by omega) (by decide) ?_
          refine J_aload_n (pc := 91) dX8_learn_91 rfl ?_
          refine K_getR (pc := 92) dX8_learn_92 kf_X8_7 job_140 jrf_140_0 ?_
          refine J_bipush (pc := 95) dX8_learn_95 knb_7 ?_
          refine J_dup2 (pc := 97) dX8_learn_97 rfl rfl ?_
          refine K_ialdn (pc := 98) (id := 141) dX8_learn_98 jar_141 (by decide) (by decide) ?_
          refine J_top (b := nI n) ((mup_j (by omega)).trans ((mrun_out 4 (by omega)).trans hn)) ?_
          refine J_iconst (pc := 99) dX8_learn_99 kni_1 ?_
          refine J_iaddv (pc := 100) dX8_learn_100 (nI_add _ _) ?_
          refine K_iastn (pc := 101) (id := 141) dX8_learn_101 jar_141 (by decide) (by decide) ?_
          refine J_aload_n (pc := 102) dX8_learn_102 rfl ?_
          refine K_getR (pc := 103) dX8_learn_103 kf_X8_7 job_140 jrf_140_0 ?_
          refine J_bipush (pc := 106) dX8_learn_106 knb_7 ?_
          refine K_ialdn (pc := 108) (id := 141) dX8_learn_108 jar_141 (by decide) (by decide) ?_
          refine J_top (b := nI (n + 1)) (by rw [mup_s]) ?_
          refine J_iconst (pc := 109) dX8_learn_109 kni_1 ?_
          refine J_isubv (pc := 110) dX8_learn_110 (pk_sub (by omega)) ?_
          refine J_top (b := nI n) (rfl) ?_
          refine K_iret (pc := 111) dX8_learn_111 rfl ⟨_, rfl, ?_⟩
          show (_, _) = _
          unfold R_learn
          rw [htr, htn]
          try first | rw [if_pos h4] | rw [if_neg h4] | rw [if_neg (Classical.not_not.mpr h4)]
          try first | rw [if_pos h16] | rw [if_neg h16] | rw [if_neg (Classical.not_not.mpr h16)]
          try first | rw [if_pos h31] | rw [if_neg h31] | rw [if_neg (Classical.not_not.mpr h31)]
          try first | rw [if_pos h57] | rw [if_neg h57] | rw [if_neg (Classical.not_not.mpr h57)]
          try rfl
      · 
        refine J_ldc (pc := 34) dX8_learn_34 kc_X8_96 ?_
        refine K_iret (pc := 36) dX8_learn_36 rfl ⟨_, rfl, ?_⟩
        show (_, _) = _
        unfold R_learn
        rw [htn]
        try first | rw [if_pos h4] | rw [if_neg h4] | rw [if_neg (Classical.not_not.mpr h4)]
        try first | rw [if_pos h16] | rw [if_neg h16] | rw [if_neg (Classical.not_not.mpr h16)]
        try first | rw [if_pos h31] | rw [if_neg h31] | rw [if_neg (Classical.not_not.mpr h31)]
        try rfl
    · 
      refine J_ldc (pc := 19) dX8_learn_19 kc_X8_91 ?_
      refine K_iret (pc := 21) dX8_learn_21 rfl ⟨_, rfl, ?_⟩
      show (_, _) = _
      unfold R_learn
      try first | rw [if_pos h4] | rw [if_neg h4] | rw [if_neg (Classical.not_not.mpr h4)]
      try first | rw [if_pos h16] | rw [if_neg h16] | rw [if_neg (Classical.not_not.mpr h16)]
      try rfl
def dfR (m : jm) (w : Int32) (i j : Nat) : Nat → Bool
  | 0 => decide (m 141 (380 + 5 * i + 4) = m 141 (380 + 5 * j + 4))
  | q + 1 => dfR m w i j q || (decide ((w >>> (nI q &&& 31)) &&& nI 1 = nI 1) && decide (¬ m 141 (380 + 5 * i + q) = m 141 (380 + 5 * j + q)))
def paP (m : jm) (w : Int32) (n : Nat) : Prop := ∀ i, i < n → ∀ j, j < i → dfR m w i j 4 = true
set_option maxRecDepth 100000 in
set_option maxHeartbeats 400000 in
theorem m_partsAll {x : jX} {m : jm} {d : Nat} {n : Nat} (hn : m 141 7 = nI n) (hn8 : n ≤ 8) (w : Int32) : Ct x d eX8_partsAll [.ref (jxb x + 140), .int w] m (jp (jbp (paP m w n)) m) := by
  refine J_start (by decide +kernel) (Nat.le_of_ble_eq_true rfl) (ls := [some (.ref (jxb x + 140)), some (.int w), none, none, none, none, none, none]) rfl rfl ?_
  refine J_iconst (pc := 0) dX8_partsAll_0 kni_0 ?_
  refine J_istore_n (pc := 1) (ls' := [some _, some _, some _, none, none, none, none, none]) dX8_partsAll_1 rfl (Nat.le_of_ble_eq_true rfl) rfl ?_
  refine K_inv (pc := 2) n (fun i lsq mq => lsq = [some (.ref (jxb x + 140)), some (.int w), some (.int (nI i)), none, none, none, none, none] ∧ (m = mq) ∧ (∀ a, a < i → ∀ b, b < a → dfR m w a b 4 = true)) (fun i hi lsq mm hI2 ih2 => ?_) (fun lsq mm hI2 => ?_) 0 (Nat.zero_le _) _ _ (⟨rfl, rfl, fun a ha => absurd ha (Nat.not_lt_zero _)⟩)
  ·
    obtain ⟨rfl, hm, ha⟩ := hI2
    subst hm
    refine J_iload_n (pc := 2) dX8_partsAll_2 rfl ?_
    refine J_aload_n (pc := 3) dX8_partsAll_3 rfl ?_
    refine K_getR (pc := 4) dX8_partsAll_4 kf_X8_7 job_140 jrf_140_0 ?_
    refine J_bipush (pc := 7) dX8_partsAll_7 knb_7 ?_
    refine K_ialdn (pc := 9) (id := 141) dX8_partsAll_9 jar_141 (by decide) (by decide) ?_
    refine J_top (b := nI n) (hn) ?_
    refine Jn_ge (pc := 10) (tgt := 145) dX8_partsAll_10 (by decide) (by omega) (by omega) (fun h10 => absurd h10 (by omega)) (fun h10 => ?_)
    refine J_iconst (pc := 13) dX8_partsAll_13 kni_0 ?_
    refine J_istore_n (pc := 14) (ls' := [some _, some _, some _, some _, none, none, none, none]) dX8_partsAll_14 rfl (Nat.le_of_ble_eq_true rfl) rfl ?_
    refine K_inv (pc := 15) i (fun j lsq mq => lsq = [some (.ref (jxb x + 140)), some (.int w), some (.int (nI i)), some (.int (nI j)), none, none, none, none] ∧ (m = mq) ∧ (∀ b, b < j → dfR m w i b 4 = true)) (fun j hj lsq m2 hI15 ih15 => ?_) (fun lsq m2 hI15 => ?_) 0 (Nat.zero_le _) _ _ (⟨rfl, rfl, fun b hb => absurd hb (Nat.not_lt_zero _)⟩)
    ·
      obtain ⟨rfl, hm2, hb2⟩ := hI15
      subst hm2
      refine J_iload_n (pc := 15) dX8_partsAll_15 rfl ?_
      refine J_iload_n (pc := 16) dX8_partsAll_16 rfl ?_
      refine Jn_ge (pc := 17) (tgt := 139) dX8_partsAll_17 (by decide) (by omega) (by omega) (fun h17 => absurd h17 (by omega)) (fun h17 => ?_)
      refine J_sipush (pc := 20) dX8_partsAll_20 kns_380 ?_
      refine J_iconst (pc := 23) dX8_partsAll_23 kni_5 ?_
      refine J_iload_n (pc := 24) dX8_partsAll_24 rfl ?_
      refine J_imulv (pc := 25) dX8_partsAll_25 (pk_mul _ _) ?_
      refine J_iaddv (pc := 26) dX8_partsAll_26 (nI_add _ _) ?_
      refine J_istore (pc := 27) (ls' := [some _, some _, some _, some _, some _, none, none, none]) dX8_partsAll_27 rfl (Nat.le_of_ble_eq_true rfl) rfl ?_
      refine J_sipush (pc := 29) dX8_partsAll_29 kns_380 ?_
      refine J_iconst (pc := 32) dX8_partsAll_32 kni_5 ?_
      refine J_iload_n (pc := 33) dX8_partsAll_33 rfl ?_
      refine J_imulv (pc := 34) dX8_partsAll_34 (pk_mul _ _) ?_
      refine J_iaddv (pc := 35) dX8_partsAll_35 (nI_add _ _) ?_
      refine J_istore (pc := 36) (ls' := [some _, some _, some _, some _, some _, some _, none, none]) dX8_partsAll_36 rfl (Nat.le_of_ble_eq_true rfl) rfl ?_
      refine J_aload_n (pc := 38) dX8_partsAll_38 rfl ?_
      refine K_getR (pc := 39) dX8_partsAll_39 kf_X8_7 job_140 jrf_140_0 ?_
      refine J_iload (pc := 42) dX8_partsAll_42 rfl ?_
      refine J_iconst (pc := 44) dX8_partsAll_44 kni_4 ?_
      refine J_iaddv (pc := 45) dX8_partsAll_45 (nI_add _ _) ?_
      refine K_ialdn (pc := 46) (id := 141) dX8_partsAll_46 jar_141 (by omega) (by decide) ?_
      refine J_aload_n (pc := 47) dX8_partsAll_47 rfl ?_
      refine K_getR (pc := 48) dX8_partsAll_48 kf_X8_7 job_140 jrf_140_0 ?_
      refine J_iload (pc := 51) dX8_partsAll_51 rfl ?_
      refine J_iconst (pc := 53) dX8_partsAll_53 kni_4 ?_
      refine J_iaddv (pc := 54) dX8_partsAll_54 (nI_add _ _) ?_
      refine K_ialdn (pc := 55) (id := 141) dX8_partsAll_55 jar_141 (by omega) (by decide) ?_
      refine K_merge (jc := 64) (ls' := [some (.ref (jxb x + 140)), some (.int w), some (.int (nI i)), some (.int (nI j)), some (.int (nI (380 + (5 * i)))), some (.int (nI (380 + (5 * j)))), none, none]) (st' := [.int (jb (dfR m w i j 0 = true))]) (m' := m) ?_ (fun hj64 => ?_)
      ·
        refine J_istore (pc := 64) (ls' := [some _, some _, some _, some _, some _, some _, some _, none]) dX8_partsAll_64 rfl (Nat.le_of_ble_eq_true rfl) rfl ?_
        refine J_iconst (pc := 66) dX8_partsAll_66 kni_0 ?_
        refine J_istore (pc := 67) (ls' := [some _, some _, some _, some _, some _, some _, some _, some _]) dX8_partsAll_67 rfl (Nat.le_of_ble_eq_true rfl) rfl ?_
        refine K_for' (pc := 69) 4 (fun q => [some (.ref (jxb x + 140)), some (.int w), some (.int (nI i)), some (.int (nI j)), some (.int (nI (380 + 5 * i))), some (.int (nI (380 + 5 * j))), some (.int (jb (dfR m w i j q = true))), some (.int (nI q))]) (fun q => m) (by rfl) (by rfl) (fun q hq ih69 => ?_) ?_
        ·
          show K x _ _ 69 [some (.ref (jxb x + 140)), some (.int w), some (.int (nI i)), some (.int (nI j)), some (.int (nI (380 + 5 * i))), some (.int (nI (380 + 5 * j))), some (.int (jb (dfR m w i j q = true))), some (.int (nI q))] _ m _
          refine J_iload (pc := 69) dX8_partsAll_69 rfl ?_
          refine J_iconst (pc := 71) dX8_partsAll_71 kni_4 ?_
          refine Jn_ge (pc := 72) (tgt := 126) dX8_partsAll_72 (by decide) (by omega) (by omega) (fun h72 => absurd h72 (by omega)) (fun h72 => ?_)
          refine J_iload (pc := 75) dX8_partsAll_75 rfl ?_
          refine K_merge (jc := 118) (ls' := [some (.ref (jxb x + 140)), some (.int w), some (.int (nI i)), some (.int (nI j)), some (.int (nI (380 + 5 * i))), some (.int (nI (380 + 5 * j))), some (.int (jb (dfR m w i j q = true))), some (.int (nI q))]) (st' := [.int (jb (dfR m w i j (q + 1) = true))]) (m' := m) ?_ (fun hj118 => ?_)
          ·
            refine J_istore (pc := 118) (ls' := [some _, some _, some _, some _, some _, some _, some _, some _]) dX8_partsAll_118 rfl (Nat.le_of_ble_eq_true rfl) rfl ?_
            refine Jn_iinc (pc := 120) (ls' := [some _, some _, some _, some _, some _, some _, some _, some _]) dX8_partsAll_120 rfl knz_1 rfl rfl ?_
            refine J_goto (pc := 123) (tgt := 69) dX8_partsAll_123 (by decide) ?_
            exact ih69
          ·
            refine Jb_ne (pc := 77) (tgt := 113) dX8_partsAll_77 (by decide) (fun h77 => ?_) (fun h77 => ?_)
            · 
              refine J_iconst (pc := 113) dX8_partsAll_113 kni_1 ?_
              refine J_goto (pc := 114) (tgt := 118) dX8_partsAll_114 (by decide) ?_
              have e118 : jb (dfR m w i j (q + 1) = true) = nI 1 := (jbT (by unfold dfR; rw [Bool.or_eq_true]; exact Or.inl h77)).symm
              rw [e118] at hj118
              exact hj118
            · 
              refine J_iload_n (pc := 80) dX8_partsAll_80 rfl ?_
              refine J_iload (pc := 81) dX8_partsAll_81 rfl ?_
              refine J_ishr (pc := 83) dX8_partsAll_83 ?_
              refine J_iconst (pc := 84) dX8_partsAll_84 kni_1 ?_
              refine J_iand (pc := 85) dX8_partsAll_85 ?_
              refine J_iconst (pc := 86) dX8_partsAll_86 kni_1 ?_
              refine J_icmp_ne (pc := 87) (tgt := 117) dX8_partsAll_87 (by decide) (fun h87 => ?_) (fun h87 => ?_)
              · 
                refine J_iconst (pc := 117) dX8_partsAll_117 kni_0 ?_
                have e118 : jb (dfR m w i j (q + 1) = true) = nI 0 := (jbF (by unfold dfR; rw [Bool.or_eq_true, Bool.and_eq_true, decide_eq_true_iff, decide_eq_true_iff]; exact fun z => z.elim h77 (fun y => h87 y.1))).symm
                rw [e118] at hj118
                exact hj118
              · 
                refine J_aload_n (pc := 90) dX8_partsAll_90 rfl ?_
                refine K_getR (pc := 91) dX8_partsAll_91 kf_X8_7 job_140 jrf_140_0 ?_
                refine J_iload (pc := 94) dX8_partsAll_94 rfl ?_
                refine J_iload (pc := 96) dX8_partsAll_96 rfl ?_
                refine J_iaddv (pc := 98) dX8_partsAll_98 (nI_add _ _) ?_
                refine K_ialdn (pc := 99) (id := 141) dX8_partsAll_99 jar_141 (by omega) (by decide) ?_
                refine J_aload_n (pc := 100) dX8_partsAll_100 rfl ?_
                refine K_getR (pc := 101) dX8_partsAll_101 kf_X8_7 job_140 jrf_140_0 ?_
                refine J_iload (pc := 104) dX8_partsAll_104 rfl ?_
                refine J_iload (pc := 106) dX8_partsAll_106 rfl ?_
                refine J_iaddv (pc := 108) dX8_partsAll_108 (nI_add _ _) ?_
                refine K_ialdn (pc := 109) (id := 141) dX8_partsAll_109 jar_141 (by omega) (by decide) ?_
                refine J_icmp_eq (pc := 110) (tgt := 117) dX8_partsAll_110 (by decide) (fun h110 => ?_) (fun h110 => ?_)
                · 
                  refine J_iconst (pc := 117) dX8_partsAll_117 kni_0 ?_
                  have e118 : jb (dfR m w i j (q + 1) = true) = nI 0 := (jbF (by unfold dfR; rw [Bool.or_eq_true, Bool.and_eq_true, decide_eq_true_iff, decide_eq_true_iff]; exact fun z => z.elim h77 (fun y => y.2 h110))).symm
                  rw [e118] at hj118
                  exact hj118
                · 
                  refine J_iconst (pc := 113) dX8_partsAll_113 kni_1 ?_
                  refine J_goto (pc := 114) (tgt := 118) dX8_partsAll_114 (by decide) ?_
                  have e118 : jb (dfR m w i j (q + 1) = true) = nI 1 := (jbT (by unfold dfR; rw [Bool.or_eq_true, Bool.and_eq_true, decide_eq_true_iff, decide_eq_true_iff]; exact Or.inr ⟨h87, h110⟩)).symm
                  rw [e118] at hj118
                  exact hj118
        ·
          show K x _ _ 69 [some (.ref (jxb x + 140)), some (.int w), some (.int (nI i)), some (.int (nI j)), some (.int (nI (380 + 5 * i))), some (.int (nI (380 + 5 * j))), some (.int (jb (dfR m w i j 4 = true))), some (.int (nI 4))] _ m _
          refine J_iload (pc := 69) dX8_partsAll_69 rfl ?_
          refine J_iconst (pc := 71) dX8_partsAll_71 kni_4 ?_
          refine Jn_ge (pc := 72) (tgt := 126) dX8_partsAll_72 (by decide) (by omega) (by omega) (fun h72 => ?_) (fun h72 => absurd h72 (by omega))
          refine J_iload (pc := 126) dX8_partsAll_126 rfl ?_
          refine Jb_ne (pc := 128) (tgt := 133) dX8_partsAll_128 (by decide) (fun h128 => ?_) (fun h128 => ?_)
          · 
            refine Jn_iinc (pc := 133) (ls' := [some _, some _, some _, some _, some _, some _, some _, some _]) dX8_partsAll_133 rfl knz_1 rfl rfl ?_
            refine J_goto (pc := 136) (tgt := 15) dX8_partsAll_136 (by decide) ?_
            refine J_wk' (ih15 [some (.ref (jxb x + 140)), some (.int w), some (.int (nI i)), some (.int (nI (j + 1))), none, none, none, none] _ ⟨rfl, rfl, fun b hbj => by
                by_cases e : b = j
                · subst e; exact h128
                · exact hb2 b (by omega)⟩) rfl ?_
            rintro (_ | _ | _ | _ | _ | _ | _ | _ | k) v hv <;> first | exact hv | cases hv
          · 
            refine J_iconst (pc := 131) dX8_partsAll_131 kni_0 ?_
            refine K_zret (pc := 132) dX8_partsAll_132 rfl rfl ⟨_, rfl, ?_⟩
            exact ⟨jbpF (fun z => h128 (z i hi j hj)), rfl⟩
      ·
        refine J_icmp_ne (pc := 56) (tgt := 63) dX8_partsAll_56 (by decide) (fun h56 => ?_) (fun h56 => ?_)
        · 
          refine J_iconst (pc := 63) dX8_partsAll_63 kni_0 ?_
          have e64 : jb (dfR m w i j 0 = true) = nI 0 := (jbF (fun z => h56 (of_decide_eq_true z))).symm
          rw [e64] at hj64
          exact hj64
        · 
          refine J_iconst (pc := 59) dX8_partsAll_59 kni_1 ?_
          refine J_goto (pc := 60) (tgt := 64) dX8_partsAll_60 (by decide) ?_
          have e64 : jb (dfR m w i j 0 = true) = nI 1 := (jbT (decide_eq_true h56)).symm
          rw [e64] at hj64
          exact hj64
    ·
      obtain ⟨rfl, hm2, hb2⟩ := hI15
      subst hm2
      refine J_iload_n (pc := 15) dX8_partsAll_15 rfl ?_
      refine J_iload_n (pc := 16) dX8_partsAll_16 rfl ?_
      refine Jn_ge (pc := 17) (tgt := 139) dX8_partsAll_17 (by decide) (by omega) (by omega) (fun h17 => ?_) (fun h17 => absurd h17 (by omega))
      refine Jn_iinc (pc := 139) (ls' := [some _, some _, some _, some _, none, none, none, none]) dX8_partsAll_139 rfl knz_1 rfl rfl ?_
      refine J_goto (pc := 142) (tgt := 2) dX8_partsAll_142 (by decide) ?_
      refine J_wk' (ih2 [some (.ref (jxb x + 140)), some (.int w), some (.int (nI (i + 1))), none, none, none, none, none] _ ⟨rfl, rfl, fun a hai b hb => by
          by_cases e : a = i
          · subst e; exact hb2 b hb
          · exact ha a (by omega) b hb⟩) rfl ?_
      rintro (_ | _ | _ | _ | _ | _ | _ | _ | k) v hv <;> first | exact hv | cases hv
  ·
    obtain ⟨rfl, hm, ha⟩ := hI2
    subst hm
    refine J_iload_n (pc := 2) dX8_partsAll_2 rfl ?_
    refine J_aload_n (pc := 3) dX8_partsAll_3 rfl ?_
    refine K_getR (pc := 4) dX8_partsAll_4 kf_X8_7 job_140 jrf_140_0 ?_
    refine J_bipush (pc := 7) dX8_partsAll_7 knb_7 ?_
    refine K_ialdn (pc := 9) (id := 141) dX8_partsAll_9 jar_141 (by decide) (by decide) ?_
    refine J_top (b := nI n) (hn) ?_
    refine Jn_ge (pc := 10) (tgt := 145) dX8_partsAll_10 (by decide) (by omega) (by omega) (fun h10 => ?_) (fun h10 => absurd h10 (by omega))
    refine J_iconst (pc := 145) dX8_partsAll_145 kni_1 ?_
    refine K_zret (pc := 146) dX8_partsAll_146 rfl rfl ⟨_, rfl, ?_⟩
    exact ⟨jbpT ha, rfl⟩
noncomputable def R_apart (m : jm) (w : Int32) : Int32 × jm := by
  classical exact if ¬ (nI 0 ≤ w ∧ w ≤ nI 15) then (-1000000001, m) else if paP m w (tN (m 141 7)) then (nI 1, m) else (nI 0, m)
set_option maxRecDepth 100000 in
set_option maxHeartbeats 400000 in
theorem m_apart {x : jX} {m : jm} {d : Nat} (w : Int32) {n : Nat} (hn : m 141 7 = nI n) (hn8 : n ≤ 8) : Ct x (d + 1) eX8_apart [.ref (jxb x + 140), .int w] m (ji fun rv m' => (rv, m') = R_apart m w) := by
  refine J_start (by decide +kernel) (Nat.le_of_ble_eq_true rfl) (ls := [some (.ref (jxb x + 140)), some (.int w)]) rfl rfl ?_
  have htn : tN (m 141 7) = n := by rw [hn]; exact tN_n (by omega)
  refine J_iload_n (pc := 0) dX8_apart_0 rfl ?_
  refine J_i2l (pc := 1) dX8_apart_1 ?_
  refine J_lconst (pc := 2) (v := 0) dX8_apart_2 rfl ?_
  refine J_ldc2 (pc := 3) dX8_apart_3 kg_X8_348 ?_
  refine K_callSp (pc := 6) (As := [_, _, _]) dX8_apart_6 kl_X8_71 rfl rfl (Nat.le_of_ble_eq_true rfl) (m_in32 (v := w) (a := nI 0) (b := nI 15) (by decide) (by decide)) ?_
  refine Jb_ne (pc := 9) (tgt := 17) dX8_apart_9 (by decide) (fun h9 => ?_) (fun h9 => ?_)
  · 
    refine J_aload_n (pc := 17) dX8_apart_17 rfl ?_
    refine J_iload_n (pc := 18) dX8_apart_18 rfl ?_
    refine K_callVp (pc := 19) (id := 140) (As := [_]) dX8_apart_19 kl_X8_350 rfl job_140 rfl rfl (Nat.le_of_ble_eq_true rfl) (m_partsAll hn hn8 w) ?_
    refine Jp_eq (pc := 22) (tgt := 29) dX8_apart_22 (by decide) (fun h22 => ?_) (fun h22 => ?_)
    · 
      refine J_iconst (pc := 29) dX8_apart_29 kni_0 ?_
      refine K_iret (pc := 30) dX8_apart_30 rfl ⟨_, rfl, ?_⟩
      show (_, _) = _
      unfold R_apart
      rw [htn]
      try first | rw [if_pos h9] | rw [if_neg h9] | rw [if_neg (Classical.not_not.mpr h9)]
      try first | rw [if_pos h22] | rw [if_neg h22] | rw [if_neg (Classical.not_not.mpr h22)]
      try rfl
    · 
      refine J_iconst (pc := 25) dX8_apart_25 kni_1 ?_
      refine J_goto (pc := 26) (tgt := 30) dX8_apart_26 (by decide) ?_
      refine K_iret (pc := 30) dX8_apart_30 rfl ⟨_, rfl, ?_⟩
      show (_, _) = _
      unfold R_apart
      rw [htn]
      try first | rw [if_pos h9] | rw [if_neg h9] | rw [if_neg (Classical.not_not.mpr h9)]
      try first | rw [if_pos h22] | rw [if_neg h22] | rw [if_neg (Classical.not_not.mpr h22)]
      try rfl
  · 
    refine J_ldc (pc := 12) dX8_apart_12 kc_X8_91 ?_
    refine J_goto (pc := 14) (tgt := 30) dX8_apart_14 (by decide) ?_
    refine K_iret (pc := 30) dX8_apart_30 rfl ⟨_, rfl, ?_⟩
    show (_, _) = _
    unfold R_apart
    rw [htn]
    try first | rw [if_pos h9] | rw [if_neg h9] | rw [if_neg (Classical.not_not.mpr h9)]
    try rfl
def onV (w : Int32) : Int32 := (w &&& nI 1) + ((w >>> (nI 1 &&& 31)) &&& nI 1) + ((w >>> (nI 2 &&& 31)) &&& nI 1) + ((w >>> (nI 3 &&& 31)) &&& nI 1)
noncomputable def fwR (m : jm) (n : Nat) : Nat → Int32
  | 0 => -1
  | s + 1 => by classical exact if paP m (nI s) n ∧ (fwR m n s < 0 ∨ onV (nI s) < onV (fwR m n s)) then nI s else fwR m n s
set_option maxRecDepth 100000 in
set_option maxHeartbeats 400000 in
theorem m_ones {x : jX} {m : jm} {d : Nat} (w : Int32) : Ct x d eX8_ones [.int w] m (jp (onV w) m) := by
  refine J_start (by decide +kernel) (Nat.le_of_ble_eq_true rfl) (ls := [some (.int w)]) rfl rfl ?_
  refine J_iload_n (pc := 0) dX8_ones_0 rfl ?_
  refine J_iconst (pc := 1) dX8_ones_1 kni_1 ?_
  refine J_iand (pc := 2) dX8_ones_2 ?_
  refine J_iload_n (pc := 3) dX8_ones_3 rfl ?_
  refine J_iconst (pc := 4) dX8_ones_4 kni_1 ?_
  refine J_ishr (pc := 5) dX8_ones_5 ?_
  refine J_iconst (pc := 6) dX8_ones_6 kni_1 ?_
  refine J_iand (pc := 7) dX8_ones_7 ?_
  refine J_iadd (pc := 8) dX8_ones_8 ?_
  refine J_iload_n (pc := 9) dX8_ones_9 rfl ?_
  refine J_iconst (pc := 10) dX8_ones_10 kni_2 ?_
  refine J_ishr (pc := 11) dX8_ones_11 ?_
  refine J_iconst (pc := 12) dX8_ones_12 kni_1 ?_
  refine J_iand (pc := 13) dX8_ones_13 ?_
  refine J_iadd (pc := 14) dX8_ones_14 ?_
  refine J_iload_n (pc := 15) dX8_ones_15 rfl ?_
  refine J_iconst (pc := 16) dX8_ones_16 kni_3 ?_
  refine J_ishr (pc := 17) dX8_ones_17 ?_
  refine J_iconst (pc := 18) dX8_ones_18 kni_1 ?_
  refine J_iand (pc := 19) dX8_ones_19 ?_
  refine J_iadd (pc := 20) dX8_ones_20 ?_
  refine K_iret (pc := 21) dX8_ones_21 rfl ⟨_, rfl, ?_⟩
  exact ⟨rfl, rfl⟩
set_option maxRecDepth 100000 in
set_option maxHeartbeats 400000 in
theorem m_fewest {x : jX} {m : jm} {d : Nat} {n : Nat} (hn : m 141 7 = nI n) (hn8 : n ≤ 8) : Ct x (d + 1) eX8_fewest [.ref (jxb x + 140)] m (jp (orN (fwR m n 16)) m) := by
  refine J_start (by decide +kernel) (Nat.le_of_ble_eq_true rfl) (ls := [some (.ref (jxb x + 140)), none, none]) rfl rfl ?_
  refine J_iconst (pc := 0) dX8_fewest_0 kni_m1 ?_
  refine J_istore_n (pc := 1) (ls' := [some _, some _, none]) dX8_fewest_1 rfl (Nat.le_of_ble_eq_true rfl) rfl ?_
  refine J_iconst (pc := 2) dX8_fewest_2 kni_0 ?_
  refine J_istore_n (pc := 3) (ls' := [some _, some _, some _]) dX8_fewest_3 rfl (Nat.le_of_ble_eq_true rfl) rfl ?_
  refine K_for' (pc := 4) 16 (fun s => [some (.ref (jxb x + 140)), some (.int ((fwR m n s))), some (.int (nI s))]) (fun s => m) (by rfl) (by rfl) (fun s hs ih4 => ?_) ?_
  ·
    show K x _ _ 4 [some (.ref (jxb x + 140)), some (.int ((fwR m n s))), some (.int (nI s))] _ m _
    refine J_iload_n (pc := 4) dX8_fewest_4 rfl ?_
    refine J_bipush (pc := 5) dX8_fewest_5 knb_16 ?_
    refine Jn_ge (pc := 7) (tgt := 45) dX8_fewest_7 (by decide) (by omega) (by omega) (fun h7 => absurd h7 (by omega)) (fun h7 => ?_)
    refine J_aload_n (pc := 10) dX8_fewest_10 rfl ?_
    refine J_iload_n (pc := 11) dX8_fewest_11 rfl ?_
    refine K_callVp (pc := 12) (id := 140) (As := [_]) dX8_fewest_12 kl_X8_350 rfl job_140 rfl rfl (Nat.le_of_ble_eq_true rfl) (m_partsAll hn hn8 (nI s)) ?_
    refine Jp_eq (pc := 15) (tgt := 37) dX8_fewest_15 (by decide) (fun h15 => ?_) (fun h15 => ?_)
    · 
      refine J_iload_n (pc := 37) dX8_fewest_37 rfl ?_
      refine J_istore_n (pc := 38) (ls' := [some _, some _, some _]) dX8_fewest_38 rfl (Nat.le_of_ble_eq_true rfl) rfl ?_
      refine Jn_iinc (pc := 39) (ls' := [some _, some _, some _]) dX8_fewest_39 rfl knz_1 rfl rfl ?_
      refine J_goto (pc := 42) (tgt := 4) dX8_fewest_42 (by decide) ?_
      have ev : fwR m n (s + 1) = fwR m n s := by rw [fwR]; exact if_neg (fun q => h15 q.1)
      rw [ev] at ih4
      refine J_wk' ih4 rfl ?_
      rintro (_ | _ | _ | _ | _ | _ | _ | _ | _ | _ | k) v hv <;> first | exact hv | cases hv
    · 
      refine J_iload_n (pc := 18) dX8_fewest_18 rfl ?_
      refine J_if_lt (pc := 19) (tgt := 33) dX8_fewest_19 (by decide) (fun h19 => ?_) (fun h19 => ?_)
      · 
        refine J_iload_n (pc := 33) dX8_fewest_33 rfl ?_
        refine J_goto (pc := 34) (tgt := 38) dX8_fewest_34 (by decide) ?_
        refine J_istore_n (pc := 38) (ls' := [some _, some _, some _]) dX8_fewest_38 rfl (Nat.le_of_ble_eq_true rfl) rfl ?_
        refine Jn_iinc (pc := 39) (ls' := [some _, some _, some _]) dX8_fewest_39 rfl knz_1 rfl rfl ?_
        refine J_goto (pc := 42) (tgt := 4) dX8_fewest_42 (by decide) ?_
        have ev : fwR m n (s + 1) = nI s := by rw [fwR]; exact if_pos ⟨h15, Or.inl h19⟩
        rw [ev] at ih4
        refine J_wk' ih4 rfl ?_
        rintro (_ | _ | _ | _ | _ | _ | _ | _ | _ | _ | k) v hv <;> first | exact hv | cases hv
      · 
        refine J_iload_n (pc := 22) dX8_fewest_22 rfl ?_
        refine K_callSp (pc := 23) (As := [_]) dX8_fewest_23 kl_X8_353 rfl rfl (Nat.le_of_ble_eq_true rfl) (m_ones _) ?_
        refine J_iload_n (pc := 26) dX8_fewest_26 rfl ?_
        refine K_callSp (pc := 27) (As := [_]) dX8_fewest_27 kl_X8_353 rfl rfl (Nat.le_of_ble_eq_true rfl) (m_ones _) ?_
        refine J_icmp_ge (pc := 30) (tgt := 37) dX8_fewest_30 (by decide) (fun h30 => ?_) (fun h30 => ?_)
        · 
          refine J_iload_n (pc := 37) dX8_fewest_37 rfl ?_
          refine J_istore_n (pc := 38) (ls' := [some _, some _, some _]) dX8_fewest_38 rfl (Nat.le_of_ble_eq_true rfl) rfl ?_
          refine Jn_iinc (pc := 39) (ls' := [some _, some _, some _]) dX8_fewest_39 rfl knz_1 rfl rfl ?_
          refine J_goto (pc := 42) (tgt := 4) dX8_fewest_42 (by decide) ?_
          have ev : fwR m n (s + 1) = fwR m n s := by rw [fwR]; exact if_neg (fun q => q.2.elim h19 (fun r => absurd h30 (Int32.not_le.mpr r)))
          rw [ev] at ih4
          refine J_wk' ih4 rfl ?_
          rintro (_ | _ | _ | _ | _ | _ | _ | _ | _ | _ | k) v hv <;> first | exact hv | cases hv
        · 
          refine J_iload_n (pc := 33) dX8_fewest_33 rfl ?_
          refine J_goto (pc := 34) (tgt := 38) dX8_fewest_34 (by decide) ?_
          refine J_istore_n (pc := 38) (ls' := [some _, some _, some _]) dX8_fewest_38 rfl (Nat.le_of_ble_eq_true rfl) rfl ?_
          refine Jn_iinc (pc := 39) (ls' := [some _, some _, some _]) dX8_fewest_39 rfl knz_1 rfl rfl ?_
          refine J_goto (pc := 42) (tgt := 4) dX8_fewest_42 (by decide) ?_
          have ev : fwR m n (s + 1) = nI s := by rw [fwR]; exact if_pos ⟨h15, Or.inr (Int32.not_le.mp h30)⟩
          rw [ev] at ih4
          refine J_wk' ih4 rfl ?_
          rintro (_ | _ | _ | _ | _ | _ | _ | _ | _ | _ | k) v hv <;> first | exact hv | cases hv
  ·
    show K x _ _ 4 [some (.ref (jxb x + 140)), some (.int ((fwR m n 16))), some (.int (nI 16))] _ m _
    refine J_iload_n (pc := 4) dX8_fewest_4 rfl ?_
    refine J_bipush (pc := 5) dX8_fewest_5 knb_16 ?_
    refine Jn_ge (pc := 7) (tgt := 45) dX8_fewest_7 (by decide) (by omega) (by omega) (fun h7 => ?_) (fun h7 => absurd h7 (by omega))
    refine J_iload_n (pc := 45) dX8_fewest_45 rfl ?_
    refine K_callSp (pc := 46) (As := [_]) dX8_fewest_46 kl_X8_133 rfl rfl (Nat.le_of_ble_eq_true rfl) (m_orNone _) ?_
    refine K_iret (pc := 49) dX8_fewest_49 rfl ⟨_, rfl, ?_⟩
    exact ⟨rfl, rfl⟩
def R_watch (m : jm) (w : Int32) : Int32 × jm :=
  if ¬ (nI 0 ≤ w ∧ w ≤ 536870911) then (-1000000001, m) else if tN (m 141 8) = 12 then (-1000000003, m) else (nI (tN (m 141 8)), mup (mup m 141 (420 + tN (m 141 8)) w) 141 8 (nI (tN (m 141 8) + 1)))
set_option maxRecDepth 100000 in
set_option maxHeartbeats 400000 in
theorem m_watch {x : jX} {m : jm} {d : Nat} (w : Int32) {n : Nat} (hn : m 141 8 = nI n) (hn12 : n ≤ 12) : Ct x (d + 1) eX8_watch [.ref (jxb x + 140), .int w] m (ji fun rv m' => (rv, m') = R_watch m w) := by
  refine J_start (by decide +kernel) (Nat.le_of_ble_eq_true rfl) (ls := [some (.ref (jxb x + 140)), some (.int w)]) rfl rfl ?_
  have htn : tN (m 141 8) = n := by rw [hn]; exact tN_n (by omega)
  refine J_iload_n (pc := 0) dX8_watch_0 rfl ?_
  refine J_i2l (pc := 1) dX8_watch_1 ?_
  refine J_lconst (pc := 2) (v := 0) dX8_watch_2 rfl ?_
  refine J_ldc2 (pc := 3) dX8_watch_3 kg_X8_356 ?_
  refine K_callSp (pc := 6) (As := [_, _, _]) dX8_watch_6 kl_X8_71 rfl rfl (Nat.le_of_ble_eq_true rfl) (m_in32 (v := w) (a := nI 0) (b := (536870911)) (by decide) (by decide)) ?_
  refine Jb_ne (pc := 9) (tgt := 15) dX8_watch_9 (by decide) (fun h9 => ?_) (fun h9 => ?_)
  · 
    refine J_aload_n (pc := 15) dX8_watch_15 rfl ?_
    refine K_getR (pc := 16) dX8_watch_16 kf_X8_7 job_140 jrf_140_0 ?_
    refine J_bipush (pc := 19) dX8_watch_19 knb_8 ?_
    refine K_ialdn (pc := 21) (id := 141) dX8_watch_21 jar_141 (by decide) (by decide) ?_
    refine J_top (b := nI n) (hn) ?_
    refine J_bipush (pc := 22) dX8_watch_22 knb_12 ?_
    refine Jn_ne (pc := 24) (tgt := 30) dX8_watch_24 (by decide) (by omega) (by omega) (fun h24 => ?_) (fun h24 => ?_)
    · 
      refine J_aload_n (pc := 30) dX8_watch_30 rfl ?_
      refine K_getR (pc := 31) dX8_watch_31 kf_X8_7 job_140 jrf_140_0 ?_
      refine J_sipush (pc := 34) dX8_watch_34 kns_420 ?_
      refine J_aload_n (pc := 37) dX8_watch_37 rfl ?_
      refine K_getR (pc := 38) dX8_watch_38 kf_X8_7 job_140 jrf_140_0 ?_
      refine J_bipush (pc := 41) dX8_watch_41 knb_8 ?_
      refine K_ialdn (pc := 43) (id := 141) dX8_watch_43 jar_141 (by decide) (by decide) ?_
      refine J_top (b := nI n) (hn) ?_
      refine J_iaddv (pc := 44) dX8_watch_44 (nI_add _ _) ?_
      refine J_iload_n (pc := 45) dX8_watch_45 rfl ?_
      refine K_iastn (pc := 46) (id := 141) dX8_watch_46 jar_141 (by omega) (by decide) ?_
      refine J_aload_n (pc := 47) dX8_watch_47 rfl ?_
      refine K_getR (pc := 48) dX8_watch_48 kf_X8_7 job_140 jrf_140_0 ?_
      refine J_bipush (pc := 51) dX8_watch_51 knb_8 ?_
      refine J_dup2 (pc := 53) dX8_watch_53 rfl rfl ?_
      refine K_ialdn (pc := 54) (id := 141) dX8_watch_54 jar_141 (by decide) (by decide) ?_
      refine J_top (b := nI n) ((mup_j (by omega)).trans hn) ?_
      refine J_iconst (pc := 55) dX8_watch_55 kni_1 ?_
      refine J_iaddv (pc := 56) dX8_watch_56 (nI_add _ _) ?_
      refine K_iastn (pc := 57) (id := 141) dX8_watch_57 jar_141 (by decide) (by decide) ?_
      refine J_aload_n (pc := 58) dX8_watch_58 rfl ?_
      refine K_getR (pc := 59) dX8_watch_59 kf_X8_7 job_140 jrf_140_0 ?_
      refine J_bipush (pc := 62) dX8_watch_62 knb_8 ?_
      refine K_ialdn (pc := 64) (id := 141) dX8_watch_64 jar_141 (by decide) (by decide) ?_
      refine J_top (b := nI (n + 1)) (by rw [mup_s]) ?_
      refine J_iconst (pc := 65) dX8_watch_65 kni_1 ?_
      refine J_isubv (pc := 66) dX8_watch_66 (pk_sub (by omega)) ?_
      refine J_top (b := nI n) (rfl) ?_
      refine K_iret (pc := 67) dX8_watch_67 rfl ⟨_, rfl, ?_⟩
      show (_, _) = _
      unfold R_watch
      rw [htn]
      try first | rw [if_pos h9] | rw [if_neg h9] | rw [if_neg (Classical.not_not.mpr h9)]
      try first | rw [if_pos h24] | rw [if_neg h24] | rw [if_neg (Classical.not_not.mpr h24)]
      try rfl
    · 
      refine J_ldc (pc := 27) dX8_watch_27 kc_X8_96 ?_
      refine K_iret (pc := 29) dX8_watch_29 rfl ⟨_, rfl, ?_⟩
      show (_, _) = _
      unfold R_watch
      rw [htn]
      try first | rw [if_pos h9] | rw [if_neg h9] | rw [if_neg (Classical.not_not.mpr h9)]
      try first | rw [if_pos h24] | rw [if_neg h24] | rw [if_neg (Classical.not_not.mpr h24)]
      try rfl
  · 
    refine J_ldc (pc := 12) dX8_watch_12 kc_X8_91 ?_
    refine K_iret (pc := 14) dX8_watch_14 rfl ⟨_, rfl, ?_⟩
    show (_, _) = _
    unfold R_watch
    try first | rw [if_pos h9] | rw [if_neg h9] | rw [if_neg (Classical.not_not.mpr h9)]
    try rfl
def rwR (m : jm) (p : Nat) (wo : Int32) : Nat → Int32
  | 0 => nI 0
  | r + 1 => rwR m p wo r ||| (if ¬ nI r = wo ∧ (m 141 (420 + r) >>> (nI p &&& 31)) &&& nI 1 = nI 1 then nI 1 <<< (nI r &&& 31) else nI 0)
def frR (m : jm) (wo : Int32) (n p q : Nat) : Bool := decide (¬ rwR m q wo n = rwR m p wo n)
def unlR (m : jm) (wo : Int32) (n c : Nat) : Nat := cnt (fun p => allB (frR m wo n p) p) c
set_option maxRecDepth 100000 in
set_option maxHeartbeats 400000 in
theorem m_rowsOf {x : jX} {m : jm} {d : Nat} {n : Nat} (hn : m 141 8 = nI n) (hn12 : n ≤ 12) (p : Nat) (wo : Int32) : Ct x d eX8_rowsOf [.ref (jxb x + 140), .int (nI p), .int wo] m (jp (rwR m p wo n) m) := by
  refine J_start (by decide +kernel) (Nat.le_of_ble_eq_true rfl) (ls := [some (.ref (jxb x + 140)), some (.int (nI p)), some (.int wo), none, none]) rfl rfl ?_
  refine J_iconst (pc := 0) dX8_rowsOf_0 kni_0 ?_
  refine J_istore_n (pc := 1) (ls' := [some _, some _, some _, some _, none]) dX8_rowsOf_1 rfl (Nat.le_of_ble_eq_true rfl) rfl ?_
  refine J_iconst (pc := 2) dX8_rowsOf_2 kni_0 ?_
  refine J_istore (pc := 3) (ls' := [some _, some _, some _, some _, some _]) dX8_rowsOf_3 rfl (Nat.le_of_ble_eq_true rfl) rfl ?_
  refine K_for' (pc := 5) n (fun r => [some (.ref (jxb x + 140)), some (.int (nI p)), some (.int wo), some (.int ((rwR m p wo r))), some (.int (nI r))]) (fun r => m) (by rfl) (by rfl) (fun r hr ih5 => ?_) ?_
  ·
    show K x _ _ 5 [some (.ref (jxb x + 140)), some (.int (nI p)), some (.int wo), some (.int ((rwR m p wo r))), some (.int (nI r))] _ m _
    refine J_iload (pc := 5) dX8_rowsOf_5 rfl ?_
    refine J_aload_n (pc := 7) dX8_rowsOf_7 rfl ?_
    refine K_getR (pc := 8) dX8_rowsOf_8 kf_X8_7 job_140 jrf_140_0 ?_
    refine J_bipush (pc := 11) dX8_rowsOf_11 knb_8 ?_
    refine K_ialdn (pc := 13) (id := 141) dX8_rowsOf_13 jar_141 (by decide) (by decide) ?_
    refine J_top (b := nI n) (hn) ?_
    refine Jn_ge (pc := 14) (tgt := 59) dX8_rowsOf_14 (by decide) (by omega) (by omega) (fun h14 => absurd h14 (by omega)) (fun h14 => ?_)
    refine J_iload_n (pc := 17) dX8_rowsOf_17 rfl ?_
    refine J_iload (pc := 18) dX8_rowsOf_18 rfl ?_
    refine J_iload_n (pc := 20) dX8_rowsOf_20 rfl ?_
    refine J_icmp_eq (pc := 21) (tgt := 50) dX8_rowsOf_21 (by decide) (fun h21 => ?_) (fun h21 => ?_)
    · 
      refine J_iconst (pc := 50) dX8_rowsOf_50 kni_0 ?_
      refine J_ior (pc := 51) dX8_rowsOf_51 ?_
      refine J_istore_n (pc := 52) (ls' := [some _, some _, some _, some _, some _]) dX8_rowsOf_52 rfl (Nat.le_of_ble_eq_true rfl) rfl ?_
      refine Jn_iinc (pc := 53) (ls' := [some _, some _, some _, some _, some _]) dX8_rowsOf_53 rfl knz_1 rfl rfl ?_
      refine J_goto (pc := 56) (tgt := 5) dX8_rowsOf_56 (by decide) ?_
      have ev : rwR m p wo (r + 1) = rwR m p wo r ||| (nI 0) := congrArg (rwR m p wo r ||| ·) (if_neg (fun q => q.1 h21))
      rw [ev] at ih5
      exact ih5
    · 
      refine J_aload_n (pc := 24) dX8_rowsOf_24 rfl ?_
      refine K_getR (pc := 25) dX8_rowsOf_25 kf_X8_7 job_140 jrf_140_0 ?_
      refine J_sipush (pc := 28) dX8_rowsOf_28 kns_420 ?_
      refine J_iload (pc := 31) dX8_rowsOf_31 rfl ?_
      refine J_iaddv (pc := 33) dX8_rowsOf_33 (nI_add _ _) ?_
      refine K_ialdn (pc := 34) (id := 141) dX8_rowsOf_34 jar_141 (by omega) (by decide) ?_
      refine J_iload_n (pc := 35) dX8_rowsOf_35 rfl ?_
      refine J_ishr (pc := 36) dX8_rowsOf_36 ?_
      refine J_iconst (pc := 37) dX8_rowsOf_37 kni_1 ?_
      refine J_iand (pc := 38) dX8_rowsOf_38 ?_
      refine J_iconst (pc := 39) dX8_rowsOf_39 kni_1 ?_
      refine J_icmp_ne (pc := 40) (tgt := 50) dX8_rowsOf_40 (by decide) (fun h40 => ?_) (fun h40 => ?_)
      · 
        refine J_iconst (pc := 50) dX8_rowsOf_50 kni_0 ?_
        refine J_ior (pc := 51) dX8_rowsOf_51 ?_
        refine J_istore_n (pc := 52) (ls' := [some _, some _, some _, some _, some _]) dX8_rowsOf_52 rfl (Nat.le_of_ble_eq_true rfl) rfl ?_
        refine Jn_iinc (pc := 53) (ls' := [some _, some _, some _, some _, some _]) dX8_rowsOf_53 rfl knz_1 rfl rfl ?_
        refine J_goto (pc := 56) (tgt := 5) dX8_rowsOf_56 (by decide) ?_
        have ev : rwR m p wo (r + 1) = rwR m p wo r ||| (nI 0) := congrArg (rwR m p wo r ||| ·) (if_neg (fun q => h40 q.2))
        rw [ev] at ih5
        exact ih5
      · 
        refine J_iconst (pc := 43) dX8_rowsOf_43 kni_1 ?_
        refine J_iload (pc := 44) dX8_rowsOf_44 rfl ?_
        refine J_ishl (pc := 46) dX8_rowsOf_46 ?_
        refine J_goto (pc := 47) (tgt := 51) dX8_rowsOf_47 (by decide) ?_
        refine J_ior (pc := 51) dX8_rowsOf_51 ?_
        refine J_istore_n (pc := 52) (ls' := [some _, some _, some _, some _, some _]) dX8_rowsOf_52 rfl (Nat.le_of_ble_eq_true rfl) rfl ?_
        refine Jn_iinc (pc := 53) (ls' := [some _, some _, some _, some _, some _]) dX8_rowsOf_53 rfl knz_1 rfl rfl ?_
        refine J_goto (pc := 56) (tgt := 5) dX8_rowsOf_56 (by decide) ?_
        have ev : rwR m p wo (r + 1) = rwR m p wo r ||| (nI 1 <<< (nI r &&& 31)) := congrArg (rwR m p wo r ||| ·) (if_pos ⟨h21, h40⟩)
        rw [ev] at ih5
        exact ih5
  ·
    show K x _ _ 5 [some (.ref (jxb x + 140)), some (.int (nI p)), some (.int wo), some (.int ((rwR m p wo n))), some (.int (nI n))] _ m _
    refine J_iload (pc := 5) dX8_rowsOf_5 rfl ?_
    refine J_aload_n (pc := 7) dX8_rowsOf_7 rfl ?_
    refine K_getR (pc := 8) dX8_rowsOf_8 kf_X8_7 job_140 jrf_140_0 ?_
    refine J_bipush (pc := 11) dX8_rowsOf_11 knb_8 ?_
    refine K_ialdn (pc := 13) (id := 141) dX8_rowsOf_13 jar_141 (by decide) (by decide) ?_
    refine J_top (b := nI n) (hn) ?_
    refine Jn_ge (pc := 14) (tgt := 59) dX8_rowsOf_14 (by decide) (by omega) (by omega) (fun h14 => ?_) (fun h14 => absurd h14 (by omega))
    refine J_iload_n (pc := 59) dX8_rowsOf_59 rfl ?_
    refine K_iret (pc := 60) dX8_rowsOf_60 rfl ⟨_, rfl, ?_⟩
    exact ⟨rfl, rfl⟩
def R_alike (m : jm) (a b : Int32) : Int32 × jm :=
  if ¬ (nI 0 ≤ a ∧ a ≤ nI 28) then (-1000000001, m) else if ¬ (nI 0 ≤ b ∧ b ≤ nI 28) then (-1000000001, m) else if a = b then (-1000000001, m) else if rwR m (tN a) (-1) (tN (m 141 8)) = rwR m (tN b) (-1) (tN (m 141 8)) then (nI 1, m) else (nI 0, m)
set_option maxRecDepth 100000 in
set_option maxHeartbeats 400000 in
theorem m_alike {x : jX} {m : jm} {d : Nat} (a b : Int32) {n : Nat} (hn : m 141 8 = nI n) (hn12 : n ≤ 12) : Ct x (d + 1) eX8_alike [.ref (jxb x + 140), .int a, .int b] m (ji fun rv m' => (rv, m') = R_alike m a b) := by
  refine J_start (by decide +kernel) (Nat.le_of_ble_eq_true rfl) (ls := [some (.ref (jxb x + 140)), some (.int a), some (.int b)]) rfl rfl ?_
  have htn : tN (m 141 8) = n := by rw [hn]; exact tN_n (by omega)
  refine J_iload_n (pc := 0) dX8_alike_0 rfl ?_
  refine J_i2l (pc := 1) dX8_alike_1 ?_
  refine J_lconst (pc := 2) (v := 0) dX8_alike_2 rfl ?_
  refine J_ldc2 (pc := 3) dX8_alike_3 kg_X8_358 ?_
  refine K_callSp (pc := 6) (As := [_, _, _]) dX8_alike_6 kl_X8_71 rfl rfl (Nat.le_of_ble_eq_true rfl) (m_in32 (v := a) (a := nI 0) (b := nI 28) (by decide) (by decide)) ?_
  refine Jb_eq (pc := 9) (tgt := 29) dX8_alike_9 (by decide) (fun h9 => ?_) (fun h9 => ?_)
  · 
    refine J_ldc (pc := 29) dX8_alike_29 kc_X8_91 ?_
    refine K_iret (pc := 31) dX8_alike_31 rfl ⟨_, rfl, ?_⟩
    show (_, _) = _
    unfold R_alike
    try first | rw [if_pos h9] | rw [if_neg h9] | rw [if_neg (Classical.not_not.mpr h9)]
    try rfl
  · 
    refine J_iload_n (pc := 12) dX8_alike_12 rfl ?_
    refine J_i2l (pc := 13) dX8_alike_13 ?_
    refine J_lconst (pc := 14) (v := 0) dX8_alike_14 rfl ?_
    refine J_ldc2 (pc := 15) dX8_alike_15 kg_X8_358 ?_
    refine K_callSp (pc := 18) (As := [_, _, _]) dX8_alike_18 kl_X8_71 rfl rfl (Nat.le_of_ble_eq_true rfl) (m_in32 (v := b) (a := nI 0) (b := nI 28) (by decide) (by decide)) ?_
    refine Jb_eq (pc := 21) (tgt := 29) dX8_alike_21 (by decide) (fun h21 => ?_) (fun h21 => ?_)
    · 
      refine J_ldc (pc := 29) dX8_alike_29 kc_X8_91 ?_
      refine K_iret (pc := 31) dX8_alike_31 rfl ⟨_, rfl, ?_⟩
      show (_, _) = _
      unfold R_alike
      try first | rw [if_pos h9] | rw [if_neg h9] | rw [if_neg (Classical.not_not.mpr h9)]
      try first | rw [if_pos h21] | rw [if_neg h21] | rw [if_neg (Classical.not_not.mpr h21)]
      try rfl
    · 
      refine J_iload_n (pc := 24) dX8_alike_24 rfl ?_
      refine J_iload_n (pc := 25) dX8_alike_25 rfl ?_
      refine J_icmp_ne (pc := 26) (tgt := 32) dX8_alike_26 (by decide) (fun h26 => ?_) (fun h26 => ?_)
      · 
        obtain ⟨q, hq, hqe⟩ := w_of h9 (by decide)
        have htq : tN a = q := by rw [hqe]; exact tN_n (by omega)
        
        obtain ⟨r, hr, hre⟩ := w_of h21 (by decide)
        have htr : tN b = r := by rw [hre]; exact tN_n (by omega)
        
        rw [hqe, hre]
        refine J_aload_n (pc := 32) dX8_alike_32 rfl ?_
        refine J_iload_n (pc := 33) dX8_alike_33 rfl ?_
        refine J_iconst (pc := 34) dX8_alike_34 kni_m1 ?_
        refine K_callVp (pc := 35) (id := 140) (As := [_, _]) dX8_alike_35 kl_X8_360 rfl job_140 rfl rfl (Nat.le_of_ble_eq_true rfl) (m_rowsOf hn hn12 q (-1)) ?_
        refine J_aload_n (pc := 38) dX8_alike_38 rfl ?_
        refine J_iload_n (pc := 39) dX8_alike_39 rfl ?_
        refine J_iconst (pc := 40) dX8_alike_40 kni_m1 ?_
        refine K_callVp (pc := 41) (id := 140) (As := [_, _]) dX8_alike_41 kl_X8_360 rfl job_140 rfl rfl (Nat.le_of_ble_eq_true rfl) (m_rowsOf hn hn12 r (-1)) ?_
        refine J_icmp_ne (pc := 44) (tgt := 51) dX8_alike_44 (by decide) (fun h44 => ?_) (fun h44 => ?_)
        · 
          refine J_iconst (pc := 51) dX8_alike_51 kni_0 ?_
          refine K_iret (pc := 52) dX8_alike_52 rfl ⟨_, rfl, ?_⟩
          show (_, _) = _
          unfold R_alike
          rw [← hqe, ← hre, htn, htq, htr]
          try first | rw [if_pos h9] | rw [if_neg h9] | rw [if_neg (Classical.not_not.mpr h9)]
          try first | rw [if_pos h21] | rw [if_neg h21] | rw [if_neg (Classical.not_not.mpr h21)]
          try first | rw [if_pos h26] | rw [if_neg h26] | rw [if_neg (Classical.not_not.mpr h26)]
          try first | rw [if_pos h44] | rw [if_neg h44] | rw [if_neg (Classical.not_not.mpr h44)]
          try rfl
        · 
          refine J_iconst (pc := 47) dX8_alike_47 kni_1 ?_
          refine J_goto (pc := 48) (tgt := 52) dX8_alike_48 (by decide) ?_
          refine K_iret (pc := 52) dX8_alike_52 rfl ⟨_, rfl, ?_⟩
          show (_, _) = _
          unfold R_alike
          rw [← hqe, ← hre, htn, htq, htr]
          try first | rw [if_pos h9] | rw [if_neg h9] | rw [if_neg (Classical.not_not.mpr h9)]
          try first | rw [if_pos h21] | rw [if_neg h21] | rw [if_neg (Classical.not_not.mpr h21)]
          try first | rw [if_pos h26] | rw [if_neg h26] | rw [if_neg (Classical.not_not.mpr h26)]
          try first | rw [if_pos h44] | rw [if_neg h44] | rw [if_neg (Classical.not_not.mpr h44)]
          try rfl
      · 
        refine J_ldc (pc := 29) dX8_alike_29 kc_X8_91 ?_
        refine K_iret (pc := 31) dX8_alike_31 rfl ⟨_, rfl, ?_⟩
        show (_, _) = _
        unfold R_alike
        try first | rw [if_pos h9] | rw [if_neg h9] | rw [if_neg (Classical.not_not.mpr h9)]
        try first | rw [if_pos h21] | rw [if_neg h21] | rw [if_neg (Classical.not_not.mpr h21)]
        try first | rw [if_pos h26] | rw [if_neg h26] | rw [if_neg (Classical.not_not.mpr h26)]
        try rfl
