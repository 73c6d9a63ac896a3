/-- which text counts: a place among the texts, or -1 -/
def cntR (m : jm) (w : Int32) : Nat → Int32
  | 0 => -1
  | t + 1 => if (m 141 (440 + 200 * t) = w ∧ m 141 (440 + 200 * t + 1) ≤ m 141 1) ∧ (cntR m w t < 0 ∨ m 141 (440 + 200 * tN (cntR m w t) + 1) ≤ m 141 (440 + 200 * t + 1)) then nI t else cntR m w t
theorem cntR_in (m : jm) (w : Int32) : ∀ n, n ≤ 14 → cntR m w n = -1 ∨ ∃ t, t < n ∧ cntR m w n = nI t ∧ m 141 (440 + 200 * t) = w
  | 0, _ => Or.inl rfl
  | n + 1, hn => by
    rw [cntR]
    by_cases h : (m 141 (440 + 200 * n) = w ∧ m 141 (440 + 200 * n + 1) ≤ m 141 1) ∧ (cntR m w n < 0 ∨ m 141 (440 + 200 * tN (cntR m w n) + 1) ≤ m 141 (440 + 200 * n + 1))
    · rw [if_pos h]; exact Or.inr ⟨n, by omega, rfl, h.1.1⟩
    · rw [if_neg h]
      rcases cntR_in m w n (by omega) with e | ⟨t, ht, e⟩
      · exact Or.inl e
      · exact Or.inr ⟨t, by omega, e⟩
theorem cntR_N {m : jm} {w : Int32} {n : Nat} (hn : n ≤ 14) (h : ¬ cntR m w n < 0) : ∃ t, t < n ∧ cntR m w n = nI t ∧ m 141 (440 + 200 * t) = w := (cntR_in m w n hn).resolve_left (fun q => h (by rw [q]; decide))
set_option maxRecDepth 100000 in
set_option maxHeartbeats 400000 in
theorem m_counts {x : jX} {m : jm} {d : Nat} {T : Nat} (hT : m 141 6 = nI T) (hT14 : T ≤ 14) (w : Int32) : Ct x (d + 1) eX8_counts [.ref (jxb x + 140), .int w] m (jp (cntR m w T) m) := by
  refine J_start (by decide +kernel) (Nat.le_of_ble_eq_true rfl) (ls := [some (.ref (jxb x + 140)), some (.int w), none, none, none]) rfl rfl ?_
  refine J_iconst (pc := 0) dX8_counts_0 kni_m1 ?_
  refine J_istore_n (pc := 1) (ls' := [some _, some _, some _, none, none]) dX8_counts_1 rfl (Nat.le_of_ble_eq_true rfl) rfl ?_
  refine J_iconst (pc := 2) dX8_counts_2 kni_0 ?_
  refine J_istore_n (pc := 3) (ls' := [some _, some _, some _, some _, none]) dX8_counts_3 rfl (Nat.le_of_ble_eq_true rfl) rfl ?_
  refine K_for' (pc := 4) T (fun t => [some (.ref (jxb x + 140)), some (.int w), some (.int ((cntR m w t))), some (.int (nI t)), none]) (fun t => m) (by rfl) (by rfl) (fun t ht ih4 => ?_) ?_
  ·
    show K x _ _ 4 [some (.ref (jxb x + 140)), some (.int w), some (.int ((cntR m w t))), some (.int (nI t)), none] _ m _
    refine J_iload_n (pc := 4) dX8_counts_4 rfl ?_
    refine J_aload_n (pc := 5) dX8_counts_5 rfl ?_
    refine K_getR (pc := 6) dX8_counts_6 kf_X8_7 job_140 jrf_140_0 ?_
    refine J_bipush (pc := 9) dX8_counts_9 knb_6 ?_
    refine K_ialdn (pc := 11) (id := 141) dX8_counts_11 jar_141 (by decide) (by decide) ?_
    refine J_top (b := nI T) (hT) ?_
    refine Jn_ge (pc := 12) (tgt := 107) dX8_counts_12 (by decide) (by omega) (by omega) (fun h12 => absurd h12 (by omega)) (fun h12 => ?_)
    refine J_aload_n (pc := 15) dX8_counts_15 rfl ?_
    refine K_getR (pc := 16) dX8_counts_16 kf_X8_7 job_140 jrf_140_0 ?_
    refine J_aload_n (pc := 19) dX8_counts_19 rfl ?_
    refine J_iload_n (pc := 20) dX8_counts_20 rfl ?_
    refine K_callVp (pc := 21) (id := 140) (As := [_]) dX8_counts_21 kl_X8_262 rfl job_140 rfl rfl (Nat.le_of_ble_eq_true rfl) (m_textAt (t := t)) ?_
    refine J_iconst (pc := 24) dX8_counts_24 kni_0 ?_
    refine J_iaddv (pc := 25) dX8_counts_25 (nI_add _ _) ?_
    refine K_ialdn (pc := 26) (id := 141) dX8_counts_26 jar_141 (by omega) (by decide) ?_
    refine J_top (b := (m 141 (440 + 200 * t))) (rfl) ?_
    refine J_iload_n (pc := 27) dX8_counts_27 rfl ?_
    refine K_merge (jc := 57) (ls' := [some (.ref (jxb x + 140)), some (.int w), some (.int ((cntR m w t))), some (.int (nI t)), none]) (st' := [.int (jb (m 141 (440 + 200 * t) = w ∧ m 141 (440 + 200 * t + 1) ≤ m 141 1))]) (m' := m) ?_ (fun hj57 => ?_)
    ·
      refine J_istore (pc := 57) (ls' := [some _, some _, some _, some _, some _]) dX8_counts_57 rfl (Nat.le_of_ble_eq_true rfl) rfl ?_
      refine J_iload (pc := 59) dX8_counts_59 rfl ?_
      refine Jb_eq (pc := 61) (tgt := 99) dX8_counts_61 (by decide) (fun h61 => ?_) (fun h61 => ?_)
      · 
        refine J_iload_n (pc := 99) dX8_counts_99 rfl ?_
        refine J_istore_n (pc := 100) (ls' := [some _, some _, some _, some _, some _]) dX8_counts_100 rfl (Nat.le_of_ble_eq_true rfl) rfl ?_
        refine Jn_iinc (pc := 101) (ls' := [some _, some _, some _, some _, some _]) dX8_counts_101 rfl knz_1 rfl rfl ?_
        refine J_goto (pc := 104) (tgt := 4) dX8_counts_104 (by decide) ?_
        have ev : cntR m w (t + 1) = cntR m w t := if_neg (fun q => h61 q.1)
        rw [ev] at ih4
        refine J_wk' ih4 rfl ?_
        rintro (_ | _ | _ | _ | _ | _ | _ | _ | _ | _ | k) v hv <;> first | exact hv | cases hv
      · 
        refine J_iload_n (pc := 64) dX8_counts_64 rfl ?_
        refine J_if_lt (pc := 65) (tgt := 95) dX8_counts_65 (by decide) (fun h65 => ?_) (fun h65 => ?_)
        · 
          refine J_iload_n (pc := 95) dX8_counts_95 rfl ?_
          refine J_goto (pc := 96) (tgt := 100) dX8_counts_96 (by decide) ?_
          refine J_istore_n (pc := 100) (ls' := [some _, some _, some _, some _, some _]) dX8_counts_100 rfl (Nat.le_of_ble_eq_true rfl) rfl ?_
          refine Jn_iinc (pc := 101) (ls' := [some _, some _, some _, some _, some _]) dX8_counts_101 rfl knz_1 rfl rfl ?_
          refine J_goto (pc := 104) (tgt := 4) dX8_counts_104 (by decide) ?_
          have ev : cntR m w (t + 1) = nI t := if_pos ⟨h61, Or.inl h65⟩
          rw [ev] at ih4
          refine J_wk' ih4 rfl ?_
          rintro (_ | _ | _ | _ | _ | _ | _ | _ | _ | _ | k) v hv <;> first | exact hv | cases hv
        · 
          obtain ⟨b, hb, hbe, hbw⟩ := cntR_N (by omega) h65
          have hbt : tN (cntR m w t) = b := by rw [hbe]; exact tN_n (by omega)
          refine J_aload_n (pc := 68) dX8_counts_68 rfl ?_
          refine K_getR (pc := 69) dX8_counts_69 kf_X8_7 job_140 jrf_140_0 ?_
          refine J_aload_n (pc := 72) dX8_counts_72 rfl ?_
          refine J_iload_n (pc := 73) dX8_counts_73 rfl ?_
          refine K_callVp (pc := 74) (id := 140) (As := [_]) dX8_counts_74 kl_X8_262 rfl job_140 rfl rfl (Nat.le_of_ble_eq_true rfl) (m_textAt (t := t)) ?_
          refine J_iconst (pc := 77) dX8_counts_77 kni_1 ?_
          refine J_iaddv (pc := 78) dX8_counts_78 (nI_add _ _) ?_
          refine K_ialdn (pc := 79) (id := 141) dX8_counts_79 jar_141 (by omega) (by decide) ?_
          refine J_aload_n (pc := 80) dX8_counts_80 rfl ?_
          refine K_getR (pc := 81) dX8_counts_81 kf_X8_7 job_140 jrf_140_0 ?_
          refine J_aload_n (pc := 84) dX8_counts_84 rfl ?_
          refine J_iload_n (pc := 85) dX8_counts_85 rfl ?_
          refine J_top (b := nI b) (hbe) ?_
          refine K_callVp (pc := 86) (id := 140) (As := [_]) dX8_counts_86 kl_X8_262 rfl job_140 rfl rfl (Nat.le_of_ble_eq_true rfl) (m_textAt (t := b)) ?_
          refine J_iconst (pc := 89) dX8_counts_89 kni_1 ?_
          refine J_iaddv (pc := 90) dX8_counts_90 (nI_add _ _) ?_
          refine K_ialdn (pc := 91) (id := 141) dX8_counts_91 jar_141 (by omega) (by decide) ?_
          refine J_icmp_lt (pc := 92) (tgt := 99) dX8_counts_92 (by decide) (fun h92 => ?_) (fun h92 => ?_)
          · 
            refine J_iload_n (pc := 99) dX8_counts_99 rfl ?_
            refine J_istore_n (pc := 100) (ls' := [some _, some _, some _, some _, some _]) dX8_counts_100 rfl (Nat.le_of_ble_eq_true rfl) rfl ?_
            refine Jn_iinc (pc := 101) (ls' := [some _, some _, some _, some _, some _]) dX8_counts_101 rfl knz_1 rfl rfl ?_
            refine J_goto (pc := 104) (tgt := 4) dX8_counts_104 (by decide) ?_
            have ev : cntR m w (t + 1) = cntR m w t := if_neg (fun q => q.2.elim h65 (fun r => absurd h92 (Int32.not_lt.mpr (by rw [hbt] at r; exact r))))
            rw [ev] at ih4
            refine J_wk' ih4 rfl ?_
            rintro (_ | _ | _ | _ | _ | _ | _ | _ | _ | _ | k) v hv <;> first | exact hv | cases hv
          · 
            refine J_iload_n (pc := 95) dX8_counts_95 rfl ?_
            refine J_goto (pc := 96) (tgt := 100) dX8_counts_96 (by decide) ?_
            refine J_istore_n (pc := 100) (ls' := [some _, some _, some _, some _, some _]) dX8_counts_100 rfl (Nat.le_of_ble_eq_true rfl) rfl ?_
            refine Jn_iinc (pc := 101) (ls' := [some _, some _, some _, some _, some _]) dX8_counts_101 rfl knz_1 rfl rfl ?_
            refine J_goto (pc := 104) (tgt := 4) dX8_counts_104 (by decide) ?_
            have ev : cntR m w (t + 1) = nI t := if_pos ⟨h61, Or.inr (by rw [hbt]; exact Int32.not_lt.mp h92)⟩
            rw [ev] at ih4
            refine J_wk' ih4 rfl ?_
            rintro (_ | _ | _ | _ | _ | _ | _ | _ | _ | _ | k) v hv <;> first | exact hv | cases hv
    ·
      refine J_icmp_ne (pc := 28) (tgt := 56) dX8_counts_28 (by decide) (fun h28 => ?_) (fun h28 => ?_)
      · 
        refine J_iconst (pc := 56) dX8_counts_56 kni_0 ?_
        have e57 : jb (m 141 (440 + 200 * t) = w ∧ m 141 (440 + 200 * t + 1) ≤ m 141 1) = nI 0 := if_neg (fun q => h28 q.1)
        rw [e57] at hj57
        exact hj57
      · 
        refine J_aload_n (pc := 31) dX8_counts_31 rfl ?_
        refine K_getR (pc := 32) dX8_counts_32 kf_X8_7 job_140 jrf_140_0 ?_
        refine J_aload_n (pc := 35) dX8_counts_35 rfl ?_
        refine J_iload_n (pc := 36) dX8_counts_36 rfl ?_
        refine K_callVp (pc := 37) (id := 140) (As := [_]) dX8_counts_37 kl_X8_262 rfl job_140 rfl rfl (Nat.le_of_ble_eq_true rfl) (m_textAt (t := t)) ?_
        refine J_iconst (pc := 40) dX8_counts_40 kni_1 ?_
        refine J_iaddv (pc := 41) dX8_counts_41 (nI_add _ _) ?_
        refine K_ialdn (pc := 42) (id := 141) dX8_counts_42 jar_141 (by omega) (by decide) ?_
        refine J_aload_n (pc := 43) dX8_counts_43 rfl ?_
        refine K_getR (pc := 44) dX8_counts_44 kf_X8_7 job_140 jrf_140_0 ?_
        refine J_iconst (pc := 47) dX8_counts_47 kni_1 ?_
        refine K_ialdn (pc := 48) (id := 141) dX8_counts_48 jar_141 (by decide) (by decide) ?_
        refine J_icmp_gt (pc := 49) (tgt := 56) dX8_counts_49 (by decide) (fun h49 => ?_) (fun h49 => ?_)
        · 
          refine J_iconst (pc := 56) dX8_counts_56 kni_0 ?_
          have e57 : jb (m 141 (440 + 200 * t) = w ∧ m 141 (440 + 200 * t + 1) ≤ m 141 1) = nI 0 := if_neg (fun q => absurd h49 (Int32.not_lt.mpr q.2))
          rw [e57] at hj57
          exact hj57
        · 
          refine J_iconst (pc := 52) dX8_counts_52 kni_1 ?_
          refine J_goto (pc := 53) (tgt := 57) dX8_counts_53 (by decide) ?_
          have e57 : jb (m 141 (440 + 200 * t) = w ∧ m 141 (440 + 200 * t + 1) ≤ m 141 1) = nI 1 := if_pos ⟨h28, Int32.not_lt.mp h49⟩
          rw [e57] at hj57
          exact hj57
  ·
    show K x _ _ 4 [some (.ref (jxb x + 140)), some (.int w), some (.int ((cntR m w T))), some (.int (nI T)), none] _ m _
    refine J_iload_n (pc := 4) dX8_counts_4 rfl ?_
    refine J_aload_n (pc := 5) dX8_counts_5 rfl ?_
    refine K_getR (pc := 6) dX8_counts_6 kf_X8_7 job_140 jrf_140_0 ?_
    refine J_bipush (pc := 9) dX8_counts_9 knb_6 ?_
    refine K_ialdn (pc := 11) (id := 141) dX8_counts_11 jar_141 (by decide) (by decide) ?_
    refine J_top (b := nI T) (hT) ?_
    refine Jn_ge (pc := 12) (tgt := 107) dX8_counts_12 (by decide) (by omega) (by omega) (fun h12 => ?_) (fun h12 => absurd h12 (by omega))
    refine J_iload_n (pc := 107) dX8_counts_107 rfl ?_
    refine K_iret (pc := 108) dX8_counts_108 rfl ⟨_, rfl, ?_⟩
    exact ⟨rfl, rfl⟩
def R_of (m : jm) (t w : Int32) : Int32 × jm :=
  if ¬ (nI 0 ≤ t ∧ t ≤ m 141 6 - nI 1) then (-1000000001, m) else if ¬ (nI 0 ≤ w ∧ w ≤ nI 2) then (-1000000001, m) else (m 141 (440 + 200 * tN t + tN w), m)
def R_why (m : jm) (g : Int32) : Int32 × jm := if ¬ (nI 0 ≤ g ∧ g ≤ nI 6) then (-1000000001, m) else (orN (cntR m g (tN (m 141 6))), m)
set_option maxRecDepth 100000 in
set_option maxHeartbeats 400000 in
theorem m_of {x : jX} {m : jm} {d : Nat} (t w : Int32) {T : Nat} (hT : m 141 6 = nI T) (hT14 : T ≤ 14) : Ct x (d + 2) eX8_of [.ref (jxb x + 140), .int t, .int w] m (ji fun rv m' => (rv, m') = R_of m t w) := by
  refine J_start (by decide +kernel) (Nat.le_of_ble_eq_true rfl) (ls := [some (.ref (jxb x + 140)), some (.int t), some (.int w)]) rfl rfl ?_
  refine J_aload_n (pc := 0) dX8_of_0 rfl ?_
  refine J_iload_n (pc := 1) dX8_of_1 rfl ?_
  refine K_callVp (pc := 2) (id := 140) (As := [_]) dX8_of_2 kl_X8_273 rfl job_140 rfl rfl (Nat.le_of_ble_eq_true rfl) (m_isText t) ?_
  refine Jb_eq (pc := 5) (tgt := 35) dX8_of_5 (by decide) (fun h5 => ?_) (fun h5 => ?_)
  · 
    refine J_ldc (pc := 35) dX8_of_35 kc_X8_91 ?_
    refine K_iret (pc := 37) dX8_of_37 rfl ⟨_, rfl, ?_⟩
    show (_, _) = _
    unfold R_of
    try rw [htq, htr]
    try first | rw [if_pos h5] | rw [if_neg h5] | rw [if_neg (Classical.not_not.mpr h5)]
    try rfl
  · 
    refine J_iload_n (pc := 8) dX8_of_8 rfl ?_
    refine J_i2l (pc := 9) dX8_of_9 ?_
    refine J_lconst (pc := 10) (v := 0) dX8_of_10 rfl ?_
    refine J_ldc2 (pc := 11) dX8_of_11 kg_X8_276 ?_
    refine K_callSp (pc := 14) (As := [_, _, _]) dX8_of_14 kl_X8_71 rfl rfl (Nat.le_of_ble_eq_true rfl) (m_in32 (v := w) (a := nI 0) (b := nI 2) (by decide) (by decide)) ?_
    refine Jb_eq (pc := 17) (tgt := 35) dX8_of_17 (by decide) (fun h17 => ?_) (fun h17 => ?_)
    · 
      refine J_ldc (pc := 35) dX8_of_35 kc_X8_91 ?_
      refine K_iret (pc := 37) dX8_of_37 rfl ⟨_, rfl, ?_⟩
      show (_, _) = _
      unfold R_of
      try rw [htq, htr]
      try first | rw [if_pos h5] | rw [if_neg h5] | rw [if_neg (Classical.not_not.mpr h5)]
      try first | rw [if_pos h17] | rw [if_neg h17] | rw [if_neg (Classical.not_not.mpr h17)]
      try rfl
    · 
      obtain ⟨q, hq, hqe⟩ := w_sub hT (by omega) h5
      have htq : tN t = q := by rw [hqe]; exact tN_n (by omega)
      subst hqe
      obtain ⟨r, hr, hre⟩ := w_of h17 (by decide)
      have htr : tN w = r := by rw [hre]; exact tN_n (by omega)
      subst hre
      refine J_aload_n (pc := 20) dX8_of_20 rfl ?_
      refine K_getR (pc := 21) dX8_of_21 kf_X8_7 job_140 jrf_140_0 ?_
      refine J_aload_n (pc := 24) dX8_of_24 rfl ?_
      refine J_iload_n (pc := 25) dX8_of_25 rfl ?_
      refine K_callVp (pc := 26) (id := 140) (As := [_]) dX8_of_26 kl_X8_262 rfl job_140 rfl rfl (Nat.le_of_ble_eq_true rfl) (m_textAt (t := q)) ?_
      refine J_iload_n (pc := 29) dX8_of_29 rfl ?_
      refine J_iaddv (pc := 30) dX8_of_30 (nI_add _ _) ?_
      refine K_ialdn (pc := 31) (id := 141) dX8_of_31 jar_141 (by omega) (by decide) ?_
      refine J_goto (pc := 32) (tgt := 37) dX8_of_32 (by decide) ?_
      refine K_iret (pc := 37) dX8_of_37 rfl ⟨_, rfl, ?_⟩
      show (_, _) = _
      unfold R_of
      try rw [htq, htr]
      try first | rw [if_pos h5] | rw [if_neg h5] | rw [if_neg (Classical.not_not.mpr h5)]
      try first | rw [if_pos h17] | rw [if_neg h17] | rw [if_neg (Classical.not_not.mpr h17)]
      try rfl
set_option maxRecDepth 100000 in
set_option maxHeartbeats 400000 in
theorem m_why {x : jX} {m : jm} {d : Nat} (g : Int32) {T : Nat} (hT : m 141 6 = nI T) (hT14 : T ≤ 14) : Ct x (d + 2) eX8_why [.ref (jxb x + 140), .int g] m (ji fun rv m' => (rv, m') = R_why m g) := by
  refine J_start (by decide +kernel) (Nat.le_of_ble_eq_true rfl) (ls := [some (.ref (jxb x + 140)), some (.int g)]) rfl rfl ?_
  refine J_iload_n (pc := 0) dX8_why_0 rfl ?_
  refine J_i2l (pc := 1) dX8_why_1 ?_
  refine J_lconst (pc := 2) (v := 0) dX8_why_2 rfl ?_
  refine J_ldc2 (pc := 3) dX8_why_3 kg_X8_278 ?_
  refine K_callSp (pc := 6) (As := [_, _, _]) dX8_why_6 kl_X8_71 rfl rfl (Nat.le_of_ble_eq_true rfl) (m_in32 (v := g) (a := nI 0) (b := nI 6) (by decide) (by decide)) ?_
  refine Jb_eq (pc := 9) (tgt := 23) dX8_why_9 (by decide) (fun h9 => ?_) (fun h9 => ?_)
  · 
    refine J_ldc (pc := 23) dX8_why_23 kc_X8_91 ?_
    refine K_iret (pc := 25) dX8_why_25 rfl ⟨_, rfl, ?_⟩
    show (_, _) = _
    unfold R_why
    try rw [show tN (m 141 6) = T from by rw [hT]; exact tN_n (by omega)]
    try first | rw [if_pos h9] | rw [if_neg h9] | rw [if_neg (Classical.not_not.mpr h9)]
    try rfl
  · 
    refine J_aload_n (pc := 12) dX8_why_12 rfl ?_
    refine J_iload_n (pc := 13) dX8_why_13 rfl ?_
    refine K_callVp (pc := 14) (id := 140) (As := [_]) dX8_why_14 kl_X8_280 rfl job_140 rfl rfl (Nat.le_of_ble_eq_true rfl) (m_counts hT hT14 g) ?_
    refine K_callSp (pc := 17) (As := [_]) dX8_why_17 kl_X8_133 rfl rfl (Nat.le_of_ble_eq_true rfl) (m_orNone _) ?_
    refine J_goto (pc := 20) (tgt := 25) dX8_why_20 (by decide) ?_
    refine K_iret (pc := 25) dX8_why_25 rfl ⟨_, rfl, ?_⟩
    show (_, _) = _
    unfold R_why
    try rw [show tN (m 141 6) = T from by rw [hT]; exact tN_n (by omega)]
    try first | rw [if_pos h9] | rw [if_neg h9] | rw [if_neg (Classical.not_not.mpr h9)]
    try rfl
/-- the reference's steps as words -/
def wdR (m : jm) (t k : Nat) : Int32 := m 141 (440 + 200 * t + 4 + 2 * k)
def wvR (m : jm) (t k : Nat) : Int32 := m 141 (440 + 200 * t + 4 + 2 * k + 1)
def nmc (v : Int32) : Int32 := if v = nI 100 ∨ v = nI 108 then -1 else if v = nI 103 ∨ v = nI 114 then -2 else if v = nI 109 ∨ v = nI 101 then -3 else -4
def isSg (v : Int32) : Prop := v = nI 33 ∨ v = nI 38 ∨ v = nI 42 ∨ v = nI 43 ∨ v = nI 45 ∨ v = nI 47 ∨ v = nI 60 ∨ v = nI 61 ∨ v = nI 62 ∨ v = nI 124
def isNm (key v : Int32) : Prop := (key = nI 6 ∧ (v = nI 100 ∨ v = nI 103 ∨ v = nI 109 ∨ v = nI 99)) ∨ (¬ key = nI 6 ∧ (v = nI 108 ∨ v = nI 114 ∨ v = nI 101 ∨ v = nI 98))
def cdW (w v : Int32) : Int32 := if w = nI 0 then v else if w = nI 1 then nmc v else -v
def cdR (m : jm) (t k : Nat) : Int32 := cdW (wdR m t k) (wvR m t k)
def okS (key w v : Int32) : Prop := (w = nI 0 ∧ 0 ≤ v) ∨ (w = nI 1 ∧ isNm key v) ∨ (w = nI 2 ∧ isSg v)
def sndT (m : jm) (t : Nat) : Prop := ∃ n, n ≤ 96 ∧ m 141 (440 + 200 * t + 3) = nI n ∧ (∀ k, k < n → okS (m 141 (440 + 200 * t)) (wdR m t k) (wvR m t k)) ∧ wfC (cdR m t) n
theorem nmc_in (v : Int32) : nmc v < 0 ∧ ¬ nmc v < -4 := by
  unfold nmc
  by_cases a : v = nI 100 ∨ v = nI 108
  · rw [if_pos a]; decide
  rw [if_neg a]
  by_cases b : v = nI 103 ∨ v = nI 114
  · rw [if_pos b]; decide
  rw [if_neg b]
  by_cases c : v = nI 109 ∨ v = nI 101
  · rw [if_pos c]; decide
  rw [if_neg c]; decide
theorem isSg_in {v : Int32} (h : isSg v) : -v < 0 ∧ -v < -4 ∧ -(-v) = v ∧ (¬ v = nI 33 → ¬ -v = -33) := by
  rcases h with h | h | h | h | h | h | h | h | h | h <;> (subst h; decide)
theorem isNm_in {k v : Int32} (h : isNm k v) : vp_in v 128 := by
  rcases h with ⟨-, h | h | h | h⟩ | ⟨-, h | h | h | h⟩ <;> (subst h; exact vp_in_nI (by decide) (by decide))
theorem negI_div (x : Int32) : -x = x / -1 := by
  apply Int32.toInt_inj.mp
  rw [Int32.toInt_div, show (-1 : Int32).toInt = -1 from rfl, Int.tdiv_neg, Int.tdiv_one, Int32.toInt_neg]
set_option maxRecDepth 100000 in
set_option maxHeartbeats 400000 in
theorem m_joined {x : jX} {m : jm} {d : Nat} (s a b : Int32) (hc : s = nI 38 ∨ s = nI 42 ∨ s = nI 43 ∨ s = nI 45 ∨ s = nI 47 ∨ s = nI 60 ∨ s = nI 61 ∨ s = nI 62 ∨ s = nI 124) : Ct x d eX8_joined [.int s, .int a, .int b] m (jp (joinedV s a b) m) := by
  refine J_start (by decide +kernel) (Nat.le_of_ble_eq_true rfl) (ls := [some (.int s), some (.int a), some (.int b)]) rfl rfl ?_
  refine J_iload_n (pc := 0) dX8_joined_0 rfl ?_
  by_cases c1_38 : s = nI 38
  ·
    refine J_tsIn (pc := 1) (tgt := 183) (off := 182) dX8_joined_1 (by rw [c1_38]; decide) (by rw [c1_38]; decide) (by rw [c1_38]; rfl) (by decide) ?_
    refine J_iload_n (pc := 183) dX8_joined_183 rfl ?_
    refine J_if_eq (pc := 184) (tgt := 195) dX8_joined_184 (by decide) (fun h184 => ?_) (fun h184 => ?_)
    · 
      refine J_iconst (pc := 195) dX8_joined_195 kni_0 ?_
      refine K_iret (pc := 196) dX8_joined_196 rfl ⟨_, rfl, ?_⟩
      refine ⟨?_, rfl⟩
      have hs := c1_38
      unfold joinedV
      rw [if_pos hs]
      exact jbF (fun q => q.1 h184)
    · 
      refine J_iload_n (pc := 187) dX8_joined_187 rfl ?_
      refine J_if_eq (pc := 188) (tgt := 195) dX8_joined_188 (by decide) (fun h188 => ?_) (fun h188 => ?_)
      · 
        refine J_iconst (pc := 195) dX8_joined_195 kni_0 ?_
        refine K_iret (pc := 196) dX8_joined_196 rfl ⟨_, rfl, ?_⟩
        refine ⟨?_, rfl⟩
        have hs := c1_38
        unfold joinedV
        rw [if_pos hs]
        exact jbF (fun q => q.2 h188)
      · 
        refine J_iconst (pc := 191) dX8_joined_191 kni_1 ?_
        refine J_goto (pc := 192) (tgt := 196) dX8_joined_192 (by decide) ?_
        refine K_iret (pc := 196) dX8_joined_196 rfl ⟨_, rfl, ?_⟩
        refine ⟨?_, rfl⟩
        have hs := c1_38
        unfold joinedV
        rw [if_pos hs]
        exact jbT ⟨h184, h188⟩
  by_cases c1_39 : s = nI 39
  ·
    refine J_tsIn (pc := 1) (tgt := 197) (off := 196) dX8_joined_1 (by rw [c1_39]; decide) (by rw [c1_39]; decide) (by rw [c1_39]; rfl) (by decide) ?_
    exact absurd hc (by rw [c1_39]; decide)
  by_cases c1_40 : s = nI 40
  ·
    refine J_tsIn (pc := 1) (tgt := 197) (off := 196) dX8_joined_1 (by rw [c1_40]; decide) (by rw [c1_40]; decide) (by rw [c1_40]; rfl) (by decide) ?_
    exact absurd hc (by rw [c1_40]; decide)
  by_cases c1_41 : s = nI 41
  ·
    refine J_tsIn (pc := 1) (tgt := 197) (off := 196) dX8_joined_1 (by rw [c1_41]; decide) (by rw [c1_41]; decide) (by rw [c1_41]; rfl) (by decide) ?_
    exact absurd hc (by rw [c1_41]; decide)
  by_cases c1_42 : s = nI 42
  ·
    refine J_tsIn (pc := 1) (tgt := 124) (off := 123) dX8_joined_1 (by rw [c1_42]; decide) (by rw [c1_42]; decide) (by rw [c1_42]; rfl) (by decide) ?_
    refine J_iload_n (pc := 124) dX8_joined_124 rfl ?_
    refine J_iload_n (pc := 125) dX8_joined_125 rfl ?_
    refine J_imul (pc := 126) dX8_joined_126 ?_
    refine K_iret (pc := 127) dX8_joined_127 rfl ⟨_, rfl, ?_⟩
    refine ⟨?_, rfl⟩
    have hs := c1_42
    unfold joinedV
    rw [if_neg (c := s = nI 38) (by rw [hs]; decide), if_pos hs]
  by_cases c1_43 : s = nI 43
  ·
    refine J_tsIn (pc := 1) (tgt := 116) (off := 115) dX8_joined_1 (by rw [c1_43]; decide) (by rw [c1_43]; decide) (by rw [c1_43]; rfl) (by decide) ?_
    refine J_iload_n (pc := 116) dX8_joined_116 rfl ?_
    refine J_iload_n (pc := 117) dX8_joined_117 rfl ?_
    refine J_iadd (pc := 118) dX8_joined_118 ?_
    refine K_iret (pc := 119) dX8_joined_119 rfl ⟨_, rfl, ?_⟩
    refine ⟨?_, rfl⟩
    have hs := c1_43
    unfold joinedV
    rw [if_neg (c := s = nI 38) (by rw [hs]; decide), if_neg (c := s = nI 42) (by rw [hs]; decide), if_pos hs]
  by_cases c1_44 : s = nI 44
  ·
    refine J_tsIn (pc := 1) (tgt := 197) (off := 196) dX8_joined_1 (by rw [c1_44]; decide) (by rw [c1_44]; decide) (by rw [c1_44]; rfl) (by decide) ?_
    exact absurd hc (by rw [c1_44]; decide)
  by_cases c1_45 : s = nI 45
  ·
    refine J_tsIn (pc := 1) (tgt := 120) (off := 119) dX8_joined_1 (by rw [c1_45]; decide) (by rw [c1_45]; decide) (by rw [c1_45]; rfl) (by decide) ?_
    refine J_iload_n (pc := 120) dX8_joined_120 rfl ?_
    refine J_iload_n (pc := 121) dX8_joined_121 rfl ?_
    refine J_isub (pc := 122) dX8_joined_122 ?_
    refine K_iret (pc := 123) dX8_joined_123 rfl ⟨_, rfl, ?_⟩
    refine ⟨?_, rfl⟩
    have hs := c1_45
    unfold joinedV
    rw [if_neg (c := s = nI 38) (by rw [hs]; decide), if_neg (c := s = nI 42) (by rw [hs]; decide), if_neg (c := s = nI 43) (by rw [hs]; decide), if_pos hs]
  by_cases c1_46 : s = nI 46
  ·
    refine J_tsIn (pc := 1) (tgt := 197) (off := 196) dX8_joined_1 (by rw [c1_46]; decide) (by rw [c1_46]; decide) (by rw [c1_46]; rfl) (by decide) ?_
    exact absurd hc (by rw [c1_46]; decide)
  by_cases c1_47 : s = nI 47
  ·
    refine J_tsIn (pc := 1) (tgt := 128) (off := 127) dX8_joined_1 (by rw [c1_47]; decide) (by rw [c1_47]; decide) (by rw [c1_47]; rfl) (by decide) ?_
    refine J_iload_n (pc := 128) dX8_joined_128 rfl ?_
    refine J_if_ne (pc := 129) (tgt := 136) dX8_joined_129 (by decide) (fun h129 => ?_) (fun h129 => ?_)
    · 
      refine J_iload_n (pc := 136) dX8_joined_136 rfl ?_
      refine J_iconst (pc := 137) dX8_joined_137 kni_m1 ?_
      refine J_icmp_ne (pc := 138) (tgt := 146) dX8_joined_138 (by decide) (fun h138 => ?_) (fun h138 => ?_)
      · 
        refine J_iload_n (pc := 146) dX8_joined_146 rfl ?_
        refine J_iload_n (pc := 147) dX8_joined_147 rfl ?_
        refine J_idiv (pc := 148) dX8_joined_148 h129 rfl ?_
        refine K_iret (pc := 149) dX8_joined_149 rfl ⟨_, rfl, ?_⟩
        refine ⟨?_, rfl⟩
        have hs := c1_47
        unfold joinedV
        rw [if_neg (c := s = nI 38) (by rw [hs]; decide), if_neg (c := s = nI 42) (by rw [hs]; decide), if_neg (c := s = nI 43) (by rw [hs]; decide), if_neg (c := s = nI 45) (by rw [hs]; decide), if_neg (c := s = nI 60) (by rw [hs]; decide), if_neg (c := s = nI 61) (by rw [hs]; decide), if_neg (c := s = nI 62) (by rw [hs]; decide), if_neg (c := s = nI 124) (by rw [hs]; decide)]
        rw [if_neg h129]
      · 
        refine J_iload_n (pc := 141) dX8_joined_141 rfl ?_
        refine J_ineg (pc := 142) dX8_joined_142 ?_
        refine J_goto (pc := 143) (tgt := 149) dX8_joined_143 (by decide) ?_
        refine K_iret (pc := 149) dX8_joined_149 rfl ⟨_, rfl, ?_⟩
        refine ⟨?_, rfl⟩
        have hs := c1_47
        unfold joinedV
        rw [if_neg (c := s = nI 38) (by rw [hs]; decide), if_neg (c := s = nI 42) (by rw [hs]; decide), if_neg (c := s = nI 43) (by rw [hs]; decide), if_neg (c := s = nI 45) (by rw [hs]; decide), if_neg (c := s = nI 60) (by rw [hs]; decide), if_neg (c := s = nI 61) (by rw [hs]; decide), if_neg (c := s = nI 62) (by rw [hs]; decide), if_neg (c := s = nI 124) (by rw [hs]; decide)]
        rw [if_neg h129]
        rw [h138]
        exact negI_div _
    · 
      refine J_iconst (pc := 132) dX8_joined_132 kni_0 ?_
      refine J_goto (pc := 133) (tgt := 149) dX8_joined_133 (by decide) ?_
      refine K_iret (pc := 149) dX8_joined_149 rfl ⟨_, rfl, ?_⟩
      refine ⟨?_, rfl⟩
      have hs := c1_47
      unfold joinedV
      rw [if_neg (c := s = nI 38) (by rw [hs]; decide), if_neg (c := s = nI 42) (by rw [hs]; decide), if_neg (c := s = nI 43) (by rw [hs]; decide), if_neg (c := s = nI 45) (by rw [hs]; decide), if_neg (c := s = nI 60) (by rw [hs]; decide), if_neg (c := s = nI 61) (by rw [hs]; decide), if_neg (c := s = nI 62) (by rw [hs]; decide), if_neg (c := s = nI 124) (by rw [hs]; decide)]
      exact (if_pos h129).symm
  by_cases c1_48 : s = nI 48
  ·
    refine J_tsIn (pc := 1) (tgt := 197) (off := 196) dX8_joined_1 (by rw [c1_48]; decide) (by rw [c1_48]; decide) (by rw [c1_48]; rfl) (by decide) ?_
    exact absurd hc (by rw [c1_48]; decide)
  by_cases c1_49 : s = nI 49
  ·
    refine J_tsIn (pc := 1) (tgt := 197) (off := 196) dX8_joined_1 (by rw [c1_49]; decide) (by rw [c1_49]; decide) (by rw [c1_49]; rfl) (by decide) ?_
    exact absurd hc (by rw [c1_49]; decide)
  by_cases c1_50 : s = nI 50
  ·
    refine J_tsIn (pc := 1) (tgt := 197) (off := 196) dX8_joined_1 (by rw [c1_50]; decide) (by rw [c1_50]; decide) (by rw [c1_50]; rfl) (by decide) ?_
    exact absurd hc (by rw [c1_50]; decide)
  by_cases c1_51 : s = nI 51
  ·
    refine J_tsIn (pc := 1) (tgt := 197) (off := 196) dX8_joined_1 (by rw [c1_51]; decide) (by rw [c1_51]; decide) (by rw [c1_51]; rfl) (by decide) ?_
    exact absurd hc (by rw [c1_51]; decide)
  by_cases c1_52 : s = nI 52
  ·
    refine J_tsIn (pc := 1) (tgt := 197) (off := 196) dX8_joined_1 (by rw [c1_52]; decide) (by rw [c1_52]; decide) (by rw [c1_52]; rfl) (by decide) ?_
    exact absurd hc (by rw [c1_52]; decide)
  by_cases c1_53 : s = nI 53
  ·
    refine J_tsIn (pc := 1) (tgt := 197) (off := 196) dX8_joined_1 (by rw [c1_53]; decide) (by rw [c1_53]; decide) (by rw [c1_53]; rfl) (by decide) ?_
    exact absurd hc (by rw [c1_53]; decide)
  by_cases c1_54 : s = nI 54
  ·
    refine J_tsIn (pc := 1) (tgt := 197) (off := 196) dX8_joined_1 (by rw [c1_54]; decide) (by rw [c1_54]; decide) (by rw [c1_54]; rfl) (by decide) ?_
    exact absurd hc (by rw [c1_54]; decide)
  by_cases c1_55 : s = nI 55
  ·
    refine J_tsIn (pc := 1) (tgt := 197) (off := 196) dX8_joined_1 (by rw [c1_55]; decide) (by rw [c1_55]; decide) (by rw [c1_55]; rfl) (by decide) ?_
    exact absurd hc (by rw [c1_55]; decide)
  by_cases c1_56 : s = nI 56
  ·
    refine J_tsIn (pc := 1) (tgt := 197) (off := 196) dX8_joined_1 (by rw [c1_56]; decide) (by rw [c1_56]; decide) (by rw [c1_56]; rfl) (by decide) ?_
    exact absurd hc (by rw [c1_56]; decide)
  by_cases c1_57 : s = nI 57
  ·
    refine J_tsIn (pc := 1) (tgt := 197) (off := 196) dX8_joined_1 (by rw [c1_57]; decide) (by rw [c1_57]; decide) (by rw [c1_57]; rfl) (by decide) ?_
    exact absurd hc (by rw [c1_57]; decide)
  by_cases c1_58 : s = nI 58
  ·
    refine J_tsIn (pc := 1) (tgt := 197) (off := 196) dX8_joined_1 (by rw [c1_58]; decide) (by rw [c1_58]; decide) (by rw [c1_58]; rfl) (by decide) ?_
    exact absurd hc (by rw [c1_58]; decide)
  by_cases c1_59 : s = nI 59
  ·
    refine J_tsIn (pc := 1) (tgt := 197) (off := 196) dX8_joined_1 (by rw [c1_59]; decide) (by rw [c1_59]; decide) (by rw [c1_59]; rfl) (by decide) ?_
    exact absurd hc (by rw [c1_59]; decide)
  by_cases c1_60 : s = nI 60
  ·
    refine J_tsIn (pc := 1) (tgt := 150) (off := 149) dX8_joined_1 (by rw [c1_60]; decide) (by rw [c1_60]; decide) (by rw [c1_60]; rfl) (by decide) ?_
    refine J_iload_n (pc := 150) dX8_joined_150 rfl ?_
    refine J_iload_n (pc := 151) dX8_joined_151 rfl ?_
    refine J_icmp_ge (pc := 152) (tgt := 159) dX8_joined_152 (by decide) (fun h152 => ?_) (fun h152 => ?_)
    · 
      refine J_iconst (pc := 159) dX8_joined_159 kni_0 ?_
      refine K_iret (pc := 160) dX8_joined_160 rfl ⟨_, rfl, ?_⟩
      refine ⟨?_, rfl⟩
      have hs := c1_60
      unfold joinedV
      rw [if_neg (c := s = nI 38) (by rw [hs]; decide), if_neg (c := s = nI 42) (by rw [hs]; decide), if_neg (c := s = nI 43) (by rw [hs]; decide), if_neg (c := s = nI 45) (by rw [hs]; decide), if_pos hs]
      exact jbF (Int32.not_lt.mpr h152)
    · 
      refine J_iconst (pc := 155) dX8_joined_155 kni_1 ?_
      refine J_goto (pc := 156) (tgt := 160) dX8_joined_156 (by decide) ?_
      refine K_iret (pc := 160) dX8_joined_160 rfl ⟨_, rfl, ?_⟩
      refine ⟨?_, rfl⟩
      have hs := c1_60
      unfold joinedV
      rw [if_neg (c := s = nI 38) (by rw [hs]; decide), if_neg (c := s = nI 42) (by rw [hs]; decide), if_neg (c := s = nI 43) (by rw [hs]; decide), if_neg (c := s = nI 45) (by rw [hs]; decide), if_pos hs]
      exact jbT (Int32.not_le.mp h152)
  by_cases c1_61 : s = nI 61
  ·
    refine J_tsIn (pc := 1) (tgt := 172) (off := 171) dX8_joined_1 (by rw [c1_61]; decide) (by rw [c1_61]; decide) (by rw [c1_61]; rfl) (by decide) ?_
    refine J_iload_n (pc := 172) dX8_joined_172 rfl ?_
    refine J_iload_n (pc := 173) dX8_joined_173 rfl ?_
    refine J_icmp_ne (pc := 174) (tgt := 181) dX8_joined_174 (by decide) (fun h174 => ?_) (fun h174 => ?_)
    · 
      refine J_iconst (pc := 181) dX8_joined_181 kni_0 ?_
      refine K_iret (pc := 182) dX8_joined_182 rfl ⟨_, rfl, ?_⟩
      refine ⟨?_, rfl⟩
      have hs := c1_61
      unfold joinedV
      rw [if_neg (c := s = nI 38) (by rw [hs]; decide), if_neg (c := s = nI 42) (by rw [hs]; decide), if_neg (c := s = nI 43) (by rw [hs]; decide), if_neg (c := s = nI 45) (by rw [hs]; decide), if_neg (c := s = nI 60) (by rw [hs]; decide), if_pos hs]
      exact jbF h174
    · 
      refine J_iconst (pc := 177) dX8_joined_177 kni_1 ?_
      refine J_goto (pc := 178) (tgt := 182) dX8_joined_178 (by decide) ?_
      refine K_iret (pc := 182) dX8_joined_182 rfl ⟨_, rfl, ?_⟩
      refine ⟨?_, rfl⟩
      have hs := c1_61
      unfold joinedV
      rw [if_neg (c := s = nI 38) (by rw [hs]; decide), if_neg (c := s = nI 42) (by rw [hs]; decide), if_neg (c := s = nI 43) (by rw [hs]; decide), if_neg (c := s = nI 45) (by rw [hs]; decide), if_neg (c := s = nI 60) (by rw [hs]; decide), if_pos hs]
      exact jbT h174
  by_cases c1_62 : s = nI 62
  ·
    refine J_tsIn (pc := 1) (tgt := 161) (off := 160) dX8_joined_1 (by rw [c1_62]; decide) (by rw [c1_62]; decide) (by rw [c1_62]; rfl) (by decide) ?_
    refine J_iload_n (pc := 161) dX8_joined_161 rfl ?_
    refine J_iload_n (pc := 162) dX8_joined_162 rfl ?_
    refine J_icmp_le (pc := 163) (tgt := 170) dX8_joined_163 (by decide) (fun h163 => ?_) (fun h163 => ?_)
    · 
      refine J_iconst (pc := 170) dX8_joined_170 kni_0 ?_
      refine K_iret (pc := 171) dX8_joined_171 rfl ⟨_, rfl, ?_⟩
      refine ⟨?_, rfl⟩
      have hs := c1_62
      unfold joinedV
      rw [if_neg (c := s = nI 38) (by rw [hs]; decide), if_neg (c := s = nI 42) (by rw [hs]; decide), if_neg (c := s = nI 43) (by rw [hs]; decide), if_neg (c := s = nI 45) (by rw [hs]; decide), if_neg (c := s = nI 60) (by rw [hs]; decide), if_neg (c := s = nI 61) (by rw [hs]; decide), if_pos hs]
      exact jbF (Int32.not_lt.mpr h163)
    · 
      refine J_iconst (pc := 166) dX8_joined_166 kni_1 ?_
      refine J_goto (pc := 167) (tgt := 171) dX8_joined_167 (by decide) ?_
      refine K_iret (pc := 171) dX8_joined_171 rfl ⟨_, rfl, ?_⟩
      refine ⟨?_, rfl⟩
      have hs := c1_62
      unfold joinedV
      rw [if_neg (c := s = nI 38) (by rw [hs]; decide), if_neg (c := s = nI 42) (by rw [hs]; decide), if_neg (c := s = nI 43) (by rw [hs]; decide), if_neg (c := s = nI 45) (by rw [hs]; decide), if_neg (c := s = nI 60) (by rw [hs]; decide), if_neg (c := s = nI 61) (by rw [hs]; decide), if_pos hs]
      exact jbT (Int32.not_le.mp h163)
  refine J_tsOut (pc := 1) (tgt := 197) dX8_joined_1 (by have qc1_38 := jsw_ne c1_38 (by decide); have qc1_39 := jsw_ne c1_39 (by decide); have qc1_40 := jsw_ne c1_40 (by decide); have qc1_41 := jsw_ne c1_41 (by decide); have qc1_42 := jsw_ne c1_42 (by decide); have qc1_43 := jsw_ne c1_43 (by decide); have qc1_44 := jsw_ne c1_44 (by decide); have qc1_45 := jsw_ne c1_45 (by decide); have qc1_46 := jsw_ne c1_46 (by decide); have qc1_47 := jsw_ne c1_47 (by decide); have qc1_48 := jsw_ne c1_48 (by decide); have qc1_49 := jsw_ne c1_49 (by decide); have qc1_50 := jsw_ne c1_50 (by decide); have qc1_51 := jsw_ne c1_51 (by decide); have qc1_52 := jsw_ne c1_52 (by decide); have qc1_53 := jsw_ne c1_53 (by decide); have qc1_54 := jsw_ne c1_54 (by decide); have qc1_55 := jsw_ne c1_55 (by decide); have qc1_56 := jsw_ne c1_56 (by decide); have qc1_57 := jsw_ne c1_57 (by decide); have qc1_58 := jsw_ne c1_58 (by decide); have qc1_59 := jsw_ne c1_59 (by decide); have qc1_60 := jsw_ne c1_60 (by decide); have qc1_61 := jsw_ne c1_61 (by decide); have qc1_62 := jsw_ne c1_62 (by decide); omega) (by decide) ?_
  refine J_iload_n (pc := 197) dX8_joined_197 rfl ?_
  refine J_if_ne (pc := 198) (tgt := 205) dX8_joined_198 (by decide) (fun h198 => ?_) (fun h198 => ?_)
  · 
    refine J_iconst (pc := 205) dX8_joined_205 kni_1 ?_
    refine J_goto (pc := 206) (tgt := 210) dX8_joined_206 (by decide) ?_
    refine K_iret (pc := 210) dX8_joined_210 rfl ⟨_, rfl, ?_⟩
    refine ⟨?_, rfl⟩
    have hs : s = nI 124 := by
      rcases hc with q | q | q | q | q | q | q | q | q <;> first | exact q | contradiction
    unfold joinedV
    rw [if_neg (c := s = nI 38) (by rw [hs]; decide), if_neg (c := s = nI 42) (by rw [hs]; decide), if_neg (c := s = nI 43) (by rw [hs]; decide), if_neg (c := s = nI 45) (by rw [hs]; decide), if_neg (c := s = nI 60) (by rw [hs]; decide), if_neg (c := s = nI 61) (by rw [hs]; decide), if_neg (c := s = nI 62) (by rw [hs]; decide), if_pos hs]
    exact jbT (Or.inl h198)
  · 
    refine J_iload_n (pc := 201) dX8_joined_201 rfl ?_
    refine J_if_eq (pc := 202) (tgt := 209) dX8_joined_202 (by decide) (fun h202 => ?_) (fun h202 => ?_)
    · 
      refine J_iconst (pc := 209) dX8_joined_209 kni_0 ?_
      refine K_iret (pc := 210) dX8_joined_210 rfl ⟨_, rfl, ?_⟩
      refine ⟨?_, rfl⟩
      have hs : s = nI 124 := by
        rcases hc with q | q | q | q | q | q | q | q | q <;> first | exact q | contradiction
      unfold joinedV
      rw [if_neg (c := s = nI 38) (by rw [hs]; decide), if_neg (c := s = nI 42) (by rw [hs]; decide), if_neg (c := s = nI 43) (by rw [hs]; decide), if_neg (c := s = nI 45) (by rw [hs]; decide), if_neg (c := s = nI 60) (by rw [hs]; decide), if_neg (c := s = nI 61) (by rw [hs]; decide), if_neg (c := s = nI 62) (by rw [hs]; decide), if_pos hs]
      exact jbF (fun q => q.elim (fun z => z h198) (fun z => z h202))
    · 
      refine J_iconst (pc := 205) dX8_joined_205 kni_1 ?_
      refine J_goto (pc := 206) (tgt := 210) dX8_joined_206 (by decide) ?_
      refine K_iret (pc := 210) dX8_joined_210 rfl ⟨_, rfl, ?_⟩
      refine ⟨?_, rfl⟩
      have hs : s = nI 124 := by
        rcases hc with q | q | q | q | q | q | q | q | q <;> first | exact q | contradiction
      unfold joinedV
      rw [if_neg (c := s = nI 38) (by rw [hs]; decide), if_neg (c := s = nI 42) (by rw [hs]; decide), if_neg (c := s = nI 43) (by rw [hs]; decide), if_neg (c := s = nI 45) (by rw [hs]; decide), if_neg (c := s = nI 60) (by rw [hs]; decide), if_neg (c := s = nI 61) (by rw [hs]; decide), if_neg (c := s = nI 62) (by rw [hs]; decide), if_pos hs]
      exact jbT (Or.inr h202)
