/-- a run of stores -/
def mrun (m : jm) (i a : Nat) (f : Nat → Int32) : Nat → jm
  | 0 => m
  | k + 1 => mup (mrun m i a f k) i (a + k) (f k)
theorem mrun_i {m : jm} {i a j : Nat} {f : Nat → Int32} (h : j ≠ i) : ∀ k, mrun m i a f k j = m j
  | 0 => rfl
  | k + 1 => (mup_i' h).trans (mrun_i h k)
theorem mrun_v {m : jm} {i a j q : Nat} {f : Nat → Int32} {k : Nat} (h : j ≠ i) : mrun m i a f k j q = m j q := congrFun (mrun_i h k) q
theorem mrun_in {m : jm} {i a j : Nat} {f : Nat → Int32} : ∀ k, j < k → mrun m i a f k i (a + j) = f j
  | 0, h => absurd h (Nat.not_lt_zero _)
  | k + 1, h => by
    by_cases e : j = k
    · subst e; exact mup_s
    · exact (mup_j (by omega)).trans (mrun_in k (by omega))
theorem mrun_out {m : jm} {i a j : Nat} {f : Nat → Int32} : ∀ k, j < a ∨ a + k ≤ j → mrun m i a f k i j = m i j
  | 0, _ => rfl
  | k + 1, h => (mup_j (by omega)).trans (mrun_out k (by omega))
def linR (m : jm) (l : Nat) (s n : Int32) : jm := mrun (mup (mup (mup m 140 33 (nI 0)) 144 l s) 145 l n) 146 (24 * l) (fun _ => nI 0) 24
def R_line (m : jm) (l s n : Int32) : Int32 × jm :=
  if ¬ (nI 0 ≤ l ∧ l ≤ nI 23) then (-1000000001, m) else if ¬ (-1 ≤ s ∧ s ≤ nI 1) then (-1000000001, m) else if s < 0 then (nI 0, linR m (tN l) s (nI 0)) else if ¬ n ≤ nI 24 then (-1000000001, m) else if ¬ 0 ≤ n then (-1000000014, m) else (n, linR m (tN l) s n)
set_option maxRecDepth 100000 in
set_option maxHeartbeats 400000 in
theorem m_line {x : jX} {m : jm} {d : Nat} (l s n : Int32) : Ct x (d + 2) eX8_line [.ref (jxb x + 140), .int l, .int s, .int n] m (ji fun rv m' => (rv, m') = R_line m l s n) := by
  refine J_start (by decide +kernel) (Nat.le_of_ble_eq_true rfl) (ls := [some (.ref (jxb x + 140)), some (.int l), some (.int s), some (.int n), none]) rfl rfl ?_
  refine J_iload_n (pc := 0) dX8_line_0 rfl ?_
  refine K_callSp (pc := 1) (As := [_]) dX8_line_1 kl_X8_160 rfl rfl (Nat.le_of_ble_eq_true rfl) (m_isLine l) ?_
  refine Jb_eq (pc := 4) (tgt := 29) dX8_line_4 (by decide) (fun h4 => ?_) (fun h4 => ?_)
  · 
    refine J_ldc (pc := 29) dX8_line_29 kc_X8_91 ?_
    refine K_iret (pc := 31) dX8_line_31 rfl ⟨_, rfl, ?_⟩
    show (_, _) = _
    unfold R_line
    try first | rw [if_pos h4] | rw [if_neg h4] | rw [if_neg (Classical.not_not.mpr h4)]
    try rfl
  · 
    refine J_iload_n (pc := 7) dX8_line_7 rfl ?_
    refine J_i2l (pc := 8) dX8_line_8 ?_
    refine J_ldc2 (pc := 9) dX8_line_9 kg_X8_163 ?_
    refine J_lconst (pc := 12) (v := 1) dX8_line_12 rfl ?_
    refine K_callSp (pc := 13) (As := [_, _, _]) dX8_line_13 kl_X8_71 rfl rfl (Nat.le_of_ble_eq_true rfl) (m_in32 (v := s) (a := (-1)) (b := nI 1) (by decide) (by decide)) ?_
    refine Jb_eq (pc := 16) (tgt := 29) dX8_line_16 (by decide) (fun h16 => ?_) (fun h16 => ?_)
    · 
      refine J_ldc (pc := 29) dX8_line_29 kc_X8_91 ?_
      refine K_iret (pc := 31) dX8_line_31 rfl ⟨_, rfl, ?_⟩
      show (_, _) = _
      unfold R_line
      try first | rw [if_pos h4] | rw [if_neg h4] | rw [if_neg (Classical.not_not.mpr h4)]
      try first | rw [if_pos h16] | rw [if_neg h16] | rw [if_neg (Classical.not_not.mpr h16)]
      try rfl
    · 
      refine J_iload_n (pc := 19) dX8_line_19 rfl ?_
      refine J_if_lt (pc := 20) (tgt := 32) dX8_line_20 (by decide) (fun h20 => ?_) (fun h20 => ?_)
      · 
        refine J_iload_n (pc := 32) dX8_line_32 rfl ?_
        refine J_if_lt (pc := 33) (tgt := 43) dX8_line_33 (by decide) (fun h33 => ?_) (fun h33 => absurd h33 (fun z => z h20))
        obtain ⟨q, hq, hqe⟩ := w_of h4 (by decide)
        have htq : tN l = q := by rw [hqe]; exact tN_n (by omega)
        subst hqe
        refine J_aload_n (pc := 43) dX8_line_43 rfl ?_
        refine J_iconst (pc := 44) dX8_line_44 kni_0 ?_
        refine K_put (pc := 45) dX8_line_45 kp_X8_67 job_140 jrf_140_33 rfl rfl ?_
        refine J_aload_n (pc := 48) dX8_line_48 rfl ?_
        refine K_getR (pc := 49) dX8_line_49 kf_X8_19 job_140 jrf_140_4 ?_
        refine J_iload_n (pc := 52) dX8_line_52 rfl ?_
        refine J_iload_n (pc := 53) dX8_line_53 rfl ?_
        refine K_iastn (pc := 54) (id := 144) dX8_line_54 jar_144 (by omega) (by decide) ?_
        refine J_aload_n (pc := 55) dX8_line_55 rfl ?_
        refine K_getR (pc := 56) dX8_line_56 kf_X8_22 job_140 jrf_140_5 ?_
        refine J_iload_n (pc := 59) dX8_line_59 rfl ?_
        refine J_iload_n (pc := 60) dX8_line_60 rfl ?_
        refine J_if_ge (pc := 61) (tgt := 68) dX8_line_61 (by decide) (fun h61 => absurd h61 (Int32.not_le.mpr h20)) (fun h61 => ?_)
        refine J_iconst (pc := 64) dX8_line_64 kni_0 ?_
        refine J_goto (pc := 65) (tgt := 69) dX8_line_65 (by decide) ?_
        refine K_iastn (pc := 69) (id := 145) dX8_line_69 jar_145 (by omega) (by decide) ?_
        refine J_iconst (pc := 70) dX8_line_70 kni_0 ?_
        refine J_istore (pc := 71) (ls' := [some _, some _, some _, some _, some _]) dX8_line_71 rfl (Nat.le_of_ble_eq_true rfl) rfl ?_
        
        refine K_for' (pc := 73) 24 (fun k => [some (.ref (jxb x + 140)), some (.int (nI q)), some (.int s), some (.int n), some (.int (nI k))]) (fun k => (mrun (mup (mup (mup m 140 33 (nI 0)) 144 q s) 145 q (nI 0)) 146 (24 * q) (fun _ => nI 0) k)) (by rfl) (by rfl) (fun k hk ih73 => ?_) ?_
        ·
          show K x _ _ 73 [some (.ref (jxb x + 140)), some (.int (nI q)), some (.int s), some (.int n), some (.int (nI k))] _ ((mrun (mup (mup (mup m 140 33 (nI 0)) 144 q s) 145 q (nI 0)) 146 (24 * q) (fun _ => nI 0) k)) _
          
          refine J_iload (pc := 73) dX8_line_73 rfl ?_
          refine J_bipush (pc := 75) dX8_line_75 knb_24 ?_
          refine Jn_ge (pc := 77) (tgt := 99) dX8_line_77 (by decide) (by omega) (by omega) (fun h77 => absurd h77 (by omega)) (fun h77 => ?_)
          refine J_aload_n (pc := 80) dX8_line_80 rfl ?_
          refine K_getR (pc := 81) dX8_line_81 kf_X8_25 job_140 jrf_140_6 ?_
          refine J_bipush (pc := 84) dX8_line_84 knb_24 ?_
          refine J_iload_n (pc := 86) dX8_line_86 rfl ?_
          refine J_imulv (pc := 87) dX8_line_87 (pk_mul _ _) ?_
          refine J_iload (pc := 88) dX8_line_88 rfl ?_
          refine J_iaddv (pc := 90) dX8_line_90 (nI_add _ _) ?_
          refine J_iconst (pc := 91) dX8_line_91 kni_0 ?_
          refine K_iastn (pc := 92) (id := 146) dX8_line_92 jar_146 (by omega) (by decide) ?_
          refine Jn_iinc (pc := 93) (ls' := [some _, some _, some _, some _, some _]) dX8_line_93 rfl knz_1 rfl rfl ?_
          refine J_goto (pc := 96) (tgt := 73) dX8_line_96 (by decide) ?_
          exact ih73
        ·
          show K x _ _ 73 [some (.ref (jxb x + 140)), some (.int (nI q)), some (.int s), some (.int n), some (.int (nI 24))] _ ((mrun (mup (mup (mup m 140 33 (nI 0)) 144 q s) 145 q (nI 0)) 146 (24 * q) (fun _ => nI 0) 24)) _
          
          refine J_iload (pc := 73) dX8_line_73 rfl ?_
          refine J_bipush (pc := 75) dX8_line_75 knb_24 ?_
          refine Jn_ge (pc := 77) (tgt := 99) dX8_line_77 (by decide) (by omega) (by omega) (fun h77 => ?_) (fun h77 => absurd h77 (by omega))
          refine J_aload_n (pc := 99) dX8_line_99 rfl ?_
          refine K_getR (pc := 100) dX8_line_100 kf_X8_22 job_140 jrf_140_5 ?_
          refine J_iload_n (pc := 103) dX8_line_103 rfl ?_
          refine K_ialdn (pc := 104) (id := 145) dX8_line_104 jar_145 (by omega) (by decide) ?_
          refine J_top (b := (nI 0)) ((mrun_v (by decide)).trans mup_s) ?_
          refine K_iret (pc := 105) dX8_line_105 rfl ⟨_, rfl, ?_⟩
          show (_, _) = _
          unfold R_line
          rw [htq]
          try first | rw [if_pos h4] | rw [if_neg h4] | rw [if_neg (Classical.not_not.mpr h4)]
          try first | rw [if_pos h16] | rw [if_neg h16] | rw [if_neg (Classical.not_not.mpr h16)]
          try first | rw [if_pos h20] | rw [if_neg h20] | rw [if_neg (Classical.not_not.mpr h20)]
          try first | rw [if_pos h33] | rw [if_neg h33] | rw [if_neg (Classical.not_not.mpr h33)]
          try first | rw [if_pos h61] | rw [if_neg h61] | rw [if_neg (Classical.not_not.mpr h61)]
          try first | rw [if_pos h77] | rw [if_neg h77] | rw [if_neg (Classical.not_not.mpr h77)]
          try rfl
      · 
        refine J_iload_n (pc := 23) dX8_line_23 rfl ?_
        refine J_bipush (pc := 24) dX8_line_24 knb_24 ?_
        refine J_icmp_le (pc := 26) (tgt := 32) dX8_line_26 (by decide) (fun h26 => ?_) (fun h26 => ?_)
        · 
          refine J_iload_n (pc := 32) dX8_line_32 rfl ?_
          refine J_if_lt (pc := 33) (tgt := 43) dX8_line_33 (by decide) (fun h33 => absurd h33 (h20)) (fun h33 => ?_)
          refine J_iload_n (pc := 36) dX8_line_36 rfl ?_
          refine J_if_ge (pc := 37) (tgt := 43) dX8_line_37 (by decide) (fun h37 => ?_) (fun h37 => ?_)
          · 
            obtain ⟨q, hq, hqe⟩ := w_of h4 (by decide)
            have htq : tN l = q := by rw [hqe]; exact tN_n (by omega)
            subst hqe
            refine J_aload_n (pc := 43) dX8_line_43 rfl ?_
            refine J_iconst (pc := 44) dX8_line_44 kni_0 ?_
            refine K_put (pc := 45) dX8_line_45 kp_X8_67 job_140 jrf_140_33 rfl rfl ?_
            refine J_aload_n (pc := 48) dX8_line_48 rfl ?_
            refine K_getR (pc := 49) dX8_line_49 kf_X8_19 job_140 jrf_140_4 ?_
            refine J_iload_n (pc := 52) dX8_line_52 rfl ?_
            refine J_iload_n (pc := 53) dX8_line_53 rfl ?_
            refine K_iastn (pc := 54) (id := 144) dX8_line_54 jar_144 (by omega) (by decide) ?_
            refine J_aload_n (pc := 55) dX8_line_55 rfl ?_
            refine K_getR (pc := 56) dX8_line_56 kf_X8_22 job_140 jrf_140_5 ?_
            refine J_iload_n (pc := 59) dX8_line_59 rfl ?_
            refine J_iload_n (pc := 60) dX8_line_60 rfl ?_
            refine J_if_ge (pc := 61) (tgt := 68) dX8_line_61 (by decide) (fun h61 => ?_) (fun h61 => absurd h61 (fun z => z (Int32.not_lt.mp h20)))
            refine J_iload_n (pc := 68) dX8_line_68 rfl ?_
            refine K_iastn (pc := 69) (id := 145) dX8_line_69 jar_145 (by omega) (by decide) ?_
            refine J_iconst (pc := 70) dX8_line_70 kni_0 ?_
            refine J_istore (pc := 71) (ls' := [some _, some _, some _, some _, some _]) dX8_line_71 rfl (Nat.le_of_ble_eq_true rfl) rfl ?_
            
            refine K_for' (pc := 73) 24 (fun k => [some (.ref (jxb x + 140)), some (.int (nI q)), some (.int s), some (.int n), some (.int (nI k))]) (fun k => (mrun (mup (mup (mup m 140 33 (nI 0)) 144 q s) 145 q n) 146 (24 * q) (fun _ => nI 0) k)) (by rfl) (by rfl) (fun k hk ih73 => ?_) ?_
            ·
              show K x _ _ 73 [some (.ref (jxb x + 140)), some (.int (nI q)), some (.int s), some (.int n), some (.int (nI k))] _ ((mrun (mup (mup (mup m 140 33 (nI 0)) 144 q s) 145 q n) 146 (24 * q) (fun _ => nI 0) k)) _
              
              refine J_iload (pc := 73) dX8_line_73 rfl ?_
              refine J_bipush (pc := 75) dX8_line_75 knb_24 ?_
              refine Jn_ge (pc := 77) (tgt := 99) dX8_line_77 (by decide) (by omega) (by omega) (fun h77 => absurd h77 (by omega)) (fun h77 => ?_)
              refine J_aload_n (pc := 80) dX8_line_80 rfl ?_
              refine K_getR (pc := 81) dX8_line_81 kf_X8_25 job_140 jrf_140_6 ?_
              refine J_bipush (pc := 84) dX8_line_84 knb_24 ?_
              refine J_iload_n (pc := 86) dX8_line_86 rfl ?_
              refine J_imulv (pc := 87) dX8_line_87 (pk_mul _ _) ?_
              refine J_iload (pc := 88) dX8_line_88 rfl ?_
              refine J_iaddv (pc := 90) dX8_line_90 (nI_add _ _) ?_
              refine J_iconst (pc := 91) dX8_line_91 kni_0 ?_
              refine K_iastn (pc := 92) (id := 146) dX8_line_92 jar_146 (by omega) (by decide) ?_
              refine Jn_iinc (pc := 93) (ls' := [some _, some _, some _, some _, some _]) dX8_line_93 rfl knz_1 rfl rfl ?_
              refine J_goto (pc := 96) (tgt := 73) dX8_line_96 (by decide) ?_
              exact ih73
            ·
              show K x _ _ 73 [some (.ref (jxb x + 140)), some (.int (nI q)), some (.int s), some (.int n), some (.int (nI 24))] _ ((mrun (mup (mup (mup m 140 33 (nI 0)) 144 q s) 145 q n) 146 (24 * q) (fun _ => nI 0) 24)) _
              
              refine J_iload (pc := 73) dX8_line_73 rfl ?_
              refine J_bipush (pc := 75) dX8_line_75 knb_24 ?_
              refine Jn_ge (pc := 77) (tgt := 99) dX8_line_77 (by decide) (by omega) (by omega) (fun h77 => ?_) (fun h77 => absurd h77 (by omega))
              refine J_aload_n (pc := 99) dX8_line_99 rfl ?_
              refine K_getR (pc := 100) dX8_line_100 kf_X8_22 job_140 jrf_140_5 ?_
              refine J_iload_n (pc := 103) dX8_line_103 rfl ?_
              refine K_ialdn (pc := 104) (id := 145) dX8_line_104 jar_145 (by omega) (by decide) ?_
              refine J_top (b := n) ((mrun_v (by decide)).trans mup_s) ?_
              refine K_iret (pc := 105) dX8_line_105 rfl ⟨_, rfl, ?_⟩
              show (_, _) = _
              unfold R_line
              rw [htq]
              try first | rw [if_pos h4] | rw [if_neg h4] | rw [if_neg (Classical.not_not.mpr h4)]
              try first | rw [if_pos h16] | rw [if_neg h16] | rw [if_neg (Classical.not_not.mpr h16)]
              try first | rw [if_pos h20] | rw [if_neg h20] | rw [if_neg (Classical.not_not.mpr h20)]
              try first | rw [if_pos h26] | rw [if_neg h26] | rw [if_neg (Classical.not_not.mpr h26)]
              try first | rw [if_pos h33] | rw [if_neg h33] | rw [if_neg (Classical.not_not.mpr h33)]
              try first | rw [if_pos h37] | rw [if_neg h37] | rw [if_neg (Classical.not_not.mpr h37)]
              try first | rw [if_pos h61] | rw [if_neg h61] | rw [if_neg (Classical.not_not.mpr h61)]
              try first | rw [if_pos h77] | rw [if_neg h77] | rw [if_neg (Classical.not_not.mpr h77)]
              try rfl
          · 
            refine J_ldc (pc := 40) dX8_line_40 kc_X8_165 ?_
            refine K_iret (pc := 42) dX8_line_42 rfl ⟨_, rfl, ?_⟩
            show (_, _) = _
            unfold R_line
            try first | rw [if_pos h4] | rw [if_neg h4] | rw [if_neg (Classical.not_not.mpr h4)]
            try first | rw [if_pos h16] | rw [if_neg h16] | rw [if_neg (Classical.not_not.mpr h16)]
            try first | rw [if_pos h20] | rw [if_neg h20] | rw [if_neg (Classical.not_not.mpr h20)]
            try first | rw [if_pos h26] | rw [if_neg h26] | rw [if_neg (Classical.not_not.mpr h26)]
            try first | rw [if_pos h33] | rw [if_neg h33] | rw [if_neg (Classical.not_not.mpr h33)]
            try first | rw [if_pos h37] | rw [if_neg h37] | rw [if_neg (Classical.not_not.mpr h37)]
            try rfl
        · 
          refine J_ldc (pc := 29) dX8_line_29 kc_X8_91 ?_
          refine K_iret (pc := 31) dX8_line_31 rfl ⟨_, rfl, ?_⟩
          show (_, _) = _
          unfold R_line
          try first | rw [if_pos h4] | rw [if_neg h4] | rw [if_neg (Classical.not_not.mpr h4)]
          try first | rw [if_pos h16] | rw [if_neg h16] | rw [if_neg (Classical.not_not.mpr h16)]
          try first | rw [if_pos h20] | rw [if_neg h20] | rw [if_neg (Classical.not_not.mpr h20)]
          try first | rw [if_pos h26] | rw [if_neg h26] | rw [if_neg (Classical.not_not.mpr h26)]
          try rfl
def shl8 (v : Int32) : Int32 := (v <<< (nI 24 &&& 31)) >>> (nI 24 &&& 31)
def R_put (m : jm) (l p v : Int32) : Int32 × jm :=
  if ¬ (nI 0 ≤ l ∧ l ≤ nI 23) then (-1000000001, m) else if m 144 (tN l) < 0 then (-1000000011, m) else if ¬ (nI 0 ≤ p ∧ p ≤ m 145 (tN l) - nI 1) then (-1000000013, m) else (m 146 (24 * tN l + tN p), mup (mup m 140 33 (nI 0)) 146 (24 * tN l + tN p) (if m 144 (tN l) = 0 then shl8 v else v))
set_option maxRecDepth 100000 in
set_option maxHeartbeats 400000 in
theorem m_put {x : jX} {m : jm} {d : Nat} (l p v : Int32) (hL : ∀ l, l < 24 → ∃ n, n ≤ 24 ∧ m 145 l = nI n) : Ct x (d + 2) eX8_put [.ref (jxb x + 140), .int l, .int p, .int v] m (ji fun rv m' => (rv, m') = R_put m l p v) := by
  refine J_start (by decide +kernel) (Nat.le_of_ble_eq_true rfl) (ls := [some (.ref (jxb x + 140)), some (.int l), some (.int p), some (.int v), none]) rfl rfl ?_
  refine J_iload_n (pc := 0) dX8_put_0 rfl ?_
  refine K_callSp (pc := 1) (As := [_]) dX8_put_1 kl_X8_160 rfl rfl (Nat.le_of_ble_eq_true rfl) (m_isLine l) ?_
  refine Jb_ne (pc := 4) (tgt := 10) dX8_put_4 (by decide) (fun h4 => ?_) (fun h4 => ?_)
  · 
    obtain ⟨q, hq, hqe⟩ := w_of h4 (by decide)
    have htq : tN l = q := by rw [hqe]; exact tN_n (by omega)
    subst hqe
    refine J_aload_n (pc := 10) dX8_put_10 rfl ?_
    refine K_getR (pc := 11) dX8_put_11 kf_X8_19 job_140 jrf_140_4 ?_
    refine J_iload_n (pc := 14) dX8_put_14 rfl ?_
    refine K_ialdn (pc := 15) (id := 144) dX8_put_15 jar_144 (by omega) (by decide) ?_
    refine J_if_ge (pc := 16) (tgt := 22) dX8_put_16 (by decide) (fun h16 => ?_) (fun h16 => ?_)
    · 
      have h16 := Int32.not_lt.mpr h16
      refine J_iload_n (pc := 22) dX8_put_22 rfl ?_
      refine J_i2l (pc := 23) dX8_put_23 ?_
      refine J_lconst (pc := 24) (v := 0) dX8_put_24 rfl ?_
      refine J_aload_n (pc := 25) dX8_put_25 rfl ?_
      refine K_getR (pc := 26) dX8_put_26 kf_X8_22 job_140 jrf_140_5 ?_
      refine J_iload_n (pc := 29) dX8_put_29 rfl ?_
      refine K_ialdn (pc := 30) (id := 145) dX8_put_30 jar_145 (by omega) (by decide) ?_
      refine J_iconst (pc := 31) dX8_put_31 kni_1 ?_
      refine J_isub (pc := 32) dX8_put_32 ?_
      refine J_i2l (pc := 33) dX8_put_33 ?_
      refine K_callSp (pc := 34) (As := [_, _, _]) dX8_put_34 kl_X8_71 rfl rfl (Nat.le_of_ble_eq_true rfl) (m_in32 (v := p) (a := nI 0) (b := m 145 q - nI 1) (by decide) rfl) ?_
      refine Jb_ne (pc := 37) (tgt := 43) dX8_put_37 (by decide) (fun h37 => ?_) (fun h37 => ?_)
      · 
        obtain ⟨ln, hln, hle⟩ := hL q (by omega)
        obtain ⟨r, hr, hre⟩ := w_sub hle (by omega) h37
        have htr : tN p = r := by rw [hre]; exact tN_n (by omega)
        subst hre
        refine J_aload_n (pc := 43) dX8_put_43 rfl ?_
        refine J_iconst (pc := 44) dX8_put_44 kni_0 ?_
        refine K_put (pc := 45) dX8_put_45 kp_X8_67 job_140 jrf_140_33 rfl rfl ?_
        refine J_aload_n (pc := 48) dX8_put_48 rfl ?_
        refine K_getR (pc := 49) dX8_put_49 kf_X8_25 job_140 jrf_140_6 ?_
        refine J_bipush (pc := 52) dX8_put_52 knb_24 ?_
        refine J_iload_n (pc := 54) dX8_put_54 rfl ?_
        refine J_imulv (pc := 55) dX8_put_55 (pk_mul _ _) ?_
        refine J_iload_n (pc := 56) dX8_put_56 rfl ?_
        refine J_iaddv (pc := 57) dX8_put_57 (nI_add _ _) ?_
        refine K_ialdn (pc := 58) (id := 146) dX8_put_58 jar_146 (by omega) (by decide) ?_
        refine J_top (b := (m 146 (24 * q + r))) (mup_i (by decide)) ?_
        refine J_istore (pc := 59) (ls' := [some _, some _, some _, some _, some _]) dX8_put_59 rfl (Nat.le_of_ble_eq_true rfl) rfl ?_
        refine J_aload_n (pc := 61) dX8_put_61 rfl ?_
        refine K_getR (pc := 62) dX8_put_62 kf_X8_25 job_140 jrf_140_6 ?_
        refine J_bipush (pc := 65) dX8_put_65 knb_24 ?_
        refine J_iload_n (pc := 67) dX8_put_67 rfl ?_
        refine J_imulv (pc := 68) dX8_put_68 (pk_mul _ _) ?_
        refine J_iload_n (pc := 69) dX8_put_69 rfl ?_
        refine J_iaddv (pc := 70) dX8_put_70 (nI_add _ _) ?_
        refine J_aload_n (pc := 71) dX8_put_71 rfl ?_
        refine K_getR (pc := 72) dX8_put_72 kf_X8_19 job_140 jrf_140_4 ?_
        refine J_iload_n (pc := 75) dX8_put_75 rfl ?_
        refine K_ialdn (pc := 76) (id := 144) dX8_put_76 jar_144 (by omega) (by decide) ?_
        refine J_top (b := (m 144 q)) (mup_i (by decide)) ?_
        refine J_if_ne (pc := 77) (tgt := 90) dX8_put_77 (by decide) (fun h77 => ?_) (fun h77 => ?_)
        · 
          refine J_iload_n (pc := 90) dX8_put_90 rfl ?_
          refine K_iastn (pc := 91) (id := 146) dX8_put_91 jar_146 (by omega) (by decide) ?_
          refine J_iload (pc := 92) dX8_put_92 rfl ?_
          refine K_iret (pc := 94) dX8_put_94 rfl ⟨_, rfl, ?_⟩
          show (_, _) = _
          unfold R_put
          rw [htq, htr]
          try first | rw [if_pos h4] | rw [if_neg h4] | rw [if_neg (Classical.not_not.mpr h4)]
          try first | rw [if_pos h16] | rw [if_neg h16] | rw [if_neg (Classical.not_not.mpr h16)]
          try first | rw [if_pos h37] | rw [if_neg h37] | rw [if_neg (Classical.not_not.mpr h37)]
          try first | rw [if_pos h77] | rw [if_neg h77] | rw [if_neg (Classical.not_not.mpr h77)]
          try rfl
        · 
          refine J_iload_n (pc := 80) dX8_put_80 rfl ?_
          refine J_bipush (pc := 81) dX8_put_81 knb_24 ?_
          refine J_ishl (pc := 83) dX8_put_83 ?_
          refine J_bipush (pc := 84) dX8_put_84 knb_24 ?_
          refine J_ishr (pc := 86) dX8_put_86 ?_
          refine J_goto (pc := 87) (tgt := 91) dX8_put_87 (by decide) ?_
          refine K_iastn (pc := 91) (id := 146) dX8_put_91 jar_146 (by omega) (by decide) ?_
          refine J_iload (pc := 92) dX8_put_92 rfl ?_
          refine K_iret (pc := 94) dX8_put_94 rfl ⟨_, rfl, ?_⟩
          show (_, _) = _
          unfold R_put
          rw [htq, htr]
          try first | rw [if_pos h4] | rw [if_neg h4] | rw [if_neg (Classical.not_not.mpr h4)]
          try first | rw [if_pos h16] | rw [if_neg h16] | rw [if_neg (Classical.not_not.mpr h16)]
          try first | rw [if_pos h37] | rw [if_neg h37] | rw [if_neg (Classical.not_not.mpr h37)]
          try first | rw [if_pos h77] | rw [if_neg h77] | rw [if_neg (Classical.not_not.mpr h77)]
          try rfl
      · 
        refine J_ldc (pc := 40) dX8_put_40 kc_X8_167 ?_
        refine K_iret (pc := 42) dX8_put_42 rfl ⟨_, rfl, ?_⟩
        show (_, _) = _
        unfold R_put
        rw [htq]
        try first | rw [if_pos h4] | rw [if_neg h4] | rw [if_neg (Classical.not_not.mpr h4)]
        try first | rw [if_pos h16] | rw [if_neg h16] | rw [if_neg (Classical.not_not.mpr h16)]
        try first | rw [if_pos h37] | rw [if_neg h37] | rw [if_neg (Classical.not_not.mpr h37)]
        try rfl
    · 
      have h16 := Int32.not_le.mp h16
      refine J_ldc (pc := 19) dX8_put_19 kc_X8_166 ?_
      refine K_iret (pc := 21) dX8_put_21 rfl ⟨_, rfl, ?_⟩
      show (_, _) = _
      unfold R_put
      rw [htq]
      try first | rw [if_pos h4] | rw [if_neg h4] | rw [if_neg (Classical.not_not.mpr h4)]
      try first | rw [if_pos h16] | rw [if_neg h16] | rw [if_neg (Classical.not_not.mpr h16)]
      try rfl
  · 
    refine J_ldc (pc := 7) dX8_put_7 kc_X8_91 ?_
    refine K_iret (pc := 9) dX8_put_9 rfl ⟨_, rfl, ?_⟩
    show (_, _) = _
    unfold R_put
    try first | rw [if_pos h4] | rw [if_neg h4] | rw [if_neg (Classical.not_not.mpr h4)]
    try rfl
/-- a place and how many hold in a line -/
def R_copy (m : jm) (f a t b z : Int32) : Int32 × jm :=
  if ¬ (nI 0 ≤ f ∧ f ≤ nI 23) then (-1000000001, m) else if ¬ (nI 0 ≤ t ∧ t ≤ nI 23) then (-1000000001, m) else if m 144 (tN f) < 0 then (-1000000011, m) else if m 144 (tN t) < 0 then (-1000000011, m) else if ¬ m 144 (tN f) = m 144 (tN t) then (-1000000012, m)
  else if 0 ≤ a ∧ 0 ≤ b ∧ 0 ≤ z ∧ a.toInt + z.toInt ≤ (m 145 (tN f)).toInt ∧ b.toInt + z.toInt ≤ (m 145 (tN t)).toInt then (z, mrun (mup (mfill m 149 (tN z) (fun u => m 146 (24 * tN f + tN a + u))) 140 33 (nI 0)) 146 (24 * tN t + tN b) (fun u => m 146 (24 * tN f + tN a + u)) (tN z)) else (-1000000013, m)
theorem lgc_add {a z L : Int32} : 0 < lg_cmp (a.toInt64 + z.toInt64) L.toInt64 ↔ L.toInt < a.toInt + z.toInt := by
  rw [lgc_gt, Int64.lt_iff_toInt_lt, Int64.toInt_add, Int32.toInt_toInt64, Int32.toInt_toInt64, Int32.toInt_toInt64]
  have := a.toInt_lt; have := z.toInt_lt; have := a.le_toInt; have := z.le_toInt
  rw [Int.bmod_eq_of_le (by omega) (by omega)]
theorem has_n2 {a z L : Int32} {n : Nat} (hy : L = nI n) (hL : n ≤ 24) (h1 : 0 ≤ a) (h2 : 0 ≤ z) (h : ¬ L.toInt < a.toInt + z.toInt) : ∃ i k, i + k ≤ n ∧ a = nI i ∧ z = nI k := by
  rw [Int32.le_iff_toInt_le, show (0 : Int32).toInt = 0 from rfl] at h1 h2
  rw [hy, nI_toInt (by omega)] at h
  refine ⟨a.toInt.toNat, z.toInt.toNat, by omega, Int32.toInt_inj.mp ?_, Int32.toInt_inj.mp ?_⟩ <;> (rw [nI_toInt (by omega)]; omega)
set_option maxRecDepth 100000 in
set_option maxHeartbeats 400000 in
theorem m_copy {x : jX} {m : jm} {d : Nat} (f a t b z : Int32) (hL : ∀ l, l < 24 → ∃ n, n ≤ 24 ∧ m 145 l = nI n) : Ct x (d + 2) eX8_copy [.ref (jxb x + 140), .int f, .int a, .int t, .int b, .int z] m (ji fun rv m' => (rv, m') = R_copy m f a t b z) := by
  refine J_start (by decide +kernel) (Nat.le_of_ble_eq_true rfl) (ls := [some (.ref (jxb x + 140)), some (.int f), some (.int a), some (.int t), some (.int b), some (.int z), none]) rfl rfl ?_
  refine J_iload_n (pc := 0) dX8_copy_0 rfl ?_
  refine K_callSp (pc := 1) (As := [_]) dX8_copy_1 kl_X8_160 rfl rfl (Nat.le_of_ble_eq_true rfl) (m_isLine f) ?_
  refine Jb_eq (pc := 4) (tgt := 14) dX8_copy_4 (by decide) (fun h4 => ?_) (fun h4 => ?_)
  · 
    refine J_ldc (pc := 14) dX8_copy_14 kc_X8_91 ?_
    refine K_iret (pc := 16) dX8_copy_16 rfl ⟨_, rfl, ?_⟩
    show (_, _) = _
    unfold R_copy
    try first | rw [if_pos h4] | rw [if_neg h4] | rw [if_neg (Classical.not_not.mpr h4)]
    try rfl
  · 
    refine J_iload_n (pc := 7) dX8_copy_7 rfl ?_
    refine K_callSp (pc := 8) (As := [_]) dX8_copy_8 kl_X8_160 rfl rfl (Nat.le_of_ble_eq_true rfl) (m_isLine t) ?_
    refine Jb_ne (pc := 11) (tgt := 17) dX8_copy_11 (by decide) (fun h11 => ?_) (fun h11 => ?_)
    · 
      obtain ⟨q, hq, hqe⟩ := w_of h4 (by decide)
      have htq : tN f = q := by rw [hqe]; exact tN_n (by omega)
      subst hqe
      obtain ⟨r, hr, hre⟩ := w_of h11 (by decide)
      have htr : tN t = r := by rw [hre]; exact tN_n (by omega)
      subst hre
      refine J_aload_n (pc := 17) dX8_copy_17 rfl ?_
      refine K_getR (pc := 18) dX8_copy_18 kf_X8_19 job_140 jrf_140_4 ?_
      refine J_iload_n (pc := 21) dX8_copy_21 rfl ?_
      refine K_ialdn (pc := 22) (id := 144) dX8_copy_22 jar_144 (by omega) (by decide) ?_
      refine J_if_lt (pc := 23) (tgt := 35) dX8_copy_23 (by decide) (fun h23 => ?_) (fun h23 => ?_)
      · 
        refine J_ldc (pc := 35) dX8_copy_35 kc_X8_166 ?_
        refine K_iret (pc := 37) dX8_copy_37 rfl ⟨_, rfl, ?_⟩
        show (_, _) = _
        unfold R_copy
        rw [htq, htr]
        try first | rw [if_pos h4] | rw [if_neg h4] | rw [if_neg (Classical.not_not.mpr h4)]
        try first | rw [if_pos h11] | rw [if_neg h11] | rw [if_neg (Classical.not_not.mpr h11)]
        try first | rw [if_pos h23] | rw [if_neg h23] | rw [if_neg (Classical.not_not.mpr h23)]
        try rfl
      · 
        refine J_aload_n (pc := 26) dX8_copy_26 rfl ?_
        refine K_getR (pc := 27) dX8_copy_27 kf_X8_19 job_140 jrf_140_4 ?_
        refine J_iload_n (pc := 30) dX8_copy_30 rfl ?_
        refine K_ialdn (pc := 31) (id := 144) dX8_copy_31 jar_144 (by omega) (by decide) ?_
        refine J_if_ge (pc := 32) (tgt := 38) dX8_copy_32 (by decide) (fun h32 => ?_) (fun h32 => ?_)
        · 
          have h32 := Int32.not_lt.mpr h32
          refine J_aload_n (pc := 38) dX8_copy_38 rfl ?_
          refine K_getR (pc := 39) dX8_copy_39 kf_X8_19 job_140 jrf_140_4 ?_
          refine J_iload_n (pc := 42) dX8_copy_42 rfl ?_
          refine K_ialdn (pc := 43) (id := 144) dX8_copy_43 jar_144 (by omega) (by decide) ?_
          refine J_aload_n (pc := 44) dX8_copy_44 rfl ?_
          refine K_getR (pc := 45) dX8_copy_45 kf_X8_19 job_140 jrf_140_4 ?_
          refine J_iload_n (pc := 48) dX8_copy_48 rfl ?_
          refine K_ialdn (pc := 49) (id := 144) dX8_copy_49 jar_144 (by omega) (by decide) ?_
          refine J_icmp_eq (pc := 50) (tgt := 56) dX8_copy_50 (by decide) (fun h50 => ?_) (fun h50 => ?_)
          · 
            refine J_iload_n (pc := 56) dX8_copy_56 rfl ?_
            refine J_if_lt (pc := 57) (tgt := 105) dX8_copy_57 (by decide) (fun h57 => ?_) (fun h57 => ?_)
            · 
              refine J_ldc (pc := 105) dX8_copy_105 kc_X8_167 ?_
              refine K_iret (pc := 107) dX8_copy_107 rfl ⟨_, rfl, ?_⟩
              show (_, _) = _
              unfold R_copy
              rw [htq, htr, if_neg (Classical.not_not.mpr h4), if_neg (Classical.not_not.mpr h11), if_neg h23, if_neg h32, if_neg (Classical.not_not.mpr h50), if_neg (fun y => absurd h57 (Int32.not_lt.mpr y.1))]
            · 
              refine J_iload (pc := 60) dX8_copy_60 rfl ?_
              refine J_if_lt (pc := 62) (tgt := 105) dX8_copy_62 (by decide) (fun h62 => ?_) (fun h62 => ?_)
              · 
                refine J_ldc (pc := 105) dX8_copy_105 kc_X8_167 ?_
                refine K_iret (pc := 107) dX8_copy_107 rfl ⟨_, rfl, ?_⟩
                show (_, _) = _
                unfold R_copy
                rw [htq, htr, if_neg (Classical.not_not.mpr h4), if_neg (Classical.not_not.mpr h11), if_neg h23, if_neg h32, if_neg (Classical.not_not.mpr h50), if_neg (fun y => absurd h62 (Int32.not_lt.mpr y.2.1))]
              · 
                refine J_iload (pc := 65) dX8_copy_65 rfl ?_
                refine J_if_lt (pc := 67) (tgt := 105) dX8_copy_67 (by decide) (fun h67 => ?_) (fun h67 => ?_)
                · 
                  refine J_ldc (pc := 105) dX8_copy_105 kc_X8_167 ?_
                  refine K_iret (pc := 107) dX8_copy_107 rfl ⟨_, rfl, ?_⟩
                  show (_, _) = _
                  unfold R_copy
                  rw [htq, htr, if_neg (Classical.not_not.mpr h4), if_neg (Classical.not_not.mpr h11), if_neg h23, if_neg h32, if_neg (Classical.not_not.mpr h50), if_neg (fun y => absurd h67 (Int32.not_lt.mpr y.2.2.1))]
                · 
                  refine J_iload_n (pc := 70) dX8_copy_70 rfl ?_
                  refine J_i2l (pc := 71) dX8_copy_71 ?_
                  refine J_iload (pc := 72) dX8_copy_72 rfl ?_
                  refine J_i2l (pc := 74) dX8_copy_74 ?_
                  refine J_ladd (pc := 75) dX8_copy_75 ?_
                  refine J_aload_n (pc := 76) dX8_copy_76 rfl ?_
                  refine K_getR (pc := 77) dX8_copy_77 kf_X8_22 job_140 jrf_140_5 ?_
                  refine J_iload_n (pc := 80) dX8_copy_80 rfl ?_
                  refine K_ialdn (pc := 81) (id := 145) dX8_copy_81 jar_145 (by omega) (by decide) ?_
                  refine J_i2l (pc := 82) dX8_copy_82 ?_
                  refine J_lcmp (pc := 83) dX8_copy_83 ?_
                  refine J_if_gt (pc := 84) (tgt := 105) dX8_copy_84 (by decide) (fun h84 => ?_) (fun h84 => ?_)
                  · 
                    refine J_ldc (pc := 105) dX8_copy_105 kc_X8_167 ?_
                    refine K_iret (pc := 107) dX8_copy_107 rfl ⟨_, rfl, ?_⟩
                    show (_, _) = _
                    unfold R_copy
                    rw [htq, htr, if_neg (Classical.not_not.mpr h4), if_neg (Classical.not_not.mpr h11), if_neg h23, if_neg h32, if_neg (Classical.not_not.mpr h50), if_neg (fun y => by have w := lgc_add.mp h84; omega)]
                  · 
                    refine J_iload (pc := 87) dX8_copy_87 rfl ?_
                    refine J_i2l (pc := 89) dX8_copy_89 ?_
                    refine J_iload (pc := 90) dX8_copy_90 rfl ?_
                    refine J_i2l (pc := 92) dX8_copy_92 ?_
                    refine J_ladd (pc := 93) dX8_copy_93 ?_
                    refine J_aload_n (pc := 94) dX8_copy_94 rfl ?_
                    refine K_getR (pc := 95) dX8_copy_95 kf_X8_22 job_140 jrf_140_5 ?_
                    refine J_iload_n (pc := 98) dX8_copy_98 rfl ?_
                    refine K_ialdn (pc := 99) (id := 145) dX8_copy_99 jar_145 (by omega) (by decide) ?_
                    refine J_i2l (pc := 100) dX8_copy_100 ?_
                    refine J_lcmp (pc := 101) dX8_copy_101 ?_
                    refine J_if_le (pc := 102) (tgt := 108) dX8_copy_102 (by decide) (fun h102 => ?_) (fun h102 => ?_)
                    · 
                      obtain ⟨l1, hl1, e1⟩ := hL q (by omega)
                      obtain ⟨l2, hl2, e2⟩ := hL r (by omega)
                      have a1 := Int32.not_lt.mp h57
                      have a2 := Int32.not_lt.mp h62
                      have a3 := Int32.not_lt.mp h67
                      have a4 : ¬ (m 145 q).toInt < a.toInt + z.toInt := fun y => h84 (lgc_add.mpr y)
                      have a5 : ¬ (m 145 r).toInt < b.toInt + z.toInt := fun y => absurd (lgc_add.mpr y) (Int32.not_lt.mpr h102)
                      have hok : 0 ≤ a ∧ 0 ≤ b ∧ 0 ≤ z ∧ a.toInt + z.toInt ≤ (m 145 q).toInt ∧ b.toInt + z.toInt ≤ (m 145 r).toInt := ⟨a1, a2, a3, by omega, by omega⟩
                      obtain ⟨i, k, hik, hie, hke⟩ := has_n2 e1 hl1 a1 a3 a4
                      obtain ⟨j, k2, hjk, hje, hke2⟩ := has_n2 e2 hl2 a2 a3 a5
                      have hti : tN a = i := by rw [hie]; exact tN_n (by omega)
                      have htj : tN b = j := by rw [hje]; exact tN_n (by omega)
                      have htk : tN z = k := by rw [hke]; exact tN_n (by omega)
                      have htk2 : tN z = k2 := by rw [hke2]; exact tN_n (by omega)
                      have hkk : k = k2 := htk.symm.trans htk2
                      clear hke2 htk2 a1 a2 a3 a4 a5 h57 h62 h67 h84 h102
                      subst hie hje hke
                      refine J_iconst (pc := 108) dX8_copy_108 kni_0 ?_
                      refine J_istore (pc := 109) (ls' := [some _, some _, some _, some _, some _, some _, some _]) dX8_copy_109 rfl (Nat.le_of_ble_eq_true rfl) rfl ?_
                      refine K_for' (pc := 111) k (fun u => [some (.ref (jxb x + 140)), some (.int (nI q)), some (.int (nI i)), some (.int (nI r)), some (.int (nI j)), some (.int (nI k)), some (.int (nI u))]) (fun u => (mfill m 149 u (fun u => m 146 (24 * q + i + u)))) (by rfl) (by rw [mfill_0]) (fun u hu ih111 => ?_) ?_
                      ·
                        show K x _ _ 111 [some (.ref (jxb x + 140)), some (.int (nI q)), some (.int (nI i)), some (.int (nI r)), some (.int (nI j)), some (.int (nI k)), some (.int (nI u))] _ ((mfill m 149 u (fun u => m 146 (24 * q + i + u)))) _
                        refine J_iload (pc := 111) dX8_copy_111 rfl ?_
                        refine J_iload (pc := 113) dX8_copy_113 rfl ?_
                        refine Jn_ge (pc := 115) (tgt := 145) dX8_copy_115 (by decide) (by omega) (by omega) (fun h115 => absurd h115 (by omega)) (fun h115 => ?_)
                        refine J_aload_n (pc := 118) dX8_copy_118 rfl ?_
                        refine K_getR (pc := 119) dX8_copy_119 kf_X8_34 job_140 jrf_140_9 ?_
                        refine J_iload (pc := 122) dX8_copy_122 rfl ?_
                        refine J_aload_n (pc := 124) dX8_copy_124 rfl ?_
                        refine K_getR (pc := 125) dX8_copy_125 kf_X8_25 job_140 jrf_140_6 ?_
                        refine J_bipush (pc := 128) dX8_copy_128 knb_24 ?_
                        refine J_iload_n (pc := 130) dX8_copy_130 rfl ?_
                        refine J_imulv (pc := 131) dX8_copy_131 (pk_mul _ _) ?_
                        refine J_iload_n (pc := 132) dX8_copy_132 rfl ?_
                        refine J_iaddv (pc := 133) dX8_copy_133 (nI_add _ _) ?_
                        refine J_iload (pc := 134) dX8_copy_134 rfl ?_
                        refine J_iaddv (pc := 136) dX8_copy_136 (nI_add _ _) ?_
                        refine K_ialdn (pc := 137) (id := 146) dX8_copy_137 jar_146 (by omega) (by decide) ?_
                        refine J_top (b := (m 146 (24 * q + i + u))) (mfill_i (by decide)) ?_
                        refine K_iastn (pc := 138) (id := 149) dX8_copy_138 jar_149 (by omega) (by decide) ?_
                        refine Jn_iinc (pc := 139) (ls' := [some _, some _, some _, some _, some _, some _, some _]) dX8_copy_139 rfl knz_1 rfl rfl ?_
                        refine J_goto (pc := 142) (tgt := 111) dX8_copy_142 (by decide) ?_
                        rw [mfill_s m 149 u (fun u => m 146 (24 * q + i + u)) rfl]
                        exact ih111
                      ·
                        show K x _ _ 111 [some (.ref (jxb x + 140)), some (.int (nI q)), some (.int (nI i)), some (.int (nI r)), some (.int (nI j)), some (.int (nI k)), some (.int (nI k))] _ ((mfill m 149 k (fun u => m 146 (24 * q + i + u)))) _
                        refine J_iload (pc := 111) dX8_copy_111 rfl ?_
                        refine J_iload (pc := 113) dX8_copy_113 rfl ?_
                        refine Jn_ge (pc := 115) (tgt := 145) dX8_copy_115 (by decide) (by omega) (by omega) (fun h115 => ?_) (fun h115 => absurd h115 (by omega))
                        refine J_aload_n (pc := 145) dX8_copy_145 rfl ?_
                        refine J_iconst (pc := 146) dX8_copy_146 kni_0 ?_
                        refine K_put (pc := 147) dX8_copy_147 kp_X8_67 job_140 jrf_140_33 rfl rfl ?_
                        refine J_iconst (pc := 150) dX8_copy_150 kni_0 ?_
                        refine J_istore (pc := 151) (ls' := [some _, some _, some _, some _, some _, some _, some _]) dX8_copy_151 rfl (Nat.le_of_ble_eq_true rfl) rfl ?_
                        refine K_for' (pc := 153) k (fun v => [some (.ref (jxb x + 140)), some (.int (nI q)), some (.int (nI i)), some (.int (nI r)), some (.int (nI j)), some (.int (nI k)), some (.int (nI v))]) (fun v => (mrun (mup (mfill m 149 k (fun u => m 146 (24 * q + i + u))) 140 33 (nI 0)) 146 (24 * r + j) (fun u => m 146 (24 * q + i + u)) v)) (by rfl) (by rfl) (fun v hv ih153 => ?_) ?_
                        ·
                          show K x _ _ 153 [some (.ref (jxb x + 140)), some (.int (nI q)), some (.int (nI i)), some (.int (nI r)), some (.int (nI j)), some (.int (nI k)), some (.int (nI v))] _ ((mrun (mup (mfill m 149 k (fun u => m 146 (24 * q + i + u))) 140 33 (nI 0)) 146 (24 * r + j) (fun u => m 146 (24 * q + i + u)) v)) _
                          refine J_iload (pc := 153) dX8_copy_153 rfl ?_
                          refine J_iload (pc := 155) dX8_copy_155 rfl ?_
                          refine Jn_ge (pc := 157) (tgt := 188) dX8_copy_157 (by decide) (by omega) (by omega) (fun h157 => absurd h157 (by omega)) (fun h157 => ?_)
                          refine J_aload_n (pc := 160) dX8_copy_160 rfl ?_
                          refine K_getR (pc := 161) dX8_copy_161 kf_X8_25 job_140 jrf_140_6 ?_
                          refine J_bipush (pc := 164) dX8_copy_164 knb_24 ?_
                          refine J_iload_n (pc := 166) dX8_copy_166 rfl ?_
                          refine J_imulv (pc := 167) dX8_copy_167 (pk_mul _ _) ?_
                          refine J_iload (pc := 168) dX8_copy_168 rfl ?_
                          refine J_iaddv (pc := 170) dX8_copy_170 (nI_add _ _) ?_
                          refine J_iload (pc := 171) dX8_copy_171 rfl ?_
                          refine J_iaddv (pc := 173) dX8_copy_173 (nI_add _ _) ?_
                          refine J_aload_n (pc := 174) dX8_copy_174 rfl ?_
                          refine K_getR (pc := 175) dX8_copy_175 kf_X8_34 job_140 jrf_140_9 ?_
                          refine J_iload (pc := 178) dX8_copy_178 rfl ?_
                          refine K_ialdn (pc := 180) (id := 149) dX8_copy_180 jar_149 (by omega) (by decide) ?_
                          refine J_top (b := (m 146 (24 * q + i + v))) ((mrun_v (by decide)).trans ((mup_i (by decide)).trans (mfill_lt hv))) ?_
                          refine K_iastn (pc := 181) (id := 146) dX8_copy_181 jar_146 (by omega) (by decide) ?_
                          refine Jn_iinc (pc := 182) (ls' := [some _, some _, some _, some _, some _, some _, some _]) dX8_copy_182 rfl knz_1 rfl rfl ?_
                          refine J_goto (pc := 185) (tgt := 153) dX8_copy_185 (by decide) ?_
                          exact ih153
                        ·
                          show K x _ _ 153 [some (.ref (jxb x + 140)), some (.int (nI q)), some (.int (nI i)), some (.int (nI r)), some (.int (nI j)), some (.int (nI k)), some (.int (nI k))] _ ((mrun (mup (mfill m 149 k (fun u => m 146 (24 * q + i + u))) 140 33 (nI 0)) 146 (24 * r + j) (fun u => m 146 (24 * q + i + u)) k)) _
                          refine J_iload (pc := 153) dX8_copy_153 rfl ?_
                          refine J_iload (pc := 155) dX8_copy_155 rfl ?_
                          refine Jn_ge (pc := 157) (tgt := 188) dX8_copy_157 (by decide) (by omega) (by omega) (fun h157 => ?_) (fun h157 => absurd h157 (by omega))
                          refine J_iload (pc := 188) dX8_copy_188 rfl ?_
                          refine K_iret (pc := 190) dX8_copy_190 rfl ⟨_, rfl, ?_⟩
                          show (_, _) = _
                          unfold R_copy
                          rw [htq, htr, hti, htj, htk, if_neg (Classical.not_not.mpr h4), if_neg (Classical.not_not.mpr h11), if_neg h23, if_neg h32, if_neg (Classical.not_not.mpr h50), if_pos hok]
                    · 
                      refine J_ldc (pc := 105) dX8_copy_105 kc_X8_167 ?_
                      refine K_iret (pc := 107) dX8_copy_107 rfl ⟨_, rfl, ?_⟩
                      show (_, _) = _
                      unfold R_copy
                      rw [htq, htr, if_neg (Classical.not_not.mpr h4), if_neg (Classical.not_not.mpr h11), if_neg h23, if_neg h32, if_neg (Classical.not_not.mpr h50), if_neg (fun y => by have w := lgc_add.mp (Int32.not_le.mp h102); omega)]
          · 
            refine J_ldc (pc := 53) dX8_copy_53 kc_X8_116 ?_
            refine K_iret (pc := 55) dX8_copy_55 rfl ⟨_, rfl, ?_⟩
            show (_, _) = _
            unfold R_copy
            rw [htq, htr]
            try first | rw [if_pos h4] | rw [if_neg h4] | rw [if_neg (Classical.not_not.mpr h4)]
            try first | rw [if_pos h11] | rw [if_neg h11] | rw [if_neg (Classical.not_not.mpr h11)]
            try first | rw [if_pos h23] | rw [if_neg h23] | rw [if_neg (Classical.not_not.mpr h23)]
            try first | rw [if_pos h32] | rw [if_neg h32] | rw [if_neg (Classical.not_not.mpr h32)]
            try first | rw [if_pos h50] | rw [if_neg h50] | rw [if_neg (Classical.not_not.mpr h50)]
            try rfl
        · 
          have h32 := Int32.not_le.mp h32
          refine J_ldc (pc := 35) dX8_copy_35 kc_X8_166 ?_
          refine K_iret (pc := 37) dX8_copy_37 rfl ⟨_, rfl, ?_⟩
          show (_, _) = _
          unfold R_copy
          rw [htq, htr]
          try first | rw [if_pos h4] | rw [if_neg h4] | rw [if_neg (Classical.not_not.mpr h4)]
          try first | rw [if_pos h11] | rw [if_neg h11] | rw [if_neg (Classical.not_not.mpr h11)]
          try first | rw [if_pos h23] | rw [if_neg h23] | rw [if_neg (Classical.not_not.mpr h23)]
          try first | rw [if_pos h32] | rw [if_neg h32] | rw [if_neg (Classical.not_not.mpr h32)]
          try rfl
    · 
      refine J_ldc (pc := 14) dX8_copy_14 kc_X8_91 ?_
      refine K_iret (pc := 16) dX8_copy_16 rfl ⟨_, rfl, ?_⟩
      show (_, _) = _
      unfold R_copy
      try first | rw [if_pos h4] | rw [if_neg h4] | rw [if_neg (Classical.not_not.mpr h4)]
      try first | rw [if_pos h11] | rw [if_neg h11] | rw [if_neg (Classical.not_not.mpr h11)]
      try rfl
def R_ground (m : jm) (g p : Int32) : Int32 × jm :=
  if ¬ (nI 0 ≤ g ∧ g ≤ nI 3) then (-1000000001, m) else if ¬ (nI 0 ≤ p ∧ p ≤ nI 47) then (-1000000001, m) else (shdR m (tN g) (tN p), m)
set_option maxRecDepth 100000 in
set_option maxHeartbeats 400000 in
theorem m_ground {x : jX} {m : jm} {d : Nat} (g p : Int32) : Ct x (d + 2) eX8_ground [.ref (jxb x + 140), .int g, .int p] m (ji fun rv m' => (rv, m') = R_ground m g p) := by
  refine J_start (by decide +kernel) (Nat.le_of_ble_eq_true rfl) (ls := [some (.ref (jxb x + 140)), some (.int g), some (.int p)]) rfl rfl ?_
  refine J_iload_n (pc := 0) dX8_ground_0 rfl ?_
  refine K_callSp (pc := 1) (As := [_]) dX8_ground_1 kl_X8_168 rfl rfl (Nat.le_of_ble_eq_true rfl) (m_isGround g) ?_
  refine Jb_eq (pc := 4) (tgt := 23) dX8_ground_4 (by decide) (fun h4 => ?_) (fun h4 => ?_)
  · 
    refine J_ldc (pc := 23) dX8_ground_23 kc_X8_91 ?_
    refine K_iret (pc := 25) dX8_ground_25 rfl ⟨_, rfl, ?_⟩
    show (_, _) = _
    unfold R_ground
    try rw [htq, htr]
    try first | rw [if_pos h4] | rw [if_neg h4] | rw [if_neg (Classical.not_not.mpr h4)]
    try rfl
  · 
    refine J_iload_n (pc := 7) dX8_ground_7 rfl ?_
    refine K_callSp (pc := 8) (As := [_]) dX8_ground_8 kl_X8_85 rfl rfl (Nat.le_of_ble_eq_true rfl) (m_isPlace p) ?_
    refine Jb_eq (pc := 11) (tgt := 23) dX8_ground_11 (by decide) (fun h11 => ?_) (fun h11 => ?_)
    · 
      refine J_ldc (pc := 23) dX8_ground_23 kc_X8_91 ?_
      refine K_iret (pc := 25) dX8_ground_25 rfl ⟨_, rfl, ?_⟩
      show (_, _) = _
      unfold R_ground
      try rw [htq, htr]
      try first | rw [if_pos h4] | rw [if_neg h4] | rw [if_neg (Classical.not_not.mpr h4)]
      try first | rw [if_pos h11] | rw [if_neg h11] | rw [if_neg (Classical.not_not.mpr h11)]
      try rfl
    · 
      obtain ⟨q, hq, hqe⟩ := w_of h4 (by decide)
      have htq : tN g = q := by rw [hqe]; exact tN_n (by omega)
      subst hqe
      obtain ⟨r, hr, hre⟩ := w_of h11 (by decide)
      have htr : tN p = r := by rw [hre]; exact tN_n (by omega)
      subst hre
      refine J_aload_n (pc := 14) dX8_ground_14 rfl ?_
      refine J_iload_n (pc := 15) dX8_ground_15 rfl ?_
      refine J_iload_n (pc := 16) dX8_ground_16 rfl ?_
      refine K_callVp (pc := 17) (id := 140) (As := [_, _]) dX8_ground_17 kl_X8_171 rfl job_140 rfl rfl (Nat.le_of_ble_eq_true rfl) (m_groundAt (g := q) (p := r) (by omega) (by omega)) ?_
      refine J_goto (pc := 20) (tgt := 25) dX8_ground_20 (by decide) ?_
      refine K_iret (pc := 25) dX8_ground_25 rfl ⟨_, rfl, ?_⟩
      show (_, _) = _
      unfold R_ground
      try rw [htq, htr]
      try first | rw [if_pos h4] | rw [if_neg h4] | rw [if_neg (Classical.not_not.mpr h4)]
      try first | rw [if_pos h11] | rw [if_neg h11] | rw [if_neg (Classical.not_not.mpr h11)]
      try rfl
