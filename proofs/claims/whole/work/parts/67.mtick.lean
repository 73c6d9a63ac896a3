def addR (m : jm) (P : Nat) (k p a s n : Int32) : jm := mup (mup (mup (mup (mup (mup (mup (mup m 141 (90 + 6 * P) k) 141 (90 + 6 * P + 1) p) 141 (90 + 6 * P + 2) a) 141 (90 + 6 * P + 3) s) 141 (90 + 6 * P + 4) n) 141 (90 + 6 * P + 5) (nI 0)) 141 0 (nI (P + 1))) 140 33 (nI 0)
def R_part (m : jm) (k p a s n : Int32) : Int32 × jm :=
  if ¬ (nI 0 ≤ k ∧ k ≤ nI 5) then (-1000000001, m) else if ¬ (nI 0 ≤ p ∧ p ≤ nI 47) then (-1000000001, m) else if ¬ (nI 0 ≤ a ∧ a ≤ nI 9) then (-1000000001, m) else if ¬ (nI 0 ≤ s ∧ s ≤ nI 9) then (-1000000001, m) else if ¬ (nI 0 ≤ n ∧ n ≤ nI 9) then (-1000000001, m)
  else if ¬ onP m 141 p (tN (m 141 0)) < 0 then (-1000000002, m) else if tN (m 141 0) = 48 then (-1000000003, m) else (nI (tN (m 141 0)), addR m (tN (m 141 0)) k p a s n)
set_option maxRecDepth 100000 in
set_option maxHeartbeats 400000 in
theorem m_part {x : jX} {m : jm} {d : Nat} (k p a s n : Int32) {P : Nat} (hP : m 141 0 = nI P) (h48 : P ≤ 48) : Ct x (d + 2) eX8_part [.ref (jxb x + 140), .int k, .int p, .int a, .int s, .int n] m (ji fun rv m' => (rv, m') = R_part m k p a s n) := by
  refine J_start (by decide +kernel) (Nat.le_of_ble_eq_true rfl) (ls := [some (.ref (jxb x + 140)), some (.int k), some (.int p), some (.int a), some (.int s), some (.int n), none]) rfl rfl ?_
  have htP : tN (m 141 0) = P := by rw [hP]; exact tN_n (by omega)
  refine J_iload_n (pc := 0) dX8_part_0 rfl ?_
  refine J_i2l (pc := 1) dX8_part_1 ?_
  refine J_lconst (pc := 2) (v := 0) dX8_part_2 rfl ?_
  refine J_ldc2 (pc := 3) dX8_part_3 kg_X8_79 ?_
  refine K_callSp (pc := 6) (As := [_, _, _]) dX8_part_6 kl_X8_71 rfl rfl (Nat.le_of_ble_eq_true rfl) (m_in32 (v := k) (a := nI 0) (b := nI 5) (by decide) (by decide)) ?_
  refine Jb_eq (pc := 9) (tgt := 57) dX8_part_9 (by decide) (fun h9 => ?_) (fun h9 => ?_)
  · 
    refine J_ldc (pc := 57) dX8_part_57 kc_X8_91 ?_
    refine K_iret (pc := 59) dX8_part_59 rfl ⟨_, rfl, ?_⟩
    show (_, _) = _
    unfold R_part
    try first | rw [if_pos h9] | rw [if_neg h9] | rw [if_neg (Classical.not_not.mpr h9)]
    try rfl
  · 
    refine J_iload_n (pc := 12) dX8_part_12 rfl ?_
    refine K_callSp (pc := 13) (As := [_]) dX8_part_13 kl_X8_85 rfl rfl (Nat.le_of_ble_eq_true rfl) (m_isPlace p) ?_
    refine Jb_eq (pc := 16) (tgt := 57) dX8_part_16 (by decide) (fun h16 => ?_) (fun h16 => ?_)
    · 
      refine J_ldc (pc := 57) dX8_part_57 kc_X8_91 ?_
      refine K_iret (pc := 59) dX8_part_59 rfl ⟨_, rfl, ?_⟩
      show (_, _) = _
      unfold R_part
      try first | rw [if_pos h9] | rw [if_neg h9] | rw [if_neg (Classical.not_not.mpr h9)]
      try first | rw [if_pos h16] | rw [if_neg h16] | rw [if_neg (Classical.not_not.mpr h16)]
      try rfl
    · 
      refine J_iload_n (pc := 19) dX8_part_19 rfl ?_
      refine J_i2l (pc := 20) dX8_part_20 ?_
      refine J_lconst (pc := 21) (v := 0) dX8_part_21 rfl ?_
      refine J_ldc2 (pc := 22) dX8_part_22 kg_X8_89 ?_
      refine K_callSp (pc := 25) (As := [_, _, _]) dX8_part_25 kl_X8_71 rfl rfl (Nat.le_of_ble_eq_true rfl) (m_in32 (v := a) (a := nI 0) (b := nI 9) (by decide) (by decide)) ?_
      refine Jb_eq (pc := 28) (tgt := 57) dX8_part_28 (by decide) (fun h28 => ?_) (fun h28 => ?_)
      · 
        refine J_ldc (pc := 57) dX8_part_57 kc_X8_91 ?_
        refine K_iret (pc := 59) dX8_part_59 rfl ⟨_, rfl, ?_⟩
        show (_, _) = _
        unfold R_part
        try first | rw [if_pos h9] | rw [if_neg h9] | rw [if_neg (Classical.not_not.mpr h9)]
        try first | rw [if_pos h16] | rw [if_neg h16] | rw [if_neg (Classical.not_not.mpr h16)]
        try first | rw [if_pos h28] | rw [if_neg h28] | rw [if_neg (Classical.not_not.mpr h28)]
        try rfl
      · 
        refine J_iload (pc := 31) dX8_part_31 rfl ?_
        refine J_i2l (pc := 33) dX8_part_33 ?_
        refine J_lconst (pc := 34) (v := 0) dX8_part_34 rfl ?_
        refine J_ldc2 (pc := 35) dX8_part_35 kg_X8_89 ?_
        refine K_callSp (pc := 38) (As := [_, _, _]) dX8_part_38 kl_X8_71 rfl rfl (Nat.le_of_ble_eq_true rfl) (m_in32 (v := s) (a := nI 0) (b := nI 9) (by decide) (by decide)) ?_
        refine Jb_eq (pc := 41) (tgt := 57) dX8_part_41 (by decide) (fun h41 => ?_) (fun h41 => ?_)
        · 
          refine J_ldc (pc := 57) dX8_part_57 kc_X8_91 ?_
          refine K_iret (pc := 59) dX8_part_59 rfl ⟨_, rfl, ?_⟩
          show (_, _) = _
          unfold R_part
          try first | rw [if_pos h9] | rw [if_neg h9] | rw [if_neg (Classical.not_not.mpr h9)]
          try first | rw [if_pos h16] | rw [if_neg h16] | rw [if_neg (Classical.not_not.mpr h16)]
          try first | rw [if_pos h28] | rw [if_neg h28] | rw [if_neg (Classical.not_not.mpr h28)]
          try first | rw [if_pos h41] | rw [if_neg h41] | rw [if_neg (Classical.not_not.mpr h41)]
          try rfl
        · 
          refine J_iload (pc := 44) dX8_part_44 rfl ?_
          refine J_i2l (pc := 46) dX8_part_46 ?_
          refine J_lconst (pc := 47) (v := 0) dX8_part_47 rfl ?_
          refine J_ldc2 (pc := 48) dX8_part_48 kg_X8_89 ?_
          refine K_callSp (pc := 51) (As := [_, _, _]) dX8_part_51 kl_X8_71 rfl rfl (Nat.le_of_ble_eq_true rfl) (m_in32 (v := n) (a := nI 0) (b := nI 9) (by decide) (by decide)) ?_
          refine Jb_ne (pc := 54) (tgt := 60) dX8_part_54 (by decide) (fun h54 => ?_) (fun h54 => ?_)
          · 
            refine J_aload_n (pc := 60) dX8_part_60 rfl ?_
            refine J_iload_n (pc := 61) dX8_part_61 rfl ?_
            refine K_callVp (pc := 62) (id := 140) (As := [_]) dX8_part_62 kl_X8_92 rfl job_140 rfl rfl (Nat.le_of_ble_eq_true rfl) (m_onPlace p hP h48) ?_
            refine J_if_lt (pc := 65) (tgt := 71) dX8_part_65 (by decide) (fun h65 => ?_) (fun h65 => ?_)
            · 
              refine J_aload_n (pc := 71) dX8_part_71 rfl ?_
              refine K_getR (pc := 72) dX8_part_72 kf_X8_7 job_140 jrf_140_0 ?_
              refine J_iconst (pc := 75) dX8_part_75 kni_0 ?_
              refine K_ialdn (pc := 76) (id := 141) dX8_part_76 jar_141 (by decide) (by decide) ?_
              refine J_top (b := nI P) (hP) ?_
              refine J_bipush (pc := 77) dX8_part_77 knb_48 ?_
              refine Jn_ne (pc := 79) (tgt := 85) dX8_part_79 (by decide) (by omega) (by omega) (fun h79 => ?_) (fun h79 => ?_)
              · 
                refine J_aload_n (pc := 85) dX8_part_85 rfl ?_
                refine J_aload_n (pc := 86) dX8_part_86 rfl ?_
                refine K_getR (pc := 87) dX8_part_87 kf_X8_7 job_140 jrf_140_0 ?_
                refine J_iconst (pc := 90) dX8_part_90 kni_0 ?_
                refine K_ialdn (pc := 91) (id := 141) dX8_part_91 jar_141 (by decide) (by decide) ?_
                refine J_top (b := nI P) (hP) ?_
                refine K_callVp (pc := 92) (id := 140) (As := [_]) dX8_part_92 kl_X8_81 rfl job_140 rfl rfl (Nat.le_of_ble_eq_true rfl) (m_partAt (p := P)) ?_
                refine J_istore (pc := 95) (ls' := [some _, some _, some _, some _, some _, some _, some _]) dX8_part_95 rfl (Nat.le_of_ble_eq_true rfl) rfl ?_
                refine J_aload_n (pc := 97) dX8_part_97 rfl ?_
                refine K_getR (pc := 98) dX8_part_98 kf_X8_7 job_140 jrf_140_0 ?_
                refine J_iload (pc := 101) dX8_part_101 rfl ?_
                refine J_iload_n (pc := 103) dX8_part_103 rfl ?_
                refine K_iastn (pc := 104) (id := 141) dX8_part_104 jar_141 (by omega) (by decide) ?_
                refine J_aload_n (pc := 105) dX8_part_105 rfl ?_
                refine K_getR (pc := 106) dX8_part_106 kf_X8_7 job_140 jrf_140_0 ?_
                refine J_iload (pc := 109) dX8_part_109 rfl ?_
                refine J_iconst (pc := 111) dX8_part_111 kni_1 ?_
                refine J_iaddv (pc := 112) dX8_part_112 (nI_add _ _) ?_
                refine J_iload_n (pc := 113) dX8_part_113 rfl ?_
                refine K_iastn (pc := 114) (id := 141) dX8_part_114 jar_141 (by omega) (by decide) ?_
                refine J_aload_n (pc := 115) dX8_part_115 rfl ?_
                refine K_getR (pc := 116) dX8_part_116 kf_X8_7 job_140 jrf_140_0 ?_
                refine J_iload (pc := 119) dX8_part_119 rfl ?_
                refine J_iconst (pc := 121) dX8_part_121 kni_2 ?_
                refine J_iaddv (pc := 122) dX8_part_122 (nI_add _ _) ?_
                refine J_iload_n (pc := 123) dX8_part_123 rfl ?_
                refine K_iastn (pc := 124) (id := 141) dX8_part_124 jar_141 (by omega) (by decide) ?_
                refine J_aload_n (pc := 125) dX8_part_125 rfl ?_
                refine K_getR (pc := 126) dX8_part_126 kf_X8_7 job_140 jrf_140_0 ?_
                refine J_iload (pc := 129) dX8_part_129 rfl ?_
                refine J_iconst (pc := 131) dX8_part_131 kni_3 ?_
                refine J_iaddv (pc := 132) dX8_part_132 (nI_add _ _) ?_
                refine J_iload (pc := 133) dX8_part_133 rfl ?_
                refine K_iastn (pc := 135) (id := 141) dX8_part_135 jar_141 (by omega) (by decide) ?_
                refine J_aload_n (pc := 136) dX8_part_136 rfl ?_
                refine K_getR (pc := 137) dX8_part_137 kf_X8_7 job_140 jrf_140_0 ?_
                refine J_iload (pc := 140) dX8_part_140 rfl ?_
                refine J_iconst (pc := 142) dX8_part_142 kni_4 ?_
                refine J_iaddv (pc := 143) dX8_part_143 (nI_add _ _) ?_
                refine J_iload (pc := 144) dX8_part_144 rfl ?_
                refine K_iastn (pc := 146) (id := 141) dX8_part_146 jar_141 (by omega) (by decide) ?_
                refine J_aload_n (pc := 147) dX8_part_147 rfl ?_
                refine K_getR (pc := 148) dX8_part_148 kf_X8_7 job_140 jrf_140_0 ?_
                refine J_iload (pc := 151) dX8_part_151 rfl ?_
                refine J_iconst (pc := 153) dX8_part_153 kni_5 ?_
                refine J_iaddv (pc := 154) dX8_part_154 (nI_add _ _) ?_
                refine J_iconst (pc := 155) dX8_part_155 kni_0 ?_
                refine K_iastn (pc := 156) (id := 141) dX8_part_156 jar_141 (by omega) (by decide) ?_
                refine J_aload_n (pc := 157) dX8_part_157 rfl ?_
                refine K_getR (pc := 158) dX8_part_158 kf_X8_7 job_140 jrf_140_0 ?_
                refine J_iconst (pc := 161) dX8_part_161 kni_0 ?_
                refine J_dup2 (pc := 162) dX8_part_162 rfl rfl ?_
                refine K_ialdn (pc := 163) (id := 141) dX8_part_163 jar_141 (by decide) (by decide) ?_
                refine J_top (b := nI P) (by rw [mup_j (by omega), mup_j (by omega), mup_j (by omega), mup_j (by omega), mup_j (by omega), mup_j (by omega)]; exact hP) ?_
                refine J_iconst (pc := 164) dX8_part_164 kni_1 ?_
                refine J_iaddv (pc := 165) dX8_part_165 (nI_add _ _) ?_
                refine K_iastn (pc := 166) (id := 141) dX8_part_166 jar_141 (by decide) (by decide) ?_
                refine J_aload_n (pc := 167) dX8_part_167 rfl ?_
                refine J_iconst (pc := 168) dX8_part_168 kni_0 ?_
                refine K_put (pc := 169) dX8_part_169 kp_X8_67 job_140 jrf_140_33 rfl rfl ?_
                refine J_aload_n (pc := 172) dX8_part_172 rfl ?_
                refine K_getR (pc := 173) dX8_part_173 kf_X8_7 job_140 jrf_140_0 ?_
                refine J_iconst (pc := 176) dX8_part_176 kni_0 ?_
                refine K_ialdn (pc := 177) (id := 141) dX8_part_177 jar_141 (by decide) (by decide) ?_
                refine J_top (b := nI (P + 1)) (by rw [mup_i (by decide), mup_s]) ?_
                refine J_iconst (pc := 178) dX8_part_178 kni_1 ?_
                refine J_isubv (pc := 179) dX8_part_179 (pk_sub (by omega)) ?_
                refine J_top (b := nI P) (rfl) ?_
                refine K_iret (pc := 180) dX8_part_180 rfl ⟨_, rfl, ?_⟩
                show (_, _) = _
                unfold R_part
                rw [htP]
                try first | rw [if_pos h9] | rw [if_neg h9] | rw [if_neg (Classical.not_not.mpr h9)]
                try first | rw [if_pos h16] | rw [if_neg h16] | rw [if_neg (Classical.not_not.mpr h16)]
                try first | rw [if_pos h28] | rw [if_neg h28] | rw [if_neg (Classical.not_not.mpr h28)]
                try first | rw [if_pos h41] | rw [if_neg h41] | rw [if_neg (Classical.not_not.mpr h41)]
                try first | rw [if_pos h54] | rw [if_neg h54] | rw [if_neg (Classical.not_not.mpr h54)]
                try first | rw [if_pos h65] | rw [if_neg h65] | rw [if_neg (Classical.not_not.mpr h65)]
                try first | rw [if_pos h79] | rw [if_neg h79] | rw [if_neg (Classical.not_not.mpr h79)]
                try rfl
              · 
                refine J_ldc (pc := 82) dX8_part_82 kc_X8_96 ?_
                refine K_iret (pc := 84) dX8_part_84 rfl ⟨_, rfl, ?_⟩
                show (_, _) = _
                unfold R_part
                rw [htP]
                try first | rw [if_pos h9] | rw [if_neg h9] | rw [if_neg (Classical.not_not.mpr h9)]
                try first | rw [if_pos h16] | rw [if_neg h16] | rw [if_neg (Classical.not_not.mpr h16)]
                try first | rw [if_pos h28] | rw [if_neg h28] | rw [if_neg (Classical.not_not.mpr h28)]
                try first | rw [if_pos h41] | rw [if_neg h41] | rw [if_neg (Classical.not_not.mpr h41)]
                try first | rw [if_pos h54] | rw [if_neg h54] | rw [if_neg (Classical.not_not.mpr h54)]
                try first | rw [if_pos h65] | rw [if_neg h65] | rw [if_neg (Classical.not_not.mpr h65)]
                try first | rw [if_pos h79] | rw [if_neg h79] | rw [if_neg (Classical.not_not.mpr h79)]
                try rfl
            · 
              refine J_ldc (pc := 68) dX8_part_68 kc_X8_95 ?_
              refine K_iret (pc := 70) dX8_part_70 rfl ⟨_, rfl, ?_⟩
              show (_, _) = _
              unfold R_part
              rw [htP]
              try first | rw [if_pos h9] | rw [if_neg h9] | rw [if_neg (Classical.not_not.mpr h9)]
              try first | rw [if_pos h16] | rw [if_neg h16] | rw [if_neg (Classical.not_not.mpr h16)]
              try first | rw [if_pos h28] | rw [if_neg h28] | rw [if_neg (Classical.not_not.mpr h28)]
              try first | rw [if_pos h41] | rw [if_neg h41] | rw [if_neg (Classical.not_not.mpr h41)]
              try first | rw [if_pos h54] | rw [if_neg h54] | rw [if_neg (Classical.not_not.mpr h54)]
              try first | rw [if_pos h65] | rw [if_neg h65] | rw [if_neg (Classical.not_not.mpr h65)]
              try rfl
          · 
            refine J_ldc (pc := 57) dX8_part_57 kc_X8_91 ?_
            refine K_iret (pc := 59) dX8_part_59 rfl ⟨_, rfl, ?_⟩
            show (_, _) = _
            unfold R_part
            try first | rw [if_pos h9] | rw [if_neg h9] | rw [if_neg (Classical.not_not.mpr h9)]
            try first | rw [if_pos h16] | rw [if_neg h16] | rw [if_neg (Classical.not_not.mpr h16)]
            try first | rw [if_pos h28] | rw [if_neg h28] | rw [if_neg (Classical.not_not.mpr h28)]
            try first | rw [if_pos h41] | rw [if_neg h41] | rw [if_neg (Classical.not_not.mpr h41)]
            try first | rw [if_pos h54] | rw [if_neg h54] | rw [if_neg (Classical.not_not.mpr h54)]
            try rfl
def R_show (m : jm) (p w : Int32) : Int32 × jm :=
  if ¬ (nI 0 ≤ p ∧ p ≤ nI 47) then (-1000000001, m) else if ¬ (nI 0 ≤ w ∧ w ≤ nI 3) then (-1000000001, m) else if w = 0 then (finR m (tN (m 141 0)) (tN p), litM m (tN (m 141 0))) else if w = nI 1 then (m 141 (40 + tN p), litM m (tN (m 141 0))) else if w = nI 2 then (orN (onP m 141 p (tN (m 141 0))), litM m (tN (m 141 0))) else (hgtR m (tN (m 141 0)) (tN p), litM m (tN (m 141 0)))
theorem onP_c {m m' : jm} {r : Nat} {q : Int32} (h : m' r = m r) : ∀ n, onP m' r q n = onP m r q n
  | 0 => rfl
  | n + 1 => by unfold onP; rw [h, onP_c h n]
theorem lit_141 {m : jm} {P i : Nat} (h : i ≠ 147) (h2 : i ≠ 148) : litM m P i = m i := (mfill_i' h).trans (two_i h h2)
set_option maxRecDepth 100000 in
set_option maxHeartbeats 400000 in
theorem m_show {x : jX} {m : jm} {d : Nat} (p w : Int32) {P : Nat} (hP : m 141 0 = nI P) (h48 : P ≤ 48) (hplc : ∀ p, p < P → vp_in (m 141 (90 + 6 * p + 1)) 48) : Ct x (d + 3) eX8_show [.ref (jxb x + 140), .int p, .int w] m (ji fun rv m' => (rv, m') = R_show m p w) := by
  refine J_start (by decide +kernel) (Nat.le_of_ble_eq_true rfl) (ls := [some (.ref (jxb x + 140)), some (.int p), some (.int w)]) rfl rfl ?_
  have htP : tN (m 141 0) = P := by rw [hP]; exact tN_n (by omega)
  refine J_iload_n (pc := 0) dX8_show_0 rfl ?_
  refine K_callSp (pc := 1) (As := [_]) dX8_show_1 kl_X8_85 rfl rfl (Nat.le_of_ble_eq_true rfl) (m_isPlace p) ?_
  refine Jb_eq (pc := 4) (tgt := 19) dX8_show_4 (by decide) (fun h4 => ?_) (fun h4 => ?_)
  · 
    refine J_ldc (pc := 19) dX8_show_19 kc_X8_91 ?_
    refine K_iret (pc := 21) dX8_show_21 rfl ⟨_, rfl, ?_⟩
    show (_, _) = _
    unfold R_show
    try first | rw [if_pos h4] | rw [if_neg h4] | rw [if_neg (Classical.not_not.mpr h4)]
    try rfl
  · 
    refine J_iload_n (pc := 7) dX8_show_7 rfl ?_
    refine J_i2l (pc := 8) dX8_show_8 ?_
    refine J_lconst (pc := 9) (v := 0) dX8_show_9 rfl ?_
    refine J_ldc2 (pc := 10) dX8_show_10 kg_X8_77 ?_
    refine K_callSp (pc := 13) (As := [_, _, _]) dX8_show_13 kl_X8_71 rfl rfl (Nat.le_of_ble_eq_true rfl) (m_in32 (v := w) (a := nI 0) (b := nI 3) (by decide) (by decide)) ?_
    refine Jb_ne (pc := 16) (tgt := 22) dX8_show_16 (by decide) (fun h16 => ?_) (fun h16 => ?_)
    · 
      obtain ⟨q, hq, hqe⟩ := w_of h4 (by decide)
      have htq : tN p = q := by rw [hqe]; exact tN_n (by omega)
      subst hqe
      refine J_aload_n (pc := 22) dX8_show_22 rfl ?_
      refine K_callVv (pc := 23) (id := 140) (As := []) dX8_show_23 kl_X8_130 rfl job_140 rfl rfl (Nat.le_of_ble_eq_true rfl) (m_findLight (m := m) hP h48 hplc) (fun m1 h1 => ?_)
      subst h1
      refine J_iload_n (pc := 26) dX8_show_26 rfl ?_
      refine J_if_ne (pc := 27) (tgt := 39) dX8_show_27 (by decide) (fun h27 => ?_) (fun h27 => ?_)
      · 
        refine J_iload_n (pc := 39) dX8_show_39 rfl ?_
        refine J_iconst (pc := 40) dX8_show_40 kni_1 ?_
        refine J_icmp_ne (pc := 41) (tgt := 56) dX8_show_41 (by decide) (fun h41 => ?_) (fun h41 => ?_)
        · 
          refine J_iload_n (pc := 56) dX8_show_56 rfl ?_
          refine J_iconst (pc := 57) dX8_show_57 kni_2 ?_
          refine J_icmp_ne (pc := 58) (tgt := 72) dX8_show_58 (by decide) (fun h58 => ?_) (fun h58 => ?_)
          · 
            refine J_aload_n (pc := 72) dX8_show_72 rfl ?_
            refine K_getR (pc := 73) dX8_show_73 kf_X8_31 job_140 jrf_140_8 ?_
            refine J_iload_n (pc := 76) dX8_show_76 rfl ?_
            refine K_ialdn (pc := 77) (id := 148) dX8_show_77 jar_148 (by omega) (by decide) ?_
            refine J_top (b := (hgtR m P q)) ((mfill_i (by decide)).trans (two_h (by omega))) ?_
            refine K_iret (pc := 78) dX8_show_78 rfl ⟨_, rfl, ?_⟩
            show (_, _) = _
            unfold R_show
            rw [htP, htq]
            try first | rw [if_pos h4] | rw [if_neg h4] | rw [if_neg (Classical.not_not.mpr h4)]
            try first | rw [if_pos h16] | rw [if_neg h16] | rw [if_neg (Classical.not_not.mpr h16)]
            try first | rw [if_pos h27] | rw [if_neg h27] | rw [if_neg (Classical.not_not.mpr h27)]
            try first | rw [if_pos h41] | rw [if_neg h41] | rw [if_neg (Classical.not_not.mpr h41)]
            try first | rw [if_pos h58] | rw [if_neg h58] | rw [if_neg (Classical.not_not.mpr h58)]
            try rfl
          · 
            refine J_aload_n (pc := 61) dX8_show_61 rfl ?_
            refine J_iload_n (pc := 62) dX8_show_62 rfl ?_
            refine K_callVp (pc := 63) (id := 140) (As := [_]) dX8_show_63 kl_X8_92 rfl job_140 rfl rfl (Nat.le_of_ble_eq_true rfl) (m_onPlace (m := litM m P) (nI q) ((congrFun (lit_141 (by decide) (by decide)) _).trans hP) h48) ?_
            refine J_top (b := (onP m 141 (nI q) P)) (onP_c (lit_141 (by decide) (by decide)) P) ?_
            refine K_callSp (pc := 66) (As := [_]) dX8_show_66 kl_X8_133 rfl rfl (Nat.le_of_ble_eq_true rfl) (m_orNone _) ?_
            refine J_goto (pc := 69) (tgt := 78) dX8_show_69 (by decide) ?_
            refine K_iret (pc := 78) dX8_show_78 rfl ⟨_, rfl, ?_⟩
            show (_, _) = _
            unfold R_show
            rw [htP, htq]
            try first | rw [if_pos h4] | rw [if_neg h4] | rw [if_neg (Classical.not_not.mpr h4)]
            try first | rw [if_pos h16] | rw [if_neg h16] | rw [if_neg (Classical.not_not.mpr h16)]
            try first | rw [if_pos h27] | rw [if_neg h27] | rw [if_neg (Classical.not_not.mpr h27)]
            try first | rw [if_pos h41] | rw [if_neg h41] | rw [if_neg (Classical.not_not.mpr h41)]
            try first | rw [if_pos h58] | rw [if_neg h58] | rw [if_neg (Classical.not_not.mpr h58)]
            try rfl
        · 
          refine J_aload_n (pc := 44) dX8_show_44 rfl ?_
          refine K_getR (pc := 45) dX8_show_45 kf_X8_7 job_140 jrf_140_0 ?_
          refine J_bipush (pc := 48) dX8_show_48 knb_40 ?_
          refine J_iload_n (pc := 50) dX8_show_50 rfl ?_
          refine J_iaddv (pc := 51) dX8_show_51 (nI_add _ _) ?_
          refine K_ialdn (pc := 52) (id := 141) dX8_show_52 jar_141 (by omega) (by decide) ?_
          refine J_top (b := (m 141 (40 + q))) (congrFun (lit_141 (by decide) (by decide)) _) ?_
          refine J_goto (pc := 53) (tgt := 78) dX8_show_53 (by decide) ?_
          refine K_iret (pc := 78) dX8_show_78 rfl ⟨_, rfl, ?_⟩
          show (_, _) = _
          unfold R_show
          rw [htP, htq]
          try first | rw [if_pos h4] | rw [if_neg h4] | rw [if_neg (Classical.not_not.mpr h4)]
          try first | rw [if_pos h16] | rw [if_neg h16] | rw [if_neg (Classical.not_not.mpr h16)]
          try first | rw [if_pos h27] | rw [if_neg h27] | rw [if_neg (Classical.not_not.mpr h27)]
          try first | rw [if_pos h41] | rw [if_neg h41] | rw [if_neg (Classical.not_not.mpr h41)]
          try rfl
      · 
        refine J_aload_n (pc := 30) dX8_show_30 rfl ?_
        refine K_getR (pc := 31) dX8_show_31 kf_X8_28 job_140 jrf_140_7 ?_
        refine J_iload_n (pc := 34) dX8_show_34 rfl ?_
        refine K_ialdn (pc := 35) (id := 147) dX8_show_35 jar_147 (by omega) (by decide) ?_
        refine J_top (b := (finR m P q)) (mfill_lt (by omega)) ?_
        refine J_goto (pc := 36) (tgt := 78) dX8_show_36 (by decide) ?_
        refine K_iret (pc := 78) dX8_show_78 rfl ⟨_, rfl, ?_⟩
        show (_, _) = _
        unfold R_show
        rw [htP, htq]
        try first | rw [if_pos h4] | rw [if_neg h4] | rw [if_neg (Classical.not_not.mpr h4)]
        try first | rw [if_pos h16] | rw [if_neg h16] | rw [if_neg (Classical.not_not.mpr h16)]
        try first | rw [if_pos h27] | rw [if_neg h27] | rw [if_neg (Classical.not_not.mpr h27)]
        try rfl
    · 
      refine J_ldc (pc := 19) dX8_show_19 kc_X8_91 ?_
      refine K_iret (pc := 21) dX8_show_21 rfl ⟨_, rfl, ?_⟩
      show (_, _) = _
      unfold R_show
      try first | rw [if_pos h4] | rw [if_neg h4] | rw [if_neg (Classical.not_not.mpr h4)]
      try first | rw [if_pos h16] | rw [if_neg h16] | rw [if_neg (Classical.not_not.mpr h16)]
      try rfl
def newR (m : jm) (p : Nat) : Int32 := m 141 (90 + 6 * p + 5) + (if aimR m 141 p - m 141 (90 + 6 * p + 5) < 0 then -lstV (sizV (aimR m 141 p - m 141 (90 + 6 * p + 5))) (pacR m 141 p) else lstV (sizV (aimR m 141 p - m 141 (90 + 6 * p + 5))) (pacR m 141 p))
def stpR (m : jm) (P : Nat) : Nat → jm
  | 0 => wasR m P 48
  | p + 1 => mup (stpR m P p) 141 (90 + 6 * p + 5) (newR m p)
def tckR (m : jm) (P : Nat) : jm := mup (mup (stpR m P P) 141 1 (m 141 1 + nI 1)) 140 33 (nI 0)
theorem wasR_j {m : jm} {P j : Nat} (h : j < 40 ∨ 88 ≤ j) : ∀ k, k ≤ 48 → wasR m P k 141 j = m 141 j
  | 0, _ => congrFun (lit_141 (by decide) (by decide)) j
  | k + 1, hk => (mup_j (by omega)).trans (wasR_j h k (by omega))
theorem stpR_i {m : jm} {P i : Nat} (h : i ≠ 141) : ∀ p, stpR m P p i = litM m P i
  | 0 => wasR_i h 48
  | p + 1 => (mup_i' h).trans (stpR_i h p)
theorem stpR_j {m : jm} {P j : Nat} (hj : j < 40 ∨ 88 ≤ j) : ∀ p, (∀ q, q < p → j ≠ 90 + 6 * q + 5) → stpR m P p 141 j = m 141 j
  | 0, _ => wasR_j hj 48 (Nat.le_refl _)
  | p + 1, h => (mup_j (h p (by omega))).trans (stpR_j hj p (fun q hq => h q (by omega)))
theorem aimR_c' {a b : jm} {p : Nat} (hw : wfR a 141) (hp : p < 48) (h : ∀ j, j < 40 ∨ (90 + 6 * p ≤ j ∧ j ≤ 90 + 6 * p + 5) → b 141 j = a 141 j) : aimR b 141 p = aimR a 141 p := by
  have h1 := nrv_10 hw hp
  have e1 : nrv b 141 p = nrv a 141 p := by unfold nrv; rw [h _ (by omega)]
  have h2 := grp_6 hw hp
  have e2 : grp b 141 p = grp a 141 p := by unfold grp; rw [e1, h _ (by omega)]
  unfold aimR drwR
  rw [e1, e2, h _ (by omega), h _ (by omega), h _ (by omega), h _ (by omega), h _ (by omega)]
theorem wfR_c' {a b : jm} (hw : wfR a 141) (h : ∀ j, (10 ≤ j ∧ j < 40) ∨ (90 ≤ j ∧ j % 6 ≠ 5) → b 141 j = a 141 j) : wfR b 141 := ⟨fun p hp => by rw [h _ (by omega)]; exact hw.1 p hp, fun j hj => by rw [h _ (by omega)]; exact hw.2 j hj⟩
set_option maxRecDepth 100000 in
set_option maxHeartbeats 400000 in
theorem m_oneTick {x : jX} {m : jm} {d : Nat} {P : Nat} (hP : m 141 0 = nI P) (h48 : P ≤ 48) (hplc : ∀ p, p < P → vp_in (m 141 (90 + 6 * p + 1)) 48) (hw : wfR m 141) : Ct x (d + 4) eX8_oneTick [.ref (jxb x + 140)] m (jv fun m' => m' = tckR m P) := by
  refine J_start (by decide +kernel) (Nat.le_of_ble_eq_true rfl) (ls := [some (.ref (jxb x + 140)), none, none, none, none]) rfl rfl ?_
  refine J_aload_n (pc := 0) dX8_oneTick_0 rfl ?_
  refine K_callVv (pc := 1) (id := 140) (As := []) dX8_oneTick_1 kl_X8_136 rfl job_140 rfl rfl (Nat.le_of_ble_eq_true rfl) (m_wasIsLight (m := m) hP h48 hplc) (fun m1 h1 => ?_)
  subst h1
  refine J_iconst (pc := 4) dX8_oneTick_4 kni_0 ?_
  refine J_istore_n (pc := 5) (ls' := [some _, some _, none, none, none]) dX8_oneTick_5 rfl (Nat.le_of_ble_eq_true rfl) rfl ?_
  refine K_for' (pc := 6) P (fun p => [some (.ref (jxb x + 140)), some (.int (nI p)), none, none, none]) (fun p => (stpR m P p)) (by rfl) (by rfl) (fun p hp ih6 => ?_) ?_
  ·
    show K x _ _ 6 [some (.ref (jxb x + 140)), some (.int (nI p)), none, none, none] _ ((stpR m P p)) _
    have hwp : wfR (stpR m P p) 141 := wfR_c' hw (fun j hj => stpR_j (by omega) p (fun q hq => by omega))
    refine J_iload_n (pc := 6) dX8_oneTick_6 rfl ?_
    refine J_aload_n (pc := 7) dX8_oneTick_7 rfl ?_
    refine K_getR (pc := 8) dX8_oneTick_8 kf_X8_7 job_140 jrf_140_0 ?_
    refine J_iconst (pc := 11) dX8_oneTick_11 kni_0 ?_
    refine K_ialdn (pc := 12) (id := 141) dX8_oneTick_12 jar_141 (by decide) (by decide) ?_
    refine J_top (b := nI P) ((stpR_j (by omega) _ (fun q hq => by omega)).trans hP) ?_
    refine Jn_ge (pc := 13) (tgt := 78) dX8_oneTick_13 (by decide) (by omega) (by omega) (fun h13 => absurd h13 (by omega)) (fun h13 => ?_)
    refine J_aload_n (pc := 16) dX8_oneTick_16 rfl ?_
    refine J_iload_n (pc := 17) dX8_oneTick_17 rfl ?_
    refine K_callVp (pc := 18) (id := 140) (As := [_]) dX8_oneTick_18 kl_X8_81 rfl job_140 rfl rfl (Nat.le_of_ble_eq_true rfl) (m_partAt (m := (stpR m P p)) (p := p)) ?_
    refine J_iconst (pc := 21) dX8_oneTick_21 kni_5 ?_
    refine J_iaddv (pc := 22) dX8_oneTick_22 (nI_add _ _) ?_
    refine J_istore_n (pc := 23) (ls' := [some _, some _, some _, none, none]) dX8_oneTick_23 rfl (Nat.le_of_ble_eq_true rfl) rfl ?_
    refine J_aload_n (pc := 24) dX8_oneTick_24 rfl ?_
    refine J_iload_n (pc := 25) dX8_oneTick_25 rfl ?_
    refine K_callVp (pc := 26) (id := 140) (As := [_]) dX8_oneTick_26 kl_X8_107 rfl job_140 rfl rfl (Nat.le_of_ble_eq_true rfl) (m_aimOf (m := (stpR m P p)) (p := p) (by omega) hwp) ?_
    refine J_top (b := (aimR m 141 p)) (aimR_c' hw (by omega) (fun j hj => stpR_j (by omega) p (fun q hq => by omega))) ?_
    refine J_aload_n (pc := 29) dX8_oneTick_29 rfl ?_
    refine K_getR (pc := 30) dX8_oneTick_30 kf_X8_7 job_140 jrf_140_0 ?_
    refine J_iload_n (pc := 33) dX8_oneTick_33 rfl ?_
    refine K_ialdn (pc := 34) (id := 141) dX8_oneTick_34 jar_141 (by omega) (by decide) ?_
    refine J_top (b := (m 141 (90 + 6 * p + 5))) (stpR_j (by omega) p (fun q hq => by omega)) ?_
    refine J_isub (pc := 35) dX8_oneTick_35 ?_
    refine J_istore_n (pc := 36) (ls' := [some _, some _, some _, some _, none]) dX8_oneTick_36 rfl (Nat.le_of_ble_eq_true rfl) rfl ?_
    refine J_iload_n (pc := 37) dX8_oneTick_37 rfl ?_
    refine K_callSp (pc := 38) (As := [_]) dX8_oneTick_38 kl_X8_139 rfl rfl (Nat.le_of_ble_eq_true rfl) (m_size _) ?_
    refine J_aload_n (pc := 41) dX8_oneTick_41 rfl ?_
    refine J_iload_n (pc := 42) dX8_oneTick_42 rfl ?_
    refine K_callVp (pc := 43) (id := 140) (As := [_]) dX8_oneTick_43 kl_X8_110 rfl job_140 rfl rfl (Nat.le_of_ble_eq_true rfl) (m_paceOf (m := (stpR m P p)) (p := p) (by omega)) ?_
    refine J_top (b := (pacR m 141 p)) (by unfold pacR; rw [stpR_j (by omega) p (fun q hq => by omega), stpR_j (by omega) p (fun q hq => by omega)]) ?_
    refine K_callSp (pc := 46) (As := [_, _]) dX8_oneTick_46 kl_X8_100 rfl rfl (Nat.le_of_ble_eq_true rfl) (m_least _ _) ?_
    refine J_istore (pc := 49) (ls' := [some _, some _, some _, some _, some _]) dX8_oneTick_49 rfl (Nat.le_of_ble_eq_true rfl) rfl ?_
    refine J_aload_n (pc := 51) dX8_oneTick_51 rfl ?_
    refine K_getR (pc := 52) dX8_oneTick_52 kf_X8_7 job_140 jrf_140_0 ?_
    refine J_iload_n (pc := 55) dX8_oneTick_55 rfl ?_
    refine J_dup2 (pc := 56) dX8_oneTick_56 rfl rfl ?_
    refine K_ialdn (pc := 57) (id := 141) dX8_oneTick_57 jar_141 (by omega) (by decide) ?_
    refine J_top (b := (m 141 (90 + 6 * p + 5))) (stpR_j (by omega) p (fun q hq => by omega)) ?_
    refine J_iload_n (pc := 58) dX8_oneTick_58 rfl ?_
    refine J_if_ge (pc := 59) (tgt := 68) dX8_oneTick_59 (by decide) (fun h59 => ?_) (fun h59 => ?_)
    · 
      refine J_iload (pc := 68) dX8_oneTick_68 rfl ?_
      refine J_iadd (pc := 70) dX8_oneTick_70 ?_
      refine K_iastn (pc := 71) (id := 141) dX8_oneTick_71 jar_141 (by omega) (by decide) ?_
      refine Jn_iinc (pc := 72) (ls' := [some _, some _, some _, some _, some _]) dX8_oneTick_72 rfl knz_1 rfl rfl ?_
      refine J_goto (pc := 75) (tgt := 6) dX8_oneTick_75 (by decide) ?_
      have ev : newR m p = m 141 (90 + 6 * p + 5) + lstV (sizV (aimR m 141 p - m 141 (90 + 6 * p + 5))) (pacR m 141 p) := by
        unfold newR
        rw [if_neg (Int32.not_lt.mpr h59)]
      rw [← ev]
      refine J_wk' ih6 rfl ?_
      rintro (_ | _ | _ | _ | _ | k) v hv <;> first | exact hv | cases hv
    · 
      refine J_iload (pc := 62) dX8_oneTick_62 rfl ?_
      refine J_ineg (pc := 64) dX8_oneTick_64 ?_
      refine J_goto (pc := 65) (tgt := 70) dX8_oneTick_65 (by decide) ?_
      refine J_iadd (pc := 70) dX8_oneTick_70 ?_
      refine K_iastn (pc := 71) (id := 141) dX8_oneTick_71 jar_141 (by omega) (by decide) ?_
      refine Jn_iinc (pc := 72) (ls' := [some _, some _, some _, some _, some _]) dX8_oneTick_72 rfl knz_1 rfl rfl ?_
      refine J_goto (pc := 75) (tgt := 6) dX8_oneTick_75 (by decide) ?_
      have ev : newR m p = m 141 (90 + 6 * p + 5) + -lstV (sizV (aimR m 141 p - m 141 (90 + 6 * p + 5))) (pacR m 141 p) := by
        unfold newR
        rw [if_pos (Int32.not_le.mp h59)]
      rw [← ev]
      refine J_wk' ih6 rfl ?_
      rintro (_ | _ | _ | _ | _ | k) v hv <;> first | exact hv | cases hv
  ·
    show K x _ _ 6 [some (.ref (jxb x + 140)), some (.int (nI P)), none, none, none] _ ((stpR m P P)) _
    refine J_iload_n (pc := 6) dX8_oneTick_6 rfl ?_
    refine J_aload_n (pc := 7) dX8_oneTick_7 rfl ?_
    refine K_getR (pc := 8) dX8_oneTick_8 kf_X8_7 job_140 jrf_140_0 ?_
    refine J_iconst (pc := 11) dX8_oneTick_11 kni_0 ?_
    refine K_ialdn (pc := 12) (id := 141) dX8_oneTick_12 jar_141 (by decide) (by decide) ?_
    refine J_top (b := nI P) ((stpR_j (by omega) _ (fun q hq => by omega)).trans hP) ?_
    refine Jn_ge (pc := 13) (tgt := 78) dX8_oneTick_13 (by decide) (by omega) (by omega) (fun h13 => ?_) (fun h13 => absurd h13 (by omega))
    refine J_aload_n (pc := 78) dX8_oneTick_78 rfl ?_
    refine K_getR (pc := 79) dX8_oneTick_79 kf_X8_7 job_140 jrf_140_0 ?_
    refine J_iconst (pc := 82) dX8_oneTick_82 kni_1 ?_
    refine J_dup2 (pc := 83) dX8_oneTick_83 rfl rfl ?_
    refine K_ialdn (pc := 84) (id := 141) dX8_oneTick_84 jar_141 (by decide) (by decide) ?_
    refine J_top (b := (m 141 1)) (stpR_j (by omega) _ (fun q hq => by omega)) ?_
    refine J_iconst (pc := 85) dX8_oneTick_85 kni_1 ?_
    refine J_iadd (pc := 86) dX8_oneTick_86 ?_
    refine K_iastn (pc := 87) (id := 141) dX8_oneTick_87 jar_141 (by omega) (by decide) ?_
    refine J_aload_n (pc := 88) dX8_oneTick_88 rfl ?_
    refine J_iconst (pc := 89) dX8_oneTick_89 kni_0 ?_
    refine K_put (pc := 90) dX8_oneTick_90 kp_X8_67 job_140 jrf_140_33 rfl rfl ?_
    refine K_vret (pc := 93) dX8_oneTick_93 rfl ⟨rfl, rfl⟩
def tckN (m : jm) (P : Nat) : Nat → jm
  | 0 => m
  | k + 1 => tckR (tckN m P k) P
theorem tck_j {m : jm} {P j : Nat} (h : j < 40 ∨ 88 ≤ j) (h1 : j ≠ 1) (h2 : ∀ q, q < P → j ≠ 90 + 6 * q + 5) : tckR m P 141 j = m 141 j := by
  unfold tckR
  rw [mup_i (by decide), mup_j h1, stpR_j h P h2]
theorem tckN_j {m : jm} {P j : Nat} (h : j < 40 ∨ 88 ≤ j) (h1 : j ≠ 1) (h2 : ∀ q, q < P → j ≠ 90 + 6 * q + 5) : ∀ k, tckN m P k 141 j = m 141 j
  | 0 => rfl
  | k + 1 => (tck_j h h1 h2).trans (tckN_j h h1 h2 k)
theorem tck_1 {m : jm} {P : Nat} : tckR m P 141 1 = m 141 1 + nI 1 := by
  unfold tckR
  rw [mup_i (by decide), mup_s]
theorem tckN_1 {m : jm} {P : Nat} : ∀ k, tckN m P k 141 1 = m 141 1 + nI k
  | 0 => (Int32.add_zero _).symm
  | k + 1 => by
    show tckR (tckN m P k) P 141 1 = _
    rw [tck_1, tckN_1 k, Int32.add_assoc, nI_add]
theorem tck_i {m : jm} {P i : Nat} (h : i ≠ 140) (h1 : i ≠ 141) (h7 : i ≠ 147) (h8 : i ≠ 148) : tckR m P i = m i := by
  unfold tckR
  rw [mup_i' h, mup_i' h1, stpR_i h1 P, lit_141 h7 h8]
theorem tckN_i {m : jm} {P i : Nat} (h : i ≠ 140) (h1 : i ≠ 141) (h7 : i ≠ 147) (h8 : i ≠ 148) : ∀ k, tckN m P k i = m i
  | 0 => rfl
  | k + 1 => (tck_i h h1 h7 h8).trans (tckN_i h h1 h7 h8 k)
theorem tckN_w {m : jm} {P : Nat} (hw : wfR m 141) (k : Nat) : wfR (tckN m P k) 141 := wfR_c' hw (fun j hj => by
  exact tckN_j (by omega) (by omega) (fun q hq => by omega) k)
def R_tick (m : jm) (n : Int32) : Int32 × jm :=
  if ¬ (nI 1 ≤ n ∧ n ≤ nI 60) then (-1000000001, m) else if ¬ m 141 1 + n ≤ nI 9999 then (-1000000003, m) else (tckN m (tN (m 141 0)) (tN n) 141 1, tckN m (tN (m 141 0)) (tN n))
set_option maxRecDepth 100000 in
set_option maxHeartbeats 400000 in
theorem m_tick {x : jX} {m : jm} {d : Nat} (n : Int32) {P : Nat} (hP : m 141 0 = nI P) (h48 : P ≤ 48) (hplc : ∀ p, p < P → vp_in (m 141 (90 + 6 * p + 1)) 48) (hw : wfR m 141) : Ct x (d + 5) eX8_tick [.ref (jxb x + 140), .int n] m (ji fun rv m' => (rv, m') = R_tick m n) := by
  refine J_start (by decide +kernel) (Nat.le_of_ble_eq_true rfl) (ls := [some (.ref (jxb x + 140)), some (.int n), none]) rfl rfl ?_
  have htP : tN (m 141 0) = P := by rw [hP]; exact tN_n (by omega)
  refine J_iload_n (pc := 0) dX8_tick_0 rfl ?_
  refine J_i2l (pc := 1) dX8_tick_1 ?_
  refine J_lconst (pc := 2) (v := 1) dX8_tick_2 rfl ?_
  refine J_ldc2 (pc := 3) dX8_tick_3 kg_X8_142 ?_
  refine K_callSp (pc := 6) (As := [_, _, _]) dX8_tick_6 kl_X8_71 rfl rfl (Nat.le_of_ble_eq_true rfl) (m_in32 (v := n) (a := nI 1) (b := nI 60) (by decide) (by decide)) ?_
  refine Jb_ne (pc := 9) (tgt := 15) dX8_tick_9 (by decide) (fun h9 => ?_) (fun h9 => ?_)
  · 
    obtain ⟨q, hq1, hq, hqe⟩ := w_of1 h9 (by decide)
    have htq : tN n = q := by rw [hqe]; exact tN_n (by omega)
    subst hqe
    refine J_aload_n (pc := 15) dX8_tick_15 rfl ?_
    refine K_getR (pc := 16) dX8_tick_16 kf_X8_7 job_140 jrf_140_0 ?_
    refine J_iconst (pc := 19) dX8_tick_19 kni_1 ?_
    refine K_ialdn (pc := 20) (id := 141) dX8_tick_20 jar_141 (by decide) (by decide) ?_
    refine J_iload_n (pc := 21) dX8_tick_21 rfl ?_
    refine J_iadd (pc := 22) dX8_tick_22 ?_
    refine J_sipush (pc := 23) dX8_tick_23 kns_9999 ?_
    refine J_icmp_le (pc := 26) (tgt := 32) dX8_tick_26 (by decide) (fun h26 => ?_) (fun h26 => ?_)
    · 
      refine J_iconst (pc := 32) dX8_tick_32 kni_0 ?_
      refine J_istore_n (pc := 33) (ls' := [some _, some _, some _]) dX8_tick_33 rfl (Nat.le_of_ble_eq_true rfl) rfl ?_
      refine K_for' (pc := 34) q (fun k => [some (.ref (jxb x + 140)), some (.int (nI q)), some (.int (nI k))]) (fun k => (tckN m P k)) (by rfl) (by rfl) (fun k hk ih34 => ?_) ?_
      ·
        show K x _ _ 34 [some (.ref (jxb x + 140)), some (.int (nI q)), some (.int (nI k))] _ ((tckN m P k)) _
        refine J_iload_n (pc := 34) dX8_tick_34 rfl ?_
        refine J_iload_n (pc := 35) dX8_tick_35 rfl ?_
        refine Jn_ge (pc := 36) (tgt := 49) dX8_tick_36 (by decide) (by omega) (by omega) (fun h36 => absurd h36 (by omega)) (fun h36 => ?_)
        refine J_aload_n (pc := 39) dX8_tick_39 rfl ?_
        refine K_callVv (pc := 40) (id := 140) (As := []) dX8_tick_40 kl_X8_144 rfl job_140 rfl rfl (Nat.le_of_ble_eq_true rfl) (m_oneTick (m := (tckN m P k)) (P := P) ((tckN_j (by omega) (by omega) (fun q hq => by omega) k).trans hP) h48 (fun p hp => by rw [tckN_j (by omega) (by omega) (fun q hq => by omega) k]; exact hplc p hp) (tckN_w hw k)) (fun m1 h1 => ?_)
        subst h1
        refine Jn_iinc (pc := 43) (ls' := [some _, some _, some _]) dX8_tick_43 rfl knz_1 rfl rfl ?_
        refine J_goto (pc := 46) (tgt := 34) dX8_tick_46 (by decide) ?_
        exact ih34
      ·
        show K x _ _ 34 [some (.ref (jxb x + 140)), some (.int (nI q)), some (.int (nI q))] _ ((tckN m P q)) _
        refine J_iload_n (pc := 34) dX8_tick_34 rfl ?_
        refine J_iload_n (pc := 35) dX8_tick_35 rfl ?_
        refine Jn_ge (pc := 36) (tgt := 49) dX8_tick_36 (by decide) (by omega) (by omega) (fun h36 => ?_) (fun h36 => absurd h36 (by omega))
        refine J_aload_n (pc := 49) dX8_tick_49 rfl ?_
        refine K_getR (pc := 50) dX8_tick_50 kf_X8_7 job_140 jrf_140_0 ?_
        refine J_iconst (pc := 53) dX8_tick_53 kni_1 ?_
        refine K_ialdn (pc := 54) (id := 141) dX8_tick_54 jar_141 (by decide) (by decide) ?_
        refine K_iret (pc := 55) dX8_tick_55 rfl ⟨_, rfl, ?_⟩
        show (_, _) = _
        unfold R_tick
        rw [htP, htq]
        try first | rw [if_pos h9] | rw [if_neg h9] | rw [if_neg (Classical.not_not.mpr h9)]
        try first | rw [if_pos h26] | rw [if_neg h26] | rw [if_neg (Classical.not_not.mpr h26)]
        try first | rw [if_pos h36] | rw [if_neg h36] | rw [if_neg (Classical.not_not.mpr h36)]
        try rfl
    · 
      refine J_ldc (pc := 29) dX8_tick_29 kc_X8_96 ?_
      refine K_iret (pc := 31) dX8_tick_31 rfl ⟨_, rfl, ?_⟩
      show (_, _) = _
      unfold R_tick
      try first | rw [if_pos h9] | rw [if_neg h9] | rw [if_neg (Classical.not_not.mpr h9)]
      try first | rw [if_pos h26] | rw [if_neg h26] | rw [if_neg (Classical.not_not.mpr h26)]
      try rfl
  · 
    refine J_ldc (pc := 12) dX8_tick_12 kc_X8_91 ?_
    refine K_iret (pc := 14) dX8_tick_14 rfl ⟨_, rfl, ?_⟩
    show (_, _) = _
    unfold R_tick
    try first | rw [if_pos h9] | rw [if_neg h9] | rw [if_neg (Classical.not_not.mpr h9)]
    try rfl
def R_rest (m : jm) : Int32 × jm := (nI (cnt (chR (mup m 140 33 (nI 0))) (tN (m 141 0))), wasR (setR (mup m 140 33 (nI 0)) (tN (m 141 0))) (tN (m 141 0)) 48)
set_option maxRecDepth 100000 in
set_option maxHeartbeats 400000 in
theorem m_rest {x : jX} {m : jm} {d : Nat} {P : Nat} (hP : m 141 0 = nI P) (h48 : P ≤ 48) (hplc : ∀ p, p < P → vp_in (m 141 (90 + 6 * p + 1)) 48) (hw : wfR m 141) : Ct x (d + 4) eX8_rest [.ref (jxb x + 140)] m (ji fun rv m' => (rv, m') = R_rest m) := by
  refine J_start (by decide +kernel) (Nat.le_of_ble_eq_true rfl) (ls := [some (.ref (jxb x + 140)), none]) rfl rfl ?_
  have htP : tN (m 141 0) = P := by rw [hP]; exact tN_n (by omega)
  have e0 : ∀ j, (mup m 140 33 (nI 0)) 141 j = m 141 j := fun j => mup_i (by decide)
  refine J_aload_n (pc := 0) dX8_rest_0 rfl ?_
  refine J_iconst (pc := 1) dX8_rest_1 kni_0 ?_
  refine K_put (pc := 2) dX8_rest_2 kp_X8_67 job_140 jrf_140_33 rfl rfl ?_
  refine J_aload_n (pc := 5) dX8_rest_5 rfl ?_
  refine K_callVi (pc := 6) (id := 140) (As := []) dX8_rest_6 kl_X8_147 rfl job_140 rfl rfl (Nat.le_of_ble_eq_true rfl) (m_settle (m := (mup m 140 33 (nI 0))) (P := P) ((e0 0).trans hP) h48 (wfR_c hw (fun j _ => e0 j))) (fun vr mr hr => ?_)
  obtain ⟨rfl, rfl⟩ := hr
  refine J_istore_n (pc := 9) (ls' := [some _, some _]) dX8_rest_9 rfl (Nat.le_of_ble_eq_true rfl) rfl ?_
  refine J_aload_n (pc := 10) dX8_rest_10 rfl ?_
  refine K_callVv (pc := 11) (id := 140) (As := []) dX8_rest_11 kl_X8_136 rfl job_140 rfl rfl (Nat.le_of_ble_eq_true rfl) (m_wasIsLight (m := setR (mup m 140 33 (nI 0)) P) (P := P) ((setR_j _ (fun q hq => by omega)).trans ((e0 0).trans hP)) h48 (fun p hp => by rw [setR_j _ (fun q hq => by omega), e0]; exact hplc p hp)) (fun m2 h2 => ?_)
  subst h2
  refine J_iload_n (pc := 14) dX8_rest_14 rfl ?_
  refine K_iret (pc := 15) dX8_rest_15 rfl ⟨_, rfl, ?_⟩
  show (_, _) = _
  unfold R_rest
  rw [htP]
