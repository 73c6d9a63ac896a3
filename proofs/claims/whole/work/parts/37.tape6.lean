/-- the reader's state: open signs, code (the last first), operands, whether a piece is wanted -/
abbrev rST : Type := List Int32 × List Int32 × Nat × Bool
def rIs (z : rST) (m : jm) : Prop := TS z.1 z.2.1 m ∧ m 70 8 = nI z.2.2.1 ∧ m 70 13 = jb (z.2.2.2 = true)
def sRes (z : Option rST) (m m' : jm) (v : Int32) : Prop := tFr m m' ∧ ∃ c : Prop, v = jbp c ∧ (¬ c → z = none) ∧ (c → ∃ y, z = some y ∧ rIs y m')
theorem sRes_no {z : Option rST} {m m' : jm} (hf : tFr m m') (h : z = none) : sRes z m m' (nI 0) := ⟨hf, False, jbpF id, fun _ => h, False.elim⟩
theorem sRes_ok {z : Option rST} {m m' : jm} {y : rST} (hf : tFr m m') (h : z = some y) (hi : rIs y m') : sRes z m m' (nI 1) := ⟨hf, True, jbpT trivial, fun q => absurd trivial q, fun _ => ⟨y, h, hi⟩⟩
def opn (v : Int32) (O C : List Int32) (k : Nat) : Option rST := if (v :: O).count (nI 33) ≤ 8 ∧ (v :: O).count (nI 40) ≤ 8 then some (v :: O, C, k, true) else none
noncomputable def pceS (t : Nat → Int32) (s e nm : Nat) (O C : List Int32) (k : Nat) : Option rST :=
  if dB (t s) = true then (if e - s ≤ 4 then some ((enp O (numV t s (e - s) :: C)).1, (enp O (numV t s (e - s) :: C)).2, k + 1, false) else none)
  else if lB (t s) = true then (if e - s = 1 ∧ ¬ ixV nm (t s) < 0 then some ((enp O ((-1 - ixV nm (t s)) :: C)).1, (enp O ((-1 - ixV nm (t s)) :: C)).2, k + 1, false) else none)
  else if t s = nI 33 ∨ t s = nI 40 then opn (t s) O C k else none
theorem TS_open {O C : List Int32} {mm M : jm} {v : Int32} (h : TS O C mm) (h1 : M 70 10 = nI (O.length + 1)) (h2 : M 73 = mup mm 73 O.length v 73) (h3 : M 70 7 = mm 70 7) (h4 : M 72 = mm 72) (h5 : M 70 12 = nI ((v :: O).count (nI 33))) (h6 : M 70 11 = nI ((v :: O).count (nI 40))) : TS (v :: O) C M := by
  obtain ⟨a1, a2, a3, a4, a5, a6⟩ := h
  exact ⟨by rw [h1, List.length_cons], by rw [h2]; exact stk_push (c := 73) a2 v, by rw [h3]; exact a3, by rw [h4]; exact a4, h5, h6⟩
theorem let_c {v : Int32} (h : lB v = true) : ∃ c, c < 128 ∧ v = nI c := by
  obtain ⟨h1, h2⟩ := lB_iff.mp h
  rw [Int32.le_iff_toInt_le, nI_toInt (by decide)] at h1 h2
  refine ⟨v.toInt.toNat, by omega, Int32.toInt_inj.mp ?_⟩
  rw [nI_toInt (by omega)]
  omega
theorem chr_n {c : Nat} (h : c < 128) : ((nI c).toUInt32 % 65536).toInt32 = nI c := by
  have : ∀ c, c < 128 → ((nI c).toUInt32 % 65536).toInt32 = nI c := by decide +kernel
  exact this c h
theorem ltn1 {v : Int32} : ¬ v < nI 0 ↔ ¬ v < 0 := Iff.rfl
set_option maxRecDepth 100000 in
set_option maxHeartbeats 400000 in
theorem c_readPiece {x : jX} {m : jm} {d : Nat} {s e nm k : Nat} {O C : List Int32} (hs : m 70 2 = nI s) (he : m 70 3 = nI e) (hse : s < e) (he96 : e ≤ 96) (hnm : m 70 4 = nI nm) (hnm5 : nm < 5) (hnl : (jsb nm).length = 4) (hT : TS O C m) (hlc : C.length + O.length < 96) (hk : m 70 8 = nI k) (hwt : m 70 13 = jb (true = true)) : Ct x (d + 4) eX5_readPiece [.ref (jxb x + 70)] m (ji fun v m' => sRes (pceS (m 71) s e nm O C k) m m' v) := by
  refine J_start (by decide +kernel) (Nat.le_of_ble_eq_true rfl) (ls := [some (.ref (jxb x + 70)), none]) rfl rfl ?_
  have k33 : O.count (nI 33) ≤ O.length := List.count_le_length
  have k40 : O.count (nI 40) ≤ O.length := List.count_le_length
  refine J_aload_n (pc := 0) dX5_readPiece_0 rfl ?_
  refine J_aload_n (pc := 1) dX5_readPiece_1 rfl ?_
  refine K_getI (pc := 2) dX5_readPiece_2 kf_X5_19 job_70 jrf_70_2 ?_
  refine J_top (b := nI s) (hs) ?_
  refine K_callVp (pc := 5) (id := 70) (As := [_]) dX5_readPiece_5 kl_X5_90 rfl job_70 rfl rfl (Nat.le_of_ble_eq_true rfl) (c_isDigit (i := s) (by omega)) ?_
  refine Jb_eq (pc := 8) (tgt := 41) dX5_readPiece_8 (by decide) (fun h8 => ?_) (fun h8 => ?_)
  · 
    refine J_aload_n (pc := 41) dX5_readPiece_41 rfl ?_
    refine J_aload_n (pc := 42) dX5_readPiece_42 rfl ?_
    refine K_getI (pc := 43) dX5_readPiece_43 kf_X5_19 job_70 jrf_70_2 ?_
    refine J_top (b := nI s) (hs) ?_
    refine K_callVp (pc := 46) (id := 70) (As := [_]) dX5_readPiece_46 kl_X5_86 rfl job_70 rfl rfl (Nat.le_of_ble_eq_true rfl) (c_isLetter (i := s) (by omega)) ?_
    refine Jb_eq (pc := 49) (tgt := 107) dX5_readPiece_49 (by decide) (fun h49 => ?_) (fun h49 => ?_)
    · 
      refine J_aload_n (pc := 107) dX5_readPiece_107 rfl ?_
      refine K_getR (pc := 108) dX5_readPiece_108 kf_X5_9 job_70 jrf_70_0 ?_
      refine J_aload_n (pc := 111) dX5_readPiece_111 rfl ?_
      refine K_getI (pc := 112) dX5_readPiece_112 kf_X5_19 job_70 jrf_70_2 ?_
      refine J_top (b := nI s) (hs) ?_
      refine K_baldn (pc := 115) (id := 71) dX5_readPiece_115 jar_71 (by omega) (by decide) ?_
      refine J_bipush (pc := 116) dX5_readPiece_116 knb_33 ?_
      refine J_icmp_ne (pc := 118) (tgt := 134) dX5_readPiece_118 (by decide) (fun h118 => ?_) (fun h118 => ?_)
      · 
        refine J_aload_n (pc := 134) dX5_readPiece_134 rfl ?_
        refine K_getR (pc := 135) dX5_readPiece_135 kf_X5_9 job_70 jrf_70_0 ?_
        refine J_aload_n (pc := 138) dX5_readPiece_138 rfl ?_
        refine K_getI (pc := 139) dX5_readPiece_139 kf_X5_19 job_70 jrf_70_2 ?_
        refine J_top (b := nI s) (hs) ?_
        refine K_baldn (pc := 142) (id := 71) dX5_readPiece_142 jar_71 (by omega) (by decide) ?_
        refine J_bipush (pc := 143) dX5_readPiece_143 knb_40 ?_
        refine J_icmp_ne (pc := 145) (tgt := 161) dX5_readPiece_145 (by decide) (fun h145 => ?_) (fun h145 => ?_)
        · 
          refine J_iconst (pc := 161) dX5_readPiece_161 kni_0 ?_
          refine K_zret (pc := 162) dX5_readPiece_162 rfl rfl ⟨_, rfl, ?_⟩
          exact sRes_no (tFr_rf m) ((if_neg h8).trans ((if_neg h49).trans (if_neg (fun q => q.elim h118 h145))))
        · 
          refine J_aload_n (pc := 148) dX5_readPiece_148 rfl ?_
          refine J_dup (pc := 149) dX5_readPiece_149 rfl ?_
          have c33 : (nI 40 :: O).count (nI 33) = O.count (nI 33) := List.count_cons_of_ne (by decide)
          have c40 : (nI 40 :: O).count (nI 40) = O.count (nI 40) + 1 := List.count_cons_self
          refine K_getI (pc := 150) dX5_readPiece_150 kf_X5_50 job_70 jrf_70_11 ?_
          refine J_top (b := nI (O.count (nI 40))) (hT.2.2.2.2.2) ?_
          refine J_iconst (pc := 153) dX5_readPiece_153 kni_1 ?_
          refine J_iaddv (pc := 154) dX5_readPiece_154 (nI_add _ _) ?_
          refine K_put (pc := 155) dX5_readPiece_155 kp_X5_50 job_70 jrf_70_11 rfl rfl ?_
          refine J_goto (pc := 158) (tgt := 163) dX5_readPiece_158 (by decide) ?_
          refine J_aload_n (pc := 163) dX5_readPiece_163 rfl ?_
          refine J_aload_n (pc := 164) dX5_readPiece_164 rfl ?_
          refine K_getR (pc := 165) dX5_readPiece_165 kf_X5_9 job_70 jrf_70_0 ?_
          refine J_aload_n (pc := 168) dX5_readPiece_168 rfl ?_
          refine K_getI (pc := 169) dX5_readPiece_169 kf_X5_19 job_70 jrf_70_2 ?_
          refine J_top (b := nI s) (by rw [mup_j (by decide)]; exact hs) ?_
          refine K_baldn (pc := 172) (id := 71) dX5_readPiece_172 jar_71 (by omega) (by decide) ?_
          refine J_top (b := m 71 s) (by rw [mup_i (by decide)]) ?_
          refine K_callVv (pc := 173) (id := 70) (As := [_]) dX5_readPiece_173 kl_X5_127 rfl job_70 rfl rfl (Nat.le_of_ble_eq_true rfl) (c_hold (n := O.length) (w := m 71 s) (by rw [mup_j (by decide)]; exact hT.1) (by omega)) (fun m173 h173 => ?_)
          subst h173
          refine J_aload_n (pc := 176) dX5_readPiece_176 rfl ?_
          refine K_getI (pc := 177) dX5_readPiece_177 kf_X5_53 job_70 jrf_70_12 ?_
          refine J_top (b := nI (O.count (nI 33))) (by rw [mup_i (by decide), mup_j (by decide), mup_j (by decide)]; exact hT.2.2.2.2.1) ?_
          refine J_bipush (pc := 180) dX5_readPiece_180 knb_8 ?_
          refine Jn_gt (pc := 182) (tgt := 198) dX5_readPiece_182 (by decide) (by omega) (by omega) (fun h182 => ?_) (fun h182 => ?_)
          · 
            refine J_iconst (pc := 198) dX5_readPiece_198 kni_0 ?_
            refine K_zret (pc := 199) dX5_readPiece_199 rfl rfl ⟨_, rfl, ?_⟩
            have hop : pceS (m 71) s e nm O C k = opn (m 71 s) O C k := (if_neg h8).trans ((if_neg h49).trans (if_pos (Or.inr h145)))
            exact sRes_no (tFr_73 (tFr_70 (tFr_70 (tFr_rf m) (by decide)) (by decide))) (hop.trans (if_neg (fun q => by rw [h145] at q; simp only [c33, c40] at q; omega)))
          · 
            refine J_aload_n (pc := 185) dX5_readPiece_185 rfl ?_
            refine K_getI (pc := 186) dX5_readPiece_186 kf_X5_50 job_70 jrf_70_11 ?_
            refine J_top (b := nI (O.count (nI 40) + 1)) (by rw [mup_i (by decide), mup_j (by decide), mup_s]) ?_
            refine J_bipush (pc := 189) dX5_readPiece_189 knb_8 ?_
            refine Jn_gt (pc := 191) (tgt := 198) dX5_readPiece_191 (by decide) (by omega) (by omega) (fun h191 => ?_) (fun h191 => ?_)
            · 
              refine J_iconst (pc := 198) dX5_readPiece_198 kni_0 ?_
              refine K_zret (pc := 199) dX5_readPiece_199 rfl rfl ⟨_, rfl, ?_⟩
              have hop : pceS (m 71) s e nm O C k = opn (m 71 s) O C k := (if_neg h8).trans ((if_neg h49).trans (if_pos (Or.inr h145)))
              exact sRes_no (tFr_73 (tFr_70 (tFr_70 (tFr_rf m) (by decide)) (by decide))) (hop.trans (if_neg (fun q => by rw [h145] at q; simp only [c33, c40] at q; omega)))
            · 
              refine J_iconst (pc := 194) dX5_readPiece_194 kni_1 ?_
              refine J_goto (pc := 195) (tgt := 199) dX5_readPiece_195 (by decide) ?_
              refine K_zret (pc := 199) dX5_readPiece_199 rfl rfl ⟨_, rfl, ?_⟩
              have hop : pceS (m 71) s e nm O C k = opn (m 71 s) O C k := (if_neg h8).trans ((if_neg h49).trans (if_pos (Or.inr h145)))
              refine sRes_ok (tFr_73 (tFr_70 (tFr_70 (tFr_rf m) (by decide)) (by decide))) (hop.trans (if_pos (by rw [h145, c33, c40]; omega))) ⟨?_, ?_, ?_⟩
              · rw [h145]
                exact TS_open hT (by rw [mup_i (by decide), mup_s]) (by rw [mup_row, mup_row, mup_i' (by decide), mup_i' (by decide)]) (by rw [mup_i (by decide), mup_j (by decide), mup_j (by decide)]) (by rw [mup_i' (by decide), mup_i' (by decide), mup_i' (by decide)]) (by rw [mup_i (by decide), mup_j (by decide), mup_j (by decide), c33]; exact hT.2.2.2.2.1) (by rw [mup_i (by decide), mup_j (by decide), mup_s, c40])
              · rw [mup_i (by decide), mup_j (by decide), mup_j (by decide)]; exact hk
              · rw [mup_i (by decide), mup_j (by decide), mup_j (by decide)]; exact hwt
      · 
        refine J_aload_n (pc := 121) dX5_readPiece_121 rfl ?_
        refine J_dup (pc := 122) dX5_readPiece_122 rfl ?_
        have c33 : (nI 33 :: O).count (nI 33) = O.count (nI 33) + 1 := List.count_cons_self
        have c40 : (nI 33 :: O).count (nI 40) = O.count (nI 40) := List.count_cons_of_ne (by decide)
        refine K_getI (pc := 123) dX5_readPiece_123 kf_X5_53 job_70 jrf_70_12 ?_
        refine J_top (b := nI (O.count (nI 33))) (hT.2.2.2.2.1) ?_
        refine J_iconst (pc := 126) dX5_readPiece_126 kni_1 ?_
        refine J_iaddv (pc := 127) dX5_readPiece_127 (nI_add _ _) ?_
        refine K_put (pc := 128) dX5_readPiece_128 kp_X5_53 job_70 jrf_70_12 rfl rfl ?_
        refine J_goto (pc := 131) (tgt := 163) dX5_readPiece_131 (by decide) ?_
        refine J_aload_n (pc := 163) dX5_readPiece_163 rfl ?_
        refine J_aload_n (pc := 164) dX5_readPiece_164 rfl ?_
        refine K_getR (pc := 165) dX5_readPiece_165 kf_X5_9 job_70 jrf_70_0 ?_
        refine J_aload_n (pc := 168) dX5_readPiece_168 rfl ?_
        refine K_getI (pc := 169) dX5_readPiece_169 kf_X5_19 job_70 jrf_70_2 ?_
        refine J_top (b := nI s) (by rw [mup_j (by decide)]; exact hs) ?_
        refine K_baldn (pc := 172) (id := 71) dX5_readPiece_172 jar_71 (by omega) (by decide) ?_
        refine J_top (b := m 71 s) (by rw [mup_i (by decide)]) ?_
        refine K_callVv (pc := 173) (id := 70) (As := [_]) dX5_readPiece_173 kl_X5_127 rfl job_70 rfl rfl (Nat.le_of_ble_eq_true rfl) (c_hold (n := O.length) (w := m 71 s) (by rw [mup_j (by decide)]; exact hT.1) (by omega)) (fun m173 h173 => ?_)
        subst h173
        refine J_aload_n (pc := 176) dX5_readPiece_176 rfl ?_
        refine K_getI (pc := 177) dX5_readPiece_177 kf_X5_53 job_70 jrf_70_12 ?_
        refine J_top (b := nI (O.count (nI 33) + 1)) (by rw [mup_i (by decide), mup_j (by decide), mup_s]) ?_
        refine J_bipush (pc := 180) dX5_readPiece_180 knb_8 ?_
        refine Jn_gt (pc := 182) (tgt := 198) dX5_readPiece_182 (by decide) (by omega) (by omega) (fun h182 => ?_) (fun h182 => ?_)
        · 
          refine J_iconst (pc := 198) dX5_readPiece_198 kni_0 ?_
          refine K_zret (pc := 199) dX5_readPiece_199 rfl rfl ⟨_, rfl, ?_⟩
          have hop : pceS (m 71) s e nm O C k = opn (m 71 s) O C k := (if_neg h8).trans ((if_neg h49).trans (if_pos (Or.inl h118)))
          exact sRes_no (tFr_73 (tFr_70 (tFr_70 (tFr_rf m) (by decide)) (by decide))) (hop.trans (if_neg (fun q => by rw [h118] at q; simp only [c33, c40] at q; omega)))
        · 
          refine J_aload_n (pc := 185) dX5_readPiece_185 rfl ?_
          refine K_getI (pc := 186) dX5_readPiece_186 kf_X5_50 job_70 jrf_70_11 ?_
          refine J_top (b := nI (O.count (nI 40))) (by rw [mup_i (by decide), mup_j (by decide), mup_j (by decide)]; exact hT.2.2.2.2.2) ?_
          refine J_bipush (pc := 189) dX5_readPiece_189 knb_8 ?_
          refine Jn_gt (pc := 191) (tgt := 198) dX5_readPiece_191 (by decide) (by omega) (by omega) (fun h191 => ?_) (fun h191 => ?_)
          · 
            refine J_iconst (pc := 198) dX5_readPiece_198 kni_0 ?_
            refine K_zret (pc := 199) dX5_readPiece_199 rfl rfl ⟨_, rfl, ?_⟩
            have hop : pceS (m 71) s e nm O C k = opn (m 71 s) O C k := (if_neg h8).trans ((if_neg h49).trans (if_pos (Or.inl h118)))
            exact sRes_no (tFr_73 (tFr_70 (tFr_70 (tFr_rf m) (by decide)) (by decide))) (hop.trans (if_neg (fun q => by rw [h118] at q; simp only [c33, c40] at q; omega)))
          · 
            refine J_iconst (pc := 194) dX5_readPiece_194 kni_1 ?_
            refine J_goto (pc := 195) (tgt := 199) dX5_readPiece_195 (by decide) ?_
            refine K_zret (pc := 199) dX5_readPiece_199 rfl rfl ⟨_, rfl, ?_⟩
            have hop : pceS (m 71) s e nm O C k = opn (m 71 s) O C k := (if_neg h8).trans ((if_neg h49).trans (if_pos (Or.inl h118)))
            refine sRes_ok (tFr_73 (tFr_70 (tFr_70 (tFr_rf m) (by decide)) (by decide))) (hop.trans (if_pos (by rw [h118, c33, c40]; omega))) ⟨?_, ?_, ?_⟩
            · rw [h118]
              exact TS_open hT (by rw [mup_i (by decide), mup_s]) (by rw [mup_row, mup_row, mup_i' (by decide), mup_i' (by decide)]) (by rw [mup_i (by decide), mup_j (by decide), mup_j (by decide)]) (by rw [mup_i' (by decide), mup_i' (by decide), mup_i' (by decide)]) (by rw [mup_i (by decide), mup_j (by decide), mup_s, c33]) (by rw [mup_i (by decide), mup_j (by decide), mup_j (by decide), c40]; exact hT.2.2.2.2.2)
            · rw [mup_i (by decide), mup_j (by decide), mup_j (by decide)]; exact hk
            · rw [mup_i (by decide), mup_j (by decide), mup_j (by decide)]; exact hwt
    · 
      refine J_aload_n (pc := 52) dX5_readPiece_52 rfl ?_
      refine K_getI (pc := 53) dX5_readPiece_53 kf_X5_22 job_70 jrf_70_3 ?_
      refine J_top (b := nI e) (he) ?_
      refine J_aload_n (pc := 56) dX5_readPiece_56 rfl ?_
      refine K_getI (pc := 57) dX5_readPiece_57 kf_X5_19 job_70 jrf_70_2 ?_
      refine J_top (b := nI s) (hs) ?_
      refine J_isubv (pc := 60) dX5_readPiece_60 (pk_sub (by omega)) ?_
      refine J_iconst (pc := 61) dX5_readPiece_61 kni_1 ?_
      refine Jn_ne (pc := 62) (tgt := 85) dX5_readPiece_62 (by decide) (by omega) (by omega) (fun h62 => ?_) (fun h62 => ?_)
      · 
        refine J_iconst (pc := 85) dX5_readPiece_85 kni_m1 ?_
        refine J_istore_n (pc := 86) (ls' := [some _, some _]) dX5_readPiece_86 rfl (Nat.le_of_ble_eq_true rfl) rfl ?_
        refine J_iload_n (pc := 87) dX5_readPiece_87 rfl ?_
        refine J_if_lt (pc := 88) (tgt := 105) dX5_readPiece_88 (by decide) (fun h88 => ?_) (fun h88 => (absurd (by decide) h88))
        refine J_iconst (pc := 105) dX5_readPiece_105 kni_0 ?_
        refine K_zret (pc := 106) dX5_readPiece_106 rfl rfl ⟨_, rfl, ?_⟩
        exact sRes_no (tFr_rf m) ((if_neg h8).trans ((if_pos h49).trans (if_neg (fun q => by have := q.1; omega))))
      · 
        refine J_aload_n (pc := 65) dX5_readPiece_65 rfl ?_
        refine K_getS (pc := 66) dX5_readPiece_66 kf_X5_27 job_70 jrf_70_4 ?_
        obtain ⟨cc, hc8, hcc⟩ := let_c h49
        rw [show (m 70 4).toNatClampNeg = nm from by rw [hnm]; exact nI_clamp (by omega)]
        refine J_aload_n (pc := 69) dX5_readPiece_69 rfl ?_
        refine K_getR (pc := 70) dX5_readPiece_70 kf_X5_9 job_70 jrf_70_0 ?_
        refine J_aload_n (pc := 73) dX5_readPiece_73 rfl ?_
        refine K_getI (pc := 74) dX5_readPiece_74 kf_X5_19 job_70 jrf_70_2 ?_
        refine J_top (b := nI s) (hs) ?_
        refine K_baldn (pc := 77) (id := 71) dX5_readPiece_77 jar_71 (by omega) (by decide) ?_
        refine J_top (b := nI cc) (hcc) ?_
        refine J_i2c (pc := 78) dX5_readPiece_78 rfl ?_
        refine J_top (b := nI cc) (chr_n hc8) ?_
        refine K_callTp (pc := 79) (j := nm) (As := [_]) dX5_readPiece_79 kl_X5_123 rfl hnm5 rfl rfl (Nat.le_of_ble_eq_true rfl) (c_indexOf hnm5 hnl hc8) ?_
        refine J_goto (pc := 82) (tgt := 86) dX5_readPiece_82 (by decide) ?_
        refine J_istore_n (pc := 86) (ls' := [some _, some _]) dX5_readPiece_86 rfl (Nat.le_of_ble_eq_true rfl) rfl ?_
        refine J_iload_n (pc := 87) dX5_readPiece_87 rfl ?_
        refine J_if_lt (pc := 88) (tgt := 105) dX5_readPiece_88 (by decide) (fun h88 => ?_) (fun h88 => ?_)
        · 
          refine J_iconst (pc := 105) dX5_readPiece_105 kni_0 ?_
          refine K_zret (pc := 106) dX5_readPiece_106 rfl rfl ⟨_, rfl, ?_⟩
          exact sRes_no (tFr_rf m) ((if_neg h8).trans ((if_pos h49).trans (if_neg (fun q => q.2 (by rw [hcc]; exact h88)))))
        · 
          refine J_aload_n (pc := 91) dX5_readPiece_91 rfl ?_
          refine J_iconst (pc := 92) dX5_readPiece_92 kni_m1 ?_
          refine J_iload_n (pc := 93) dX5_readPiece_93 rfl ?_
          refine J_isub (pc := 94) dX5_readPiece_94 ?_
          refine K_callVi (pc := 95) (id := 70) (As := [_]) dX5_readPiece_95 kl_X5_120 rfl job_70 rfl rfl (Nat.le_of_ble_eq_true rfl) (c_putOperand (w := -1 - ixV nm (nI cc)) hT hlc hk) (fun v95 m95 h95 => ?_)
          obtain ⟨rfl, q95, f95, k95, w95⟩ := h95
          refine Jn_if_eq (pc := 98) (tgt := 105) dX5_readPiece_98 (by decide) (by omega) (fun h98 => absurd h98 (by omega)) (fun h98 => ?_)
          refine J_iconst (pc := 101) dX5_readPiece_101 kni_1 ?_
          refine J_goto (pc := 102) (tgt := 106) dX5_readPiece_102 (by decide) ?_
          refine K_zret (pc := 106) dX5_readPiece_106 rfl rfl ⟨_, rfl, ?_⟩
          refine sRes_ok f95 ((if_neg h8).trans ((if_pos h49).trans (if_pos ⟨by omega, by rw [hcc]; exact h88⟩))) ?_
          rw [hcc]
          exact ⟨q95, k95, w95⟩
  · 
    refine J_aload_n (pc := 11) dX5_readPiece_11 rfl ?_
    refine K_getI (pc := 12) dX5_readPiece_12 kf_X5_22 job_70 jrf_70_3 ?_
    refine J_top (b := nI e) (he) ?_
    refine J_aload_n (pc := 15) dX5_readPiece_15 rfl ?_
    refine K_getI (pc := 16) dX5_readPiece_16 kf_X5_19 job_70 jrf_70_2 ?_
    refine J_top (b := nI s) (hs) ?_
    refine J_isubv (pc := 19) dX5_readPiece_19 (pk_sub (by omega)) ?_
    refine J_iconst (pc := 20) dX5_readPiece_20 kni_4 ?_
    refine Jn_gt (pc := 21) (tgt := 39) dX5_readPiece_21 (by decide) (by omega) (by omega) (fun h21 => ?_) (fun h21 => ?_)
    · 
      refine J_iconst (pc := 39) dX5_readPiece_39 kni_0 ?_
      refine K_zret (pc := 40) dX5_readPiece_40 rfl rfl ⟨_, rfl, ?_⟩
      exact sRes_no (tFr_rf m) ((if_pos h8).trans (if_neg (by omega)))
    · 
      refine J_aload_n (pc := 24) dX5_readPiece_24 rfl ?_
      refine J_aload_n (pc := 25) dX5_readPiece_25 rfl ?_
      refine K_callVp (pc := 26) (id := 70) (As := []) dX5_readPiece_26 kl_X5_117 rfl job_70 rfl rfl (Nat.le_of_ble_eq_true rfl) (c_number hs he (by omega) he96) ?_
      refine K_callVi (pc := 29) (id := 70) (As := [_]) dX5_readPiece_29 kl_X5_120 rfl job_70 rfl rfl (Nat.le_of_ble_eq_true rfl) (c_putOperand (w := numV (m 71) s (e - s)) hT hlc hk) (fun v29 m29 h29 => ?_)
      obtain ⟨rfl, q29, f29, k29, w29⟩ := h29
      refine Jn_if_eq (pc := 32) (tgt := 39) dX5_readPiece_32 (by decide) (by omega) (fun h32 => absurd h32 (by omega)) (fun h32 => ?_)
      refine J_iconst (pc := 35) dX5_readPiece_35 kni_1 ?_
      refine J_goto (pc := 36) (tgt := 40) dX5_readPiece_36 (by decide) ?_
      refine K_zret (pc := 40) dX5_readPiece_40 rfl rfl ⟨_, rfl, ?_⟩
      exact sRes_ok f29 ((if_pos h8).trans (if_pos (by omega))) ⟨q29, k29, w29⟩
