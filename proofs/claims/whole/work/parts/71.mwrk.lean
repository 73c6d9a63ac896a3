/-- the names as they are, for the words of a text -/
def nmdT (m : jm) (t n : Nat) (a b c dd : Int32) : Prop := ∀ k, k < n → wdR m t k = nI 1 → m 151 (tN (wvR m t k)) = nmV (nmc (wvR m t k)) a b c dd
theorem cdW_0 {w v : Int32} (h : w = nI 0) : cdW w v = v := if_pos h
theorem cdW_1 {w v : Int32} (h : w = nI 1) : cdW w v = nmc v := (if_neg (by rw [h]; decide)).trans (if_pos h)
theorem cdW_2 {w v : Int32} (h : w = nI 2) : cdW w v = -v := (if_neg (by rw [h]; decide)).trans (if_neg (by rw [h]; decide))
theorem okS_2 {k w v : Int32} (h : okS k w v) (h2 : w = nI 2) : isSg v := by
  rcases h with h | h | h
  · exact absurd (h2.symm.trans h.1) (by decide)
  · exact absurd (h2.symm.trans h.1) (by decide)
  · exact h.2
theorem okS_0 {k w v : Int32} (h : okS k w v) (h2 : w = nI 0) : 0 ≤ v := by
  rcases h with h | h | h
  · exact h.2
  · exact absurd (h2.symm.trans h.1) (by decide)
  · exact absurd (h2.symm.trans h.1) (by decide)
theorem okS_1 {k w v : Int32} (h : okS k w v) (h2 : ¬ w = nI 2) (h0 : ¬ w = nI 0) : w = nI 1 ∧ isNm k v := by
  rcases h with h | h | h
  · exact absurd h.1 h0
  · exact h
  · exact absurd h.1 h2
theorem isSg_b {v : Int32} (h : isSg v) (h3 : ¬ v = nI 33) : v = nI 38 ∨ v = nI 42 ∨ v = nI 43 ∨ v = nI 45 ∨ v = nI 47 ∨ v = nI 60 ∨ v = nI 61 ∨ v = nI 62 ∨ v = nI 124 := h.resolve_left h3
set_option maxRecDepth 100000 in
set_option maxHeartbeats 400000 in
theorem m_worked {x : jX} {m : jm} {d : Nat} {t n : Nat} {key : Int32} (ht : t < 14) (hn : m 141 (440 + 200 * t + 3) = nI n) (hn96 : n ≤ 96) (hokw : ∀ k, k < n → okS key (wdR m t k) (wvR m t k)) (hwf : wfC (cdR m t) n) (a b c dd : Int32) (hnm : nmdT m t n a b c dd) : Ct x (d + 1) eX8_worked [.ref (jxb x + 140), .int (nI t)] m (ji fun v m' => v = worthV (cdR m t) n a b c dd ∧ exs [152] m m') := by
  refine J_start (by decide +kernel) (Nat.le_of_ble_eq_true rfl) (ls := [some (.ref (jxb x + 140)), some (.int (nI t)), none, none, none, none]) rfl rfl ?_
  refine J_iconst (pc := 0) dX8_worked_0 kni_0 ?_
  refine J_istore_n (pc := 1) (ls' := [some _, some _, some _, none, none, none]) dX8_worked_1 rfl (Nat.le_of_ble_eq_true rfl) rfl ?_
  refine J_iconst (pc := 2) dX8_worked_2 kni_0 ?_
  refine J_istore_n (pc := 3) (ls' := [some _, some _, some _, some _, none, none]) dX8_worked_3 rfl (Nat.le_of_ble_eq_true rfl) rfl ?_
  refine K_inv (pc := 4) n (fun i lsq mq => ∃ (k : Nat), lsq = [some (.ref (jxb x + 140)), some (.int (nI t)), some (.int (nI k)), some (.int (nI i)), none, none] ∧ (stkR (wrun a b c dd (cdR m t) i) k (mq 152)) ∧ (exs [152] m mq)) (fun i hi lsq mm hI4 ih4 => ?_) (fun lsq mm hI4 => ?_) 0 (Nat.zero_le _) _ _ (⟨0, rfl, ⟨rfl, fun j hj => absurd hj (Nat.not_lt_zero _)⟩, exs_rf _ _⟩)
  ·
    obtain ⟨k, rfl, hst, hex⟩ := hI4
    have hd := wrun_len hwf.1 a b c dd i (by omega)
    have hdl := dep_le (cdR m t) i
    have hki : k ≤ i := by rw [hst.1, hd]; exact hdl
    have e141 := hex 141 (by decide)
    have hok := hokw i hi
    refine J_iload_n (pc := 4) dX8_worked_4 rfl ?_
    refine J_aload_n (pc := 5) dX8_worked_5 rfl ?_
    refine K_getR (pc := 6) dX8_worked_6 kf_X8_7 job_140 jrf_140_0 ?_
    refine J_aload_n (pc := 9) dX8_worked_9 rfl ?_
    refine J_iload_n (pc := 10) dX8_worked_10 rfl ?_
    refine K_callVp (pc := 11) (id := 140) (As := [_]) dX8_worked_11 kl_X8_262 rfl job_140 rfl rfl (Nat.le_of_ble_eq_true rfl) (m_textAt (m := mm) (t := t)) ?_
    refine J_iconst (pc := 14) dX8_worked_14 kni_3 ?_
    refine J_iaddv (pc := 15) dX8_worked_15 (nI_add _ _) ?_
    refine K_ialdn (pc := 16) (id := 141) dX8_worked_16 jar_141 (by omega) (by decide) ?_
    refine J_top (b := nI n) (by rw [hex 141 (by decide)]; exact hn) ?_
    refine Jn_ge (pc := 17) (tgt := 163) dX8_worked_17 (by decide) (by omega) (by omega) (fun h17 => absurd h17 (by omega)) (fun h17 => ?_)
    refine J_aload_n (pc := 20) dX8_worked_20 rfl ?_
    refine K_getR (pc := 21) dX8_worked_21 kf_X8_7 job_140 jrf_140_0 ?_
    refine J_aload_n (pc := 24) dX8_worked_24 rfl ?_
    refine J_iload_n (pc := 25) dX8_worked_25 rfl ?_
    refine K_callVp (pc := 26) (id := 140) (As := [_]) dX8_worked_26 kl_X8_262 rfl job_140 rfl rfl (Nat.le_of_ble_eq_true rfl) (m_textAt (m := mm) (t := t)) ?_
    refine J_iconst (pc := 29) dX8_worked_29 kni_4 ?_
    refine J_iaddv (pc := 30) dX8_worked_30 (nI_add _ _) ?_
    refine J_iconst (pc := 31) dX8_worked_31 kni_2 ?_
    refine J_iload_n (pc := 32) dX8_worked_32 rfl ?_
    refine J_imulv (pc := 33) dX8_worked_33 (pk_mul _ _) ?_
    refine J_iaddv (pc := 34) dX8_worked_34 (nI_add _ _) ?_
    refine K_ialdn (pc := 35) (id := 141) dX8_worked_35 jar_141 (by omega) (by decide) ?_
    refine J_top (b := (wdR m t i)) (congrFun e141 _) ?_
    refine J_istore (pc := 36) (ls' := [some _, some _, some _, some _, some _, none]) dX8_worked_36 rfl (Nat.le_of_ble_eq_true rfl) rfl ?_
    refine J_aload_n (pc := 38) dX8_worked_38 rfl ?_
    refine K_getR (pc := 39) dX8_worked_39 kf_X8_7 job_140 jrf_140_0 ?_
    refine J_aload_n (pc := 42) dX8_worked_42 rfl ?_
    refine J_iload_n (pc := 43) dX8_worked_43 rfl ?_
    refine K_callVp (pc := 44) (id := 140) (As := [_]) dX8_worked_44 kl_X8_262 rfl job_140 rfl rfl (Nat.le_of_ble_eq_true rfl) (m_textAt (m := mm) (t := t)) ?_
    refine J_iconst (pc := 47) dX8_worked_47 kni_4 ?_
    refine J_iaddv (pc := 48) dX8_worked_48 (nI_add _ _) ?_
    refine J_iconst (pc := 49) dX8_worked_49 kni_2 ?_
    refine J_iload_n (pc := 50) dX8_worked_50 rfl ?_
    refine J_imulv (pc := 51) dX8_worked_51 (pk_mul _ _) ?_
    refine J_iaddv (pc := 52) dX8_worked_52 (nI_add _ _) ?_
    refine J_iconst (pc := 53) dX8_worked_53 kni_1 ?_
    refine J_iaddv (pc := 54) dX8_worked_54 (nI_add _ _) ?_
    refine K_ialdn (pc := 55) (id := 141) dX8_worked_55 jar_141 (by omega) (by decide) ?_
    refine J_top (b := (wvR m t i)) (congrFun e141 _) ?_
    refine J_istore (pc := 56) (ls' := [some _, some _, some _, some _, some _, some _]) dX8_worked_56 rfl (Nat.le_of_ble_eq_true rfl) rfl ?_
    refine J_iload (pc := 58) dX8_worked_58 rfl ?_
    refine J_iconst (pc := 60) dX8_worked_60 kni_2 ?_
    refine J_icmp_eq (pc := 61) (tgt := 93) dX8_worked_61 (by decide) (fun h61 => ?_) (fun h61 => ?_)
    · 
      refine J_iload (pc := 93) dX8_worked_93 rfl ?_
      refine J_bipush (pc := 95) dX8_worked_95 knb_33 ?_
      refine J_icmp_ne (pc := 97) (tgt := 127) dX8_worked_97 (by decide) (fun h97 => ?_) (fun h97 => ?_)
      · 
        have ec : cdR m t i = -(wvR m t i) := cdW_2 h61
        have hsg := isSg_in (okS_2 hok h61)
        have n33 : ¬ cdR m t i = -33 := by rw [ec]; exact hsg.2.2.2 h97
        have hdp : 2 ≤ k := by
          have q := hwf.1 i hi (Int32.not_le.mpr (by rw [ec]; exact hsg.2.1))
          rw [if_neg n33] at q
          rw [← hd, ← hst.1] at q
          exact q
        have u2x : ∃ u v t2, wrun a b c dd (cdR m t) i = u :: v :: t2 := by
          cases hl : wrun a b c dd (cdR m t) i with
          | nil => have q := hst.1; rw [hl] at q; simp at q; omega
          | cons u t2 =>
            cases t2 with
            | nil => have q := hst.1; rw [hl] at q; simp at q; omega
            | cons v t3 => exact ⟨u, v, t3, rfl⟩
        refine J_iinc (pc := 127) (v := nI (k - 1)) (ls' := [some _, some _, some _, some _, some _, some _]) dX8_worked_127 rfl (jdec (by omega)) rfl rfl ?_
        refine J_aload_n (pc := 130) dX8_worked_130 rfl ?_
        refine K_getR (pc := 131) dX8_worked_131 kf_X8_43 job_140 jrf_140_23 ?_
        refine J_iload_n (pc := 134) dX8_worked_134 rfl ?_
        refine J_iconst (pc := 135) dX8_worked_135 kni_1 ?_
        refine J_isubv (pc := 136) dX8_worked_136 (pk_sub (by omega)) ?_
        refine J_iload (pc := 137) dX8_worked_137 rfl ?_
        refine J_aload_n (pc := 139) dX8_worked_139 rfl ?_
        refine K_getR (pc := 140) dX8_worked_140 kf_X8_43 job_140 jrf_140_23 ?_
        refine J_iload_n (pc := 143) dX8_worked_143 rfl ?_
        refine J_iconst (pc := 144) dX8_worked_144 kni_1 ?_
        refine J_isubv (pc := 145) dX8_worked_145 (pk_sub (by omega)) ?_
        refine K_ialdn (pc := 146) (id := 152) dX8_worked_146 jar_152 (by omega) (by decide) ?_
        refine J_aload_n (pc := 147) dX8_worked_147 rfl ?_
        refine K_getR (pc := 148) dX8_worked_148 kf_X8_43 job_140 jrf_140_23 ?_
        refine J_iload_n (pc := 151) dX8_worked_151 rfl ?_
        refine K_ialdn (pc := 152) (id := 152) dX8_worked_152 jar_152 (by omega) (by decide) ?_
        refine K_callSp (pc := 153) (As := [_, _, _]) dX8_worked_153 kl_X8_283 rfl rfl (Nat.le_of_ble_eq_true rfl) (m_joined _ _ _ (isSg_b (okS_2 hok h61) h97)) ?_
        refine K_iastn (pc := 156) (id := 152) dX8_worked_156 jar_152 (by omega) (by decide) ?_
        refine Jn_iinc (pc := 157) (ls' := [some _, some _, some _, some _, some _, some _]) dX8_worked_157 rfl knz_1 rfl rfl ?_
        refine J_goto (pc := 160) (tgt := 4) dX8_worked_160 (by decide) ?_
        obtain ⟨u1, u2, t1, hl⟩ := u2x
        rw [hl] at hst
        obtain ⟨hk1, hv1, hs1⟩ := stk_top (L := t1) hst
        obtain ⟨hk2, hv2, hs2⟩ := stk_top (L := t1) hs1
        have ev := wrun_bin (code := cdR m t) (i := i) (by rw [ec]; exact hsg.1) (by rw [ec]; exact hsg.2.1) n33 hl
        have eneg : -(cdR m t i) = wvR m t i := by rw [ec]; exact hsg.2.2.1
        rw [eneg] at ev
        refine J_wk' (ih4 [some (.ref (jxb x + 140)), some (.int (nI t)), some (.int (nI (k - 1))), some (.int (nI (i + 1))), none, none] _ ⟨k - 1, rfl, ?_, exs_up hex (by decide)⟩) rfl ?_
        · rw [ev]
          have hs3 := stk_push (mm := mm) (c := 152) hs2 (joinedV (wvR m t i) u2 u1)
          rw [show k - 1 - 1 + 1 = k - 1 by omega] at hs3
          rw [hv1, hv2]
          exact hs3
        · rintro (_ | _ | _ | _ | _ | _ | k) v hv <;> first | exact hv | cases hv
      · 
        have ec : cdR m t i = -(wvR m t i) := cdW_2 h61
        have hsg := isSg_in (okS_2 hok h61)
        have e33 : cdR m t i = -33 := by rw [ec, h97]; decide
        have hdp : 1 ≤ k := by
          have q := hwf.1 i hi (Int32.not_le.mpr (by rw [ec]; exact hsg.2.1))
          rw [if_pos e33] at q
          rw [← hd, ← hst.1] at q
          exact q
        have u1x : ∃ u t2, wrun a b c dd (cdR m t) i = u :: t2 := by
          cases hl : wrun a b c dd (cdR m t) i with
          | nil => have q := hst.1; rw [hl] at q; simp at q; omega
          | cons u t2 => exact ⟨u, t2, rfl⟩
        refine J_aload_n (pc := 100) dX8_worked_100 rfl ?_
        refine K_getR (pc := 101) dX8_worked_101 kf_X8_43 job_140 jrf_140_23 ?_
        refine J_iload_n (pc := 104) dX8_worked_104 rfl ?_
        refine J_iconst (pc := 105) dX8_worked_105 kni_1 ?_
        refine J_isubv (pc := 106) dX8_worked_106 (pk_sub (by omega)) ?_
        refine J_aload_n (pc := 107) dX8_worked_107 rfl ?_
        refine K_getR (pc := 108) dX8_worked_108 kf_X8_43 job_140 jrf_140_23 ?_
        refine J_iload_n (pc := 111) dX8_worked_111 rfl ?_
        refine J_iconst (pc := 112) dX8_worked_112 kni_1 ?_
        refine J_isubv (pc := 113) dX8_worked_113 (pk_sub (by omega)) ?_
        refine K_ialdn (pc := 114) (id := 152) dX8_worked_114 jar_152 (by omega) (by decide) ?_
        refine K_merge (jc := 123) (ls' := [some (.ref (jxb x + 140)), some (.int (nI t)), some (.int (nI k)), some (.int (nI i)), some (.int ((wdR m t i))), some (.int ((wvR m t i)))]) (st' := [.int (jb (mm 152 (k - 1) = 0)), .int (nI (k - 1)), .ref (jxb x + 152)]) (m' := mm) ?_ (fun hj123 => ?_)
        ·
          refine K_iastn (pc := 123) (id := 152) dX8_worked_123 jar_152 (by omega) (by decide) ?_
          refine J_goto (pc := 124) (tgt := 157) dX8_worked_124 (by decide) ?_
          refine Jn_iinc (pc := 157) (ls' := [some _, some _, some _, some _, some _, some _]) dX8_worked_157 rfl knz_1 rfl rfl ?_
          refine J_goto (pc := 160) (tgt := 4) dX8_worked_160 (by decide) ?_
          obtain ⟨u1, t1, hl⟩ := u1x
          rw [hl] at hst
          obtain ⟨hk1, hv1, hs1⟩ := stk_top (L := t1) hst
          have ev := wrun_not e33 hl
          refine J_wk' (ih4 [some (.ref (jxb x + 140)), some (.int (nI t)), some (.int (nI k)), some (.int (nI (i + 1))), none, none] _ ⟨k, rfl, ?_, exs_up hex (by decide)⟩) rfl ?_
          · rw [ev]
            have hs2 := stk_push (mm := mm) (c := 152) hs1 (jb (u1 = 0))
            rw [show k - 1 + 1 = k by omega] at hs2
            have hj : jb (mm 152 (k - 1) = 0) = jb (u1 = 0) := by rw [hv1]
            rw [hj]
            exact hs2
          · rintro (_ | _ | _ | _ | _ | _ | k) v hv <;> first | exact hv | cases hv
        ·
          refine J_if_ne (pc := 115) (tgt := 122) dX8_worked_115 (by decide) (fun h115 => ?_) (fun h115 => ?_)
          · 
            refine J_iconst (pc := 122) dX8_worked_122 kni_0 ?_
            have e123 : jb (mm 152 (k - 1) = 0) = nI 0 := if_neg h115
            rw [e123] at hj123
            exact hj123
          · 
            refine J_iconst (pc := 118) dX8_worked_118 kni_1 ?_
            refine J_goto (pc := 119) (tgt := 123) dX8_worked_119 (by decide) ?_
            have e123 : jb (mm 152 (k - 1) = 0) = nI 1 := if_pos h115
            rw [e123] at hj123
            exact hj123
    · 
      refine J_aload_n (pc := 64) dX8_worked_64 rfl ?_
      refine K_getR (pc := 65) dX8_worked_65 kf_X8_43 job_140 jrf_140_23 ?_
      refine J_iload_n (pc := 68) dX8_worked_68 rfl ?_
      refine J_iload (pc := 69) dX8_worked_69 rfl ?_
      refine J_if_ne (pc := 71) (tgt := 79) dX8_worked_71 (by decide) (fun h71 => ?_) (fun h71 => ?_)
      · 
        have hnk := okS_1 hok h61 h71
        have h1 := hnk.1
        refine J_aload_n (pc := 79) dX8_worked_79 rfl ?_
        refine K_getR (pc := 80) dX8_worked_80 kf_X8_40 job_140 jrf_140_22 ?_
        refine J_iload (pc := 83) dX8_worked_83 rfl ?_
        refine K_iald (pc := 85) (id := 151) dX8_worked_85 jar_151 (isNm_in hnk.2) ?_
        refine J_top (b := (nmV (nmc (wvR m t i)) a b c dd)) (by rw [hex 151 (by decide)]; exact hnm i hi h1) ?_
        refine K_iastn (pc := 86) (id := 152) dX8_worked_86 jar_152 (by omega) (by decide) ?_
        refine Jn_iinc (pc := 87) (ls' := [some _, some _, some _, some _, some _, some _]) dX8_worked_87 rfl knz_1 rfl rfl ?_
        refine J_goto (pc := 90) (tgt := 157) dX8_worked_90 (by decide) ?_
        refine Jn_iinc (pc := 157) (ls' := [some _, some _, some _, some _, some _, some _]) dX8_worked_157 rfl knz_1 rfl rfl ?_
        refine J_goto (pc := 160) (tgt := 4) dX8_worked_160 (by decide) ?_
        have ec : cdR m t i = nmc (wvR m t i) := cdW_1 h1
        have ev := wrun_name (a := a) (b := b) (c := c) (d := dd) (code := cdR m t) (i := i) (by rw [ec]; exact (nmc_in _).1) (by rw [ec]; exact (nmc_in _).2) (show _ = nmV (nmc (wvR m t i)) a b c dd from by rw [ec])
        refine J_wk' (ih4 [some (.ref (jxb x + 140)), some (.int (nI t)), some (.int (nI (k + 1))), some (.int (nI (i + 1))), none, none] _ ⟨k + 1, rfl, by rw [ev]; exact stk_push hst _, exs_up hex (by decide)⟩) rfl ?_
        rintro (_ | _ | _ | _ | _ | _ | k) v hv <;> first | exact hv | cases hv
      · 
        refine J_iload (pc := 74) dX8_worked_74 rfl ?_
        refine J_goto (pc := 76) (tgt := 86) dX8_worked_76 (by decide) ?_
        refine K_iastn (pc := 86) (id := 152) dX8_worked_86 jar_152 (by omega) (by decide) ?_
        refine Jn_iinc (pc := 87) (ls' := [some _, some _, some _, some _, some _, some _]) dX8_worked_87 rfl knz_1 rfl rfl ?_
        refine J_goto (pc := 90) (tgt := 157) dX8_worked_90 (by decide) ?_
        refine Jn_iinc (pc := 157) (ls' := [some _, some _, some _, some _, some _, some _]) dX8_worked_157 rfl knz_1 rfl rfl ?_
        refine J_goto (pc := 160) (tgt := 4) dX8_worked_160 (by decide) ?_
        have ec : cdR m t i = wvR m t i := cdW_0 h71
        have ev := wrun_push (a := a) (b := b) (c := c) (d := dd) (code := cdR m t) (i := i) (by rw [ec]; exact Int32.not_lt.mpr (okS_0 hok h71))
        rw [ec] at ev
        refine J_wk' (ih4 [some (.ref (jxb x + 140)), some (.int (nI t)), some (.int (nI (k + 1))), some (.int (nI (i + 1))), none, none] _ ⟨k + 1, rfl, by rw [ev]; exact stk_push hst _, exs_up hex (by decide)⟩) rfl ?_
        rintro (_ | _ | _ | _ | _ | _ | k) v hv <;> first | exact hv | cases hv
  ·
    obtain ⟨k, rfl, hst, hex⟩ := hI4
    refine J_iload_n (pc := 4) dX8_worked_4 rfl ?_
    refine J_aload_n (pc := 5) dX8_worked_5 rfl ?_
    refine K_getR (pc := 6) dX8_worked_6 kf_X8_7 job_140 jrf_140_0 ?_
    refine J_aload_n (pc := 9) dX8_worked_9 rfl ?_
    refine J_iload_n (pc := 10) dX8_worked_10 rfl ?_
    refine K_callVp (pc := 11) (id := 140) (As := [_]) dX8_worked_11 kl_X8_262 rfl job_140 rfl rfl (Nat.le_of_ble_eq_true rfl) (m_textAt (m := mm) (t := t)) ?_
    refine J_iconst (pc := 14) dX8_worked_14 kni_3 ?_
    refine J_iaddv (pc := 15) dX8_worked_15 (nI_add _ _) ?_
    refine K_ialdn (pc := 16) (id := 141) dX8_worked_16 jar_141 (by omega) (by decide) ?_
    refine J_top (b := nI n) (by rw [hex 141 (by decide)]; exact hn) ?_
    refine Jn_ge (pc := 17) (tgt := 163) dX8_worked_17 (by decide) (by omega) (by omega) (fun h17 => ?_) (fun h17 => absurd h17 (by omega))
    refine J_aload_n (pc := 163) dX8_worked_163 rfl ?_
    refine K_getR (pc := 164) dX8_worked_164 kf_X8_43 job_140 jrf_140_23 ?_
    refine J_iconst (pc := 167) dX8_worked_167 kni_0 ?_
    refine K_ialdn (pc := 168) (id := 152) dX8_worked_168 jar_152 (by decide) (by decide) ?_
    refine K_iret (pc := 169) dX8_worked_169 rfl ⟨_, rfl, ?_⟩
    have hd := wrun_len hwf.1 a b c dd n (Nat.le_refl _)
    rw [hwf.2] at hd
    obtain ⟨hk, hs⟩ := hst
    rw [hd] at hk
    subst hk
    have h0 := hs 0 (by decide)
    refine ⟨?_, hex⟩
    unfold worthV
    cases hl : wrun a b c dd (cdR m t) n with
    | nil => rw [hl] at hd; simp at hd
    | cons u t2 =>
      rw [hl] at h0
      exact (Option.some.inj h0).symm
def nmM (m : jm) (g a b c e : Int32) : jm := if g = nI 6 then mup (mup (mup (mup m 151 100 a) 151 103 b) 151 109 c) 151 99 e else mup (mup (mup (mup m 151 108 a) 151 114 b) 151 101 c) 151 98 e
theorem nmM_i {m : jm} {g a b c e : Int32} {i : Nat} (h : i ≠ 151) : nmM m g a b c e i = m i := by
  unfold nmM
  by_cases q : g = nI 6
  · rw [if_pos q, mup_i' h, mup_i' h, mup_i' h, mup_i' h]
  · rw [if_neg q, mup_i' h, mup_i' h, mup_i' h, mup_i' h]
theorem nmM_n {m : jm} {g a b c e v : Int32} (h : isNm g v) : nmM m g a b c e 151 (tN v) = nmV (nmc v) a b c e := by
  unfold nmM
  rcases h with ⟨q, h⟩ | ⟨q, h⟩
  · rw [if_pos q]
    rcases h with h | h | h | h <;> subst h
    · exact (mup_j (by decide)).trans ((mup_j (by decide)).trans ((mup_j (by decide)).trans mup_s))
    · exact (mup_j (by decide)).trans ((mup_j (by decide)).trans mup_s)
    · exact (mup_j (by decide)).trans mup_s
    · exact mup_s
  · rw [if_neg q]
    rcases h with h | h | h | h <;> subst h
    · exact (mup_j (by decide)).trans ((mup_j (by decide)).trans ((mup_j (by decide)).trans mup_s))
    · exact (mup_j (by decide)).trans ((mup_j (by decide)).trans mup_s)
    · exact (mup_j (by decide)).trans mup_s
    · exact mup_s
set_option maxRecDepth 100000 in
set_option maxHeartbeats 400000 in
theorem m_nameAll {x : jX} {m : jm} {d : Nat} (g a b c e : Int32) : Ct x d eX8_nameAll [.ref (jxb x + 140), .int g, .int a, .int b, .int c, .int e] m (jv fun m' => m' = nmM m g a b c e) := by
  refine J_start (by decide +kernel) (Nat.le_of_ble_eq_true rfl) (ls := [some (.ref (jxb x + 140)), some (.int g), some (.int a), some (.int b), some (.int c), some (.int e)]) rfl rfl ?_
  refine J_aload_n (pc := 0) dX8_nameAll_0 rfl ?_
  refine K_getR (pc := 1) dX8_nameAll_1 kf_X8_40 job_140 jrf_140_22 ?_
  refine J_iload_n (pc := 4) dX8_nameAll_4 rfl ?_
  refine J_bipush (pc := 5) dX8_nameAll_5 knb_6 ?_
  refine J_icmp_ne (pc := 7) (tgt := 15) dX8_nameAll_7 (by decide) (fun h7 => ?_) (fun h7 => ?_)
  · 
    refine J_bipush (pc := 15) dX8_nameAll_15 knb_108 ?_
    refine J_iload_n (pc := 17) dX8_nameAll_17 rfl ?_
    refine K_iastn (pc := 18) (id := 151) dX8_nameAll_18 jar_151 (by decide) (by decide) ?_
    refine J_aload_n (pc := 19) dX8_nameAll_19 rfl ?_
    refine K_getR (pc := 20) dX8_nameAll_20 kf_X8_40 job_140 jrf_140_22 ?_
    refine J_iload_n (pc := 23) dX8_nameAll_23 rfl ?_
    refine J_bipush (pc := 24) dX8_nameAll_24 knb_6 ?_
    refine J_icmp_ne (pc := 26) (tgt := 34) dX8_nameAll_26 (by decide) (fun h26 => ?_) (fun h26 => absurd h26 (h7))
    refine J_bipush (pc := 34) dX8_nameAll_34 knb_114 ?_
    refine J_iload_n (pc := 36) dX8_nameAll_36 rfl ?_
    refine K_iastn (pc := 37) (id := 151) dX8_nameAll_37 jar_151 (by decide) (by decide) ?_
    refine J_aload_n (pc := 38) dX8_nameAll_38 rfl ?_
    refine K_getR (pc := 39) dX8_nameAll_39 kf_X8_40 job_140 jrf_140_22 ?_
    refine J_iload_n (pc := 42) dX8_nameAll_42 rfl ?_
    refine J_bipush (pc := 43) dX8_nameAll_43 knb_6 ?_
    refine J_icmp_ne (pc := 45) (tgt := 53) dX8_nameAll_45 (by decide) (fun h45 => ?_) (fun h45 => absurd h45 (h7))
    refine J_bipush (pc := 53) dX8_nameAll_53 knb_101 ?_
    refine J_iload (pc := 55) dX8_nameAll_55 rfl ?_
    refine K_iastn (pc := 57) (id := 151) dX8_nameAll_57 jar_151 (by decide) (by decide) ?_
    refine J_aload_n (pc := 58) dX8_nameAll_58 rfl ?_
    refine K_getR (pc := 59) dX8_nameAll_59 kf_X8_40 job_140 jrf_140_22 ?_
    refine J_iload_n (pc := 62) dX8_nameAll_62 rfl ?_
    refine J_bipush (pc := 63) dX8_nameAll_63 knb_6 ?_
    refine J_icmp_ne (pc := 65) (tgt := 73) dX8_nameAll_65 (by decide) (fun h65 => ?_) (fun h65 => absurd h65 (h7))
    refine J_bipush (pc := 73) dX8_nameAll_73 knb_98 ?_
    refine J_iload (pc := 75) dX8_nameAll_75 rfl ?_
    refine K_iastn (pc := 77) (id := 151) dX8_nameAll_77 jar_151 (by decide) (by decide) ?_
    refine K_vret (pc := 78) dX8_nameAll_78 rfl ⟨rfl, ?_⟩
    unfold nmM
    exact (if_neg h7).symm
  · 
    refine J_bipush (pc := 10) dX8_nameAll_10 knb_100 ?_
    refine J_goto (pc := 12) (tgt := 17) dX8_nameAll_12 (by decide) ?_
    refine J_iload_n (pc := 17) dX8_nameAll_17 rfl ?_
    refine K_iastn (pc := 18) (id := 151) dX8_nameAll_18 jar_151 (by decide) (by decide) ?_
    refine J_aload_n (pc := 19) dX8_nameAll_19 rfl ?_
    refine K_getR (pc := 20) dX8_nameAll_20 kf_X8_40 job_140 jrf_140_22 ?_
    refine J_iload_n (pc := 23) dX8_nameAll_23 rfl ?_
    refine J_bipush (pc := 24) dX8_nameAll_24 knb_6 ?_
    refine J_icmp_ne (pc := 26) (tgt := 34) dX8_nameAll_26 (by decide) (fun h26 => absurd h26 (fun z => z h7)) (fun h26 => ?_)
    refine J_bipush (pc := 29) dX8_nameAll_29 knb_103 ?_
    refine J_goto (pc := 31) (tgt := 36) dX8_nameAll_31 (by decide) ?_
    refine J_iload_n (pc := 36) dX8_nameAll_36 rfl ?_
    refine K_iastn (pc := 37) (id := 151) dX8_nameAll_37 jar_151 (by decide) (by decide) ?_
    refine J_aload_n (pc := 38) dX8_nameAll_38 rfl ?_
    refine K_getR (pc := 39) dX8_nameAll_39 kf_X8_40 job_140 jrf_140_22 ?_
    refine J_iload_n (pc := 42) dX8_nameAll_42 rfl ?_
    refine J_bipush (pc := 43) dX8_nameAll_43 knb_6 ?_
    refine J_icmp_ne (pc := 45) (tgt := 53) dX8_nameAll_45 (by decide) (fun h45 => absurd h45 (fun z => z h7)) (fun h45 => ?_)
    refine J_bipush (pc := 48) dX8_nameAll_48 knb_109 ?_
    refine J_goto (pc := 50) (tgt := 55) dX8_nameAll_50 (by decide) ?_
    refine J_iload (pc := 55) dX8_nameAll_55 rfl ?_
    refine K_iastn (pc := 57) (id := 151) dX8_nameAll_57 jar_151 (by decide) (by decide) ?_
    refine J_aload_n (pc := 58) dX8_nameAll_58 rfl ?_
    refine K_getR (pc := 59) dX8_nameAll_59 kf_X8_40 job_140 jrf_140_22 ?_
    refine J_iload_n (pc := 62) dX8_nameAll_62 rfl ?_
    refine J_bipush (pc := 63) dX8_nameAll_63 knb_6 ?_
    refine J_icmp_ne (pc := 65) (tgt := 73) dX8_nameAll_65 (by decide) (fun h65 => absurd h65 (fun z => z h7)) (fun h65 => ?_)
    refine J_bipush (pc := 68) dX8_nameAll_68 knb_99 ?_
    refine J_goto (pc := 70) (tgt := 75) dX8_nameAll_70 (by decide) ?_
    refine J_iload (pc := 75) dX8_nameAll_75 rfl ?_
    refine K_iastn (pc := 77) (id := 151) dX8_nameAll_77 jar_151 (by decide) (by decide) ?_
    refine K_vret (pc := 78) dX8_nameAll_78 rfl ⟨rfl, ?_⟩
    unfold nmM
    exact (if_pos h7).symm
/-- what a text gives -/
def txV (m : jm) (tx a b c e : Int32) : Int32 := worthV (cdR m (tN tx)) (tN (m 141 (440 + 200 * tN tx + 3))) a b c e
theorem cdR_c {m m' : jm} (h : m' 141 = m 141) (t : Nat) : cdR m' t = cdR m t := by
  funext k
  unfold cdR wdR wvR
  rw [h]
theorem sndT_c {m m' : jm} {t : Nat} (h : ∀ j, 440 ≤ j → m' 141 j = m 141 j) (hs : sndT m t) : sndT m' t := by
  obtain ⟨n, h1, h2, h3, h4⟩ := hs
  have e : cdR m' t = cdR m t := by
    funext k
    unfold cdR wdR wvR
    rw [h _ (by omega), h _ (by omega)]
  exact ⟨n, h1, by rw [h _ (by omega)]; exact h2, fun k hk => by unfold wdR wvR; rw [h _ (by omega), h _ (by omega), h _ (by omega)]; exact h3 k hk, by rw [e]; exact h4⟩
theorem m_workedV {x : jX} {m : jm} {d : Nat} {tx : Int32} {t : Nat} (ht : t < 14) (e : tx = nI t) (hs : sndT m t) (a b c dd : Int32) (hnm : ∀ v, isNm (m 141 (440 + 200 * t)) v → m 151 (tN v) = nmV (nmc v) a b c dd) : Ct x (d + 1) eX8_worked [.ref (jxb x + 140), .int tx] m (ji fun v m' => v = txV m tx a b c dd ∧ exs [152] m m') := by
  obtain ⟨n, h1, h2, h3, h4⟩ := hs
  subst e
  have h := m_worked (x := x) (m := m) (d := d) ht h2 h1 h3 h4 a b c dd (fun k hk h1 => hnm _ (okS_1 (h3 k hk) (by rw [h1]; decide) (by rw [h1]; decide)).2)
  refine Ct_mono (fun r m' q => ?_) h
  obtain ⟨v, rfl, q1, q2⟩ := q
  refine ⟨v, rfl, ?_, q2⟩
  rw [q1]
  unfold txV
  rw [tN_n (by omega), h2, tN_n (by omega)]
set_option maxRecDepth 100000 in
set_option maxHeartbeats 400000 in
theorem m_gives {x : jX} {m : jm} {d : Nat} (g a b c e : Int32) {T : Nat} (hT : m 141 6 = nI T) (hT14 : T ≤ 14) (hS : ∀ t, t < T → sndT m t) : Ct x (d + 2) eX8_gives [.ref (jxb x + 140), .int g, .int a, .int b, .int c, .int e] m (ji fun rv m' => exs [151, 152] m m' ∧ rv = if ¬ (nI 0 ≤ g ∧ g ≤ nI 6) then -1000000001 else if cntR m g T < 0 then -1000000005 else txV m (cntR m g T) a b c e) := by
  refine J_start (by decide +kernel) (Nat.le_of_ble_eq_true rfl) (ls := [some (.ref (jxb x + 140)), some (.int g), some (.int a), some (.int b), some (.int c), some (.int e), none]) rfl rfl ?_
  refine J_iload_n (pc := 0) dX8_gives_0 rfl ?_
  refine J_i2l (pc := 1) dX8_gives_1 ?_
  refine J_lconst (pc := 2) (v := 0) dX8_gives_2 rfl ?_
  refine J_ldc2 (pc := 3) dX8_gives_3 kg_X8_278 ?_
  refine K_callSp (pc := 6) (As := [_, _, _]) dX8_gives_6 kl_X8_71 rfl rfl (Nat.le_of_ble_eq_true rfl) (m_in32 (v := g) (a := nI 0) (b := nI 6) (by decide) (by decide)) ?_
  refine Jb_ne (pc := 9) (tgt := 15) dX8_gives_9 (by decide) (fun h9 => ?_) (fun h9 => ?_)
  · 
    refine J_aload_n (pc := 15) dX8_gives_15 rfl ?_
    refine J_iload_n (pc := 16) dX8_gives_16 rfl ?_
    refine K_callVp (pc := 17) (id := 140) (As := [_]) dX8_gives_17 kl_X8_280 rfl job_140 rfl rfl (Nat.le_of_ble_eq_true rfl) (m_counts hT hT14 g) ?_
    refine J_istore (pc := 20) (ls' := [some _, some _, some _, some _, some _, some _, some _]) dX8_gives_20 rfl (Nat.le_of_ble_eq_true rfl) rfl ?_
    refine J_aload_n (pc := 22) dX8_gives_22 rfl ?_
    refine J_iload_n (pc := 23) dX8_gives_23 rfl ?_
    refine J_iload_n (pc := 24) dX8_gives_24 rfl ?_
    refine J_iload_n (pc := 25) dX8_gives_25 rfl ?_
    refine J_iload (pc := 26) dX8_gives_26 rfl ?_
    refine J_iload (pc := 28) dX8_gives_28 rfl ?_
    refine K_callVv (pc := 30) (id := 140) (As := [_, _, _, _, _]) dX8_gives_30 kl_X8_287 rfl job_140 rfl rfl (Nat.le_of_ble_eq_true rfl) (m_nameAll g a b c e) (fun m30 h30 => ?_)
    subst h30
    refine J_iload (pc := 33) dX8_gives_33 rfl ?_
    refine J_if_ge (pc := 35) (tgt := 43) dX8_gives_35 (by decide) (fun h35 => ?_) (fun h35 => ?_)
    · 
      obtain ⟨t, ht, hte, htw⟩ := cntR_N hT14 (Int32.not_lt.mpr h35)
      refine J_aload_n (pc := 43) dX8_gives_43 rfl ?_
      refine J_iload (pc := 44) dX8_gives_44 rfl ?_
      refine K_callVi (pc := 46) (id := 140) (As := [_]) dX8_gives_46 kl_X8_291 rfl job_140 rfl rfl (Nat.le_of_ble_eq_true rfl) (m_workedV (m := nmM m g a b c e) (t := t) (by omega) hte (sndT_c (fun j _ => congrFun (nmM_i (by decide)) j) (hS t ht)) a b c e (fun v hv => nmM_n (by rw [← htw, ← congrFun (nmM_i (m := m) (g := g) (a := a) (b := b) (c := c) (e := e) (by decide : (141 : Nat) ≠ 151)) _]; exact hv))) (fun v46 m46 h46 => ?_)
      refine K_iret (pc := 49) dX8_gives_49 rfl ⟨_, rfl, ?_⟩
      have hx1 : exs [151, 152] m (nmM m g a b c e) := fun i hi => nmM_i (fun z => hi (by rw [z]; decide))
      exact ⟨fun i hi => (h46.2 i (fun z => hi (by simp at z ⊢; omega))).trans (hx1 i hi), by rw [if_neg (Classical.not_not.mpr h9), if_neg (Int32.not_lt.mpr h35), h46.1]; unfold txV; rw [cdR_c (nmM_i (by decide)), nmM_i (by decide)]⟩
    · 
      refine J_ldc (pc := 38) dX8_gives_38 kc_X8_66 ?_
      refine J_goto (pc := 40) (tgt := 49) dX8_gives_40 (by decide) ?_
      refine K_iret (pc := 49) dX8_gives_49 rfl ⟨_, rfl, ?_⟩
      have hx1 : exs [151, 152] m (nmM m g a b c e) := fun i hi => nmM_i (fun z => hi (by rw [z]; decide))
      exact ⟨hx1, ((if_neg (Classical.not_not.mpr h9)).trans (if_pos (Int32.not_le.mp h35))).symm⟩
  · 
    refine J_ldc (pc := 12) dX8_gives_12 kc_X8_91 ?_
    refine K_iret (pc := 14) dX8_gives_14 rfl ⟨_, rfl, ?_⟩
    exact ⟨exs_rf _ _, (if_pos h9).symm⟩
