def seeF' (still : Bool) (m : jm) (tx : Int32) (k : Nat) : Bool := sawF m tx (sizV (m 147 k - m 154 k)) (m 154 k) (if still = true then nI 0 else sizV (m 147 k - m 141 (40 + k))) (nI (edcF (m 147) (m 141 4) k))
set_option maxRecDepth 100000 in
set_option maxHeartbeats 400000 in
theorem m_findSeen0 {x : jX} {m : jm} {d : Nat} {T : Nat} (hT : m 141 6 = nI T) (hT14 : T ≤ 14) (hS : ∀ t, t < T → sndT m t) : Ct x (d + 3) eX8_findSeen [.ref (jxb x + 140), .int (nI 0)] m (ji fun v m' => v = nI (cnt (seeF' false m (cntR m (nI 6) T)) 48) ∧ exs [151, 152, 153] m m' ∧ (∀ p, p < 48 → m' 153 p = jb ((seeF' false m (cntR m (nI 6) T)) p = true))) := by
  refine J_start (by decide +kernel) (Nat.le_of_ble_eq_true rfl) (ls := [some (.ref (jxb x + 140)), some (.int (nI 0)), none, none, none, none, none, none, none]) rfl rfl ?_
  refine J_aload_n (pc := 0) dX8_findSeen_0 rfl ?_
  refine J_bipush (pc := 1) dX8_findSeen_1 knb_6 ?_
  refine K_callVp (pc := 3) (id := 140) (As := [_]) dX8_findSeen_3 kl_X8_280 rfl job_140 rfl rfl (Nat.le_of_ble_eq_true rfl) (m_counts hT hT14 (nI 6)) ?_
  refine J_istore_n (pc := 6) (ls' := [some _, some _, some _, none, none, none, none, none, none]) dX8_findSeen_6 rfl (Nat.le_of_ble_eq_true rfl) rfl ?_
  refine J_iconst (pc := 7) dX8_findSeen_7 kni_0 ?_
  refine J_istore_n (pc := 8) (ls' := [some _, some _, some _, some _, none, none, none, none, none]) dX8_findSeen_8 rfl (Nat.le_of_ble_eq_true rfl) rfl ?_
  refine J_iconst (pc := 9) dX8_findSeen_9 kni_0 ?_
  refine J_istore (pc := 10) (ls' := [some _, some _, some _, some _, some _, none, none, none, none]) dX8_findSeen_10 rfl (Nat.le_of_ble_eq_true rfl) rfl ?_
  refine K_inv (pc := 12) 48 (fun k lsq mq => lsq = [some (.ref (jxb x + 140)), some (.int (nI 0)), some (.int ((cntR m (nI 6) T))), some (.int (nI (cnt (seeF' false m (cntR m (nI 6) T)) k))), some (.int (nI k)), none, none, none, none] ∧ (exs [151, 152, 153] m mq) ∧ (∀ p, p < k → mq 153 p = jb ((seeF' false m (cntR m (nI 6) T)) p = true))) (fun k hk lsq mm hI12 ih12 => ?_) (fun lsq mm hI12 => ?_) 0 (Nat.zero_le _) _ _ (⟨rfl, exs_rf _ _, fun p hp => absurd hp (Nat.not_lt_zero _)⟩)
  ·
    obtain ⟨rfl, hx, hs⟩ := hI12
    have hcl := cnt_le (seeF' false m (cntR m (nI 6) T)) k
    have e147 := hx 147 (by decide)
    have e141 := hx 141 (by decide)
    have e154 := hx 154 (by decide)
    have hwm : wfE mm (cntR m (nI 6) T) := wfE_c (fun j _ => congrFun e141 j) (wfE_cnt hT14 hS)
    refine J_iload (pc := 12) dX8_findSeen_12 rfl ?_
    refine J_bipush (pc := 14) dX8_findSeen_14 knb_48 ?_
    refine Jn_ge (pc := 16) (tgt := 189) dX8_findSeen_16 (by decide) (by omega) (by omega) (fun h16 => absurd h16 (by omega)) (fun h16 => ?_)
    refine J_aload_n (pc := 19) dX8_findSeen_19 rfl ?_
    refine K_getR (pc := 20) dX8_findSeen_20 kf_X8_28 job_140 jrf_140_7 ?_
    refine J_iload (pc := 23) dX8_findSeen_23 rfl ?_
    refine K_ialdn (pc := 25) (id := 147) dX8_findSeen_25 jar_147 (by omega) (by decide) ?_
    refine J_top (b := (m 147 k)) (congrFun e147 k) ?_
    refine J_aload_n (pc := 26) dX8_findSeen_26 rfl ?_
    refine K_getR (pc := 27) dX8_findSeen_27 kf_X8_50 job_140 jrf_140_25 ?_
    refine J_iload (pc := 30) dX8_findSeen_30 rfl ?_
    refine K_ialdn (pc := 32) (id := 154) dX8_findSeen_32 jar_154 (by omega) (by decide) ?_
    refine J_top (b := (m 154 k)) (congrFun e154 k) ?_
    refine J_isub (pc := 33) dX8_findSeen_33 ?_
    refine K_callSp (pc := 34) (As := [_]) dX8_findSeen_34 kl_X8_139 rfl rfl (Nat.le_of_ble_eq_true rfl) (m_size _) ?_
    refine J_istore (pc := 37) (ls' := [some _, some _, some _, some _, some _, some _, none, none, none]) dX8_findSeen_37 rfl (Nat.le_of_ble_eq_true rfl) rfl ?_
    refine J_iconst (pc := 39) dX8_findSeen_39 kni_0 ?_
    refine J_istore (pc := 40) (ls' := [some _, some _, some _, some _, some _, some _, some _, none, none]) dX8_findSeen_40 rfl (Nat.le_of_ble_eq_true rfl) rfl ?_
    refine J_iconst (pc := 42) dX8_findSeen_42 kni_0 ?_
    refine J_istore (pc := 43) (ls' := [some _, some _, some _, some _, some _, some _, some _, some _, none]) dX8_findSeen_43 rfl (Nat.le_of_ble_eq_true rfl) rfl ?_
    refine K_for' (pc := 45) 4 (fun w => [some (.ref (jxb x + 140)), some (.int (nI 0)), some (.int ((cntR m (nI 6) T))), some (.int (nI (cnt (seeF' false m (cntR m (nI 6) T)) k))), some (.int (nI k)), some (.int ((sizV (m 147 k - m 154 k)))), some (.int (nI (cnt (edF (m 147) (m 141 4) k) w))), some (.int (nI w)), none]) (fun w => mm) (by rfl) (by rfl) (fun w hw ih45 => ?_) ?_
    ·
      show K x _ _ 45 [some (.ref (jxb x + 140)), some (.int (nI 0)), some (.int ((cntR m (nI 6) T))), some (.int (nI (cnt (seeF' false m (cntR m (nI 6) T)) k))), some (.int (nI k)), some (.int ((sizV (m 147 k - m 154 k)))), some (.int (nI (cnt (edF (m 147) (m 141 4) k) w))), some (.int (nI w)), none] _ mm _
      refine J_iload (pc := 45) dX8_findSeen_45 rfl ?_
      refine J_iconst (pc := 47) dX8_findSeen_47 kni_4 ?_
      refine Jn_ge (pc := 48) (tgt := 108) dX8_findSeen_48 (by decide) (by omega) (by omega) (fun h48 => absurd h48 (by omega)) (fun h48 => ?_)
      refine J_iload (pc := 51) dX8_findSeen_51 rfl ?_
      refine J_iload (pc := 53) dX8_findSeen_53 rfl ?_
      refine K_callSp (pc := 55) (As := [_, _]) dX8_findSeen_55 kl_X8_174 rfl rfl (Nat.le_of_ble_eq_true rfl) (m_beside (p := k) (w := w) (by omega) (by omega)) ?_
      refine J_istore (pc := 58) (ls' := [some _, some _, some _, some _, some _, some _, some _, some _, some _]) dX8_findSeen_58 rfl (Nat.le_of_ble_eq_true rfl) rfl ?_
      refine J_iload (pc := 60) dX8_findSeen_60 rfl ?_
      refine J_iload (pc := 62) dX8_findSeen_62 rfl ?_
      refine J_if_lt (pc := 64) (tgt := 98) dX8_findSeen_64 (by decide) (fun h64 => ?_) (fun h64 => ?_)
      · 
        refine J_iconst (pc := 98) dX8_findSeen_98 kni_0 ?_
        refine J_iaddv (pc := 99) dX8_findSeen_99 (nI_add _ _) ?_
        refine J_istore (pc := 100) (ls' := [some _, some _, some _, some _, some _, some _, some _, some _, some _]) dX8_findSeen_100 rfl (Nat.le_of_ble_eq_true rfl) rfl ?_
        refine Jn_iinc (pc := 102) (ls' := [some _, some _, some _, some _, some _, some _, some _, some _, some _]) dX8_findSeen_102 rfl knz_1 rfl rfl ?_
        refine J_goto (pc := 105) (tgt := 45) dX8_findSeen_105 (by decide) ?_
        have ec : cnt (edF (m 147) (m 141 4) k) (w + 1) = cnt (edF (m 147) (m 141 4) k) w + 0 := cnt_f (fun z => by unfold edF at z; rw [Bool.and_eq_true] at z; exact of_decide_eq_true z.1 h64)
        rw [ec] at ih45
        refine J_wk' ih45 rfl ?_
        rintro (_ | _ | _ | _ | _ | _ | _ | _ | _ | _ | k) v hv <;> first | exact hv | cases hv
      · 
        obtain ⟨b, hb, hbe⟩ := (besW_in (p := k) (w := w) (by omega) (by omega)).resolve_left h64
        have htb : tN (besW k w) = b := by rw [hbe]; exact tN_n (by omega)
        refine J_aload_n (pc := 67) dX8_findSeen_67 rfl ?_
        refine K_getR (pc := 68) dX8_findSeen_68 kf_X8_28 job_140 jrf_140_7 ?_
        refine J_iload (pc := 71) dX8_findSeen_71 rfl ?_
        refine K_ialdn (pc := 73) (id := 147) dX8_findSeen_73 jar_147 (by omega) (by decide) ?_
        refine J_top (b := (m 147 k)) (congrFun e147 k) ?_
        refine J_aload_n (pc := 74) dX8_findSeen_74 rfl ?_
        refine K_getR (pc := 75) dX8_findSeen_75 kf_X8_28 job_140 jrf_140_7 ?_
        refine J_iload (pc := 78) dX8_findSeen_78 rfl ?_
        refine J_top (b := nI b) (hbe) ?_
        refine K_ialdn (pc := 80) (id := 147) dX8_findSeen_80 jar_147 (by omega) (by decide) ?_
        refine J_top (b := (m 147 b)) (congrFun e147 b) ?_
        refine J_isub (pc := 81) dX8_findSeen_81 ?_
        refine K_callSp (pc := 82) (As := [_]) dX8_findSeen_82 kl_X8_139 rfl rfl (Nat.le_of_ble_eq_true rfl) (m_size _) ?_
        refine J_aload_n (pc := 85) dX8_findSeen_85 rfl ?_
        refine K_getR (pc := 86) dX8_findSeen_86 kf_X8_7 job_140 jrf_140_0 ?_
        refine J_iconst (pc := 89) dX8_findSeen_89 kni_4 ?_
        refine K_ialdn (pc := 90) (id := 141) dX8_findSeen_90 jar_141 (by decide) (by decide) ?_
        refine J_top (b := (m 141 4)) (congrFun e141 4) ?_
        refine J_icmp_lt (pc := 91) (tgt := 98) dX8_findSeen_91 (by decide) (fun h91 => ?_) (fun h91 => ?_)
        · 
          refine J_iconst (pc := 98) dX8_findSeen_98 kni_0 ?_
          refine J_iaddv (pc := 99) dX8_findSeen_99 (nI_add _ _) ?_
          refine J_istore (pc := 100) (ls' := [some _, some _, some _, some _, some _, some _, some _, some _, some _]) dX8_findSeen_100 rfl (Nat.le_of_ble_eq_true rfl) rfl ?_
          refine Jn_iinc (pc := 102) (ls' := [some _, some _, some _, some _, some _, some _, some _, some _, some _]) dX8_findSeen_102 rfl knz_1 rfl rfl ?_
          refine J_goto (pc := 105) (tgt := 45) dX8_findSeen_105 (by decide) ?_
          have ec : cnt (edF (m 147) (m 141 4) k) (w + 1) = cnt (edF (m 147) (m 141 4) k) w + 0 := cnt_f (fun z => by unfold edF at z; rw [Bool.and_eq_true, htb] at z; exact absurd h91 (Int32.not_lt.mpr (of_decide_eq_true z.2)))
          rw [ec] at ih45
          refine J_wk' ih45 rfl ?_
          rintro (_ | _ | _ | _ | _ | _ | _ | _ | _ | _ | k) v hv <;> first | exact hv | cases hv
        · 
          refine J_iconst (pc := 94) dX8_findSeen_94 kni_1 ?_
          refine J_goto (pc := 95) (tgt := 99) dX8_findSeen_95 (by decide) ?_
          refine J_iaddv (pc := 99) dX8_findSeen_99 (nI_add _ _) ?_
          refine J_istore (pc := 100) (ls' := [some _, some _, some _, some _, some _, some _, some _, some _, some _]) dX8_findSeen_100 rfl (Nat.le_of_ble_eq_true rfl) rfl ?_
          refine Jn_iinc (pc := 102) (ls' := [some _, some _, some _, some _, some _, some _, some _, some _, some _]) dX8_findSeen_102 rfl knz_1 rfl rfl ?_
          refine J_goto (pc := 105) (tgt := 45) dX8_findSeen_105 (by decide) ?_
          have ec : cnt (edF (m 147) (m 141 4) k) (w + 1) = cnt (edF (m 147) (m 141 4) k) w + 1 := cnt_t (by unfold edF; rw [Bool.and_eq_true, htb]; exact ⟨decide_eq_true h64, decide_eq_true (Int32.not_lt.mp h91)⟩)
          rw [ec] at ih45
          refine J_wk' ih45 rfl ?_
          rintro (_ | _ | _ | _ | _ | _ | _ | _ | _ | _ | k) v hv <;> first | exact hv | cases hv
    ·
      show K x _ _ 45 [some (.ref (jxb x + 140)), some (.int (nI 0)), some (.int ((cntR m (nI 6) T))), some (.int (nI (cnt (seeF' false m (cntR m (nI 6) T)) k))), some (.int (nI k)), some (.int ((sizV (m 147 k - m 154 k)))), some (.int (nI (cnt (edF (m 147) (m 141 4) k) 4))), some (.int (nI 4)), none] _ mm _
      have hcl4 := cnt_le (edF (m 147) (m 141 4) k) 4
      have hec : cnt (edF (m 147) (m 141 4) k) 4 = edcF (m 147) (m 141 4) k := rfl
      refine J_iload (pc := 45) dX8_findSeen_45 rfl ?_
      refine J_iconst (pc := 47) dX8_findSeen_47 kni_4 ?_
      refine Jn_ge (pc := 48) (tgt := 108) dX8_findSeen_48 (by decide) (by omega) (by omega) (fun h48 => ?_) (fun h48 => absurd h48 (by omega))
      refine J_aload_n (pc := 108) dX8_findSeen_108 rfl ?_
      refine K_getR (pc := 109) dX8_findSeen_109 kf_X8_46 job_140 jrf_140_24 ?_
      refine J_iload (pc := 112) dX8_findSeen_112 rfl ?_
      refine J_iload_n (pc := 114) dX8_findSeen_114 rfl ?_
      refine Jn_if_eq (pc := 115) (tgt := 132) dX8_findSeen_115 (by decide) (by omega) (fun h115 => ?_) (fun h115 => absurd h115 (by omega))
      refine J_aload_n (pc := 132) dX8_findSeen_132 rfl ?_
      refine J_iload_n (pc := 133) dX8_findSeen_133 rfl ?_
      refine J_iload (pc := 134) dX8_findSeen_134 rfl ?_
      refine J_iload (pc := 136) dX8_findSeen_136 rfl ?_
      refine J_iload (pc := 138) dX8_findSeen_138 rfl ?_
      refine J_aload_n (pc := 140) dX8_findSeen_140 rfl ?_
      refine K_getR (pc := 141) dX8_findSeen_141 kf_X8_28 job_140 jrf_140_7 ?_
      refine J_iload (pc := 144) dX8_findSeen_144 rfl ?_
      refine K_ialdn (pc := 146) (id := 147) dX8_findSeen_146 jar_147 (by omega) (by decide) ?_
      refine J_top (b := (m 147 k)) (congrFun e147 k) ?_
      refine J_aload_n (pc := 147) dX8_findSeen_147 rfl ?_
      refine K_getR (pc := 148) dX8_findSeen_148 kf_X8_7 job_140 jrf_140_0 ?_
      refine J_bipush (pc := 151) dX8_findSeen_151 knb_40 ?_
      refine J_iload (pc := 153) dX8_findSeen_153 rfl ?_
      refine J_iaddv (pc := 155) dX8_findSeen_155 (nI_add _ _) ?_
      refine K_ialdn (pc := 156) (id := 141) dX8_findSeen_156 jar_141 (by omega) (by decide) ?_
      refine J_top (b := (m 141 (40 + k))) (congrFun e141 _) ?_
      refine J_isub (pc := 157) dX8_findSeen_157 ?_
      refine K_callSp (pc := 158) (As := [_]) dX8_findSeen_158 kl_X8_139 rfl rfl (Nat.le_of_ble_eq_true rfl) (m_size _) ?_
      refine K_callVi (pc := 161) (id := 140) (As := [_, _, _, _, _]) dX8_findSeen_161 kl_X8_294 rfl job_140 rfl rfl (Nat.le_of_ble_eq_true rfl) (m_isSeenAt (m := mm) (p := k) (by omega) hwm (nI (cnt (edF (m 147) (m 141 4) k) 4)) _ _) (fun v161 m161 h161 => ?_)
      obtain ⟨rfl, x161⟩ := h161
      rw [show sawF mm (cntR m (nI 6) T) (sizV (m 147 k - m 154 k)) (mm 154 k) (sizV (m 147 k - m 141 (40 + k))) (nI (cnt (edF (m 147) (m 141 4) k) 4)) = (seeF' false m (cntR m (nI 6) T)) k from by rw [e154, sawF_c (fun j _ => congrFun e141 j)]; rfl]
      refine K_zastn (pc := 164) (id := 153) (w := jb ((seeF' false m (cntR m (nI 6) T)) k = true)) dX8_findSeen_164 jar_153 (by omega) (by decide) (jb_nar _) ?_
      refine J_iload_n (pc := 165) dX8_findSeen_165 rfl ?_
      refine J_aload_n (pc := 166) dX8_findSeen_166 rfl ?_
      refine K_getR (pc := 167) dX8_findSeen_167 kf_X8_46 job_140 jrf_140_24 ?_
      refine J_iload (pc := 170) dX8_findSeen_170 rfl ?_
      refine K_zaldn (pc := 172) (id := 153) dX8_findSeen_172 jar_153 (by omega) (by decide) ?_
      refine J_top (b := (jb ((seeF' false m (cntR m (nI 6) T)) k = true))) (mup_s) ?_
      refine Jb_eq (pc := 173) (tgt := 180) dX8_findSeen_173 (by decide) (fun h173 => ?_) (fun h173 => ?_)
      · 
        refine J_iconst (pc := 180) dX8_findSeen_180 kni_0 ?_
        refine J_iaddv (pc := 181) dX8_findSeen_181 (nI_add _ _) ?_
        refine J_istore_n (pc := 182) (ls' := [some _, some _, some _, some _, some _, some _, some _, some _, none]) dX8_findSeen_182 rfl (Nat.le_of_ble_eq_true rfl) rfl ?_
        refine Jn_iinc (pc := 183) (ls' := [some _, some _, some _, some _, some _, some _, some _, some _, none]) dX8_findSeen_183 rfl knz_1 rfl rfl ?_
        refine J_goto (pc := 186) (tgt := 12) dX8_findSeen_186 (by decide) ?_
        have hs2 : ∀ p, p < k + 1 → (mup m161 153 k (jb ((seeF' false m (cntR m (nI 6) T)) k = true))) 153 p = jb ((seeF' false m (cntR m (nI 6) T)) p = true) := fun p hp => by
          by_cases ep : p = k
          · rw [ep, mup_s]
          · rw [mup_j ep, x161 153 (by decide)]
            exact hs p (by omega)
        have ex2 : exs [151, 152, 153] m (mup m161 153 k (jb ((seeF' false m (cntR m (nI 6) T)) k = true))) := exs_up (fun i hi => (x161 i (fun z => hi (by simp at z ⊢; omega))).trans (hx i hi)) (by decide)
        have hc : cnt (seeF' false m (cntR m (nI 6) T)) (k + 1) = cnt (seeF' false m (cntR m (nI 6) T)) k + 0 := cnt_f h173
        refine J_wk' (ih12 [some (.ref (jxb x + 140)), some (.int (nI 0)), some (.int ((cntR m (nI 6) T))), some (.int (nI (cnt (seeF' false m (cntR m (nI 6) T)) k + 0))), some (.int (nI (k + 1))), none, none, none, none] _ ⟨by rw [hc], ex2, hs2⟩) rfl ?_
        rintro (_ | _ | _ | _ | _ | _ | _ | _ | _ | k) v hv <;> first | exact hv | cases hv
      · 
        refine J_iconst (pc := 176) dX8_findSeen_176 kni_1 ?_
        refine J_goto (pc := 177) (tgt := 181) dX8_findSeen_177 (by decide) ?_
        refine J_iaddv (pc := 181) dX8_findSeen_181 (nI_add _ _) ?_
        refine J_istore_n (pc := 182) (ls' := [some _, some _, some _, some _, some _, some _, some _, some _, none]) dX8_findSeen_182 rfl (Nat.le_of_ble_eq_true rfl) rfl ?_
        refine Jn_iinc (pc := 183) (ls' := [some _, some _, some _, some _, some _, some _, some _, some _, none]) dX8_findSeen_183 rfl knz_1 rfl rfl ?_
        refine J_goto (pc := 186) (tgt := 12) dX8_findSeen_186 (by decide) ?_
        have hs2 : ∀ p, p < k + 1 → (mup m161 153 k (jb ((seeF' false m (cntR m (nI 6) T)) k = true))) 153 p = jb ((seeF' false m (cntR m (nI 6) T)) p = true) := fun p hp => by
          by_cases ep : p = k
          · rw [ep, mup_s]
          · rw [mup_j ep, x161 153 (by decide)]
            exact hs p (by omega)
        have ex2 : exs [151, 152, 153] m (mup m161 153 k (jb ((seeF' false m (cntR m (nI 6) T)) k = true))) := exs_up (fun i hi => (x161 i (fun z => hi (by simp at z ⊢; omega))).trans (hx i hi)) (by decide)
        have hc : cnt (seeF' false m (cntR m (nI 6) T)) (k + 1) = cnt (seeF' false m (cntR m (nI 6) T)) k + 1 := cnt_t h173
        refine J_wk' (ih12 [some (.ref (jxb x + 140)), some (.int (nI 0)), some (.int ((cntR m (nI 6) T))), some (.int (nI (cnt (seeF' false m (cntR m (nI 6) T)) k + 1))), some (.int (nI (k + 1))), none, none, none, none] _ ⟨by rw [hc], ex2, hs2⟩) rfl ?_
        rintro (_ | _ | _ | _ | _ | _ | _ | _ | _ | k) v hv <;> first | exact hv | cases hv
  ·
    obtain ⟨rfl, hx, hs⟩ := hI12
    have hcl := cnt_le (seeF' false m (cntR m (nI 6) T)) 48
    refine J_iload (pc := 12) dX8_findSeen_12 rfl ?_
    refine J_bipush (pc := 14) dX8_findSeen_14 knb_48 ?_
    refine Jn_ge (pc := 16) (tgt := 189) dX8_findSeen_16 (by decide) (by omega) (by omega) (fun h16 => ?_) (fun h16 => absurd h16 (by omega))
    refine J_iload_n (pc := 189) dX8_findSeen_189 rfl ?_
    refine K_iret (pc := 190) dX8_findSeen_190 rfl ⟨_, rfl, ?_⟩
    exact ⟨rfl, hx, hs⟩
set_option maxRecDepth 100000 in
set_option maxHeartbeats 400000 in
theorem m_findSeen1 {x : jX} {m : jm} {d : Nat} {T : Nat} (hT : m 141 6 = nI T) (hT14 : T ≤ 14) (hS : ∀ t, t < T → sndT m t) (hl : ∀ p, p < 48 → vp_in (m 147 p) 100) (hkp : kpt m (cntR m (nI 6) T)) : Ct x (d + 4) eX8_findSeen [.ref (jxb x + 140), .int (nI 1)] m (ji fun v m' => v = nI (cnt (seeF' true m (cntR m (nI 6) T)) 48) ∧ exs [151, 152, 153, 155] m m' ∧ (∀ p, p < 48 → m' 153 p = jb ((seeF' true m (cntR m (nI 6) T)) p = true)) ∧ kpt m' (cntR m (nI 6) T)) := by
  refine J_start (by decide +kernel) (Nat.le_of_ble_eq_true rfl) (ls := [some (.ref (jxb x + 140)), some (.int (nI 1)), none, none, none, none, none, none, none]) rfl rfl ?_
  refine J_aload_n (pc := 0) dX8_findSeen_0 rfl ?_
  refine J_bipush (pc := 1) dX8_findSeen_1 knb_6 ?_
  refine K_callVp (pc := 3) (id := 140) (As := [_]) dX8_findSeen_3 kl_X8_280 rfl job_140 rfl rfl (Nat.le_of_ble_eq_true rfl) (m_counts hT hT14 (nI 6)) ?_
  refine J_istore_n (pc := 6) (ls' := [some _, some _, some _, none, none, none, none, none, none]) dX8_findSeen_6 rfl (Nat.le_of_ble_eq_true rfl) rfl ?_
  refine J_iconst (pc := 7) dX8_findSeen_7 kni_0 ?_
  refine J_istore_n (pc := 8) (ls' := [some _, some _, some _, some _, none, none, none, none, none]) dX8_findSeen_8 rfl (Nat.le_of_ble_eq_true rfl) rfl ?_
  refine J_iconst (pc := 9) dX8_findSeen_9 kni_0 ?_
  refine J_istore (pc := 10) (ls' := [some _, some _, some _, some _, some _, none, none, none, none]) dX8_findSeen_10 rfl (Nat.le_of_ble_eq_true rfl) rfl ?_
  refine K_inv (pc := 12) 48 (fun k lsq mq => lsq = [some (.ref (jxb x + 140)), some (.int (nI 1)), some (.int ((cntR m (nI 6) T))), some (.int (nI (cnt (seeF' true m (cntR m (nI 6) T)) k))), some (.int (nI k)), none, none, none, none] ∧ (exs [151, 152, 153, 155] m mq) ∧ (∀ p, p < k → mq 153 p = jb ((seeF' true m (cntR m (nI 6) T)) p = true)) ∧ (kpt mq (cntR m (nI 6) T))) (fun k hk lsq mm hI12 ih12 => ?_) (fun lsq mm hI12 => ?_) 0 (Nat.zero_le _) _ _ (⟨rfl, exs_rf _ _, fun p hp => absurd hp (Nat.not_lt_zero _), hkp⟩)
  ·
    obtain ⟨rfl, hx, hs, hk2⟩ := hI12
    have hcl := cnt_le (seeF' true m (cntR m (nI 6) T)) k
    have e147 := hx 147 (by decide)
    have e141 := hx 141 (by decide)
    have e154 := hx 154 (by decide)
    have hwm : wfE mm (cntR m (nI 6) T) := wfE_c (fun j _ => congrFun e141 j) (wfE_cnt hT14 hS)
    refine J_iload (pc := 12) dX8_findSeen_12 rfl ?_
    refine J_bipush (pc := 14) dX8_findSeen_14 knb_48 ?_
    refine Jn_ge (pc := 16) (tgt := 189) dX8_findSeen_16 (by decide) (by omega) (by omega) (fun h16 => absurd h16 (by omega)) (fun h16 => ?_)
    refine J_aload_n (pc := 19) dX8_findSeen_19 rfl ?_
    refine K_getR (pc := 20) dX8_findSeen_20 kf_X8_28 job_140 jrf_140_7 ?_
    refine J_iload (pc := 23) dX8_findSeen_23 rfl ?_
    refine K_ialdn (pc := 25) (id := 147) dX8_findSeen_25 jar_147 (by omega) (by decide) ?_
    refine J_top (b := (m 147 k)) (congrFun e147 k) ?_
    refine J_aload_n (pc := 26) dX8_findSeen_26 rfl ?_
    refine K_getR (pc := 27) dX8_findSeen_27 kf_X8_50 job_140 jrf_140_25 ?_
    refine J_iload (pc := 30) dX8_findSeen_30 rfl ?_
    refine K_ialdn (pc := 32) (id := 154) dX8_findSeen_32 jar_154 (by omega) (by decide) ?_
    refine J_top (b := (m 154 k)) (congrFun e154 k) ?_
    refine J_isub (pc := 33) dX8_findSeen_33 ?_
    refine K_callSp (pc := 34) (As := [_]) dX8_findSeen_34 kl_X8_139 rfl rfl (Nat.le_of_ble_eq_true rfl) (m_size _) ?_
    refine J_istore (pc := 37) (ls' := [some _, some _, some _, some _, some _, some _, none, none, none]) dX8_findSeen_37 rfl (Nat.le_of_ble_eq_true rfl) rfl ?_
    refine J_iconst (pc := 39) dX8_findSeen_39 kni_0 ?_
    refine J_istore (pc := 40) (ls' := [some _, some _, some _, some _, some _, some _, some _, none, none]) dX8_findSeen_40 rfl (Nat.le_of_ble_eq_true rfl) rfl ?_
    refine J_iconst (pc := 42) dX8_findSeen_42 kni_0 ?_
    refine J_istore (pc := 43) (ls' := [some _, some _, some _, some _, some _, some _, some _, some _, none]) dX8_findSeen_43 rfl (Nat.le_of_ble_eq_true rfl) rfl ?_
    refine K_for' (pc := 45) 4 (fun w => [some (.ref (jxb x + 140)), some (.int (nI 1)), some (.int ((cntR m (nI 6) T))), some (.int (nI (cnt (seeF' true m (cntR m (nI 6) T)) k))), some (.int (nI k)), some (.int ((sizV (m 147 k - m 154 k)))), some (.int (nI (cnt (edF (m 147) (m 141 4) k) w))), some (.int (nI w)), none]) (fun w => mm) (by rfl) (by rfl) (fun w hw ih45 => ?_) ?_
    ·
      show K x _ _ 45 [some (.ref (jxb x + 140)), some (.int (nI 1)), some (.int ((cntR m (nI 6) T))), some (.int (nI (cnt (seeF' true m (cntR m (nI 6) T)) k))), some (.int (nI k)), some (.int ((sizV (m 147 k - m 154 k)))), some (.int (nI (cnt (edF (m 147) (m 141 4) k) w))), some (.int (nI w)), none] _ mm _
      refine J_iload (pc := 45) dX8_findSeen_45 rfl ?_
      refine J_iconst (pc := 47) dX8_findSeen_47 kni_4 ?_
      refine Jn_ge (pc := 48) (tgt := 108) dX8_findSeen_48 (by decide) (by omega) (by omega) (fun h48 => absurd h48 (by omega)) (fun h48 => ?_)
      refine J_iload (pc := 51) dX8_findSeen_51 rfl ?_
      refine J_iload (pc := 53) dX8_findSeen_53 rfl ?_
      refine K_callSp (pc := 55) (As := [_, _]) dX8_findSeen_55 kl_X8_174 rfl rfl (Nat.le_of_ble_eq_true rfl) (m_beside (p := k) (w := w) (by omega) (by omega)) ?_
      refine J_istore (pc := 58) (ls' := [some _, some _, some _, some _, some _, some _, some _, some _, some _]) dX8_findSeen_58 rfl (Nat.le_of_ble_eq_true rfl) rfl ?_
      refine J_iload (pc := 60) dX8_findSeen_60 rfl ?_
      refine J_iload (pc := 62) dX8_findSeen_62 rfl ?_
      refine J_if_lt (pc := 64) (tgt := 98) dX8_findSeen_64 (by decide) (fun h64 => ?_) (fun h64 => ?_)
      · 
        refine J_iconst (pc := 98) dX8_findSeen_98 kni_0 ?_
        refine J_iaddv (pc := 99) dX8_findSeen_99 (nI_add _ _) ?_
        refine J_istore (pc := 100) (ls' := [some _, some _, some _, some _, some _, some _, some _, some _, some _]) dX8_findSeen_100 rfl (Nat.le_of_ble_eq_true rfl) rfl ?_
        refine Jn_iinc (pc := 102) (ls' := [some _, some _, some _, some _, some _, some _, some _, some _, some _]) dX8_findSeen_102 rfl knz_1 rfl rfl ?_
        refine J_goto (pc := 105) (tgt := 45) dX8_findSeen_105 (by decide) ?_
        have ec : cnt (edF (m 147) (m 141 4) k) (w + 1) = cnt (edF (m 147) (m 141 4) k) w + 0 := cnt_f (fun z => by unfold edF at z; rw [Bool.and_eq_true] at z; exact of_decide_eq_true z.1 h64)
        rw [ec] at ih45
        refine J_wk' ih45 rfl ?_
        rintro (_ | _ | _ | _ | _ | _ | _ | _ | _ | _ | k) v hv <;> first | exact hv | cases hv
      · 
        obtain ⟨b, hb, hbe⟩ := (besW_in (p := k) (w := w) (by omega) (by omega)).resolve_left h64
        have htb : tN (besW k w) = b := by rw [hbe]; exact tN_n (by omega)
        refine J_aload_n (pc := 67) dX8_findSeen_67 rfl ?_
        refine K_getR (pc := 68) dX8_findSeen_68 kf_X8_28 job_140 jrf_140_7 ?_
        refine J_iload (pc := 71) dX8_findSeen_71 rfl ?_
        refine K_ialdn (pc := 73) (id := 147) dX8_findSeen_73 jar_147 (by omega) (by decide) ?_
        refine J_top (b := (m 147 k)) (congrFun e147 k) ?_
        refine J_aload_n (pc := 74) dX8_findSeen_74 rfl ?_
        refine K_getR (pc := 75) dX8_findSeen_75 kf_X8_28 job_140 jrf_140_7 ?_
        refine J_iload (pc := 78) dX8_findSeen_78 rfl ?_
        refine J_top (b := nI b) (hbe) ?_
        refine K_ialdn (pc := 80) (id := 147) dX8_findSeen_80 jar_147 (by omega) (by decide) ?_
        refine J_top (b := (m 147 b)) (congrFun e147 b) ?_
        refine J_isub (pc := 81) dX8_findSeen_81 ?_
        refine K_callSp (pc := 82) (As := [_]) dX8_findSeen_82 kl_X8_139 rfl rfl (Nat.le_of_ble_eq_true rfl) (m_size _) ?_
        refine J_aload_n (pc := 85) dX8_findSeen_85 rfl ?_
        refine K_getR (pc := 86) dX8_findSeen_86 kf_X8_7 job_140 jrf_140_0 ?_
        refine J_iconst (pc := 89) dX8_findSeen_89 kni_4 ?_
        refine K_ialdn (pc := 90) (id := 141) dX8_findSeen_90 jar_141 (by decide) (by decide) ?_
        refine J_top (b := (m 141 4)) (congrFun e141 4) ?_
        refine J_icmp_lt (pc := 91) (tgt := 98) dX8_findSeen_91 (by decide) (fun h91 => ?_) (fun h91 => ?_)
        · 
          refine J_iconst (pc := 98) dX8_findSeen_98 kni_0 ?_
          refine J_iaddv (pc := 99) dX8_findSeen_99 (nI_add _ _) ?_
          refine J_istore (pc := 100) (ls' := [some _, some _, some _, some _, some _, some _, some _, some _, some _]) dX8_findSeen_100 rfl (Nat.le_of_ble_eq_true rfl) rfl ?_
          refine Jn_iinc (pc := 102) (ls' := [some _, some _, some _, some _, some _, some _, some _, some _, some _]) dX8_findSeen_102 rfl knz_1 rfl rfl ?_
          refine J_goto (pc := 105) (tgt := 45) dX8_findSeen_105 (by decide) ?_
          have ec : cnt (edF (m 147) (m 141 4) k) (w + 1) = cnt (edF (m 147) (m 141 4) k) w + 0 := cnt_f (fun z => by unfold edF at z; rw [Bool.and_eq_true, htb] at z; exact absurd h91 (Int32.not_lt.mpr (of_decide_eq_true z.2)))
          rw [ec] at ih45
          refine J_wk' ih45 rfl ?_
          rintro (_ | _ | _ | _ | _ | _ | _ | _ | _ | _ | k) v hv <;> first | exact hv | cases hv
        · 
          refine J_iconst (pc := 94) dX8_findSeen_94 kni_1 ?_
          refine J_goto (pc := 95) (tgt := 99) dX8_findSeen_95 (by decide) ?_
          refine J_iaddv (pc := 99) dX8_findSeen_99 (nI_add _ _) ?_
          refine J_istore (pc := 100) (ls' := [some _, some _, some _, some _, some _, some _, some _, some _, some _]) dX8_findSeen_100 rfl (Nat.le_of_ble_eq_true rfl) rfl ?_
          refine Jn_iinc (pc := 102) (ls' := [some _, some _, some _, some _, some _, some _, some _, some _, some _]) dX8_findSeen_102 rfl knz_1 rfl rfl ?_
          refine J_goto (pc := 105) (tgt := 45) dX8_findSeen_105 (by decide) ?_
          have ec : cnt (edF (m 147) (m 141 4) k) (w + 1) = cnt (edF (m 147) (m 141 4) k) w + 1 := cnt_t (by unfold edF; rw [Bool.and_eq_true, htb]; exact ⟨decide_eq_true h64, decide_eq_true (Int32.not_lt.mp h91)⟩)
          rw [ec] at ih45
          refine J_wk' ih45 rfl ?_
          rintro (_ | _ | _ | _ | _ | _ | _ | _ | _ | _ | k) v hv <;> first | exact hv | cases hv
    ·
      show K x _ _ 45 [some (.ref (jxb x + 140)), some (.int (nI 1)), some (.int ((cntR m (nI 6) T))), some (.int (nI (cnt (seeF' true m (cntR m (nI 6) T)) k))), some (.int (nI k)), some (.int ((sizV (m 147 k - m 154 k)))), some (.int (nI (cnt (edF (m 147) (m 141 4) k) 4))), some (.int (nI 4)), none] _ mm _
      have hcl4 := cnt_le (edF (m 147) (m 141 4) k) 4
      have hec : cnt (edF (m 147) (m 141 4) k) 4 = edcF (m 147) (m 141 4) k := rfl
      refine J_iload (pc := 45) dX8_findSeen_45 rfl ?_
      refine J_iconst (pc := 47) dX8_findSeen_47 kni_4 ?_
      refine Jn_ge (pc := 48) (tgt := 108) dX8_findSeen_48 (by decide) (by omega) (by omega) (fun h48 => ?_) (fun h48 => absurd h48 (by omega))
      refine J_aload_n (pc := 108) dX8_findSeen_108 rfl ?_
      refine K_getR (pc := 109) dX8_findSeen_109 kf_X8_46 job_140 jrf_140_24 ?_
      refine J_iload (pc := 112) dX8_findSeen_112 rfl ?_
      refine J_iload_n (pc := 114) dX8_findSeen_114 rfl ?_
      refine Jn_if_eq (pc := 115) (tgt := 132) dX8_findSeen_115 (by decide) (by omega) (fun h115 => absurd h115 (by omega)) (fun h115 => ?_)
      refine J_aload_n (pc := 118) dX8_findSeen_118 rfl ?_
      refine J_iload_n (pc := 119) dX8_findSeen_119 rfl ?_
      refine J_iload (pc := 120) dX8_findSeen_120 rfl ?_
      refine J_iload (pc := 122) dX8_findSeen_122 rfl ?_
      refine J_iload (pc := 124) dX8_findSeen_124 rfl ?_
      refine K_callVi (pc := 126) (id := 140) (As := [_, _, _, _]) dX8_findSeen_126 kl_X8_298 rfl job_140 rfl rfl (Nat.le_of_ble_eq_true rfl) (m_isKept (m := mm) (p := k) (l := tN (m 147 k)) (e := cnt (edF (m 147) (m 141 4) k) 4) (by omega) (by rw [e147]; exact tN_eq (hl k hk) (by decide)) (by have := tN_lt (hl k hk) (by decide); omega) (by omega) (tx := (cntR m (nI 6) T)) (by rw [← tN_eq (hl k hk) (by decide), e154]) hwm hk2) (fun v126 m126 h126 => ?_)
      obtain ⟨rfl, x126, k126⟩ := h126
      rw [show sawF mm (cntR m (nI 6) T) (sizV (m 147 k - m 154 k)) (mm 154 k) (nI 0) (nI (cnt (edF (m 147) (m 141 4) k) 4)) = (seeF' true m (cntR m (nI 6) T)) k from by rw [e154, sawF_c (fun j _ => congrFun e141 j)]; rfl]
      refine J_goto (pc := 129) (tgt := 164) dX8_findSeen_129 (by decide) ?_
      refine K_zastn (pc := 164) (id := 153) (w := jb ((seeF' true m (cntR m (nI 6) T)) k = true)) dX8_findSeen_164 jar_153 (by omega) (by decide) (jb_nar _) ?_
      refine J_iload_n (pc := 165) dX8_findSeen_165 rfl ?_
      refine J_aload_n (pc := 166) dX8_findSeen_166 rfl ?_
      refine K_getR (pc := 167) dX8_findSeen_167 kf_X8_46 job_140 jrf_140_24 ?_
      refine J_iload (pc := 170) dX8_findSeen_170 rfl ?_
      refine K_zaldn (pc := 172) (id := 153) dX8_findSeen_172 jar_153 (by omega) (by decide) ?_
      refine J_top (b := (jb ((seeF' true m (cntR m (nI 6) T)) k = true))) (mup_s) ?_
      refine Jb_eq (pc := 173) (tgt := 180) dX8_findSeen_173 (by decide) (fun h173 => ?_) (fun h173 => ?_)
      · 
        refine J_iconst (pc := 180) dX8_findSeen_180 kni_0 ?_
        refine J_iaddv (pc := 181) dX8_findSeen_181 (nI_add _ _) ?_
        refine J_istore_n (pc := 182) (ls' := [some _, some _, some _, some _, some _, some _, some _, some _, none]) dX8_findSeen_182 rfl (Nat.le_of_ble_eq_true rfl) rfl ?_
        refine Jn_iinc (pc := 183) (ls' := [some _, some _, some _, some _, some _, some _, some _, some _, none]) dX8_findSeen_183 rfl knz_1 rfl rfl ?_
        refine J_goto (pc := 186) (tgt := 12) dX8_findSeen_186 (by decide) ?_
        have hs2 : ∀ p, p < k + 1 → (mup m126 153 k (jb ((seeF' true m (cntR m (nI 6) T)) k = true))) 153 p = jb ((seeF' true m (cntR m (nI 6) T)) p = true) := fun p hp => by
          by_cases ep : p = k
          · rw [ep, mup_s]
          · rw [mup_j ep, x126 153 (by decide)]
            exact hs p (by omega)
        have ex2 : exs [151, 152, 153, 155] m (mup m126 153 k (jb ((seeF' true m (cntR m (nI 6) T)) k = true))) := exs_up (fun i hi => (x126 i (fun z => hi (by simp at z ⊢; omega))).trans (hx i hi)) (by decide)
        have kp2 : kpt (mup m126 153 k (jb ((seeF' true m (cntR m (nI 6) T)) k = true))) (cntR m (nI 6) T) := kpt_c k126 (fun j _ => congrFun (mup_i' (by decide)) j) (mup_i' (by decide)) (mup_i' (by decide))
        have hc : cnt (seeF' true m (cntR m (nI 6) T)) (k + 1) = cnt (seeF' true m (cntR m (nI 6) T)) k + 0 := cnt_f h173
        refine J_wk' (ih12 [some (.ref (jxb x + 140)), some (.int (nI 1)), some (.int ((cntR m (nI 6) T))), some (.int (nI (cnt (seeF' true m (cntR m (nI 6) T)) k + 0))), some (.int (nI (k + 1))), none, none, none, none] _ ⟨by rw [hc], ex2, hs2, kp2⟩) rfl ?_
        rintro (_ | _ | _ | _ | _ | _ | _ | _ | _ | k) v hv <;> first | exact hv | cases hv
      · 
        refine J_iconst (pc := 176) dX8_findSeen_176 kni_1 ?_
        refine J_goto (pc := 177) (tgt := 181) dX8_findSeen_177 (by decide) ?_
        refine J_iaddv (pc := 181) dX8_findSeen_181 (nI_add _ _) ?_
        refine J_istore_n (pc := 182) (ls' := [some _, some _, some _, some _, some _, some _, some _, some _, none]) dX8_findSeen_182 rfl (Nat.le_of_ble_eq_true rfl) rfl ?_
        refine Jn_iinc (pc := 183) (ls' := [some _, some _, some _, some _, some _, some _, some _, some _, none]) dX8_findSeen_183 rfl knz_1 rfl rfl ?_
        refine J_goto (pc := 186) (tgt := 12) dX8_findSeen_186 (by decide) ?_
        have hs2 : ∀ p, p < k + 1 → (mup m126 153 k (jb ((seeF' true m (cntR m (nI 6) T)) k = true))) 153 p = jb ((seeF' true m (cntR m (nI 6) T)) p = true) := fun p hp => by
          by_cases ep : p = k
          · rw [ep, mup_s]
          · rw [mup_j ep, x126 153 (by decide)]
            exact hs p (by omega)
        have ex2 : exs [151, 152, 153, 155] m (mup m126 153 k (jb ((seeF' true m (cntR m (nI 6) T)) k = true))) := exs_up (fun i hi => (x126 i (fun z => hi (by simp at z ⊢; omega))).trans (hx i hi)) (by decide)
        have kp2 : kpt (mup m126 153 k (jb ((seeF' true m (cntR m (nI 6) T)) k = true))) (cntR m (nI 6) T) := kpt_c k126 (fun j _ => congrFun (mup_i' (by decide)) j) (mup_i' (by decide)) (mup_i' (by decide))
        have hc : cnt (seeF' true m (cntR m (nI 6) T)) (k + 1) = cnt (seeF' true m (cntR m (nI 6) T)) k + 1 := cnt_t h173
        refine J_wk' (ih12 [some (.ref (jxb x + 140)), some (.int (nI 1)), some (.int ((cntR m (nI 6) T))), some (.int (nI (cnt (seeF' true m (cntR m (nI 6) T)) k + 1))), some (.int (nI (k + 1))), none, none, none, none] _ ⟨by rw [hc], ex2, hs2, kp2⟩) rfl ?_
        rintro (_ | _ | _ | _ | _ | _ | _ | _ | _ | k) v hv <;> first | exact hv | cases hv
  ·
    obtain ⟨rfl, hx, hs, hk2⟩ := hI12
    have hcl := cnt_le (seeF' true m (cntR m (nI 6) T)) 48
    refine J_iload (pc := 12) dX8_findSeen_12 rfl ?_
    refine J_bipush (pc := 14) dX8_findSeen_14 knb_48 ?_
    refine Jn_ge (pc := 16) (tgt := 189) dX8_findSeen_16 (by decide) (by omega) (by omega) (fun h16 => ?_) (fun h16 => absurd h16 (by omega))
    refine J_iload_n (pc := 189) dX8_findSeen_189 rfl ?_
    refine K_iret (pc := 190) dX8_findSeen_190 rfl ⟨_, rfl, ?_⟩
    exact ⟨rfl, hx, hs, hk2⟩
