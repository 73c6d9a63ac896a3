/-- what the reference's eye sees -/
def wfE (m : jm) (tx : Int32) : Prop := tx < 0 ∨ ∃ t, t < 14 ∧ tx = nI t ∧ m 141 (440 + 200 * t) = nI 6 ∧ sndT m t
theorem wfE_c {m m' : jm} {tx : Int32} (h : ∀ j, 440 ≤ j → m' 141 j = m 141 j) (hw : wfE m tx) : wfE m' tx := by
  rcases hw with h0 | ⟨t, h1, h2, h3, h4⟩
  · exact Or.inl h0
  · exact Or.inr ⟨t, h1, h2, by rw [h _ (by omega)]; exact h3, sndT_c h h4⟩
theorem wfE_cnt {m : jm} {T : Nat} (hT14 : T ≤ 14) (hS : ∀ t, t < T → sndT m t) : wfE m (cntR m (nI 6) T) := by
  by_cases h : cntR m (nI 6) T < 0
  · exact Or.inl h
  · obtain ⟨t, h1, h2, h3⟩ := cntR_N hT14 h
    exact Or.inr ⟨t, by omega, h2, h3, hS t h1⟩
def sawF (m : jm) (tx far gr mov ed : Int32) : Bool := if tx < 0 then decide (nI 9 < far) else decide (¬ txV m tx far gr mov ed = 0)
theorem sawF_c {m m' : jm} {tx far gr mov ed : Int32} (h : ∀ j, 440 ≤ j → m' 141 j = m 141 j) : sawF m' tx far gr mov ed = sawF m tx far gr mov ed := by
  unfold sawF
  rw [txV_c h]
def edF (L : Nat → Int32) (E : Int32) (p w : Nat) : Bool := decide (¬ besW p w < 0) && decide (E ≤ sizV (L p - L (tN (besW p w))))
def edcF (L : Nat → Int32) (E : Int32) (p : Nat) : Nat := cnt (edF L E p) 4
def seeF (m : jm) (tx : Int32) (L G Wz : Nat → Int32) (E : Int32) (p : Nat) : Bool := sawF m tx (sizV (L p - G p)) (G p) (sizV (L p - Wz p)) (nI (edcF L E p))
def stlF (m : jm) (tx : Int32) (L G : Nat → Int32) (E : Int32) (p : Nat) : Bool := sawF m tx (sizV (L p - G p)) (G p) (nI 0) (nI (edcF L E p))
theorem edcF_c {L L' : Nat → Int32} {E : Int32} {p : Nat} (hp : p < 48) (h : ∀ q, q < 48 → L' q = L q) : edcF L' E p = edcF L E p := cnt_c 4 fun w hw => by
  unfold edF
  rcases besW_in (p := p) (w := w) hp hw with q | ⟨b, hb, e⟩
  · rw [decide_eq_false (fun z => z q), Bool.false_and, Bool.false_and]
  · rw [e, tN_n (by omega), h b hb, h p hp]
set_option maxRecDepth 100000 in
set_option maxHeartbeats 400000 in
theorem m_isSeenAt {x : jX} {m : jm} {d : Nat} {p : Nat} (hp : p < 48) {tx : Int32} (hw : wfE m tx) (ed far mov : Int32) : Ct x (d + 2) eX8_isSeenAt [.ref (jxb x + 140), .int tx, .int (nI p), .int ed, .int far, .int mov] m (ji fun v m' => v = jb (sawF m tx far (m 154 p) mov ed = true) ∧ exs [151, 152] m m') := by
  refine J_start (by decide +kernel) (Nat.le_of_ble_eq_true rfl) (ls := [some (.ref (jxb x + 140)), some (.int tx), some (.int (nI p)), some (.int ed), some (.int far), some (.int mov)]) rfl rfl ?_
  refine J_iload_n (pc := 0) dX8_isSeenAt_0 rfl ?_
  refine J_if_ge (pc := 1) (tgt := 17) dX8_isSeenAt_1 (by decide) (fun h1 => ?_) (fun h1 => ?_)
  · 
    refine J_aload_n (pc := 17) dX8_isSeenAt_17 rfl ?_
    refine J_bipush (pc := 18) dX8_isSeenAt_18 knb_6 ?_
    refine J_iload (pc := 20) dX8_isSeenAt_20 rfl ?_
    refine J_aload_n (pc := 22) dX8_isSeenAt_22 rfl ?_
    refine K_getR (pc := 23) dX8_isSeenAt_23 kf_X8_50 job_140 jrf_140_25 ?_
    refine J_iload_n (pc := 26) dX8_isSeenAt_26 rfl ?_
    refine K_ialdn (pc := 27) (id := 154) dX8_isSeenAt_27 jar_154 (by omega) (by decide) ?_
    refine J_iload (pc := 28) dX8_isSeenAt_28 rfl ?_
    refine J_iload_n (pc := 30) dX8_isSeenAt_30 rfl ?_
    refine K_callVv (pc := 31) (id := 140) (As := [_, _, _, _, _]) dX8_isSeenAt_31 kl_X8_287 rfl job_140 rfl rfl (Nat.le_of_ble_eq_true rfl) (m_nameAll (nI 6) _ _ _ _) (fun m31 h31 => ?_)
    subst h31
    have hlt := Int32.not_lt.mpr h1
    obtain ⟨t, ht, hte, htw, hts⟩ := hw.resolve_left hlt
    refine J_aload_n (pc := 34) dX8_isSeenAt_34 rfl ?_
    refine J_iload_n (pc := 35) dX8_isSeenAt_35 rfl ?_
    refine K_callVi (pc := 36) (id := 140) (As := [_]) dX8_isSeenAt_36 kl_X8_291 rfl job_140 rfl rfl (Nat.le_of_ble_eq_true rfl) (m_workedV (m := (nmM m (nI 6) far (m 154 p) mov ed)) (t := t) ht hte (sndT_c (fun j _ => congrFun (nmM_i (by decide)) j) hts) far (m 154 p) mov ed (fun v hv => nmM_n (by rw [← htw, ← congrFun (nmM_i (m := m) (g := nI 6) (a := far) (b := m 154 p) (c := mov) (e := ed) (by decide : (141 : Nat) ≠ 151)) _]; exact hv))) (fun v36 m36 h36 => ?_)
    have hv : v36 = txV m tx far (m 154 p) mov ed := h36.1.trans (txV_c (fun j _ => congrFun (nmM_i (by decide)) j))
    refine J_if_eq (pc := 39) (tgt := 46) dX8_isSeenAt_39 (by decide) (fun h39 => ?_) (fun h39 => ?_)
    · 
      refine J_iconst (pc := 46) dX8_isSeenAt_46 kni_0 ?_
      refine K_zret (pc := 47) dX8_isSeenAt_47 rfl rfl ⟨_, rfl, ?_⟩
      refine ⟨?_, fun i hi => (h36.2 i (fun z => hi (by simp at z ⊢; omega))).trans (nmM_i (fun z => hi (by rw [z]; decide)))⟩
      unfold sawF
      rw [if_neg hlt, ← hv]
      exact jbF (by rw [decide_eq_true_eq]; exact fun q => q h39)
    · 
      refine J_iconst (pc := 42) dX8_isSeenAt_42 kni_1 ?_
      refine J_goto (pc := 43) (tgt := 47) dX8_isSeenAt_43 (by decide) ?_
      refine K_zret (pc := 47) dX8_isSeenAt_47 rfl rfl ⟨_, rfl, ?_⟩
      refine ⟨?_, fun i hi => (h36.2 i (fun z => hi (by simp at z ⊢; omega))).trans (nmM_i (fun z => hi (by rw [z]; decide)))⟩
      unfold sawF
      rw [if_neg hlt, ← hv]
      exact jbT (by rw [decide_eq_true_eq]; exact h39)
  · 
    refine J_iload (pc := 4) dX8_isSeenAt_4 rfl ?_
    refine J_bipush (pc := 6) dX8_isSeenAt_6 knb_9 ?_
    refine J_icmp_le (pc := 8) (tgt := 15) dX8_isSeenAt_8 (by decide) (fun h8 => ?_) (fun h8 => ?_)
    · 
      refine J_iconst (pc := 15) dX8_isSeenAt_15 kni_0 ?_
      refine K_zret (pc := 16) dX8_isSeenAt_16 rfl rfl ⟨_, rfl, ?_⟩
      refine ⟨?_, exs_rf _ _⟩
      unfold sawF
      rw [if_pos (Int32.not_le.mp h1)]
      exact jbF (by rw [decide_eq_true_eq]; exact Int32.not_lt.mpr h8)
    · 
      refine J_iconst (pc := 11) dX8_isSeenAt_11 kni_1 ?_
      refine J_goto (pc := 12) (tgt := 16) dX8_isSeenAt_12 (by decide) ?_
      refine K_zret (pc := 16) dX8_isSeenAt_16 rfl rfl ⟨_, rfl, ?_⟩
      refine ⟨?_, exs_rf _ _⟩
      unfold sawF
      rw [if_pos (Int32.not_le.mp h1)]
      exact jbT (by rw [decide_eq_true_eq]; exact Int32.not_le.mp h8)
/-- what was kept of an eye that sees still pictures -/
def kbV (b : Bool) : Int32 := if b = true then nI 2 else nI 1
def kpt (m : jm) (tx : Int32) : Prop := ∀ p l e, p < 48 → l ≤ 99 → e ≤ 4 → m 155 (500 * p + 5 * l + e) = 0 ∨ m 155 (500 * p + 5 * l + e) = kbV (sawF m tx (sizV (nI l - m 154 p)) (m 154 p) (nI 0) (nI e))
theorem kpt_up {m m' : jm} {tx : Int32} {p l e : Nat} {v : Int32} (h : kpt m tx) (h1 : exs [151, 152, 155] m m') (h155 : m' 155 = fset (m 155) (500 * p + 5 * l + e) v) (hp : p < 48) (hl : l ≤ 99) (he : e ≤ 4) (hv : v = kbV (sawF m tx (sizV (nI l - m 154 p)) (m 154 p) (nI 0) (nI e))) : kpt m' tx := fun q l2 e2 hq hl2 he2 => by
  rw [h155, h1 154 (by decide), sawF_c (fun j _ => congrFun (h1 141 (by decide)) j)]
  by_cases z : 500 * q + 5 * l2 + e2 = 500 * p + 5 * l + e
  · have a1 : e2 = e := by omega
    have a2 : l2 = l := by omega
    have a3 : q = p := by omega
    subst a1 a2 a3
    rw [fset_s]
    exact Or.inr hv
  · rw [fset_n z]
    exact h q l2 e2 hq hl2 he2
theorem kpt_c {m m' : jm} {tx : Int32} (h : kpt m tx) (h1 : ∀ j, 440 ≤ j → m' 141 j = m 141 j) (h4 : m' 154 = m 154) (h5 : m' 155 = m 155) : kpt m' tx := fun p l e hp hl he => by
  rw [h5, h4, sawF_c h1]
  exact h p l e hp hl he
set_option maxRecDepth 100000 in
set_option maxHeartbeats 400000 in
theorem m_isKept {x : jX} {m : jm} {d : Nat} {p l e : Nat} (hp : p < 48) (hl : m 147 p = nI l) (hl99 : l ≤ 99) (he4 : e ≤ 4) {tx far : Int32} (hf : far = sizV (nI l - m 154 p)) (hw : wfE m tx) (hk : kpt m tx) : Ct x (d + 3) eX8_isKept [.ref (jxb x + 140), .int tx, .int (nI p), .int (nI e), .int far] m (ji fun v m' => v = jb (sawF m tx far (m 154 p) (nI 0) (nI e) = true) ∧ exs [151, 152, 155] m m' ∧ kpt m' tx) := by
  refine J_start (by decide +kernel) (Nat.le_of_ble_eq_true rfl) (ls := [some (.ref (jxb x + 140)), some (.int tx), some (.int (nI p)), some (.int (nI e)), some (.int far), none]) rfl rfl ?_
  refine J_sipush (pc := 0) dX8_isKept_0 kns_500 ?_
  refine J_iload_n (pc := 3) dX8_isKept_3 rfl ?_
  refine J_imulv (pc := 4) dX8_isKept_4 (pk_mul _ _) ?_
  refine J_iconst (pc := 5) dX8_isKept_5 kni_5 ?_
  refine J_aload_n (pc := 6) dX8_isKept_6 rfl ?_
  refine K_getR (pc := 7) dX8_isKept_7 kf_X8_28 job_140 jrf_140_7 ?_
  refine J_iload_n (pc := 10) dX8_isKept_10 rfl ?_
  refine K_ialdn (pc := 11) (id := 147) dX8_isKept_11 jar_147 (by omega) (by decide) ?_
  refine J_top (b := nI l) (hl) ?_
  refine J_imulv (pc := 12) dX8_isKept_12 (pk_mul _ _) ?_
  refine J_iaddv (pc := 13) dX8_isKept_13 (nI_add _ _) ?_
  refine J_iload_n (pc := 14) dX8_isKept_14 rfl ?_
  refine J_iaddv (pc := 15) dX8_isKept_15 (nI_add _ _) ?_
  refine J_istore (pc := 16) (ls' := [some _, some _, some _, some _, some _, some _]) dX8_isKept_16 rfl (Nat.le_of_ble_eq_true rfl) rfl ?_
  refine J_aload_n (pc := 18) dX8_isKept_18 rfl ?_
  refine K_getR (pc := 19) dX8_isKept_19 kf_X8_53 job_140 jrf_140_26 ?_
  refine J_iload (pc := 22) dX8_isKept_22 rfl ?_
  refine K_baldn (pc := 24) (id := 155) dX8_isKept_24 jar_155 (by omega) (by decide) ?_
  refine J_if_ne (pc := 25) (tgt := 54) dX8_isKept_25 (by decide) (fun h25 => ?_) (fun h25 => ?_)
  · 
    refine J_aload_n (pc := 54) dX8_isKept_54 rfl ?_
    refine K_getR (pc := 55) dX8_isKept_55 kf_X8_53 job_140 jrf_140_26 ?_
    refine J_iload (pc := 58) dX8_isKept_58 rfl ?_
    refine K_baldn (pc := 60) (id := 155) dX8_isKept_60 jar_155 (by omega) (by decide) ?_
    refine J_iconst (pc := 61) dX8_isKept_61 kni_2 ?_
    refine J_icmp_ne (pc := 62) (tgt := 69) dX8_isKept_62 (by decide) (fun h62 => ?_) (fun h62 => ?_)
    · 
      refine J_iconst (pc := 69) dX8_isKept_69 kni_0 ?_
      refine K_zret (pc := 70) dX8_isKept_70 rfl rfl ⟨_, rfl, ?_⟩
      have hb := (hk p l e hp hl99 he4).resolve_left h25
      rw [← hf] at hb
      refine ⟨?_, exs_rf _ _, hk⟩
      cases hs : (sawF m tx far (m 154 p) (nI 0) (nI e)) with
      | true => rw [hs] at hb; exact absurd hb h62
      | false => rfl
    · 
      refine J_iconst (pc := 65) dX8_isKept_65 kni_1 ?_
      refine J_goto (pc := 66) (tgt := 70) dX8_isKept_66 (by decide) ?_
      refine K_zret (pc := 70) dX8_isKept_70 rfl rfl ⟨_, rfl, ?_⟩
      have hb := (hk p l e hp hl99 he4).resolve_left h25
      rw [← hf] at hb
      refine ⟨?_, exs_rf _ _, hk⟩
      cases hs : (sawF m tx far (m 154 p) (nI 0) (nI e)) with
      | true => rfl
      | false => rw [hs] at hb; exact absurd (hb.symm.trans h62) (by decide)
  · 
    refine J_aload_n (pc := 28) dX8_isKept_28 rfl ?_
    refine K_getR (pc := 29) dX8_isKept_29 kf_X8_53 job_140 jrf_140_26 ?_
    refine J_iload (pc := 32) dX8_isKept_32 rfl ?_
    refine J_aload_n (pc := 34) dX8_isKept_34 rfl ?_
    refine J_iload_n (pc := 35) dX8_isKept_35 rfl ?_
    refine J_iload_n (pc := 36) dX8_isKept_36 rfl ?_
    refine J_iload_n (pc := 37) dX8_isKept_37 rfl ?_
    refine J_iload (pc := 38) dX8_isKept_38 rfl ?_
    refine J_iconst (pc := 40) dX8_isKept_40 kni_0 ?_
    refine K_callVi (pc := 41) (id := 140) (As := [_, _, _, _, _]) dX8_isKept_41 kl_X8_294 rfl job_140 rfl rfl (Nat.le_of_ble_eq_true rfl) (m_isSeenAt hp hw (nI e) far (nI 0)) (fun v41 m41 h41 => ?_)
    obtain ⟨rfl, h41⟩ := h41
    refine Jb_eq (pc := 44) (tgt := 51) dX8_isKept_44 (by decide) (fun h44 => ?_) (fun h44 => ?_)
    · 
      refine J_iconst (pc := 51) dX8_isKept_51 kni_1 ?_
      refine J_i2b (pc := 52) dX8_isKept_52 ?_
      refine K_bastn (pc := 53) (id := 155) (w := ((nI 1).toInt8.toInt32)) dX8_isKept_53 jar_155 (by omega) (by decide) (by8_nar _) ?_
      refine J_aload_n (pc := 54) dX8_isKept_54 rfl ?_
      refine K_getR (pc := 55) dX8_isKept_55 kf_X8_53 job_140 jrf_140_26 ?_
      refine J_iload (pc := 58) dX8_isKept_58 rfl ?_
      refine K_baldn (pc := 60) (id := 155) dX8_isKept_60 jar_155 (by omega) (by decide) ?_
      refine J_iconst (pc := 61) dX8_isKept_61 kni_2 ?_
      refine J_icmp_ne (pc := 62) (tgt := 69) dX8_isKept_62 (by decide) (fun h62 => ?_) (fun h62 => absurd h62 (by rw [mup_s]; decide))
      refine J_iconst (pc := 69) dX8_isKept_69 kni_0 ?_
      refine K_zret (pc := 70) dX8_isKept_70 rfl rfl ⟨_, rfl, ?_⟩
      have hb : (sawF m tx far (m 154 p) (nI 0) (nI e)) = false := Bool.eq_false_iff.mpr h44
      refine ⟨by rw [hb]; rfl, exs_up (exs_w h41 (by intro i hi; simp at hi ⊢; omega)) (by decide), kpt_up (p := p) (l := l) (e := e) hk (exs_up (exs_w h41 (by intro i hi; simp at hi ⊢; omega)) (by decide)) (by rw [mup_row, h41 155 (by decide)]) hp hl99 he4 (by rw [← hf, hb]; decide)⟩
    · 
      refine J_iconst (pc := 47) dX8_isKept_47 kni_2 ?_
      refine J_goto (pc := 48) (tgt := 52) dX8_isKept_48 (by decide) ?_
      refine J_i2b (pc := 52) dX8_isKept_52 ?_
      refine K_bastn (pc := 53) (id := 155) (w := ((nI 2).toInt8.toInt32)) dX8_isKept_53 jar_155 (by omega) (by decide) (by8_nar _) ?_
      refine J_aload_n (pc := 54) dX8_isKept_54 rfl ?_
      refine K_getR (pc := 55) dX8_isKept_55 kf_X8_53 job_140 jrf_140_26 ?_
      refine J_iload (pc := 58) dX8_isKept_58 rfl ?_
      refine K_baldn (pc := 60) (id := 155) dX8_isKept_60 jar_155 (by omega) (by decide) ?_
      refine J_iconst (pc := 61) dX8_isKept_61 kni_2 ?_
      refine J_icmp_ne (pc := 62) (tgt := 69) dX8_isKept_62 (by decide) (fun h62 => absurd h62 (fun z => z (by rw [mup_s]; decide))) (fun h62 => ?_)
      refine J_iconst (pc := 65) dX8_isKept_65 kni_1 ?_
      refine J_goto (pc := 66) (tgt := 70) dX8_isKept_66 (by decide) ?_
      refine K_zret (pc := 70) dX8_isKept_70 rfl rfl ⟨_, rfl, ?_⟩
      have hb : (sawF m tx far (m 154 p) (nI 0) (nI e)) = true := h44
      refine ⟨by rw [hb]; rfl, exs_up (exs_w h41 (by intro i hi; simp at hi ⊢; omega)) (by decide), kpt_up (p := p) (l := l) (e := e) hk (exs_up (exs_w h41 (by intro i hi; simp at hi ⊢; omega)) (by decide)) (by rw [mup_row, h41 155 (by decide)]) hp hl99 he4 (by rw [← hf, hb]; decide)⟩
