def seeQ (m : jm) (tx : Int32) (p : Nat) (l e : Int32) : Bool := if tx = NONEv then decide (nI 9 < absV (l - m 117 p)) else decide (¬ textV m tx (absV (l - m 117 p)) (m 117 p) (m 120 p) e = 0)
theorem seeP_Q (m : jm) (tx : Int32) (p : Nat) : seeP m 116 tx p = seeQ m tx p (m 118 p) (m 119 p) := rfl
theorem textV_c {m m' : jm} {tx : Int32} (h1 : m' (80 + tN tx) = m (80 + tN tx)) (h2 : m' 78 = m 78) (a b c d : Int32) : textV m' tx a b c d = textV m tx a b c d := by
  unfold textV
  rw [h1, h2]
theorem wfX_80 {m : jm} {tx : Int32} (h : wfX m tx) : tx = NONEv ∨ tN tx < 14 := h.imp_right fun q => tN_lt q.1 (by decide)
theorem seeQ_c {m m' : jm} {tx : Int32} (hw : tx = NONEv ∨ tN tx < 14) (h : ∀ k, k = 117 ∨ k = 120 ∨ k = 78 ∨ (80 ≤ k ∧ k < 94) → m' k = m k) (p : Nat) (l e : Int32) : seeQ m' tx p l e = seeQ m tx p l e := by
  unfold seeQ
  rw [h 117 (by omega), h 120 (by omega)]
  by_cases n : tx = NONEv
  · simp only [if_pos n]
  · have := hw.resolve_left n
    rw [textV_c (h _ (by omega)) (h _ (by omega))]
-- bits: one for each number of edges that was judged, five above it one if seen
theorem or_and32 (a b c : Int32) : (a ||| b) &&& c = (a &&& c) ||| (b &&& c) := Int32.toBitVec_inj.1 BitVec.and_or_distrib_right
def kB (e : Nat) : Int32 := nI 1 <<< (nI e &&& 31)
def sB (e : Nat) : Int32 := kB e <<< (nI 5 &&& 31)
theorem kB_t : ∀ a, a < 5 → ∀ b, b < 5 → kB a &&& sB b = 0 ∧ sB a &&& kB b = 0 ∧ (a ≠ b → kB a &&& kB b = 0 ∧ sB a &&& sB b = 0) := by decide +kernel
theorem kB_n : ∀ a, a < 5 → ¬ kB a = 0 ∧ ¬ sB a = 0 := by decide +kernel
theorem sB_v {c : Prop} [Decidable c] {e : Nat} (he : e < 5) : (if c then sB e else 0) = 0 ↔ ¬ c := by
  by_cases h : c
  · rw [if_pos h]; exact ⟨fun q => absurd q (kB_n e he).2, fun q => absurd h q⟩
  · rw [if_neg h]; exact ⟨fun _ => h, fun _ => rfl⟩
theorem jd_same {w : Int32} {e : Nat} {c : Prop} [Decidable c] (he : e < 5) (h0 : w &&& kB e = 0) (h1 : w &&& sB e = 0) : (w ||| kB e ||| (if c then sB e else 0)) &&& sB e = (if c then sB e else 0) ∧ ¬ (w ||| kB e ||| (if c then sB e else 0)) &&& kB e = 0 := by
  obtain ⟨k1, k2, -⟩ := kB_t e he e he
  have k3 := kB_n e he
  by_cases h : c
  · simp only [if_pos h]
    refine ⟨?_, ?_⟩
    · rw [or_and32, or_and32, h1, k1, Int32.and_self, Int32.zero_or, Int32.zero_or]
    · rw [or_and32, or_and32, h0, Int32.and_self, k2, Int32.or_zero, Int32.zero_or]; exact k3.1
  · simp only [if_neg h]
    refine ⟨?_, ?_⟩
    · rw [or_and32, or_and32, h1, k1, Int32.zero_and, Int32.zero_or, Int32.zero_or]
    · rw [or_and32, or_and32, h0, Int32.and_self, Int32.zero_and, Int32.or_zero, Int32.zero_or]; exact k3.1
theorem jd_other {w : Int32} {e e' : Nat} {c : Prop} [Decidable c] (he : e < 5) (he' : e' < 5) (hn : e ≠ e') : (w ||| kB e ||| (if c then sB e else 0)) &&& sB e' = w &&& sB e' ∧ (w ||| kB e ||| (if c then sB e else 0)) &&& kB e' = w &&& kB e' := by
  obtain ⟨k1, k2, k4⟩ := kB_t e he e' he'
  obtain ⟨k4, k5⟩ := k4 hn
  by_cases h : c
  · simp only [if_pos h]
    refine ⟨?_, ?_⟩
    · rw [or_and32, or_and32, k1, k5, Int32.or_zero, Int32.or_zero]
    · rw [or_and32, or_and32, k4, k2, Int32.or_zero, Int32.or_zero]
  · simp only [if_neg h]
    refine ⟨?_, ?_⟩
    · rw [or_and32, or_and32, k1, Int32.zero_and, Int32.or_zero, Int32.or_zero]
    · rw [or_and32, or_and32, k4, Int32.zero_and, Int32.or_zero, Int32.or_zero]
/-- what was judged stands -/
def jdI (sq : Nat → Int32 → Int32 → Bool) (m : jm) : Prop := ∀ p l e, p < 48 → l < 100 → e < 5 → m 125 (p * 100 + l) &&& sB e = if m 125 (p * 100 + l) &&& kB e = 0 then 0 else if sq p (nI l) (nI e) = true then sB e else 0
theorem jdI_c {sq : Nat → Int32 → Int32 → Bool} {m m' : jm} (h : jdI sq m) (e : m' 125 = m 125) : jdI sq m' := fun p l e1 h1 h2 h3 => by rw [e]; exact h p l e1 h1 h2 h3
theorem jdI_put {sq : Nat → Int32 → Int32 → Bool} {m m' : jm} {p l e : Nat} (h : jdI sq m) (hp : p < 48) (hl : l < 100) (he : e < 5) (h0 : m 125 (p * 100 + l) &&& kB e = 0)
    (hv : m' 125 (p * 100 + l) = m 125 (p * 100 + l) ||| kB e ||| (if sq p (nI l) (nI e) = true then sB e else 0)) (ho : ∀ j, j ≠ p * 100 + l → m' 125 j = m 125 j) : jdI sq m' := by
  intro p' l' e' hp' hl' he'
  by_cases q : p' * 100 + l' = p * 100 + l
  · obtain rfl : p' = p := by omega
    obtain rfl : l' = l := by omega
    have h1 := h p' l' e hp hl he
    rw [if_pos h0] at h1
    rw [hv]
    by_cases z : e = e'
    · subst z
      obtain ⟨a1, a2⟩ := jd_same (c := sq p' (nI l') (nI e) = true) he h0 h1
      rw [a1, if_neg a2]
    · obtain ⟨a1, a2⟩ := jd_other (w := m 125 (p' * 100 + l')) (c := sq p' (nI l') (nI e) = true) he he' z
      rw [a1, a2]
      exact h p' l' e' hp hl he'
  · rw [ho _ q]; exact h p' l' e' hp' hl' he'
set_option maxRecDepth 100000 in
set_option maxHeartbeats 400000 in
theorem c_forgetJudged {x : jX} {m : jm} {d : Nat} : Ct x (d + 1) eX3_forgetJudged [.ref (jxb x + 102)] m (jv fun m' => m' = mfill m 125 4800 (fun _ => nI 0)) := by
  refine J_start (by decide +kernel) (Nat.le_of_ble_eq_true rfl) (ls := [some (.ref (jxb x + 102)), none]) rfl rfl ?_
  refine J_iconst (pc := 0) dX3_forgetJudged_0 kni_0 ?_
  refine J_istore_n (pc := 1) (ls' := [some _, some _]) dX3_forgetJudged_1 rfl (Nat.le_of_ble_eq_true rfl) rfl ?_
  refine K_for' (pc := 2) 4800 (fun i => [some (.ref (jxb x + 102)), some (.int (nI i))]) (fun i => mfill m 125 i (fun _ => nI 0)) (by rfl) (by exact (mfill_0 _ _ _).symm) (fun i hi ih2 => ?_) ?_
  ·
    show K x _ _ 2 [some (.ref (jxb x + 102)), some (.int (nI i))] _ (mfill m 125 i (fun _ => nI 0)) _
    refine J_iload_n (pc := 2) dX3_forgetJudged_2 rfl ?_
    refine J_aload_n (pc := 3) dX3_forgetJudged_3 rfl ?_
    refine K_getR (pc := 4) dX3_forgetJudged_4 kf_X3_37 job_102 jrf_102_5 ?_
    refine K_alen (pc := 7) (id := 125) dX3_forgetJudged_7 jar_125 ?_
    refine Jn_ge (pc := 8) (tgt := 24) dX3_forgetJudged_8 (by decide) (by omega) (by omega) (fun h8 => absurd h8 (by omega)) (fun h8 => ?_)
    refine J_aload_n (pc := 11) dX3_forgetJudged_11 rfl ?_
    refine K_getR (pc := 12) dX3_forgetJudged_12 kf_X3_37 job_102 jrf_102_5 ?_
    refine J_iload_n (pc := 15) dX3_forgetJudged_15 rfl ?_
    refine J_iconst (pc := 16) dX3_forgetJudged_16 kni_0 ?_
    refine K_iastn (pc := 17) (id := 125) dX3_forgetJudged_17 jar_125 (by omega) (by decide) ?_
    refine Jn_iinc (pc := 18) (ls' := [some _, some _]) dX3_forgetJudged_18 rfl knz_1 rfl rfl ?_
    refine J_goto (pc := 21) (tgt := 2) dX3_forgetJudged_21 (by decide) ?_
    rw [mfill_s _ _ _ (fun _ => nI 0) (show nI 0 = (fun _ => nI 0) i from rfl)]
    exact ih2
  ·
    show K x _ _ 2 [some (.ref (jxb x + 102)), some (.int (nI 4800))] _ (mfill m 125 4800 (fun _ => nI 0)) _
    refine J_iload_n (pc := 2) dX3_forgetJudged_2 rfl ?_
    refine J_aload_n (pc := 3) dX3_forgetJudged_3 rfl ?_
    refine K_getR (pc := 4) dX3_forgetJudged_4 kf_X3_37 job_102 jrf_102_5 ?_
    refine K_alen (pc := 7) (id := 125) dX3_forgetJudged_7 jar_125 ?_
    refine Jn_ge (pc := 8) (tgt := 24) dX3_forgetJudged_8 (by decide) (by omega) (by omega) (fun h8_2 => ?_) (fun h8_2 => absurd h8_2 (by omega))
    refine K_vret (pc := 24) dX3_forgetJudged_24 rfl ⟨rfl, ?_⟩
    rfl
set_option maxRecDepth 100000 in
set_option maxHeartbeats 400000 in
theorem c_seenOnce {x : jX} {m : jm} {d : Nat} {p l e : Nat} {tx : Int32} {sq : Nat → Int32 → Int32 → Bool} (hp : p < 48) (hll : l < 100) (hee : e < 5) (hl : m 118 p = nI l) (he : m 119 p = nI e) (hjd : jdI sq m) (hw : wfX m tx) (hsq : seeP m 116 tx p = sq p (nI l) (nI e)) : Ct x (d + 3) eX3_seenOnce [.ref (jxb x + 102), .int (nI p), .ref (jxb x + 74), .int tx] m (ji fun v m' => v = nI (if sq p (nI l) (nI e) = true then 1 else 0) ∧ exs [94, 125] m m' ∧ jdI sq m') := by
  refine J_start (by decide +kernel) (Nat.le_of_ble_eq_true rfl) (ls := [some (.ref (jxb x + 102)), some (.int (nI p)), some (.ref (jxb x + 74)), some (.int tx), none, none, none]) rfl rfl ?_
  refine J_iload_n (pc := 0) dX3_seenOnce_0 rfl ?_
  refine J_bipush (pc := 1) dX3_seenOnce_1 knb_100 ?_
  refine J_imulv (pc := 3) dX3_seenOnce_3 (pk_mul _ _) ?_
  refine J_aload_n (pc := 4) dX3_seenOnce_4 rfl ?_
  refine K_getR (pc := 5) dX3_seenOnce_5 kf_X3_21 job_102 jrf_102_1 ?_
  refine K_getR (pc := 8) dX3_seenOnce_8 kf_X3_103 job_116 jrf_116_1 ?_
  refine J_iload_n (pc := 11) dX3_seenOnce_11 rfl ?_
  refine K_ialdn (pc := 12) (id := 118) dX3_seenOnce_12 jar_118 (by omega) (by decide) ?_
  refine J_top (b := nI l) (hl) ?_
  refine J_iaddv (pc := 13) dX3_seenOnce_13 (nI_add _ _) ?_
  refine J_istore (pc := 14) (ls' := [some _, some _, some _, some _, some _, none, none]) dX3_seenOnce_14 rfl (Nat.le_of_ble_eq_true rfl) rfl ?_
  refine J_iconst (pc := 16) dX3_seenOnce_16 kni_1 ?_
  refine J_aload_n (pc := 17) dX3_seenOnce_17 rfl ?_
  refine K_getR (pc := 18) dX3_seenOnce_18 kf_X3_21 job_102 jrf_102_1 ?_
  refine K_getR (pc := 21) dX3_seenOnce_21 kf_X3_106 job_116 jrf_116_2 ?_
  refine J_iload_n (pc := 24) dX3_seenOnce_24 rfl ?_
  refine K_ialdn (pc := 25) (id := 119) dX3_seenOnce_25 jar_119 (by omega) (by decide) ?_
  refine J_top (b := nI e) (he) ?_
  refine J_ishl (pc := 26) dX3_seenOnce_26 ?_
  refine J_top (b := (kB e)) (rfl) ?_
  refine J_istore (pc := 27) (ls' := [some _, some _, some _, some _, some _, some _, none]) dX3_seenOnce_27 rfl (Nat.le_of_ble_eq_true rfl) rfl ?_
  refine J_iload (pc := 29) dX3_seenOnce_29 rfl ?_
  refine J_iconst (pc := 31) dX3_seenOnce_31 kni_5 ?_
  refine J_ishl (pc := 32) dX3_seenOnce_32 ?_
  refine J_top (b := (sB e)) (rfl) ?_
  refine J_istore (pc := 33) (ls' := [some _, some _, some _, some _, some _, some _, some _]) dX3_seenOnce_33 rfl (Nat.le_of_ble_eq_true rfl) rfl ?_
  refine J_aload_n (pc := 35) dX3_seenOnce_35 rfl ?_
  refine K_getR (pc := 36) dX3_seenOnce_36 kf_X3_37 job_102 jrf_102_5 ?_
  refine J_iload (pc := 39) dX3_seenOnce_39 rfl ?_
  refine K_ialdn (pc := 41) (id := 125) dX3_seenOnce_41 jar_125 (by omega) (by decide) ?_
  refine J_iload (pc := 42) dX3_seenOnce_42 rfl ?_
  refine J_iand (pc := 44) dX3_seenOnce_44 ?_
  refine J_if_ne (pc := 45) (tgt := 85) dX3_seenOnce_45 (by decide) (fun h45 => ?_) (fun h45 => ?_)
  · 
    refine J_aload_n (pc := 85) dX3_seenOnce_85 rfl ?_
    refine K_getR (pc := 86) dX3_seenOnce_86 kf_X3_37 job_102 jrf_102_5 ?_
    refine J_iload (pc := 89) dX3_seenOnce_89 rfl ?_
    refine K_ialdn (pc := 91) (id := 125) dX3_seenOnce_91 jar_125 (by omega) (by decide) ?_
    refine J_iload (pc := 92) dX3_seenOnce_92 rfl ?_
    refine J_iand (pc := 94) dX3_seenOnce_94 ?_
    refine J_top (b := (if (sq p (nI l) (nI e) = true) then sB e else 0)) ((hjd p l e hp hll hee).trans (if_neg h45)) ?_
    refine J_if_ne (pc := 95) (tgt := 102) dX3_seenOnce_95 (by decide) (fun h95 => ?_) (fun h95 => ?_)
    · 
      refine J_iconst (pc := 102) dX3_seenOnce_102 kni_1 ?_
      refine K_iret (pc := 103) dX3_seenOnce_103 rfl ⟨_, rfl, ?_⟩
      exact ⟨(congrArg nI (if_pos (Classical.byContradiction fun q => h95 ((sB_v hee).mpr q)))).symm, fun i _ => rfl, hjd⟩
    · 
      refine J_iconst (pc := 98) dX3_seenOnce_98 kni_0 ?_
      refine J_goto (pc := 99) (tgt := 103) dX3_seenOnce_99 (by decide) ?_
      refine K_iret (pc := 103) dX3_seenOnce_103 rfl ⟨_, rfl, ?_⟩
      exact ⟨(congrArg nI (if_neg ((sB_v hee).mp h95))).symm, fun i _ => rfl, hjd⟩
  · 
    have h0 : (m 125 (p * 100 + l)) &&& sB e = 0 := (hjd p l e hp hll hee).trans (if_pos h45)
    refine J_aload_n (pc := 48) dX3_seenOnce_48 rfl ?_
    refine K_getR (pc := 49) dX3_seenOnce_49 kf_X3_37 job_102 jrf_102_5 ?_
    refine J_iload (pc := 52) dX3_seenOnce_52 rfl ?_
    refine J_dup2 (pc := 54) dX3_seenOnce_54 rfl rfl ?_
    refine K_ialdn (pc := 55) (id := 125) dX3_seenOnce_55 jar_125 (by omega) (by decide) ?_
    refine J_iload (pc := 56) dX3_seenOnce_56 rfl ?_
    refine J_ior (pc := 58) dX3_seenOnce_58 ?_
    refine K_iastn (pc := 59) (id := 125) dX3_seenOnce_59 jar_125 (by omega) (by decide) ?_
    refine J_aload_n (pc := 60) dX3_seenOnce_60 rfl ?_
    refine K_getR (pc := 61) dX3_seenOnce_61 kf_X3_21 job_102 jrf_102_1 ?_
    refine J_iload_n (pc := 64) dX3_seenOnce_64 rfl ?_
    refine J_aload_n (pc := 65) dX3_seenOnce_65 rfl ?_
    refine J_iload_n (pc := 66) dX3_seenOnce_66 rfl ?_
    have hwk : wfX (mup m 125 ((p * 100) + l) (((((m 125 ((p * 100) + l))) ||| ((kB e)))))) tx := wfX_c (mup_i' (by decide)) (fun t ht => mup_i' (by omega)) hw
    have e118 : (mup m 125 ((p * 100) + l) (((((m 125 ((p * 100) + l))) ||| ((kB e)))))) 118 p = m 118 p := mup_i (by decide)
    have e119 : (mup m 125 ((p * 100) + l) (((((m 125 ((p * 100) + l))) ||| ((kB e)))))) 119 p = m 119 p := mup_i (by decide)
    have hsk : seeP (mup m 125 ((p * 100) + l) (((((m 125 ((p * 100) + l))) ||| ((kB e)))))) 116 tx p = sq p (nI l) (nI e) := by
      rw [seeP_Q, e118, e119, seeQ_c (m := m) (m' := (mup m 125 ((p * 100) + l) (((((m 125 ((p * 100) + l))) ||| ((kB e))))))) (wfX_80 hw) (fun k hk => mup_i' (by omega)) p _ _]
      exact hsq
    refine K_callVi (pc := 67) (id := 116) (As := [_, _, _]) dX3_seenOnce_67 kl_X3_109 rfl job_116 rfl rfl (Nat.le_of_ble_eq_true rfl) (c_sees (m := (mup m 125 ((p * 100) + l) (((((m 125 ((p * 100) + l))) ||| ((kB e))))))) (e := 116) (Or.inr rfl) hp hwk) (fun v67 m67 h67 => ?_)
    obtain ⟨rfl, hex⟩ := h67
    rw [hsk]
    refine Jb_eq (pc := 70) (tgt := 85) dX3_seenOnce_70 (by decide) (fun h70 => ?_) (fun h70 => ?_)
    · 
      have hc : ¬ (sq p (nI l) (nI e) = true) := h70
      refine J_aload_n (pc := 85) dX3_seenOnce_85 rfl ?_
      refine K_getR (pc := 86) dX3_seenOnce_86 kf_X3_37 job_102 jrf_102_5 ?_
      refine J_iload (pc := 89) dX3_seenOnce_89 rfl ?_
      refine K_ialdn (pc := 91) (id := 125) dX3_seenOnce_91 jar_125 (by omega) (by decide) ?_
      refine J_top (b := ((m 125 (p * 100 + l)) ||| kB e)) ((congrFun (hex 125 (by decide)) _).trans mup_s) ?_
      refine J_iload (pc := 92) dX3_seenOnce_92 rfl ?_
      refine J_iand (pc := 94) dX3_seenOnce_94 ?_
      refine J_top (b := (if (sq p (nI l) (nI e) = true) then sB e else 0)) (by
        have a := (jd_same (c := (sq p (nI l) (nI e) = true)) hee h45 h0).1
        rw [if_neg hc, Int32.or_zero] at a
        rw [if_neg hc]
        exact a) ?_
      refine J_if_ne (pc := 95) (tgt := 102) dX3_seenOnce_95 (by decide) (fun h95 => ?_) (fun h95 => ?_)
      · 
        refine J_iconst (pc := 102) dX3_seenOnce_102 kni_1 ?_
        refine K_iret (pc := 103) dX3_seenOnce_103 rfl ⟨_, rfl, ?_⟩
        exact ⟨(congrArg nI (if_pos (Classical.byContradiction fun q => h95 ((sB_v hee).mpr q)))).symm, fun i hi => (hex i (fun q => hi (List.mem_cons.mpr (Or.inl (List.mem_singleton.mp q))))).trans (mup_i' (fun q => hi (by rw [q]; decide))), jdI_put hjd hp hll hee h45 (by rw [if_neg hc, Int32.or_zero, hex 125 (by decide)]; exact mup_s) (fun j hj => by rw [hex 125 (by decide)]; exact mup_j hj)⟩
      · 
        refine J_iconst (pc := 98) dX3_seenOnce_98 kni_0 ?_
        refine J_goto (pc := 99) (tgt := 103) dX3_seenOnce_99 (by decide) ?_
        refine K_iret (pc := 103) dX3_seenOnce_103 rfl ⟨_, rfl, ?_⟩
        exact ⟨(congrArg nI (if_neg ((sB_v hee).mp h95))).symm, fun i hi => (hex i (fun q => hi (List.mem_cons.mpr (Or.inl (List.mem_singleton.mp q))))).trans (mup_i' (fun q => hi (by rw [q]; decide))), jdI_put hjd hp hll hee h45 (by rw [if_neg hc, Int32.or_zero, hex 125 (by decide)]; exact mup_s) (fun j hj => by rw [hex 125 (by decide)]; exact mup_j hj)⟩
    · 
      have hc : (sq p (nI l) (nI e) = true) := h70
      refine J_aload_n (pc := 73) dX3_seenOnce_73 rfl ?_
      refine K_getR (pc := 74) dX3_seenOnce_74 kf_X3_37 job_102 jrf_102_5 ?_
      refine J_iload (pc := 77) dX3_seenOnce_77 rfl ?_
      refine J_dup2 (pc := 79) dX3_seenOnce_79 rfl rfl ?_
      refine K_ialdn (pc := 80) (id := 125) dX3_seenOnce_80 jar_125 (by omega) (by decide) ?_
      refine J_top (b := ((m 125 (p * 100 + l)) ||| kB e)) ((congrFun (hex 125 (by decide)) _).trans mup_s) ?_
      refine J_iload (pc := 81) dX3_seenOnce_81 rfl ?_
      refine J_ior (pc := 83) dX3_seenOnce_83 ?_
      refine K_iastn (pc := 84) (id := 125) dX3_seenOnce_84 jar_125 (by omega) (by decide) ?_
      refine J_aload_n (pc := 85) dX3_seenOnce_85 rfl ?_
      refine K_getR (pc := 86) dX3_seenOnce_86 kf_X3_37 job_102 jrf_102_5 ?_
      refine J_iload (pc := 89) dX3_seenOnce_89 rfl ?_
      refine K_ialdn (pc := 91) (id := 125) dX3_seenOnce_91 jar_125 (by omega) (by decide) ?_
      refine J_top (b := ((m 125 (p * 100 + l)) ||| kB e ||| sB e)) (mup_s) ?_
      refine J_iload (pc := 92) dX3_seenOnce_92 rfl ?_
      refine J_iand (pc := 94) dX3_seenOnce_94 ?_
      refine J_top (b := (if (sq p (nI l) (nI e) = true) then sB e else 0)) (by
        have a := (jd_same (c := (sq p (nI l) (nI e) = true)) hee h45 h0).1
        rw [if_pos hc] at a
        rw [if_pos hc]
        exact a) ?_
      refine J_if_ne (pc := 95) (tgt := 102) dX3_seenOnce_95 (by decide) (fun h95 => ?_) (fun h95 => ?_)
      · 
        refine J_iconst (pc := 102) dX3_seenOnce_102 kni_1 ?_
        refine K_iret (pc := 103) dX3_seenOnce_103 rfl ⟨_, rfl, ?_⟩
        exact ⟨(congrArg nI (if_pos (Classical.byContradiction fun q => h95 ((sB_v hee).mpr q)))).symm, fun i hi => (mup_i' (fun q => hi (by rw [q]; decide))).trans ((hex i (fun q => hi (List.mem_cons.mpr (Or.inl (List.mem_singleton.mp q))))).trans (mup_i' (fun q => hi (by rw [q]; decide)))), jdI_put hjd hp hll hee h45 (by rw [if_pos hc]; exact mup_s) (fun j hj => by rw [mup_j hj, hex 125 (by decide)]; exact mup_j hj)⟩
      · 
        refine J_iconst (pc := 98) dX3_seenOnce_98 kni_0 ?_
        refine J_goto (pc := 99) (tgt := 103) dX3_seenOnce_99 (by decide) ?_
        refine K_iret (pc := 103) dX3_seenOnce_103 rfl ⟨_, rfl, ?_⟩
        exact ⟨(congrArg nI (if_neg ((sB_v hee).mp h95))).symm, fun i hi => (mup_i' (fun q => hi (by rw [q]; decide))).trans ((hex i (fun q => hi (List.mem_cons.mpr (Or.inl (List.mem_singleton.mp q))))).trans (mup_i' (fun q => hi (by rw [q]; decide)))), jdI_put hjd hp hll hee h45 (by rw [if_pos hc]; exact mup_s) (fun j hj => by rw [mup_j hj, hex 125 (by decide)]; exact mup_j hj)⟩
