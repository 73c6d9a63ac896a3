def seeQ (m : jm) (tx : Int32) (p : Nat) (l e : Int32) : Bool := if tx = NONEv then decide (nI 9 < absV (l - m 117 p)) else decide (¬ textV m tx (absV (l - m 117 p)) (m 117 p) (m 120 p) e = 0)
theorem seeP_Q (m : jm) (tx : Int32) (p : Nat) : seeP m 116 tx p = seeQ m tx p (m 118 p) (m 119 p) := rfl
theorem textV_c {m m' : jm} {tx : Int32} (h1 : m' (80 + tN tx) = m (80 + tN tx)) (h2 : m' 78 = m 78) (a b c d : Int32) : textV m' tx a b c d = textV m tx a b c d := by
  unfold textV
  rw [h1, h2]
theorem wfX_80 {m : jm} {tx : Int32} (h : wfX m tx) : tx = NONEv ∨ tN tx < 14 := h.imp_right fun q => tN_lt q.1 (by decide)
theorem seeQ_c {m m' : jm} {tx : Int32} (hw : tx = NONEv ∨ tN tx < 14) (h : ∀ k, k = 117 ∨ k = 120 ∨ k = 78 ∨ (80 ≤ k ∧ k < 94) → m' k = m k) (p : Nat) (l e : Int32) : seeQ m' tx p l e = seeQ m tx p l e := by
  unfold seeQ
  rw [h 117 (by omega), h 120 (by omega)]
  by_cases n : tx = NONEv
  · simp only [if_pos n]
  · have := hw.resolve_left n
    rw [textV_c (h _ (by omega)) (h _ (by omega))]
/-- what was judged in search S stands -/
def jdI (sq : Nat → Int32 → Int32 → Bool) (m : jm) (S : Nat) : Prop := ∀ p l e, p < 48 → l < 100 → e < 5 → ∃ w, m 125 ((p * 100 + l) * 5 + e) = nI w ∧ w ≤ 2 * S + 1 ∧ (w / 2 = S → w % 2 = (if sq p (nI l) (nI e) = true then 1 else 0))
theorem jdI_put {sq : Nat → Int32 → Int32 → Bool} {m m' : jm} {S p l e b : Nat} (h : jdI sq m S) (hm : m' 125 = m 125) (hp : p < 48) (hl : l < 100) (he : e < 5) (hb : b = (if sq p (nI l) (nI e) = true then 1 else 0)) : jdI sq (mup m' 125 ((p * 100 + l) * 5 + e) (nI (2 * S + b))) S := by
  intro p' l' e' hp' hl' he'
  have hb1 : b ≤ 1 := by rw [hb]; split <;> omega
  by_cases q : (p' * 100 + l') * 5 + e' = (p * 100 + l) * 5 + e
  · obtain rfl : p' = p := by omega
    obtain rfl : l' = l := by omega
    obtain rfl : e' = e := by omega
    exact ⟨2 * S + b, mup_s, by omega, fun _ => by rw [← hb]; omega⟩
  · obtain ⟨w, h1, h2, h3⟩ := h p' l' e' hp' hl' he'
    exact ⟨w, by rw [mup_j q, hm]; exact h1, h2, h3⟩
theorem nI_mod2 {w : Nat} (h : w < 2 ^ 31) : True := trivial
set_option maxRecDepth 100000 in
set_option maxHeartbeats 400000 in
theorem c_seenOnce {x : jX} {m : jm} {d : Nat} {p l e S : Nat} {tx : Int32} {sq : Nat → Int32 → Int32 → Bool} (hp : p < 48) (hll : l < 100) (hee : e < 5) (hl : m 118 p = nI l) (he : m 119 p = nI e) (hS : m 102 6 = nI S) (hS9 : S < 2 ^ 29) (hjd : jdI sq m S) (hw : wfX m tx) (hsq : seeP m 116 tx p = sq p (nI l) (nI e)) : Ct x (d + 3) eX3_seenOnce [.ref (jxb x + 102), .int (nI p), .ref (jxb x + 74), .int tx] m (ji fun v m' => v = nI (if sq p (nI l) (nI e) = true then 1 else 0) ∧ exs [94, 125] m m' ∧ jdI sq m' S) := by
  refine J_start (by decide +kernel) (Nat.le_of_ble_eq_true rfl) (ls := [some (.ref (jxb x + 102)), some (.int (nI p)), some (.ref (jxb x + 74)), some (.int tx), none]) rfl rfl ?_
  refine J_iload_n (pc := 0) dX3_seenOnce_0 rfl ?_
  refine J_bipush (pc := 1) dX3_seenOnce_1 knb_100 ?_
  refine J_imulv (pc := 3) dX3_seenOnce_3 (pk_mul _ _) ?_
  refine J_aload_n (pc := 4) dX3_seenOnce_4 rfl ?_
  refine K_getR (pc := 5) dX3_seenOnce_5 kf_X3_21 job_102 jrf_102_1 ?_
  refine K_getR (pc := 8) dX3_seenOnce_8 kf_X3_103 job_116 jrf_116_1 ?_
  refine J_iload_n (pc := 11) dX3_seenOnce_11 rfl ?_
  refine K_ialdn (pc := 12) (id := 118) dX3_seenOnce_12 jar_118 (by omega) (by decide) ?_
  refine J_top (b := nI l) (hl) ?_
  refine J_iaddv (pc := 13) dX3_seenOnce_13 (nI_add _ _) ?_
  refine J_iconst (pc := 14) dX3_seenOnce_14 kni_5 ?_
  refine J_imulv (pc := 15) dX3_seenOnce_15 (pk_mul _ _) ?_
  refine J_aload_n (pc := 16) dX3_seenOnce_16 rfl ?_
  refine K_getR (pc := 17) dX3_seenOnce_17 kf_X3_21 job_102 jrf_102_1 ?_
  refine K_getR (pc := 20) dX3_seenOnce_20 kf_X3_106 job_116 jrf_116_2 ?_
  refine J_iload_n (pc := 23) dX3_seenOnce_23 rfl ?_
  refine K_ialdn (pc := 24) (id := 119) dX3_seenOnce_24 jar_119 (by omega) (by decide) ?_
  refine J_top (b := nI e) (he) ?_
  refine J_iaddv (pc := 25) dX3_seenOnce_25 (nI_add _ _) ?_
  refine J_istore (pc := 26) (ls' := [some _, some _, some _, some _, some _]) dX3_seenOnce_26 rfl (Nat.le_of_ble_eq_true rfl) rfl ?_
  refine J_aload_n (pc := 28) dX3_seenOnce_28 rfl ?_
  refine K_getR (pc := 29) dX3_seenOnce_29 kf_X3_37 job_102 jrf_102_5 ?_
  refine J_iload (pc := 32) dX3_seenOnce_32 rfl ?_
  obtain ⟨w, hw1, hw2, hw3⟩ := hjd p l e hp hll hee
  refine K_ialdn (pc := 34) (id := 125) dX3_seenOnce_34 jar_125 (by omega) (by decide) ?_
  refine J_top (b := nI w) (hw1) ?_
  refine J_iconst (pc := 35) dX3_seenOnce_35 kni_2 ?_
  refine J_idiv (pc := 36) (v := nI (w / 2)) dX3_seenOnce_36 (by decide) (pk_div (by omega) (by omega) (by omega)) ?_
  refine J_aload_n (pc := 37) dX3_seenOnce_37 rfl ?_
  refine K_getI (pc := 38) dX3_seenOnce_38 kf_X3_40 job_102 jrf_102_6 ?_
  refine J_top (b := nI S) (hS) ?_
  refine Jn_eq (pc := 41) (tgt := 76) dX3_seenOnce_41 (by decide) (by omega) (by omega) (fun h41 => ?_) (fun h41 => ?_)
  · 
    refine J_aload_n (pc := 76) dX3_seenOnce_76 rfl ?_
    refine K_getR (pc := 77) dX3_seenOnce_77 kf_X3_37 job_102 jrf_102_5 ?_
    refine J_iload (pc := 80) dX3_seenOnce_80 rfl ?_
    refine K_ialdn (pc := 82) (id := 125) dX3_seenOnce_82 jar_125 (by omega) (by decide) ?_
    refine J_top (b := nI w) (hw1) ?_
    refine J_iconst (pc := 83) dX3_seenOnce_83 kni_2 ?_
    refine J_irem (pc := 84) (v := nI (w % 2)) dX3_seenOnce_84 (by decide) (pk_rem (by omega) (by omega) (by omega)) ?_
    refine K_iret (pc := 85) dX3_seenOnce_85 rfl ⟨_, rfl, ?_⟩
    exact ⟨congrArg nI (hw3 h41), fun i _ => rfl, hjd⟩
  · 
    refine J_aload_n (pc := 44) dX3_seenOnce_44 rfl ?_
    refine K_getR (pc := 45) dX3_seenOnce_45 kf_X3_37 job_102 jrf_102_5 ?_
    refine J_iload (pc := 48) dX3_seenOnce_48 rfl ?_
    refine J_iconst (pc := 50) dX3_seenOnce_50 kni_2 ?_
    refine J_aload_n (pc := 51) dX3_seenOnce_51 rfl ?_
    refine K_getI (pc := 52) dX3_seenOnce_52 kf_X3_40 job_102 jrf_102_6 ?_
    refine J_top (b := nI S) (hS) ?_
    refine J_imulv (pc := 55) dX3_seenOnce_55 (pk_mul _ _) ?_
    refine J_aload_n (pc := 56) dX3_seenOnce_56 rfl ?_
    refine K_getR (pc := 57) dX3_seenOnce_57 kf_X3_21 job_102 jrf_102_1 ?_
    refine J_iload_n (pc := 60) dX3_seenOnce_60 rfl ?_
    refine J_aload_n (pc := 61) dX3_seenOnce_61 rfl ?_
    refine J_iload_n (pc := 62) dX3_seenOnce_62 rfl ?_
    refine K_callVi (pc := 63) (id := 116) (As := [_, _, _]) dX3_seenOnce_63 kl_X3_109 rfl job_116 rfl rfl (Nat.le_of_ble_eq_true rfl) (c_sees (m := m) (e := 116) (Or.inr rfl) hp hw) (fun v63 m63 h63 => ?_)
    obtain ⟨rfl, hex⟩ := h63
    refine Jb_eq (pc := 66) (tgt := 73) dX3_seenOnce_66 (by decide) (fun h66 => ?_) (fun h66 => ?_)
    · 
      refine J_iconst (pc := 73) dX3_seenOnce_73 kni_0 ?_
      refine J_iaddv (pc := 74) dX3_seenOnce_74 (nI_add _ _) ?_
      refine K_iastn (pc := 75) (id := 125) dX3_seenOnce_75 jar_125 (by omega) (by decide) ?_
      refine J_aload_n (pc := 76) dX3_seenOnce_76 rfl ?_
      refine K_getR (pc := 77) dX3_seenOnce_77 kf_X3_37 job_102 jrf_102_5 ?_
      refine J_iload (pc := 80) dX3_seenOnce_80 rfl ?_
      refine K_ialdn (pc := 82) (id := 125) dX3_seenOnce_82 jar_125 (by omega) (by decide) ?_
      refine J_top (b := nI (2 * S + 0)) (mup_s) ?_
      refine J_iconst (pc := 83) dX3_seenOnce_83 kni_2 ?_
      refine J_irem (pc := 84) (v := nI ((2 * S + 0) % 2)) dX3_seenOnce_84 (by decide) (pk_rem (by omega) (by omega) (by omega)) ?_
      refine K_iret (pc := 85) dX3_seenOnce_85 rfl ⟨_, rfl, ?_⟩
      have hb : 0 = (if sq p (nI l) (nI e) = true then 1 else 0) := by rw [← hsq, if_neg h66]
      exact ⟨by rw [← hb]; exact congrArg nI (by omega), fun i hi => (mup_i' (fun q => hi (by rw [q]; decide))).trans (hex i (fun q => hi (List.mem_cons.mpr (Or.inl (List.mem_singleton.mp q))))), jdI_put hjd (hex 125 (by decide)) hp hll hee hb⟩
    · 
      refine J_iconst (pc := 69) dX3_seenOnce_69 kni_1 ?_
      refine J_goto (pc := 70) (tgt := 74) dX3_seenOnce_70 (by decide) ?_
      refine J_iaddv (pc := 74) dX3_seenOnce_74 (nI_add _ _) ?_
      refine K_iastn (pc := 75) (id := 125) dX3_seenOnce_75 jar_125 (by omega) (by decide) ?_
      refine J_aload_n (pc := 76) dX3_seenOnce_76 rfl ?_
      refine K_getR (pc := 77) dX3_seenOnce_77 kf_X3_37 job_102 jrf_102_5 ?_
      refine J_iload (pc := 80) dX3_seenOnce_80 rfl ?_
      refine K_ialdn (pc := 82) (id := 125) dX3_seenOnce_82 jar_125 (by omega) (by decide) ?_
      refine J_top (b := nI (2 * S + 1)) (mup_s) ?_
      refine J_iconst (pc := 83) dX3_seenOnce_83 kni_2 ?_
      refine J_irem (pc := 84) (v := nI ((2 * S + 1) % 2)) dX3_seenOnce_84 (by decide) (pk_rem (by omega) (by omega) (by omega)) ?_
      refine K_iret (pc := 85) dX3_seenOnce_85 rfl ⟨_, rfl, ?_⟩
      have hb : 1 = (if sq p (nI l) (nI e) = true then 1 else 0) := by rw [← hsq, if_pos h66]
      exact ⟨by rw [← hb]; exact congrArg nI (by omega), fun i hi => (mup_i' (fun q => hi (by rw [q]; decide))).trans (hex i (fun q => hi (List.mem_cons.mpr (Or.inl (List.mem_singleton.mp q))))), jdI_put hjd (hex 125 (by decide)) hp hll hee hb⟩
