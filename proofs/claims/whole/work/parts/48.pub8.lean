theorem rdS_le {t : Nat → Int32} {n nm : Nat} : ∀ f s e z, s ≤ n → e ≤ n → (rdS t n nm f s e z).1 ≤ n
  | 0, s, e, z, h, _ => h
  | f + 1, s, e, z, h, h2 => by
    unfold rdS
    have b1 := skp_le (t := t) h2
    have b2 := ndp_le (t := t) b1.2
    by_cases a : s < n
    · rw [if_pos a]
      cases q : tkS t n nm s e z with
      | none => exact h
      | some y => exact rdS_le f _ _ y b1.2 b2.1
    · rw [if_neg a]; exact h
theorem rdAll_in {t : Nat → Int32} {n : Nat} : (rdAll t n).1 = -1 ∨ ∃ k, k ≤ n ∧ (rdAll t n).1 = nI k := by
  obtain ⟨h1, h2, -⟩ := hd_in (t := t) (n := n)
  have b1 := skp_le (t := t) h2
  have b2 := ndp_le (t := t) b1.2
  have b3 := rdS_le (t := t) (n := n) (nm := (hdS t n).2.2.2.1) n (skp t n (hdS t n).2.2.1) (ndp t n (skp t n (hdS t n).2.2.1)) ([], [], 0, true) b1.2 b2.1
  unfold rdAll
  by_cases a : (hdS t n).1 = true
  · rw [if_pos a]
    unfold rdV
    by_cases b : (rdS t n (hdS t n).2.2.2.1 n (skp t n (hdS t n).2.2.1) (ndp t n (skp t n (hdS t n).2.2.1)) ([], [], 0, true)).2.2 = true
    · rw [if_pos b]; exact Or.inr ⟨_, b3, rfl⟩
    · rw [if_neg b]
      split
      · exact Or.inr ⟨n, Nat.le_refl _, rfl⟩
      · exact Or.inl rfl
  · rw [if_neg a]; exact Or.inr ⟨_, Nat.le_trans h1 h2, rfl⟩
theorem rdAll_neg {t : Nat → Int32} {n : Nat} (h96 : n ≤ 96) (h : (rdAll t n).1 < 0) : (rdAll t n).1 = -1 := by
  rcases rdAll_in (t := t) (n := n) with e | ⟨k, hk, e⟩
  · exact e
  · rw [e, Int32.lt_iff_toInt_lt, nI_toInt (by omega), show (0 : Int32).toInt = 0 from rfl] at h
    omega
/-- a text that was taken -/
def txP (m : jm) (T : Nat) (k : Int32) (z : Int32 × List Int32 × Nat × Int32) (m' : jm) : Prop :=
  m' 1 = fset (m 1) 14 (nI (T + 1)) ∧ m' 75 = fset (m 75) T z.2.2.2 ∧ m' 76 = fset (m 76) T k ∧ m' 77 = fset (m 77) T (nI z.2.2.1) ∧ m' 78 = fset (m 78) T (nI z.2.1.length) ∧ z.2.1.length ≤ 96 ∧
  (∀ i, i < z.2.1.length → z.2.1[z.2.1.length - 1 - i]? = some (m' (80 + T) i)) ∧ ∀ i, i ≠ 1 → i ≠ 70 → i ≠ 72 → i ≠ 73 → (i < 75 ∨ 78 < i) → i ≠ 80 + T → m' i = m i
def txN (m m' : jm) : Prop := ∀ i, i ≠ 70 → i ≠ 72 → i ≠ 73 → m' i = m i
set_option maxRecDepth 100000 in
set_option maxHeartbeats 400000 in
theorem p_text {x : jX} {m : jm} {d : Nat} (k : Int32) {n T : Nat} (hn : m 70 1 = nI n) (h96 : n ≤ 96) (hT : m 1 14 = nI T) (hT14 : T ≤ 14) : Ct x (d + 7) eX7_text [.ref (jxb x + 0), .int k] m (ji fun rv m' => m' 70 1 = nI 0 ∧ if ¬ (nI 0 ≤ k ∧ k ≤ nI 9999) then (rv = -1000000001 ∧ txN m m') else if ¬ (rdAll (m 71) n).1 < 0 then (rv = -100 - (rdAll (m 71) n).1 ∧ txN m m') else if 14 ≤ T then (rv = -1000000003 ∧ txN m m') else (rv = nI T ∧ txP m T k (rdAll (m 71) n) m')) := by
  refine J_start (by decide +kernel) (Nat.le_of_ble_eq_true rfl) (ls := [some (.ref (jxb x + 0)), some (.int k), none]) rfl rfl ?_
  refine J_aload_n (pc := 0) dX7_text_0 rfl ?_
  refine K_getR (pc := 1) dX7_text_1 kf_X7_32 job_0 jrf_0_4 ?_
  refine K_callVi (pc := 4) (id := 70) (As := []) dX7_text_4 kl_X7_230 rfl job_70 rfl rfl (Nat.le_of_ble_eq_true rfl) (c_read (m := m) hn h96) (fun v4 m4 h4 => ?_)
  obtain ⟨rfl, f1, f2, f3⟩ := h4
  refine J_istore_n (pc := 7) (ls' := [some _, some _, some _]) dX7_text_7 rfl (Nat.le_of_ble_eq_true rfl) rfl ?_
  refine J_aload_n (pc := 8) dX7_text_8 rfl ?_
  refine K_getR (pc := 9) dX7_text_9 kf_X7_32 job_0 jrf_0_4 ?_
  refine J_iconst (pc := 12) dX7_text_12 kni_0 ?_
  refine K_put (pc := 13) dX7_text_13 kp_X7_224 job_70 jrf_70_1 rfl rfl ?_
  refine J_iload_n (pc := 16) dX7_text_16 rfl ?_
  refine J_iconst (pc := 17) dX7_text_17 kni_0 ?_
  refine J_sipush (pc := 18) dX7_text_18 kns_9999 ?_
  refine K_callSp (pc := 21) (As := [_, _, _]) dX7_text_21 kl_X7_76 rfl rfl (Nat.le_of_ble_eq_true rfl) (c_within _ _ _) ?_
  refine Jb_ne (pc := 24) (tgt := 30) dX7_text_24 (by decide) (fun h24 => ?_) (fun h24 => ?_)
  · 
    refine J_iload_n (pc := 30) dX7_text_30 rfl ?_
    refine J_if_lt (pc := 31) (tgt := 39) dX7_text_31 (by decide) (fun h31 => ?_) (fun h31 => ?_)
    · 
      refine J_aload_n (pc := 39) dX7_text_39 rfl ?_
      refine K_getR (pc := 40) dX7_text_40 kf_X7_10 job_0 jrf_0_0 ?_
      refine K_getI (pc := 43) dX7_text_43 kf_X7_233 job_1 jrf_1_14 ?_
      refine J_top (b := nI T) (by rw [mup_i (by decide), f1 1 (by decide) (by decide) (by decide)]; exact hT) ?_
      refine J_bipush (pc := 46) dX7_text_46 knb_14 ?_
      refine Jn_lt (pc := 48) (tgt := 54) dX7_text_48 (by decide) (by omega) (by omega) (fun h48 => ?_) (fun h48 => ?_)
      · 
        obtain ⟨z1, z2, z3, z4, z5⟩ := f3 (rdAll_neg h96 h31)
        refine J_aload_n (pc := 54) dX7_text_54 rfl ?_
        refine K_getR (pc := 55) dX7_text_55 kf_X7_39 job_0 jrf_0_5 ?_
        refine J_aload_n (pc := 58) dX7_text_58 rfl ?_
        refine K_getR (pc := 59) dX7_text_59 kf_X7_10 job_0 jrf_0_0 ?_
        refine K_getI (pc := 62) dX7_text_62 kf_X7_233 job_1 jrf_1_14 ?_
        refine J_top (b := nI T) (by rw [mup_i (by decide), f1 1 (by decide) (by decide) (by decide)]; exact hT) ?_
        refine J_iload_n (pc := 65) dX7_text_65 rfl ?_
        refine J_aload_n (pc := 66) dX7_text_66 rfl ?_
        refine K_getR (pc := 67) dX7_text_67 kf_X7_32 job_0 jrf_0_4 ?_
        refine K_callVv (pc := 70) (id := 74) (As := [_, _, _]) dX7_text_70 kl_X7_235 rfl job_74 rfl rfl (Nat.le_of_ble_eq_true rfl) (c_store (m := (mup m4 70 1 (nI 0))) (t := T) (z := (rdAll (m 71) n).2.1.length) (by omega) z1 ((mup_j (by decide)).trans z2) k) (fun m70 h70 => ?_)
        subst h70
        have e1 : (storeM (mup m4 70 1 (nI 0)) T (rdAll (m 71) n).2.1.length k) 1 = m 1 := (mcpy_i (by omega)).trans ((mup_i' (by decide)).trans ((mup_i' (by decide)).trans ((mup_i' (by decide)).trans ((mup_i' (by decide)).trans ((mup_i' (by decide)).trans (f1 1 (by decide) (by decide) (by decide)))))))
        refine J_aload_n (pc := 73) dX7_text_73 rfl ?_
        refine K_getR (pc := 74) dX7_text_74 kf_X7_10 job_0 jrf_0_0 ?_
        refine J_dup (pc := 77) dX7_text_77 rfl ?_
        refine K_getI (pc := 78) dX7_text_78 kf_X7_233 job_1 jrf_1_14 ?_
        refine J_top (b := nI T) (by rw [e1]; exact hT) ?_
        refine J_dup_x1 (pc := 81) dX7_text_81 rfl rfl ?_
        refine J_iconst (pc := 82) dX7_text_82 kni_1 ?_
        refine J_iaddv (pc := 83) dX7_text_83 (nI_add _ _) ?_
        refine K_put (pc := 84) dX7_text_84 kp_X7_233 job_1 jrf_1_14 rfl rfl ?_
        refine K_iret (pc := 87) dX7_text_87 rfl ⟨_, rfl, ?_⟩
        refine ⟨?_, ?_⟩
        · rw [mup_i (by decide)]
          unfold storeM
          rw [mcpy_i (by omega), mup_i (by decide), mup_i (by decide), mup_i (by decide), mup_i (by decide), mup_s]
        rw [if_neg (Classical.not_not.mpr h24), if_neg (Classical.not_not.mpr h31), if_neg (by omega)]
        have g : ∀ i, i ≠ 70 → i ≠ 72 → i ≠ 73 → (mup m4 70 1 (nI 0)) i = m i := fun i q1 q2 q3 => (mup_i' q1).trans (f1 i q1 q2 q3)
        refine ⟨rfl, ?_, ?_, ?_, ?_, ?_, z1, fun i hi => ?_, fun i q1 q2 q3 q4 q5 q6 => ?_⟩
        · rw [mup_row, e1]
        · rw [mup_i' (by decide)]
          unfold storeM
          rw [mcpy_i (by omega), mup_i' (by decide), mup_i' (by decide), mup_i' (by decide), mup_row, g 75 (by decide) (by decide) (by decide), mup_j (by decide), z5]
        · rw [mup_i' (by decide)]
          unfold storeM
          rw [mcpy_i (by omega), mup_i' (by decide), mup_i' (by decide), mup_row, mup_i' (by decide), g 76 (by decide) (by decide) (by decide)]
        · rw [mup_i' (by decide)]
          unfold storeM
          rw [mcpy_i (by omega), mup_i' (by decide), mup_row, mup_i' (by decide), mup_i' (by decide), g 77 (by decide) (by decide) (by decide), mup_j (by decide), z4]
        · rw [mup_i' (by decide)]
          unfold storeM
          rw [mcpy_i (by omega), mup_row, mup_i' (by decide), mup_i' (by decide), mup_i' (by decide), g 78 (by decide) (by decide) (by decide)]
        · rw [mup_i (by omega)]
          unfold storeM
          rw [mcpy_s hi, mup_i (by decide), mup_i (by decide), mup_i (by decide), mup_i (by decide), mup_i (by decide)]
          exact z3.2 i hi
        · rw [mup_i' q1]
          unfold storeM
          rw [mcpy_i q6, mup_i' (by omega), mup_i' (by omega), mup_i' (by omega), mup_i' (by omega)]
          exact g i q2 q3 q4
      · 
        refine J_ldc (pc := 51) dX7_text_51 kc_X7_89 ?_
        refine K_iret (pc := 53) dX7_text_53 rfl ⟨_, rfl, ?_⟩
        refine ⟨mup_s, ?_⟩
        rw [if_neg (Classical.not_not.mpr h24), if_neg (Classical.not_not.mpr h31), if_pos (by omega)]
        exact ⟨rfl, (fun i q1 q2 q3 => (mup_i' q1).trans (f1 i q1 q2 q3))⟩
    · 
      refine J_bipush (pc := 34) dX7_text_34 knb_m100 ?_
      refine J_iload_n (pc := 36) dX7_text_36 rfl ?_
      refine J_isub (pc := 37) dX7_text_37 ?_
      refine K_iret (pc := 38) dX7_text_38 rfl ⟨_, rfl, ?_⟩
      refine ⟨mup_s, ?_⟩
      rw [if_neg (Classical.not_not.mpr h24), if_pos h31]
      exact ⟨rfl, (fun i q1 q2 q3 => (mup_i' q1).trans (f1 i q1 q2 q3))⟩
  · 
    refine J_ldc (pc := 27) dX7_text_27 kc_X7_80 ?_
    refine K_iret (pc := 29) dX7_text_29 rfl ⟨_, rfl, ?_⟩
    refine ⟨mup_s, ?_⟩
    rw [if_pos h24]
    exact ⟨rfl, (fun i q1 q2 q3 => (mup_i' q1).trans (f1 i q1 q2 q3))⟩
