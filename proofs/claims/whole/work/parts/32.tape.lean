/-- letters, digits -/
def lt8 (v : Int32) : Prop := nI 97 ≤ v ∧ v ≤ nI 122
def dg8 (v : Int32) : Prop := nI 48 ≤ v ∧ v ≤ nI 57
noncomputable def lB (v : Int32) : Bool := by classical exact decide (lt8 v)
noncomputable def dB (v : Int32) : Bool := by classical exact decide (dg8 v)
theorem lB_iff {v : Int32} : lB v = true ↔ lt8 v := by unfold lB; simp
theorem dB_iff {v : Int32} : dB v = true ↔ dg8 v := by unfold dB; simp
noncomputable def wB (v : Int32) : Bool := lB v || dB v
theorem wB_iff {v : Int32} : wB v = true ↔ lB v = true ∨ dB v = true := Bool.or_eq_true_iff
/-- as far as it goes: from i on, f places at most -/
def run (c : Nat → Bool) (i : Nat) : Nat → Nat
  | 0 => i
  | f + 1 => if c i = true then run c (i + 1) f else i
theorem run_le (c : Nat → Bool) : ∀ f i, i ≤ run c i f ∧ run c i f ≤ i + f
  | 0, i => ⟨Nat.le_refl _, Nat.le_refl _⟩
  | f + 1, i => by
    have := run_le c f (i + 1)
    unfold run
    split <;> omega
theorem run_in (c : Nat → Bool) : ∀ f i j, i ≤ j → j < run c i f → c j = true
  | 0, i, j, h1, h2 => by unfold run at h2; omega
  | f + 1, i, j, h1, h2 => by
    unfold run at h2
    by_cases q : c i = true
    · rw [if_pos q] at h2
      by_cases e : j = i
      · rw [e]; exact q
      · exact run_in c f (i + 1) j (by omega) h2
    · rw [if_neg q] at h2; omega
theorem run_end (c : Nat → Bool) : ∀ f i, run c i f < i + f → ¬ c (run c i f) = true
  | 0, i, h => by unfold run at h; omega
  | f + 1, i, h => by
    unfold run at h ⊢
    by_cases q : c i = true
    · rw [if_pos q] at h ⊢
      exact run_end c f (i + 1) (by omega)
    · rw [if_neg q]; exact q
noncomputable def skp (t : Nat → Int32) (n e : Nat) : Nat := run (fun j => decide (t j = nI 32)) e (n - e)
noncomputable def ndp (t : Nat → Int32) (n s : Nat) : Nat := if s < n then (if lB (t s) = true then run (fun j => lB (t j)) (s + 1) (n - (s + 1)) else if dB (t s) = true then run (fun j => dB (t j)) (s + 1) (n - (s + 1)) else s + 1) else n
theorem mup_mm {m : jm} {id k : Nat} {v w : Int32} : mup (mup m id k v) id k w = mup m id k w := by
  funext i j
  unfold mup
  by_cases h : i = id ∧ j = k
  · rw [if_pos h, if_pos h]
  · rw [if_neg h, if_neg h, if_neg h]
def stM (m : jm) (s e : Nat) : jm := mup (mup m 70 2 (nI s)) 70 3 (nI e)
theorem stM_i {m : jm} {s e i : Nat} (h : i ≠ 70) : stM m s e i = m i := (mup_i' h).trans (mup_i' h)
theorem stM_2 {m : jm} {s e : Nat} : stM m s e 70 2 = nI s := (mup_j (by decide)).trans mup_s
theorem stM_3 {m : jm} {s e : Nat} : stM m s e 70 3 = nI e := mup_s
theorem stM_j {m : jm} {s e j : Nat} (h : j ≠ 2) (h2 : j ≠ 3) : stM m s e 70 j = m 70 j := (mup_j h2).trans (mup_j h)
theorem stM_s {m : jm} {s e f : Nat} : mup (stM m s e) 70 3 (nI f) = stM m s f := mup_mm
theorem jbB {b : Bool} {c : Prop} [Decidable c] (h : b = true ↔ c) : jb (b = true) = jb c := by
  unfold jb
  by_cases q : c
  · rw [if_pos q, if_pos (h.mpr q)]
  · rw [if_neg q, if_neg (fun z => q (h.mp z))]
set_option maxRecDepth 100000 in
set_option maxHeartbeats 400000 in
theorem c_isLetter {x : jX} {m : jm} {d : Nat} {i : Nat} (hi : i < 96) : Ct x d eX5_isLetter [.ref (jxb x + 70), .int (nI i)] m (jp (jb (lB (m 71 i) = true)) m) := by
  refine J_start (by decide +kernel) (Nat.le_of_ble_eq_true rfl) (ls := [some (.ref (jxb x + 70)), some (.int (nI i))]) rfl rfl ?_
  refine J_aload_n (pc := 0) dX5_isLetter_0 rfl ?_
  refine K_getR (pc := 1) dX5_isLetter_1 kf_X5_9 job_70 jrf_70_0 ?_
  refine J_iload_n (pc := 4) dX5_isLetter_4 rfl ?_
  refine K_baldn (pc := 5) (id := 71) dX5_isLetter_5 jar_71 (by omega) (by decide) ?_
  refine J_bipush (pc := 6) dX5_isLetter_6 knb_97 ?_
  refine J_icmp_lt (pc := 8) (tgt := 26) dX5_isLetter_8 (by decide) (fun h8 => ?_) (fun h8 => ?_)
  · 
    refine J_iconst (pc := 26) dX5_isLetter_26 kni_0 ?_
    refine K_zret (pc := 27) dX5_isLetter_27 rfl rfl ⟨_, rfl, ?_⟩
    exact ⟨(if_neg (fun q => Int32.not_le.mpr h8 (lB_iff.mp q).1)).symm, rfl⟩
  · 
    refine J_aload_n (pc := 11) dX5_isLetter_11 rfl ?_
    refine K_getR (pc := 12) dX5_isLetter_12 kf_X5_9 job_70 jrf_70_0 ?_
    refine J_iload_n (pc := 15) dX5_isLetter_15 rfl ?_
    refine K_baldn (pc := 16) (id := 71) dX5_isLetter_16 jar_71 (by omega) (by decide) ?_
    refine J_bipush (pc := 17) dX5_isLetter_17 knb_122 ?_
    refine J_icmp_gt (pc := 19) (tgt := 26) dX5_isLetter_19 (by decide) (fun h19 => ?_) (fun h19 => ?_)
    · 
      refine J_iconst (pc := 26) dX5_isLetter_26 kni_0 ?_
      refine K_zret (pc := 27) dX5_isLetter_27 rfl rfl ⟨_, rfl, ?_⟩
      exact ⟨(if_neg (fun q => Int32.not_le.mpr h19 (lB_iff.mp q).2)).symm, rfl⟩
    · 
      refine J_iconst (pc := 22) dX5_isLetter_22 kni_1 ?_
      refine J_goto (pc := 23) (tgt := 27) dX5_isLetter_23 (by decide) ?_
      refine K_zret (pc := 27) dX5_isLetter_27 rfl rfl ⟨_, rfl, ?_⟩
      exact ⟨(if_pos (lB_iff.mpr ⟨Int32.not_lt.mp h8, Int32.not_lt.mp h19⟩)).symm, rfl⟩
set_option maxRecDepth 100000 in
set_option maxHeartbeats 400000 in
theorem c_isDigit {x : jX} {m : jm} {d : Nat} {i : Nat} (hi : i < 96) : Ct x d eX5_isDigit [.ref (jxb x + 70), .int (nI i)] m (jp (jb (dB (m 71 i) = true)) m) := by
  refine J_start (by decide +kernel) (Nat.le_of_ble_eq_true rfl) (ls := [some (.ref (jxb x + 70)), some (.int (nI i))]) rfl rfl ?_
  refine J_aload_n (pc := 0) dX5_isDigit_0 rfl ?_
  refine K_getR (pc := 1) dX5_isDigit_1 kf_X5_9 job_70 jrf_70_0 ?_
  refine J_iload_n (pc := 4) dX5_isDigit_4 rfl ?_
  refine K_baldn (pc := 5) (id := 71) dX5_isDigit_5 jar_71 (by omega) (by decide) ?_
  refine J_bipush (pc := 6) dX5_isDigit_6 knb_48 ?_
  refine J_icmp_lt (pc := 8) (tgt := 26) dX5_isDigit_8 (by decide) (fun h8 => ?_) (fun h8 => ?_)
  · 
    refine J_iconst (pc := 26) dX5_isDigit_26 kni_0 ?_
    refine K_zret (pc := 27) dX5_isDigit_27 rfl rfl ⟨_, rfl, ?_⟩
    exact ⟨(if_neg (fun q => Int32.not_le.mpr h8 (dB_iff.mp q).1)).symm, rfl⟩
  · 
    refine J_aload_n (pc := 11) dX5_isDigit_11 rfl ?_
    refine K_getR (pc := 12) dX5_isDigit_12 kf_X5_9 job_70 jrf_70_0 ?_
    refine J_iload_n (pc := 15) dX5_isDigit_15 rfl ?_
    refine K_baldn (pc := 16) (id := 71) dX5_isDigit_16 jar_71 (by omega) (by decide) ?_
    refine J_bipush (pc := 17) dX5_isDigit_17 knb_57 ?_
    refine J_icmp_gt (pc := 19) (tgt := 26) dX5_isDigit_19 (by decide) (fun h19 => ?_) (fun h19 => ?_)
    · 
      refine J_iconst (pc := 26) dX5_isDigit_26 kni_0 ?_
      refine K_zret (pc := 27) dX5_isDigit_27 rfl rfl ⟨_, rfl, ?_⟩
      exact ⟨(if_neg (fun q => Int32.not_le.mpr h19 (dB_iff.mp q).2)).symm, rfl⟩
    · 
      refine J_iconst (pc := 22) dX5_isDigit_22 kni_1 ?_
      refine J_goto (pc := 23) (tgt := 27) dX5_isDigit_23 (by decide) ?_
      refine K_zret (pc := 27) dX5_isDigit_27 rfl rfl ⟨_, rfl, ?_⟩
      exact ⟨(if_pos (dB_iff.mpr ⟨Int32.not_lt.mp h8, Int32.not_lt.mp h19⟩)).symm, rfl⟩
set_option maxRecDepth 100000 in
set_option maxHeartbeats 400000 in
theorem c_isWord {x : jX} {m : jm} {d : Nat} {i : Nat} (hi : i < 96) : Ct x (d + 1) eX5_isWord [.ref (jxb x + 70), .int (nI i)] m (jp (jb (wB (m 71 i) = true)) m) := by
  refine J_start (by decide +kernel) (Nat.le_of_ble_eq_true rfl) (ls := [some (.ref (jxb x + 70)), some (.int (nI i))]) rfl rfl ?_
  refine J_aload_n (pc := 0) dX5_isWord_0 rfl ?_
  refine J_iload_n (pc := 1) dX5_isWord_1 rfl ?_
  refine K_callVp (pc := 2) (id := 70) (As := [_]) dX5_isWord_2 kl_X5_86 rfl job_70 rfl rfl (Nat.le_of_ble_eq_true rfl) (c_isLetter hi) ?_
  refine Jb_ne (pc := 5) (tgt := 16) dX5_isWord_5 (by decide) (fun h5 => ?_) (fun h5 => ?_)
  · 
    refine J_iconst (pc := 16) dX5_isWord_16 kni_1 ?_
    refine J_goto (pc := 17) (tgt := 21) dX5_isWord_17 (by decide) ?_
    refine K_zret (pc := 21) dX5_isWord_21 rfl rfl ⟨_, rfl, ?_⟩
    exact ⟨(if_pos (wB_iff.mpr (Or.inl h5))).symm, rfl⟩
  · 
    refine J_aload_n (pc := 8) dX5_isWord_8 rfl ?_
    refine J_iload_n (pc := 9) dX5_isWord_9 rfl ?_
    refine K_callVp (pc := 10) (id := 70) (As := [_]) dX5_isWord_10 kl_X5_90 rfl job_70 rfl rfl (Nat.le_of_ble_eq_true rfl) (c_isDigit hi) ?_
    refine Jb_eq (pc := 13) (tgt := 20) dX5_isWord_13 (by decide) (fun h13 => ?_) (fun h13 => ?_)
    · 
      refine J_iconst (pc := 20) dX5_isWord_20 kni_0 ?_
      refine K_zret (pc := 21) dX5_isWord_21 rfl rfl ⟨_, rfl, ?_⟩
      exact ⟨(if_neg (fun q => (wB_iff.mp q).elim h5 h13)).symm, rfl⟩
    · 
      refine J_iconst (pc := 16) dX5_isWord_16 kni_1 ?_
      refine J_goto (pc := 17) (tgt := 21) dX5_isWord_17 (by decide) ?_
      refine K_zret (pc := 21) dX5_isWord_21 rfl rfl ⟨_, rfl, ?_⟩
      exact ⟨(if_pos (wB_iff.mpr (Or.inr h13))).symm, rfl⟩
set_option maxRecDepth 100000 in
set_option maxHeartbeats 400000 in
theorem c_glued {x : jX} {m : jm} {d : Nat} {s n : Nat} (hs : m 70 2 = nI s) (hn : m 70 1 = nI n) (h96 : n ≤ 96) (hs96 : s ≤ n) : Ct x (d + 2) eX5_glued [.ref (jxb x + 70)] m (jp (jb (0 < s ∧ s < n ∧ wB (m 71 s) = true ∧ wB (m 71 (s - 1)) = true)) m) := by
  refine J_start (by decide +kernel) (Nat.le_of_ble_eq_true rfl) (ls := [some (.ref (jxb x + 70))]) rfl rfl ?_
  refine J_aload_n (pc := 0) dX5_glued_0 rfl ?_
  refine K_getI (pc := 1) dX5_glued_1 kf_X5_19 job_70 jrf_70_2 ?_
  refine J_top (b := nI s) (hs) ?_
  refine Jn_if_le (pc := 4) (tgt := 46) dX5_glued_4 (by decide) (by omega) (fun h4 => ?_) (fun h4 => ?_)
  · 
    refine J_iconst (pc := 46) dX5_glued_46 kni_0 ?_
    refine K_zret (pc := 47) dX5_glued_47 rfl rfl ⟨_, rfl, ?_⟩
    exact ⟨(if_neg (fun q => by omega)).symm, rfl⟩
  · 
    refine J_aload_n (pc := 7) dX5_glued_7 rfl ?_
    refine K_getI (pc := 8) dX5_glued_8 kf_X5_19 job_70 jrf_70_2 ?_
    refine J_top (b := nI s) (hs) ?_
    refine J_aload_n (pc := 11) dX5_glued_11 rfl ?_
    refine K_getI (pc := 12) dX5_glued_12 kf_X5_15 job_70 jrf_70_1 ?_
    refine J_top (b := nI n) (hn) ?_
    refine Jn_ge (pc := 15) (tgt := 46) dX5_glued_15 (by decide) (by omega) (by omega) (fun h15 => ?_) (fun h15 => ?_)
    · 
      refine J_iconst (pc := 46) dX5_glued_46 kni_0 ?_
      refine K_zret (pc := 47) dX5_glued_47 rfl rfl ⟨_, rfl, ?_⟩
      exact ⟨(if_neg (fun q => by omega)).symm, rfl⟩
    · 
      refine J_aload_n (pc := 18) dX5_glued_18 rfl ?_
      refine J_aload_n (pc := 19) dX5_glued_19 rfl ?_
      refine K_getI (pc := 20) dX5_glued_20 kf_X5_19 job_70 jrf_70_2 ?_
      refine J_top (b := nI s) (hs) ?_
      refine K_callVp (pc := 23) (id := 70) (As := [_]) dX5_glued_23 kl_X5_93 rfl job_70 rfl rfl (Nat.le_of_ble_eq_true rfl) (c_isWord (by omega)) ?_
      refine Jb_eq (pc := 26) (tgt := 46) dX5_glued_26 (by decide) (fun h26 => ?_) (fun h26 => ?_)
      · 
        refine J_iconst (pc := 46) dX5_glued_46 kni_0 ?_
        refine K_zret (pc := 47) dX5_glued_47 rfl rfl ⟨_, rfl, ?_⟩
        exact ⟨(if_neg (fun q => h26 q.2.2.1)).symm, rfl⟩
      · 
        refine J_aload_n (pc := 29) dX5_glued_29 rfl ?_
        refine J_aload_n (pc := 30) dX5_glued_30 rfl ?_
        refine K_getI (pc := 31) dX5_glued_31 kf_X5_19 job_70 jrf_70_2 ?_
        refine J_top (b := nI s) (hs) ?_
        refine J_iconst (pc := 34) dX5_glued_34 kni_1 ?_
        refine J_isubv (pc := 35) dX5_glued_35 (pk_sub (by omega)) ?_
        refine K_callVp (pc := 36) (id := 70) (As := [_]) dX5_glued_36 kl_X5_93 rfl job_70 rfl rfl (Nat.le_of_ble_eq_true rfl) (c_isWord (by omega)) ?_
        refine Jb_eq (pc := 39) (tgt := 46) dX5_glued_39 (by decide) (fun h39 => ?_) (fun h39 => ?_)
        · 
          refine J_iconst (pc := 46) dX5_glued_46 kni_0 ?_
          refine K_zret (pc := 47) dX5_glued_47 rfl rfl ⟨_, rfl, ?_⟩
          exact ⟨(if_neg (fun q => h39 q.2.2.2)).symm, rfl⟩
        · 
          refine J_iconst (pc := 42) dX5_glued_42 kni_1 ?_
          refine J_goto (pc := 43) (tgt := 47) dX5_glued_43 (by decide) ?_
          refine K_zret (pc := 47) dX5_glued_47 rfl rfl ⟨_, rfl, ?_⟩
          exact ⟨(if_pos ⟨by omega, by omega, h26, h39⟩).symm, rfl⟩
theorem skp_le {t : Nat → Int32} {n e : Nat} (h : e ≤ n) : e ≤ skp t n e ∧ skp t n e ≤ n := by
  have := run_le (fun j => decide (t j = nI 32)) (n - e) e
  unfold skp
  omega
theorem skp_in {t : Nat → Int32} {n e j : Nat} (h1 : e ≤ j) (h2 : j < skp t n e) : t j = nI 32 := of_decide_eq_true (run_in _ _ e j h1 h2)
theorem skp_end {t : Nat → Int32} {n e : Nat} (h : e ≤ n) (h2 : skp t n e < n) : ¬ t (skp t n e) = nI 32 := fun q => run_end (fun j => decide (t j = nI 32)) (n - e) e (show skp t n e < _ by omega) (decide_eq_true q)
theorem ndp_le {t : Nat → Int32} {n s : Nat} (h : s ≤ n) : ndp t n s ≤ n ∧ (s < n → s < ndp t n s) := by
  have h1 := run_le (fun j => lB (t j)) (n - (s + 1)) (s + 1)
  have h2 := run_le (fun j => dB (t j)) (n - (s + 1)) (s + 1)
  unfold ndp
  by_cases a : s < n
  · rw [if_pos a]
    by_cases b : lB (t s) = true
    · rw [if_pos b]; omega
    · rw [if_neg b]
      by_cases c : dB (t s) = true
      · rw [if_pos c]; omega
      · rw [if_neg c]; omega
  · rw [if_neg a]; omega
set_option maxRecDepth 100000 in
set_option maxHeartbeats 400000 in
theorem c_step {x : jX} {m : jm} {d : Nat} {e n : Nat} (hn : m 70 1 = nI n) (h96 : n ≤ 96) (he : m 70 3 = nI e) (hen : e ≤ n) : Ct x (d + 1) eX5_step [.ref (jxb x + 70)] m (jv fun m' => m' = stM m (skp (m 71) n e) (ndp (m 71) n (skp (m 71) n e))) := by
  refine J_start (by decide +kernel) (Nat.le_of_ble_eq_true rfl) (ls := [some (.ref (jxb x + 70))]) rfl rfl ?_
  obtain ⟨s, hsd⟩ : ∃ s, s = skp (m 71) n e := ⟨_, rfl⟩
  have hsk := skp_le (t := m 71) hen
  have hskn : s < n → ¬ m 71 s = nI 32 := fun q => by rw [hsd] at q ⊢; exact skp_end hen q
  rw [← hsd] at hsk
  have hnd := ndp_le (t := m 71) (n := n) (s := s) (by omega)
  have hendlB : ∀ (hsn : s < n) (hl : lB (m 71 s) = true), ndp (m 71) n s < n → ¬ lB (m 71 (ndp (m 71) n s)) = true := fun hsn hl q => by
    rw [show ndp (m 71) n s = run (fun j => lB (m 71 j)) (s + 1) (n - (s + 1)) from (if_pos hsn).trans (if_pos hl)] at q ⊢
    exact run_end (fun j => lB (m 71 j)) (n - (s + 1)) (s + 1) (by omega)
  have henddB : ∀ (hsn : s < n) (hnl : ¬ lB (m 71 s) = true) (hl : dB (m 71 s) = true), ndp (m 71) n s < n → ¬ dB (m 71 (ndp (m 71) n s)) = true := fun hsn hnl hl q => by
    rw [show ndp (m 71) n s = run (fun j => dB (m 71 j)) (s + 1) (n - (s + 1)) from (if_pos hsn).trans ((if_neg hnl).trans (if_pos hl))] at q ⊢
    exact run_end (fun j => dB (m 71 j)) (n - (s + 1)) (s + 1) (by omega)
  refine J_aload_n (pc := 0) dX5_step_0 rfl ?_
  refine J_aload_n (pc := 1) dX5_step_1 rfl ?_
  refine K_getI (pc := 2) dX5_step_2 kf_X5_22 job_70 jrf_70_3 ?_
  refine J_top (b := nI e) (he) ?_
  refine K_put (pc := 5) dX5_step_5 kp_X5_19 job_70 jrf_70_2 rfl rfl ?_
  refine K_merge (jc := 46) (ls' := [some (.ref (jxb x + 70))]) (st' := []) (m' := (mup m 70 2 (nI s))) ?_ (fun hj46 => ?_)
  ·
    refine J_aload_n (pc := 46) dX5_step_46 rfl ?_
    refine J_aload_n (pc := 47) dX5_step_47 rfl ?_
    refine K_getI (pc := 48) dX5_step_48 kf_X5_15 job_70 jrf_70_1 ?_
    refine J_top (b := nI n) ((mup_j (by decide)).trans hn) ?_
    refine J_aload_n (pc := 51) dX5_step_51 rfl ?_
    refine K_getI (pc := 52) dX5_step_52 kf_X5_19 job_70 jrf_70_2 ?_
    refine J_top (b := nI s) (mup_s) ?_
    refine J_iconst (pc := 55) dX5_step_55 kni_1 ?_
    refine J_iaddv (pc := 56) dX5_step_56 (nI_add _ _) ?_
    refine K_minV (pc := 57) dX5_step_57 kx_X5_80 (Nat.le_of_ble_eq_true rfl) ?_
    refine J_top (b := nI (min n (s + 1))) (minV_n (by omega) (by omega)) ?_
    refine K_put (pc := 60) dX5_step_60 kp_X5_22 job_70 jrf_70_3 rfl rfl ?_
    refine K_merge (jc := 177) (ls' := [some (.ref (jxb x + 70))]) (st' := []) (m' := (stM m s (ndp (m 71) n s))) ?_ (fun hj177 => ?_)
    ·
      refine K_vret (pc := 177) dX5_step_177 rfl ⟨rfl, ?_⟩
      rw [← hsd]
    ·
      refine J_aload_n (pc := 63) dX5_step_63 rfl ?_
      refine K_getI (pc := 64) dX5_step_64 kf_X5_19 job_70 jrf_70_2 ?_
      refine J_top (b := nI s) (stM_2) ?_
      refine J_aload_n (pc := 67) dX5_step_67 rfl ?_
      refine K_getI (pc := 68) dX5_step_68 kf_X5_15 job_70 jrf_70_1 ?_
      refine J_top (b := nI n) ((stM_j (by decide) (by decide)).trans hn) ?_
      refine Jn_ge (pc := 71) (tgt := 120) dX5_step_71 (by decide) (by omega) (by omega) (fun h71 => ?_) (fun h71 => ?_)
      · 
        refine J_aload_n (pc := 120) dX5_step_120 rfl ?_
        refine K_getI (pc := 121) dX5_step_121 kf_X5_19 job_70 jrf_70_2 ?_
        refine J_top (b := nI s) (stM_2) ?_
        refine J_aload_n (pc := 124) dX5_step_124 rfl ?_
        refine K_getI (pc := 125) dX5_step_125 kf_X5_15 job_70 jrf_70_1 ?_
        refine J_top (b := nI n) ((stM_j (by decide) (by decide)).trans hn) ?_
        refine Jn_ge (pc := 128) (tgt := 177) dX5_step_128 (by decide) (by omega) (by omega) (fun h128 => ?_) (fun h128 => absurd h128 (by omega))
        rw [show min n (s + 1) = ndp (m 71) n s from by rw [show ndp (m 71) n s = n from if_neg (by omega)]; omega]
        exact hj177
      · 
        refine J_aload_n (pc := 74) dX5_step_74 rfl ?_
        refine J_aload_n (pc := 75) dX5_step_75 rfl ?_
        refine K_getI (pc := 76) dX5_step_76 kf_X5_19 job_70 jrf_70_2 ?_
        refine J_top (b := nI s) (stM_2) ?_
        refine K_callVp (pc := 79) (id := 70) (As := [_]) dX5_step_79 kl_X5_86 rfl job_70 rfl rfl (Nat.le_of_ble_eq_true rfl) (c_isLetter (m := (stM m s (min n (s + 1)))) (by omega)) ?_
        refine Jb_eq (pc := 82) (tgt := 120) dX5_step_82 (by decide) (fun h82 => ?_) (fun h82 => ?_)
        · 
          refine J_aload_n (pc := 120) dX5_step_120 rfl ?_
          refine K_getI (pc := 121) dX5_step_121 kf_X5_19 job_70 jrf_70_2 ?_
          refine J_top (b := nI s) (stM_2) ?_
          refine J_aload_n (pc := 124) dX5_step_124 rfl ?_
          refine K_getI (pc := 125) dX5_step_125 kf_X5_15 job_70 jrf_70_1 ?_
          refine J_top (b := nI n) ((stM_j (by decide) (by decide)).trans hn) ?_
          refine Jn_ge (pc := 128) (tgt := 177) dX5_step_128 (by decide) (by omega) (by omega) (fun h128 => absurd h128 (by omega)) (fun h128 => ?_)
          refine J_aload_n (pc := 131) dX5_step_131 rfl ?_
          refine J_aload_n (pc := 132) dX5_step_132 rfl ?_
          refine K_getI (pc := 133) dX5_step_133 kf_X5_19 job_70 jrf_70_2 ?_
          refine J_top (b := nI s) (stM_2) ?_
          refine K_callVp (pc := 136) (id := 70) (As := [_]) dX5_step_136 kl_X5_90 rfl job_70 rfl rfl (Nat.le_of_ble_eq_true rfl) (c_isDigit (m := (stM m s (min n (s + 1)))) (by omega)) ?_
          refine Jb_eq (pc := 139) (tgt := 177) dX5_step_139 (by decide) (fun h139 => ?_) (fun h139 => ?_)
          · 
            rw [show min n (s + 1) = ndp (m 71) n s from by rw [show ndp (m 71) n s = s + 1 from (if_pos (by omega)).trans ((if_neg h82).trans (if_neg h139))]; omega]
            exact hj177
          · 
            have hsn : s < n := by omega
            have hdig : dB (m 71 s) = true := h139
            have hnl : ¬ lB (m 71 s) = true := h82
            have henddB2 := henddB hsn hnl hdig
            rw [show min n (s + 1) = s + 1 + 0 by omega]
            refine K_for' (pc := 142) (run (fun j => dB (m 71 j)) (s + 1) (n - (s + 1)) - (s + 1)) (fun i => [some (.ref (jxb x + 70))]) (fun i => (stM m s (s + 1 + i))) (by rfl) (by rfl) (fun i hi ih142 => ?_) ?_
            ·
              show K x _ _ 142 [some (.ref (jxb x + 70))] _ ((stM m s (s + 1 + i))) _
              have hle := run_le (fun j => dB (m 71 j)) (n - (s + 1)) (s + 1)
              have hin := run_in (fun j => dB (m 71 j)) (n - (s + 1)) (s + 1) (s + 1 + i) (by omega) (by omega)
              refine J_aload_n (pc := 142) dX5_step_142 rfl ?_
              refine K_getI (pc := 143) dX5_step_143 kf_X5_22 job_70 jrf_70_3 ?_
              refine J_top (b := nI (s + 1 + i)) (stM_3) ?_
              refine J_aload_n (pc := 146) dX5_step_146 rfl ?_
              refine K_getI (pc := 147) dX5_step_147 kf_X5_15 job_70 jrf_70_1 ?_
              refine J_top (b := nI n) ((stM_j (by decide) (by decide)).trans hn) ?_
              refine Jn_ge (pc := 150) (tgt := 177) dX5_step_150 (by decide) (by omega) (by omega) (fun h150 => absurd h150 (by omega)) (fun h150 => ?_)
              refine J_aload_n (pc := 153) dX5_step_153 rfl ?_
              refine J_aload_n (pc := 154) dX5_step_154 rfl ?_
              refine K_getI (pc := 155) dX5_step_155 kf_X5_22 job_70 jrf_70_3 ?_
              refine J_top (b := nI (s + 1 + i)) (stM_3) ?_
              refine K_callVp (pc := 158) (id := 70) (As := [_]) dX5_step_158 kl_X5_90 rfl job_70 rfl rfl (Nat.le_of_ble_eq_true rfl) (c_isDigit (m := stM m s (s + 1 + i)) (i := s + 1 + i) (by omega)) ?_
              refine Jb_eq (pc := 161) (tgt := 177) dX5_step_161 (by decide) (fun h161 => (absurd hin h161)) (fun h161 => ?_)
              refine J_aload_n (pc := 164) dX5_step_164 rfl ?_
              refine J_dup (pc := 165) dX5_step_165 rfl ?_
              refine K_getI (pc := 166) dX5_step_166 kf_X5_22 job_70 jrf_70_3 ?_
              refine J_top (b := nI (s + 1 + i)) (stM_3) ?_
              refine J_iconst (pc := 169) dX5_step_169 kni_1 ?_
              refine J_iaddv (pc := 170) dX5_step_170 (nI_add _ _) ?_
              refine K_put (pc := 171) dX5_step_171 kp_X5_22 job_70 jrf_70_3 rfl rfl ?_
              refine J_goto (pc := 174) (tgt := 142) dX5_step_174 (by decide) ?_
              rw [stM_s]
              exact ih142
            ·
              show K x _ _ 142 [some (.ref (jxb x + 70))] _ ((stM m s (s + 1 + ((run (fun j => dB (m 71 j)) (s + 1) (n - (s + 1)) - (s + 1)))))) _
              have hle := run_le (fun j => dB (m 71 j)) (n - (s + 1)) (s + 1)
              rw [show s + 1 + (run (fun j => dB (m 71 j)) (s + 1) (n - (s + 1)) - (s + 1)) = ndp (m 71) n s from by rw [show ndp (m 71) n s = run (fun j => dB (m 71 j)) (s + 1) (n - (s + 1)) from (if_pos hsn).trans ((if_neg hnl).trans (if_pos hdig))]; omega]
              refine J_aload_n (pc := 142) dX5_step_142 rfl ?_
              refine K_getI (pc := 143) dX5_step_143 kf_X5_22 job_70 jrf_70_3 ?_
              refine J_top (b := nI (ndp (m 71) n s)) (stM_3) ?_
              refine J_aload_n (pc := 146) dX5_step_146 rfl ?_
              refine K_getI (pc := 147) dX5_step_147 kf_X5_15 job_70 jrf_70_1 ?_
              refine J_top (b := nI n) ((stM_j (by decide) (by decide)).trans hn) ?_
              refine Jn_ge (pc := 150) (tgt := 177) dX5_step_150 (by decide) (by omega) (by omega) (fun h150 => ?_) (fun h150 => ?_)
              · 
                exact hj177
              · 
                refine J_aload_n (pc := 153) dX5_step_153 rfl ?_
                refine J_aload_n (pc := 154) dX5_step_154 rfl ?_
                refine K_getI (pc := 155) dX5_step_155 kf_X5_22 job_70 jrf_70_3 ?_
                refine J_top (b := nI (ndp (m 71) n s)) (stM_3) ?_
                refine K_callVp (pc := 158) (id := 70) (As := [_]) dX5_step_158 kl_X5_90 rfl job_70 rfl rfl (Nat.le_of_ble_eq_true rfl) (c_isDigit (m := stM m s (ndp (m 71) n s)) (i := ndp (m 71) n s) (by omega)) ?_
                refine Jb_eq (pc := 161) (tgt := 177) dX5_step_161 (by decide) (fun h161 => ?_) (fun h161 => (absurd h161 (henddB2 (by omega))))
                exact hj177
        · 
          have hsn : s < n := by omega
          have hlet : lB (m 71 s) = true := h82
          have hendlB2 := hendlB hsn hlet
          rw [show min n (s + 1) = s + 1 + 0 by omega]
          refine K_for' (pc := 85) (run (fun j => lB (m 71 j)) (s + 1) (n - (s + 1)) - (s + 1)) (fun i => [some (.ref (jxb x + 70))]) (fun i => (stM m s (s + 1 + i))) (by rfl) (by rfl) (fun i hi ih85 => ?_) ?_
          ·
            show K x _ _ 85 [some (.ref (jxb x + 70))] _ ((stM m s (s + 1 + i))) _
            have hle := run_le (fun j => lB (m 71 j)) (n - (s + 1)) (s + 1)
            have hin := run_in (fun j => lB (m 71 j)) (n - (s + 1)) (s + 1) (s + 1 + i) (by omega) (by omega)
            refine J_aload_n (pc := 85) dX5_step_85 rfl ?_
            refine K_getI (pc := 86) dX5_step_86 kf_X5_22 job_70 jrf_70_3 ?_
            refine J_top (b := nI (s + 1 + i)) (stM_3) ?_
            refine J_aload_n (pc := 89) dX5_step_89 rfl ?_
            refine K_getI (pc := 90) dX5_step_90 kf_X5_15 job_70 jrf_70_1 ?_
            refine J_top (b := nI n) ((stM_j (by decide) (by decide)).trans hn) ?_
            refine Jn_ge (pc := 93) (tgt := 177) dX5_step_93 (by decide) (by omega) (by omega) (fun h93 => absurd h93 (by omega)) (fun h93 => ?_)
            refine J_aload_n (pc := 96) dX5_step_96 rfl ?_
            refine J_aload_n (pc := 97) dX5_step_97 rfl ?_
            refine K_getI (pc := 98) dX5_step_98 kf_X5_22 job_70 jrf_70_3 ?_
            refine J_top (b := nI (s + 1 + i)) (stM_3) ?_
            refine K_callVp (pc := 101) (id := 70) (As := [_]) dX5_step_101 kl_X5_86 rfl job_70 rfl rfl (Nat.le_of_ble_eq_true rfl) (c_isLetter (m := stM m s (s + 1 + i)) (i := s + 1 + i) (by omega)) ?_
            refine Jb_eq (pc := 104) (tgt := 177) dX5_step_104 (by decide) (fun h104 => (absurd hin h104)) (fun h104 => ?_)
            refine J_aload_n (pc := 107) dX5_step_107 rfl ?_
            refine J_dup (pc := 108) dX5_step_108 rfl ?_
            refine K_getI (pc := 109) dX5_step_109 kf_X5_22 job_70 jrf_70_3 ?_
            refine J_top (b := nI (s + 1 + i)) (stM_3) ?_
            refine J_iconst (pc := 112) dX5_step_112 kni_1 ?_
            refine J_iaddv (pc := 113) dX5_step_113 (nI_add _ _) ?_
            refine K_put (pc := 114) dX5_step_114 kp_X5_22 job_70 jrf_70_3 rfl rfl ?_
            refine J_goto (pc := 117) (tgt := 85) dX5_step_117 (by decide) ?_
            rw [stM_s]
            exact ih85
          ·
            show K x _ _ 85 [some (.ref (jxb x + 70))] _ ((stM m s (s + 1 + ((run (fun j => lB (m 71 j)) (s + 1) (n - (s + 1)) - (s + 1)))))) _
            have hle := run_le (fun j => lB (m 71 j)) (n - (s + 1)) (s + 1)
            rw [show s + 1 + (run (fun j => lB (m 71 j)) (s + 1) (n - (s + 1)) - (s + 1)) = ndp (m 71) n s from by rw [show ndp (m 71) n s = run (fun j => lB (m 71 j)) (s + 1) (n - (s + 1)) from (if_pos hsn).trans (if_pos hlet)]; omega]
            refine J_aload_n (pc := 85) dX5_step_85 rfl ?_
            refine K_getI (pc := 86) dX5_step_86 kf_X5_22 job_70 jrf_70_3 ?_
            refine J_top (b := nI (ndp (m 71) n s)) (stM_3) ?_
            refine J_aload_n (pc := 89) dX5_step_89 rfl ?_
            refine K_getI (pc := 90) dX5_step_90 kf_X5_15 job_70 jrf_70_1 ?_
            refine J_top (b := nI n) ((stM_j (by decide) (by decide)).trans hn) ?_
            refine Jn_ge (pc := 93) (tgt := 177) dX5_step_93 (by decide) (by omega) (by omega) (fun h93 => ?_) (fun h93 => ?_)
            · 
              exact hj177
            · 
              refine J_aload_n (pc := 96) dX5_step_96 rfl ?_
              refine J_aload_n (pc := 97) dX5_step_97 rfl ?_
              refine K_getI (pc := 98) dX5_step_98 kf_X5_22 job_70 jrf_70_3 ?_
              refine J_top (b := nI (ndp (m 71) n s)) (stM_3) ?_
              refine K_callVp (pc := 101) (id := 70) (As := [_]) dX5_step_101 kl_X5_86 rfl job_70 rfl rfl (Nat.le_of_ble_eq_true rfl) (c_isLetter (m := stM m s (ndp (m 71) n s)) (i := ndp (m 71) n s) (by omega)) ?_
              refine Jb_eq (pc := 104) (tgt := 177) dX5_step_104 (by decide) (fun h104 => ?_) (fun h104 => (absurd h104 (hendlB2 (by omega))))
              exact hj177
  ·
    refine K_for' (pc := 8) (s - e) (fun i => [some (.ref (jxb x + 70))]) (fun i => (mup m 70 2 (nI (e + i)))) (by rfl) (by rfl) (fun i hi ih8 => ?_) ?_
    ·
      show K x _ _ 8 [some (.ref (jxb x + 70))] _ ((mup m 70 2 (nI (e + i)))) _
      have hbl := skp_in (t := m 71) (n := n) (e := e) (j := e + i) (by omega) (by omega)
      refine J_aload_n (pc := 8) dX5_step_8 rfl ?_
      refine K_getI (pc := 9) dX5_step_9 kf_X5_19 job_70 jrf_70_2 ?_
      refine J_top (b := nI (e + i)) (mup_s) ?_
      refine J_aload_n (pc := 12) dX5_step_12 rfl ?_
      refine K_getI (pc := 13) dX5_step_13 kf_X5_15 job_70 jrf_70_1 ?_
      refine J_top (b := nI n) ((mup_j (by decide)).trans hn) ?_
      refine Jn_ge (pc := 16) (tgt := 46) dX5_step_16 (by decide) (by omega) (by omega) (fun h16 => absurd h16 (by omega)) (fun h16 => ?_)
      refine J_aload_n (pc := 19) dX5_step_19 rfl ?_
      refine K_getR (pc := 20) dX5_step_20 kf_X5_9 job_70 jrf_70_0 ?_
      refine J_aload_n (pc := 23) dX5_step_23 rfl ?_
      refine K_getI (pc := 24) dX5_step_24 kf_X5_19 job_70 jrf_70_2 ?_
      refine J_top (b := nI (e + i)) (mup_s) ?_
      refine K_baldn (pc := 27) (id := 71) dX5_step_27 jar_71 (by omega) (by decide) ?_
      refine J_bipush (pc := 28) dX5_step_28 knb_32 ?_
      refine J_icmp_ne (pc := 30) (tgt := 46) dX5_step_30 (by decide) (fun h30 => (absurd hbl h30)) (fun h30 => ?_)
      refine J_aload_n (pc := 33) dX5_step_33 rfl ?_
      refine J_dup (pc := 34) dX5_step_34 rfl ?_
      refine K_getI (pc := 35) dX5_step_35 kf_X5_19 job_70 jrf_70_2 ?_
      refine J_top (b := nI (e + i)) (mup_s) ?_
      refine J_iconst (pc := 38) dX5_step_38 kni_1 ?_
      refine J_iaddv (pc := 39) dX5_step_39 (nI_add _ _) ?_
      refine K_put (pc := 40) dX5_step_40 kp_X5_19 job_70 jrf_70_2 rfl rfl ?_
      refine J_goto (pc := 43) (tgt := 8) dX5_step_43 (by decide) ?_
      rw [mup_mm]
      exact ih8
    ·
      show K x _ _ 8 [some (.ref (jxb x + 70))] _ ((mup m 70 2 (nI (e + ((s - e)))))) _
      rw [show e + (s - e) = s by omega]
      refine J_aload_n (pc := 8) dX5_step_8 rfl ?_
      refine K_getI (pc := 9) dX5_step_9 kf_X5_19 job_70 jrf_70_2 ?_
      refine J_top (b := nI s) (mup_s) ?_
      refine J_aload_n (pc := 12) dX5_step_12 rfl ?_
      refine K_getI (pc := 13) dX5_step_13 kf_X5_15 job_70 jrf_70_1 ?_
      refine J_top (b := nI n) ((mup_j (by decide)).trans hn) ?_
      refine Jn_ge (pc := 16) (tgt := 46) dX5_step_16 (by decide) (by omega) (by omega) (fun h16 => ?_) (fun h16 => ?_)
      · 
        exact hj46
      · 
        refine J_aload_n (pc := 19) dX5_step_19 rfl ?_
        refine K_getR (pc := 20) dX5_step_20 kf_X5_9 job_70 jrf_70_0 ?_
        refine J_aload_n (pc := 23) dX5_step_23 rfl ?_
        refine K_getI (pc := 24) dX5_step_24 kf_X5_19 job_70 jrf_70_2 ?_
        refine J_top (b := nI s) (mup_s) ?_
        refine K_baldn (pc := 27) (id := 71) dX5_step_27 jar_71 (by omega) (by decide) ?_
        refine J_bipush (pc := 28) dX5_step_28 knb_32 ?_
        refine J_icmp_ne (pc := 30) (tgt := 46) dX5_step_30 (by decide) (fun h30 => ?_) (fun h30 => (absurd h30 (hskn (by omega))))
        exact hj46
