def tot (G : Nat) : Nat := if 99 < G then 1000 else if 9 < G then 100 else 10
theorem nG_3 (G : Nat) : 1 ≤ nG G ∧ nG G ≤ 3 := by unfold nG; (repeat' split) <;> omega
theorem tot_3 {G : Nat} (h : nG G = 3) : tot G = 1000 := by unfold nG at h; unfold tot; (repeat' split at h) <;> first | (split <;> omega) | omega
theorem tot_2 {G : Nat} (h : nG G = 2) : tot G = 100 := by unfold nG at h; unfold tot; (repeat' split at h) <;> first | omega | (rw [if_neg (by omega), if_pos (by omega)])
theorem tot_1 {G : Nat} (h3 : ¬ nG G = 3) (h2 : ¬ nG G = 2) : tot G = 10 := by
  unfold nG at h3 h2
  unfold tot
  by_cases a : 99 < G
  · rw [if_pos a] at h3
    exact absurd rfl h3
  · rw [if_neg a] at h2 ⊢
    by_cases b : 9 < G
    · rw [if_pos b] at h2
      exact absurd rfl h2
    · rw [if_neg b]
theorem chG_6 {G i : Nat} (h : okG G) (hi : i < nG G) : chG G i < 6 := by
  unfold okG at h
  unfold nG at hi
  unfold chG
  by_cases h1 : 99 < G
  · rw [if_pos h1] at h hi ⊢
    rcases (show i = 0 ∨ i = 1 ∨ i = 2 by omega) with rfl | rfl | rfl <;> simp <;> omega
  · rw [if_neg h1] at h hi ⊢
    by_cases h2 : 9 < G
    · rw [if_pos h2] at h hi ⊢
      rcases (show i = 0 ∨ i = 1 by omega) with rfl | rfl <;> simp <;> omega
    · rw [if_neg h2] at h hi ⊢
      exact h
theorem chG_ne {G i j : Nat} (h : okG G) (hi : i < nG G) (hj : j < nG G) (hij : i ≠ j) : chG G i ≠ chG G j := by
  unfold okG at h
  unfold nG at hi hj
  unfold chG
  by_cases h1 : 99 < G
  · rw [if_pos h1] at h hi hj ⊢
    rw [if_pos h1]
    rcases (show i = 0 ∨ i = 1 ∨ i = 2 by omega) with rfl | rfl | rfl <;> rcases (show j = 0 ∨ j = 1 ∨ j = 2 by omega) with rfl | rfl | rfl <;> simp <;> omega
  · rw [if_neg h1] at h hi hj ⊢
    rw [if_neg h1]
    by_cases h2 : 9 < G
    · rw [if_pos h2] at h hi hj ⊢
      rw [if_pos h2]
      rcases (show i = 0 ∨ i = 1 by omega) with rfl | rfl <;> rcases (show j = 0 ∨ j = 1 by omega) with rfl | rfl <;> simp <;> omega
    · rw [if_neg h2] at h hi hj
      omega
set_option maxRecDepth 100000 in
set_option maxHeartbeats 400000 in
theorem c_allTries {x : jX} {m : jm} {d : Nat} {G : Nat} (hc : chosenG m G) : Ct x d eX3_allTries [.ref (jxb x + 102)] m (jp (nI (tot G)) m) := by
  refine J_start (by decide +kernel) (Nat.le_of_ble_eq_true rfl) (ls := [some (.ref (jxb x + 102))]) rfl rfl ?_
  refine J_aload_n (pc := 0) dX3_allTries_0 rfl ?_
  refine K_getI (pc := 1) dX3_allTries_1 kf_X3_29 job_102 jrf_102_3 ?_
  refine J_top (b := nI (nG G)) (hc.1) ?_
  refine J_iconst (pc := 4) dX3_allTries_4 kni_3 ?_
  refine Jn_ne (pc := 5) (tgt := 14) dX3_allTries_5 (by decide) (by have := nG_3 G; omega) (by omega) (fun h5 => ?_) (fun h5 => ?_)
  · 
    refine J_aload_n (pc := 14) dX3_allTries_14 rfl ?_
    refine K_getI (pc := 15) dX3_allTries_15 kf_X3_29 job_102 jrf_102_3 ?_
    refine J_top (b := nI (nG G)) (hc.1) ?_
    refine J_iconst (pc := 18) dX3_allTries_18 kni_2 ?_
    refine Jn_ne (pc := 19) (tgt := 27) dX3_allTries_19 (by decide) (by have := nG_3 G; omega) (by omega) (fun h19 => ?_) (fun h19 => ?_)
    · 
      refine J_bipush (pc := 27) dX3_allTries_27 knb_10 ?_
      refine K_iret (pc := 29) dX3_allTries_29 rfl ⟨_, rfl, ?_⟩
      exact ⟨congrArg nI (tot_1 h5 h19).symm, rfl⟩
    · 
      refine J_bipush (pc := 22) dX3_allTries_22 knb_100 ?_
      refine J_goto (pc := 24) (tgt := 29) dX3_allTries_24 (by decide) ?_
      refine K_iret (pc := 29) dX3_allTries_29 rfl ⟨_, rfl, ?_⟩
      exact ⟨congrArg nI (tot_2 h19).symm, rfl⟩
  · 
    refine J_sipush (pc := 8) dX3_allTries_8 kns_1000 ?_
    refine J_goto (pc := 11) (tgt := 29) dX3_allTries_11 (by decide) ?_
    refine K_iret (pc := 29) dX3_allTries_29 rfl ⟨_, rfl, ?_⟩
    exact ⟨congrArg nI (tot_3 h5).symm, rfl⟩

def weighM (m : jm) (r k l : Nat) : jm := if k < l then mup (mup m 102 6 (nI k)) 102 7 (nI r) else m
set_option maxRecDepth 100000 in
set_option maxHeartbeats 400000 in
theorem c_weigh {x : jX} {m : jm} {d : Nat} {r k l : Nat} (hl : m 102 6 = nI l) (h1 : k < 2 ^ 31) (h2 : l < 2 ^ 31) : Ct x d eX3_weigh [.ref (jxb x + 102), .int (nI r), .int (nI k)] m (jv fun m' => m' = weighM m r k l) := by
  refine J_start (by decide +kernel) (Nat.le_of_ble_eq_true rfl) (ls := [some (.ref (jxb x + 102)), some (.int (nI r)), some (.int (nI k))]) rfl rfl ?_
  refine J_iload_n (pc := 0) dX3_weigh_0 rfl ?_
  refine J_aload_n (pc := 1) dX3_weigh_1 rfl ?_
  refine K_getI (pc := 2) dX3_weigh_2 kf_X3_40 job_102 jrf_102_6 ?_
  refine J_top (b := nI l) (hl) ?_
  refine Jn_ge (pc := 5) (tgt := 18) dX3_weigh_5 (by decide) h1 h2 (fun h5 => ?_) (fun h5 => ?_)
  · 
    refine K_vret (pc := 18) dX3_weigh_18 rfl ⟨rfl, ?_⟩
    unfold weighM
    exact (if_neg (Nat.not_lt.mpr h5)).symm
  · 
    refine J_aload_n (pc := 8) dX3_weigh_8 rfl ?_
    refine J_iload_n (pc := 9) dX3_weigh_9 rfl ?_
    refine K_put (pc := 10) dX3_weigh_10 kp_X3_40 job_102 jrf_102_6 rfl rfl ?_
    refine J_aload_n (pc := 13) dX3_weigh_13 rfl ?_
    refine J_iload_n (pc := 14) dX3_weigh_14 rfl ?_
    refine K_put (pc := 15) dX3_weigh_15 kp_X3_43 job_102 jrf_102_7 rfl rfl ?_
    refine K_vret (pc := 18) dX3_weigh_18 rfl ⟨rfl, ?_⟩
    unfold weighM
    exact (if_pos h5).symm

/-- what a part's aim is if its group is pulled so -/
def aimG (m : jm) (p v : Nat) : Int32 := aimV (m 104 p) (m 107 p) (m 109 p) (drawnV (m 107 p) (nI v) (m 113 (tN (m 108 p))))
def grpS (m : jm) (p : Nat) : Nat := tN (m 112 (tN (m 108 p)))
/-- the skin's cells that a search leaves alone -/
def skI (B mm : jm) (G : Nat) : Prop :=
  (∀ k, k ≤ 12 → k ≠ 6 → k ≠ 11 → mm (103 + k) = B (103 + k)) ∧ (∀ p, p < 48 → B 104 p = nI 5 → mm 109 p = B 109 p) ∧
  (∀ g, g < 6 → (∀ i, i < nG G → g ≠ chG G i) → mm 114 g = B 114 g)
theorem skI_rf (B : jm) (G : Nat) : skI B B G := ⟨fun _ _ _ _ => rfl, fun _ _ _ => rfl, fun _ _ _ => rfl⟩
theorem aimV_nd {k s a b dr : Int32} (h : k = nI 5 → a = b) : aimV k s a dr = aimV k s b dr := by
  unfold aimV
  by_cases h5 : k = nI 5
  · rw [h h5]
  · simp only [if_neg h5]
theorem skI_pull {B mm : jm} {G i v : Nat} (h : skI B mm G) (hi : i < nG G) (w : Int32) : skI B (mup mm 114 (chG G i) w) G :=
  ⟨fun k h1 h2 h3 => by rw [← h.1 k h1 h2 h3]; exact funext fun j => mup_i (by omega), fun p h1 h2 => by rw [mup_i (by decide)]; exact h.2.1 p h1 h2,
    fun g hg hn => by rw [mup_j (hn i hi)]; exact h.2.2 g hg hn⟩
theorem skI_settle {B mm : jm} {G P : Nat} (h : skI B mm G) : skI B (settleM mm 103 P) G :=
  ⟨fun k h1 h2 h3 => by rw [← h.1 k h1 h2 h3]; exact mfill_i' (by omega), fun p h1 h2 => by
    rw [← h.2.1 p h1 h2]
    by_cases hp : p < P
    · show mfill mm (103 + 6) P (aimS mm 103) 109 p = _
      rw [mfill_lt (id := 109) hp]
      have hk : mm 104 p = nI 5 := by have := h.1 1 (by decide) (by decide) (by decide); rw [show mm 104 p = B 104 p from congrFun this p]; exact h2
      show aimV (mm 104 p) (mm 107 p) (mm 109 p) _ = _
      rw [hk]
      rfl
    · exact mfill_ge (by omega),
    fun g hg hn => by rw [← h.2.2 g hg hn]; exact mfill_i (by decide)⟩
theorem cnt_0 {c : Nat → Bool} : ∀ n, cnt c n = 0 → ∀ p, p < n → ¬ c p = true
  | 0, _, p, hp => absurd hp (Nat.not_lt_zero _)
  | n + 1, h, p, hp => by
    rw [cnt] at h
    by_cases e : p = n
    · subst e
      intro q
      rw [if_pos q] at h
      omega
    · exact cnt_0 n (by omega) p (by omega)
/-- idle pulls: those that lead to the aims of the one less by 1 -/
def idleI (B mm : jm) (G P : Nat) : Prop := (∀ i, i < 3 → mm 124 (i * 10) = 0) ∧ ∀ i, i < nG G → ∀ v, v < 10 → ¬ mm 124 (i * 10 + v) = 0 → 1 ≤ v ∧ ∀ p, p < P → grpS B p = chG G i → aimG B p v = aimG B p (v - 1)
theorem wfPt_sk {B mm : jm} {G : Nat} (h : skI B mm G) (hw : wfPt B 103) : wfPt mm 103 := wfPt_c (h.1 5 (by decide) (by decide) (by decide)) (h.1 9 (by decide) (by decide) (by decide)) hw
theorem aimS_sk {B mm : jm} {G : Nat} (h : skI B mm G) {p : Nat} (hp : p < 48) : aimS mm 103 p = aimV (B 104 p) (B 107 p) (B 109 p) (drawnV (B 107 p) (mm 114 (grpS B p)) (B 113 (tN (B 108 p)))) := by
  unfold aimS grpS
  have e1 := congrFun (h.1 1 (by decide) (by decide) (by decide)) p
  have e4 := congrFun (h.1 4 (by decide) (by decide) (by decide)) p
  have e5 := congrFun (h.1 5 (by decide) (by decide) (by decide)) p
  have e9 := h.1 9 (by decide) (by decide) (by decide)
  have e10 := h.1 10 (by decide) (by decide) (by decide)
  rw [e1, e4, e5, e9, e10]
  exact aimV_nd (fun q => h.2.1 p hp q)
theorem idle_step {B mm1 mm2 : jm} {G P i v : Nat} (h1 : skI B mm1 G) (hok : okG G) (hi : i < nG G) (hv : 1 ≤ v) (hP : P ≤ 48)
    (e2 : mm2 = mup (settleM (mup mm1 114 (chG G i) (nI (v - 1))) 103 P) 114 (chG G i) (nI v)) (h0 : cnt (chgS mm2 103) P = 0) : ∀ p, p < P → grpS B p = chG G i → aimG B p v = aimG B p (v - 1) := by
  intro p hp hg
  have hs1 := skI_pull (v := v) h1 hi (nI (v - 1))
  have hs2 := skI_pull (v := v) (skI_settle (P := P) hs1) hi (nI v)
  rw [← e2] at hs2
  have hc := cnt_0 P h0 p hp
  have hc2 : mm2 109 p = aimS mm2 103 p := by
    by_cases q : mm2 109 p = aimS mm2 103 p
    · exact q
    · exact absurd (decide_eq_true q) hc
  rw [aimS_sk hs2 (by omega)] at hc2
  have hsz : mm2 109 p = aimS (mup mm1 114 (chG G i) (nI (v - 1))) 103 p := by
    rw [e2, mup_i (by decide)]
    exact mfill_lt (id := 109) hp
  rw [hsz, aimS_sk hs1 (by omega), hg] at hc2
  rw [e2, mup_s, mup_s] at hc2
  exact hc2.symm
set_option maxRecDepth 100000 in
set_option maxHeartbeats 400000 in
theorem c_findIdle {x : jX} {m : jm} {d : Nat} {G P : Nat} (hc : chosenG m G) (hok : okG G) (hw : wfPt m 103) (hP : m 103 0 = nI P) (h48 : P ≤ 48) (hz0 : ∀ i, i < 3 → m 124 (i * 10) = 0) (hid0 : True) : Ct x (d + 3) eX3_findIdle [.ref (jxb x + 102)] m (jv fun m' => skI m m' G ∧ (∀ k, k ≠ 109 → k ≠ 114 → k ≠ 124 → m' k = m k) ∧ idleI m m' G P) := by
  refine J_start (by decide +kernel) (Nat.le_of_ble_eq_true rfl) (ls := [some (.ref (jxb x + 102)), none, none, none]) rfl rfl ?_
  refine J_iconst (pc := 0) dX3_findIdle_0 kni_0 ?_
  refine J_istore_n (pc := 1) (ls' := [some _, some _, none, none]) dX3_findIdle_1 rfl (Nat.le_of_ble_eq_true rfl) rfl ?_
  refine K_inv (pc := 2) (nG G) (fun i lsq mq => lsq = [some (.ref (jxb x + 102)), some (.int (nI i)), none, none] ∧ (skI m mq G) ∧ (∀ k, k ≠ 109 → k ≠ 114 → k ≠ 124 → mq k = m k) ∧ (∀ i, i < 3 → mq 124 (i * 10) = 0) ∧ (∀ q, q < i → ∀ v, v < 10 → ¬ mq 124 (q * 10 + v) = 0 → 1 ≤ v ∧ ∀ p, p < P → grpS m p = chG G q → aimG m p v = aimG m p (v - 1))) (fun i hi lsq mm hI2 ih2 => ?_) (fun lsq mm hI2 => ?_) 0 (Nat.zero_le _) _ _ (⟨rfl, skI_rf m G, fun _ _ _ _ => rfl, hz0, fun q hq => absurd hq (Nat.not_lt_zero _)⟩)
  ·
    obtain ⟨rfl, hsk, hfr, hz, hid⟩ := hI2
    have hin : i < nG G := hi
    have hG3 := nG_3 G
    refine J_iload_n (pc := 2) dX3_findIdle_2 rfl ?_
    refine J_aload_n (pc := 3) dX3_findIdle_3 rfl ?_
    refine K_getI (pc := 4) dX3_findIdle_4 kf_X3_29 job_102 jrf_102_3 ?_
    refine J_top (b := nI (nG G)) (by rw [hfr 102 (by decide) (by decide) (by decide)]; exact hc.1) ?_
    refine Jn_ge (pc := 7) (tgt := 93) dX3_findIdle_7 (by decide) (by have := nG_3 G; omega) (by have := nG_3 G; omega) (fun h7 => absurd h7 (by omega)) (fun h7 => ?_)
    refine J_aload_n (pc := 10) dX3_findIdle_10 rfl ?_
    refine K_getR (pc := 11) dX3_findIdle_11 kf_X3_25 job_102 jrf_102_2 ?_
    refine J_iload_n (pc := 14) dX3_findIdle_14 rfl ?_
    refine K_ialdn (pc := 15) (id := 123) dX3_findIdle_15 jar_123 (by omega) (by decide) ?_
    refine J_top (b := nI (chG G i)) (by rw [hfr 123 (by decide) (by decide) (by decide)]; exact hc.2 i hin) ?_
    refine J_istore_n (pc := 16) (ls' := [some _, some _, some _, none]) dX3_findIdle_16 rfl (Nat.le_of_ble_eq_true rfl) rfl ?_
    refine J_iconst (pc := 17) dX3_findIdle_17 kni_1 ?_
    refine J_istore_n (pc := 18) (ls' := [some _, some _, some _, some _]) dX3_findIdle_18 rfl (Nat.le_of_ble_eq_true rfl) rfl ?_
    refine K_inv (pc := 19) 9 (fun v lsq mq => lsq = [some (.ref (jxb x + 102)), some (.int (nI i)), some (.int (nI (chG G i))), some (.int (nI (v + 1)))] ∧ (skI m mq G) ∧ (∀ k, k ≠ 109 → k ≠ 114 → k ≠ 124 → mq k = m k) ∧ (∀ i, i < 3 → mq 124 (i * 10) = 0) ∧ (∀ q, q < i → ∀ v, v < 10 → ¬ mq 124 (q * 10 + v) = 0 → 1 ≤ v ∧ ∀ p, p < P → grpS m p = chG G q → aimG m p v = aimG m p (v - 1)) ∧ (∀ u, u < v + 1 → ¬ mq 124 (i * 10 + u) = 0 → 1 ≤ u ∧ ∀ p, p < P → grpS m p = chG G i → aimG m p u = aimG m p (u - 1))) (fun v hv lsq mj hI19 ih19 => ?_) (fun lsq mj hI19 => ?_) 0 (Nat.zero_le _) _ _ (⟨rfl, hsk, hfr, hz, hid, fun u hu hne => by rw [show u = 0 by omega] at hne; exact absurd (hz i (by omega)) hne⟩)
    ·
      obtain ⟨rfl, hskj, hfrj, hzj, hidj, hcur⟩ := hI19
      refine J_iload_n (pc := 19) dX3_findIdle_19 rfl ?_
      refine J_bipush (pc := 20) dX3_findIdle_20 knb_10 ?_
      refine Jn_ge (pc := 22) (tgt := 87) dX3_findIdle_22 (by decide) (by omega) (by omega) (fun h22 => absurd h22 (by omega)) (fun h22 => ?_)
      refine J_aload_n (pc := 25) dX3_findIdle_25 rfl ?_
      refine K_getR (pc := 26) dX3_findIdle_26 kf_X3_14 job_102 jrf_102_0 ?_
      refine K_getR (pc := 29) dX3_findIdle_29 kf_X3_83 job_103 jrf_103_11 ?_
      refine J_iload_n (pc := 32) dX3_findIdle_32 rfl ?_
      refine J_iload_n (pc := 33) dX3_findIdle_33 rfl ?_
      refine J_iconst (pc := 34) dX3_findIdle_34 kni_1 ?_
      refine J_isubv (pc := 35) dX3_findIdle_35 (pk_sub (by omega)) ?_
      refine K_iastn (pc := 36) (id := 114) dX3_findIdle_36 jar_114 (chG_6 hok hin) (by decide) ?_
      refine J_aload_n (pc := 37) dX3_findIdle_37 rfl ?_
      refine K_getR (pc := 38) dX3_findIdle_38 kf_X3_14 job_102 jrf_102_0 ?_
      refine K_callVi (pc := 41) (id := 103) (As := []) dX3_findIdle_41 kl_X3_86 rfl job_103 rfl rfl (Nat.le_of_ble_eq_true rfl) (c_settle (m := (mup mj 114 (chG G i) (nI (v + 1 - 1)))) (P := P) (Or.inr (Or.inr (Or.inr rfl))) (wfPt_sk (skI_pull (v := v) hskj hin (nI (v + 1 - 1))) hw) (by rw [mup_i (by decide), show mj 103 0 = m 103 0 from congrFun (hskj.1 0 (by decide) (by decide) (by decide)) 0]; exact hP) h48) (fun v41 m41 h41 => ?_)
      obtain ⟨rfl, rfl⟩ := h41
      refine J_pop (pc := 44) dX3_findIdle_44 rfl ?_
      refine J_aload_n (pc := 45) dX3_findIdle_45 rfl ?_
      refine K_getR (pc := 46) dX3_findIdle_46 kf_X3_14 job_102 jrf_102_0 ?_
      refine K_getR (pc := 49) dX3_findIdle_49 kf_X3_83 job_103 jrf_103_11 ?_
      refine J_iload_n (pc := 52) dX3_findIdle_52 rfl ?_
      refine J_iload_n (pc := 53) dX3_findIdle_53 rfl ?_
      refine K_iastn (pc := 54) (id := 114) dX3_findIdle_54 jar_114 (chG_6 hok hin) (by decide) ?_
      refine J_aload_n (pc := 55) dX3_findIdle_55 rfl ?_
      refine K_getR (pc := 56) dX3_findIdle_56 kf_X3_33 job_102 jrf_102_4 ?_
      refine J_iload_n (pc := 59) dX3_findIdle_59 rfl ?_
      refine J_bipush (pc := 60) dX3_findIdle_60 knb_10 ?_
      refine J_imulv (pc := 62) dX3_findIdle_62 (pk_mul _ _) ?_
      refine J_iload_n (pc := 63) dX3_findIdle_63 rfl ?_
      refine J_iaddv (pc := 64) dX3_findIdle_64 (nI_add _ _) ?_
      refine J_aload_n (pc := 65) dX3_findIdle_65 rfl ?_
      refine K_getR (pc := 66) dX3_findIdle_66 kf_X3_14 job_102 jrf_102_0 ?_
      refine K_callVi (pc := 69) (id := 103) (As := []) dX3_findIdle_69 kl_X3_86 rfl job_103 rfl rfl (Nat.le_of_ble_eq_true rfl) (c_settle (m := (mup (settleM (mup mj 114 (chG G i) (nI (v + 1 - 1))) 103 P) 114 (chG G i) (nI (v + 1)))) (P := P) (Or.inr (Or.inr (Or.inr rfl))) (wfPt_sk (skI_pull (v := v) (skI_settle (P := P) (skI_pull (v := v) hskj hin (nI (v + 1 - 1)))) hin (nI (v + 1))) hw) (by rw [mup_i (by decide)]; show mfill _ (103 + 6) P _ 103 0 = _; rw [mfill_i (by decide), mup_i (by decide), show mj 103 0 = m 103 0 from congrFun (hskj.1 0 (by decide) (by decide) (by decide)) 0]; exact hP) h48) (fun v69 m69 h69 => ?_)
      obtain ⟨rfl, rfl⟩ := h69
      refine K_merge (jc := 80) (ls' := [some (.ref (jxb x + 102)), some (.int (nI i)), some (.int (nI (chG G i))), some (.int (nI (v + 1)))]) (st' := [.int (jb (nI (cnt (chgS (mup (settleM (mup mj 114 (chG G i) (nI (v + 1 - 1))) 103 P) 114 (chG G i) (nI (v + 1))) 103) P) = 0)), .int (nI ((i * 10) + (v + 1))), .ref (jxb x + 124)]) (m' := (settleM (mup (settleM (mup mj 114 (chG G i) (nI (v + 1 - 1))) 103 P) 114 (chG G i) (nI (v + 1))) 103 P)) ?_ (fun hj80 => ?_)
      ·
        refine K_zastn (pc := 80) (id := 124) (w := jb (nI (cnt (chgS (mup (settleM (mup mj 114 (chG G i) (nI (v + 1 - 1))) 103 P) 114 (chG G i) (nI (v + 1))) 103) P) = 0)) dX3_findIdle_80 jar_124 (by have := nG_3 G; omega) (by decide) (jb_nar _) ?_
        refine Jn_iinc (pc := 81) (ls' := [some _, some _, some _, some _]) dX3_findIdle_81 rfl knz_1 rfl rfl ?_
        refine J_goto (pc := 84) (tgt := 19) dX3_findIdle_84 (by decide) ?_
        have e4 : ∀ k, k ≠ 109 → k ≠ 114 → k ≠ 124 → (settleM (mup (settleM (mup mj 114 (chG G i) (nI (v + 1 - 1))) 103 P) 114 (chG G i) (nI (v + 1))) 103 P) k = m k := by
          intro k h1 h2 h3
          have e5 : (settleM (mup (settleM (mup mj 114 (chG G i) (nI (v + 1 - 1))) 103 P) 114 (chG G i) (nI (v + 1))) 103 P) k = mj k := by
            funext j
            show mfill _ (103 + 6) P _ k j = _
            rw [mfill_i h1, mup_i h2]
            show mfill _ (103 + 6) P _ k j = _
            rw [mfill_i h1, mup_i h2]
          rw [e5]
          exact hfrj k h1 h2 h3
        have hsA := skI_pull (v := v) hskj hin (nI (v + 1 - 1))
        have hsB := skI_pull (v := v) (skI_settle (P := P) hsA) hin (nI (v + 1))
        have hsC := skI_settle (P := P) hsB
        have h124 : ∀ j, (settleM (mup (settleM (mup mj 114 (chG G i) (nI (v + 1 - 1))) 103 P) 114 (chG G i) (nI (v + 1))) 103 P) 124 j = mj 124 j := fun j => by
          show mfill _ (103 + 6) P _ 124 j = _
          rw [mfill_i (by decide), mup_i (by decide)]
          show mfill _ (103 + 6) P _ 124 j = _
          rw [mfill_i (by decide), mup_i (by decide)]
        refine ih19 _ _ ⟨rfl, ?_, ?_, ?_, ?_, ?_⟩
        · exact ⟨fun k h1 h2 h3 => by rw [← hsC.1 k h1 h2 h3]; exact funext fun j => mup_i (by omega), fun p h1 h2 => by rw [mup_i (by decide)]; exact hsC.2.1 p h1 h2, fun g h1 h2 => by rw [mup_i (by decide)]; exact hsC.2.2 g h1 h2⟩
        · intro k h1 h2 h3
          rw [← e4 k h1 h2 h3]
          exact funext fun j => mup_i h3
        · intro q hq
          by_cases e : q * 10 = i * 10 + (v + 1)
          · omega
          · rw [mup_j e, h124]
            exact hzj q hq
        · intro q hq u hu hne
          rw [mup_j (by omega), h124] at hne
          exact hidj q hq u hu hne
        · intro u hu hne
          by_cases e : u = v + 1
          · subst e
            rw [mup_s] at hne
            refine ⟨by omega, ?_⟩
            have hc0 : cnt (chgS (mup (settleM (mup mj 114 (chG G i) (nI (v + 1 - 1))) 103 P) 114 (chG G i) (nI (v + 1))) 103) P = 0 := by
              by_cases q : nI (cnt (chgS (mup (settleM (mup mj 114 (chG G i) (nI (v + 1 - 1))) 103 P) 114 (chG G i) (nI (v + 1))) 103) P) = 0
              · exact (nI_eq (by have := cnt_le (chgS (mup (settleM (mup mj 114 (chG G i) (nI (v + 1 - 1))) 103 P) 114 (chG G i) (nI (v + 1))) 103) P; omega) (by decide)).mp q
              · rw [jb, if_neg q] at hne
                exact absurd rfl hne
            exact idle_step hskj hok hin (v := v + 1) (by omega) h48 rfl hc0
          · rw [mup_j (by omega), h124] at hne
            exact hcur u (by omega) hne
      ·
        refine J_if_ne (pc := 72) (tgt := 79) dX3_findIdle_72 (by decide) (fun h72 => ?_) (fun h72 => ?_)
        · 
          refine J_iconst (pc := 79) dX3_findIdle_79 kni_0 ?_
          have e80 : jb (nI (cnt (chgS (mup (settleM (mup mj 114 (chG G i) (nI (v + 1 - 1))) 103 P) 114 (chG G i) (nI (v + 1))) 103) P) = 0) = nI 0 := if_neg h72
          rw [e80] at hj80
          exact hj80
        · 
          refine J_iconst (pc := 75) dX3_findIdle_75 kni_1 ?_
          refine J_goto (pc := 76) (tgt := 80) dX3_findIdle_76 (by decide) ?_
          have e80 : jb (nI (cnt (chgS (mup (settleM (mup mj 114 (chG G i) (nI (v + 1 - 1))) 103 P) 114 (chG G i) (nI (v + 1))) 103) P) = 0) = nI 1 := if_pos h72
          rw [e80] at hj80
          exact hj80
    ·
      obtain ⟨rfl, hskj, hfrj, hzj, hidj, hcur⟩ := hI19
      refine J_iload_n (pc := 19) dX3_findIdle_19 rfl ?_
      refine J_bipush (pc := 20) dX3_findIdle_20 knb_10 ?_
      refine Jn_ge (pc := 22) (tgt := 87) dX3_findIdle_22 (by decide) (by omega) (by omega) (fun h22 => ?_) (fun h22 => absurd h22 (by omega))
      refine Jn_iinc (pc := 87) (ls' := [some _, some _, some _, some _]) dX3_findIdle_87 rfl knz_1 rfl rfl ?_
      refine J_goto (pc := 90) (tgt := 2) dX3_findIdle_90 (by decide) ?_
      refine J_wk' (ih2 [some (.ref (jxb x + 102)), some (.int (nI (i + 1))), none, none] _ ⟨rfl, hskj, hfrj, hzj, fun q hq u hu hne => ?_⟩) rfl ?_
      · by_cases e : q = i
        · subst e; exact hcur u (by omega) hne
        · exact hidj q (by omega) u hu hne
      · rintro (_ | _ | _ | _ | _ | _ | _ | _ | _ | _ | k) v hv <;> first | exact hv | cases hv
  ·
    obtain ⟨rfl, hsk, hfr, hz, hid⟩ := hI2
    refine J_iload_n (pc := 2) dX3_findIdle_2 rfl ?_
    refine J_aload_n (pc := 3) dX3_findIdle_3 rfl ?_
    refine K_getI (pc := 4) dX3_findIdle_4 kf_X3_29 job_102 jrf_102_3 ?_
    refine J_top (b := nI (nG G)) (by rw [hfr 102 (by decide) (by decide) (by decide)]; exact hc.1) ?_
    refine Jn_ge (pc := 7) (tgt := 93) dX3_findIdle_7 (by decide) (by have := nG_3 G; omega) (by have := nG_3 G; omega) (fun h7 => ?_) (fun h7 => absurd h7 (by omega))
    refine K_vret (pc := 93) dX3_findIdle_93 rfl ⟨rfl, ?_⟩
    exact ⟨hsk, hfr, hz, hid⟩
