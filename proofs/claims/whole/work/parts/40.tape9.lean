/-- what one word or sign does -/
noncomputable def tkS (t : Nat → Int32) (n nm s e : Nat) (z : rST) : Option rST :=
  if glP t n s then none else if z.2.2.2 = true then pceS t s e nm z.1 z.2.1 z.2.2.1 else lnkS (t s) z.1 z.2.1 z.2.2.1
/-- all words and signs: where it stops, with what, and whether it is refused there -/
noncomputable def rdS (t : Nat → Int32) (n nm : Nat) : Nat → Nat → Nat → rST → Nat × rST × Bool
  | 0, s, _, z => (s, z, false)
  | f + 1, s, e, z => if s < n then (match tkS t n nm s e z with
    | none => (s, z, true)
    | some y => rdS t n nm f (skp t n e) (ndp t n (skp t n e)) y) else (s, z, false)
theorem rdS_end {t : Nat → Int32} {n nm f s e : Nat} {z : rST} (h : ¬ s < n) : rdS t n nm f s e z = (s, z, false) := by
  cases f with
  | zero => rfl
  | succ f => exact if_neg h
theorem rdS_no {t : Nat → Int32} {n nm f s e : Nat} {z : rST} (h : s < n) (h2 : tkS t n nm s e z = none) : rdS t n nm (f + 1) s e z = (s, z, true) := by
  unfold rdS
  rw [if_pos h, h2]
theorem rdS_go {t : Nat → Int32} {n nm f s e : Nat} {z y : rST} (h : s < n) (h2 : tkS t n nm s e z = some y) : rdS t n nm (f + 1) s e z = rdS t n nm f (skp t n e) (ndp t n (skp t n e)) y := by
  rw [rdS, if_pos h, h2]
/-- the reader's verdict -/
noncomputable def rdV (n : Nat) (g : Int32) (R : Nat × rST × Bool) : Int32 × List Int32 × Nat × Int32 :=
  if R.2.2 = true then (nI R.1, [], 0, 0) else if R.2.1.2.2.2 = true ∨ 0 < R.2.1.1.count (nI 40) then (nI n, [], 0, 0) else (-1, (clo 1 R.2.1.1 R.2.1.2.1).2, R.2.1.2.2.1, g)
noncomputable def rdAll (t : Nat → Int32) (n : Nat) : Int32 × List Int32 × Nat × Int32 :=
  if (hdS t n).1 = true then rdV n (hdS t n).2.2.2.2 (rdS t n (hdS t n).2.2.2.1 n (skp t n (hdS t n).2.2.1) (ndp t n (skp t n (hdS t n).2.2.1)) ([], [], 0, true)) else (nI (hdS t n).2.1, [], 0, 0)
def rPost (z : Int32 × List Int32 × Nat × Int32) (n : Nat) (m m' : jm) (v : Int32) : Prop := v = z.1 ∧ (∀ i, i ≠ 70 → i ≠ 72 → i ≠ 73 → m' i = m i) ∧ m' 70 1 = nI n ∧
  (z.1 = -1 → z.2.1.length ≤ 96 ∧ m' 70 7 = nI z.2.1.length ∧ stkR z.2.1 z.2.1.length (m' 72) ∧ m' 70 8 = nI z.2.2.1 ∧ m' 70 5 = z.2.2.2)
theorem nI_nm1 {k : Nat} (h : k < 2 ^ 31) : ¬ nI k = -1 := fun e => by
  have := congrArg Int32.toInt e
  rw [nI_toInt h, show (-1 : Int32).toInt = -1 from rfl] at this
  omega
/-- the reader's state is sound after w words -/
def rSnd (z : rST) (w : Nat) : Prop := okO z.1 ∧ (¬ z.2.2.2 = true → z.1.head? ≠ some (nI 33)) ∧ z.2.1.length + z.1.length ≤ w
theorem pce_snd {t : Nat → Int32} {s e nm k w : Nat} {O C : List Int32} {y : rST} (h : pceS t s e nm O C k = some y) (hok : okO O) (hl : C.length + O.length ≤ w) : rSnd y (w + 1) := by
  unfold pceS at h
  have hc : ∀ c : Int32, rSnd ((enp O (c :: C)).1, (enp O (c :: C)).2, k + 1, false) (w + 1) := fun c => ⟨(enp_ok O _ hok).1, fun _ => (enp_ok O _ hok).2, by have := enp_len O (c :: C); rw [List.length_cons] at this; show (enp O (c :: C)).2.length + (enp O (c :: C)).1.length ≤ w + 1; omega⟩
  by_cases a : dB (t s) = true
  · rw [if_pos a] at h
    by_cases b : e - s ≤ 4
    · rw [if_pos b] at h; cases h; exact hc _
    · rw [if_neg b] at h; cases h
  · rw [if_neg a] at h
    by_cases b : lB (t s) = true
    · rw [if_pos b] at h
      by_cases c : e - s = 1 ∧ ¬ ixV nm (t s) < 0
      · rw [if_pos c] at h; cases h; exact hc _
      · rw [if_neg c] at h; cases h
    · rw [if_neg b] at h
      by_cases c : t s = nI 33 ∨ t s = nI 40
      · rw [if_pos c] at h
        unfold opn at h
        by_cases g : (t s :: O).count (nI 33) ≤ 8 ∧ (t s :: O).count (nI 40) ≤ 8
        · rw [if_pos g] at h
          cases h
          exact ⟨⟨Or.inr c, hok⟩, fun q => absurd rfl q, by show C.length + (t s :: O).length ≤ w + 1; rw [List.length_cons]; omega⟩
        · rw [if_neg g] at h; cases h
      · rw [if_neg c] at h; cases h
theorem lnk_snd {v : Int32} {k w : Nat} {O C : List Int32} {y : rST} (h : lnkS v O C k = some y) (hok : okO O) (hh : O.head? ≠ some (nI 33)) (hl : C.length + O.length ≤ w) : rSnd y (w + 1) := by
  unfold lnkS at h
  by_cases a : v = nI 41
  · rw [if_pos a] at h
    by_cases b : O.count (nI 40) = 0
    · rw [if_pos b] at h; cases h
    · rw [if_neg b] at h
      cases h
      obtain ⟨t, ht, hokt⟩ := par_top (C := C) hok hh b
      have l1 := clo_len 1 O C
      rw [ht, List.length_cons] at l1
      rw [ht]
      have l2 := enp_len t (clo 1 O C).2
      exact ⟨(enp_ok t _ hokt).1, fun _ => (enp_ok t _ hokt).2, by show (enp t (clo 1 O C).2).2.length + (enp t (clo 1 O C).2).1.length ≤ w + 1; omega⟩
  · rw [if_neg a] at h
    by_cases b : lvl v = 0
    · rw [if_pos b] at h; cases h
    · rw [if_neg b] at h
      by_cases c : lvl v = 3 ∧ (clo (lvl v + 1) O C).1.head?.map lvl = some 3
      · rw [if_pos c] at h; cases h
      · rw [if_neg c] at h
        cases h
        obtain ⟨p1, p2⟩ := clo_ok (l := lvl v + 1) (by omega) O C hok hh
        obtain ⟨q1, q2⟩ := clo_ok (l := lvl v) (by omega) (clo (lvl v + 1) O C).1 (clo (lvl v + 1) O C).2 p1 p2
        have l1 := clo_len (lvl v + 1) O C
        have l2 := clo_len (lvl v) (clo (lvl v + 1) O C).1 (clo (lvl v + 1) O C).2
        exact ⟨⟨Or.inl ⟨by omega, q2⟩, q1⟩, fun q => absurd rfl q, by
          show (clo (lvl v) (clo (lvl v + 1) O C).1 (clo (lvl v + 1) O C).2).2.length + ((clo (lvl v) (clo (lvl v + 1) O C).1 (clo (lvl v + 1) O C).2).1.length + 1) ≤ w + 1
          omega⟩
theorem hd_in {t : Nat → Int32} {n : Nat} : (hdS t n).2.1 ≤ (hdS t n).2.2.1 ∧ (hdS t n).2.2.1 ≤ n ∧ ((hdS t n).1 = true → (hdS t n).2.2.2.1 = 2 ∨ (hdS t n).2.2.2.1 = 4) := by
  have b1 := skp_le (t := t) (n := n) (e := 0) (by omega)
  have b2 := ndp_le (t := t) (n := n) (s := skp t n 0) (by omega)
  have key : ∀ s, s ≤ n → s ≤ ndp t n s := fun s hs => by
    have := ndp_le (t := t) hs
    by_cases q : s < n
    · have := this.2 q; omega
    · rw [show ndp t n s = n from if_neg q]; omega
  have b4 := skp_le (t := t) (n := n) (e := ndp t n (skp t n 0)) (by omega)
  have b5 := ndp_le (t := t) (n := n) (s := skp t n (ndp t n (skp t n 0))) (by omega)
  unfold hdS
  by_cases a : eyP t (skp t n 0) (ndp t n (skp t n 0))
  · rw [if_pos a]; exact ⟨key _ b1.2, b2.1, fun _ => Or.inl rfl⟩
  · rw [if_neg a]
    by_cases b : puP t (skp t n 0) (ndp t n (skp t n 0))
    · rw [if_pos b]
      by_cases c : glP t n (skp t n (ndp t n (skp t n 0))) ∨ ¬ ndp t n (skp t n (ndp t n (skp t n 0))) - skp t n (ndp t n (skp t n 0)) = 1 ∨ ¬ dB (t (skp t n (ndp t n (skp t n 0)))) = true ∨ ¬ t (skp t n (ndp t n (skp t n 0))) - nI 48 < nI 6
      · rw [if_pos c]; exact ⟨key _ b4.2, b5.1, fun _ => Or.inr rfl⟩
      · rw [if_neg c]; exact ⟨key _ b4.2, b5.1, fun _ => Or.inr rfl⟩
    · rw [if_neg b]; exact ⟨key _ b1.2, b2.1, fun q => by cases q⟩
set_option maxRecDepth 100000 in
set_option maxHeartbeats 400000 in
theorem c_read {x : jX} {m : jm} {d : Nat} {n : Nat} (hn : m 70 1 = nI n) (h96 : n ≤ 96) : Ct x (d + 6) eX5_read [.ref (jxb x + 70)] m (ji fun v m' => rPost (rdAll (m 71) n) n m m' v) := by
  refine J_start (by decide +kernel) (Nat.le_of_ble_eq_true rfl) (ls := [some (.ref (jxb x + 70)), none, none]) rfl rfl ?_
  refine J_aload_n (pc := 0) dX5_read_0 rfl ?_
  refine J_iconst (pc := 1) dX5_read_1 kni_0 ?_
  refine K_put (pc := 2) dX5_read_2 kp_X5_22 job_70 jrf_70_3 rfl rfl ?_
  refine J_aload_n (pc := 5) dX5_read_5 rfl ?_
  refine J_iconst (pc := 6) dX5_read_6 kni_0 ?_
  refine K_put (pc := 7) dX5_read_7 kp_X5_38 job_70 jrf_70_7 rfl rfl ?_
  refine J_aload_n (pc := 10) dX5_read_10 rfl ?_
  refine J_iconst (pc := 11) dX5_read_11 kni_0 ?_
  refine K_put (pc := 12) dX5_read_12 kp_X5_41 job_70 jrf_70_8 rfl rfl ?_
  refine J_aload_n (pc := 15) dX5_read_15 rfl ?_
  refine J_iconst (pc := 16) dX5_read_16 kni_0 ?_
  refine K_put (pc := 17) dX5_read_17 kp_X5_47 job_70 jrf_70_10 rfl rfl ?_
  refine J_aload_n (pc := 20) dX5_read_20 rfl ?_
  refine J_iconst (pc := 21) dX5_read_21 kni_0 ?_
  refine K_put (pc := 22) dX5_read_22 kp_X5_50 job_70 jrf_70_11 rfl rfl ?_
  refine J_aload_n (pc := 25) dX5_read_25 rfl ?_
  refine J_iconst (pc := 26) dX5_read_26 kni_0 ?_
  refine K_put (pc := 27) dX5_read_27 kp_X5_53 job_70 jrf_70_12 rfl rfl ?_
  refine J_aload_n (pc := 30) dX5_read_30 rfl ?_
  refine J_iconst (pc := 31) dX5_read_31 kni_1 ?_
  refine K_put (pc := 32) dX5_read_32 kp_X5_56 job_70 jrf_70_13 rfl rfl ?_
  refine J_aload_n (pc := 35) dX5_read_35 rfl ?_
  refine K_callVi (pc := 36) (id := 70) (As := []) dX5_read_36 kl_X5_60 rfl job_70 rfl rfl (Nat.le_of_ble_eq_true rfl) (c_readHead (m := (mup (mup (mup (mup (mup (mup (mup m 70 3 (nI 0)) 70 7 (nI 0)) 70 8 (nI 0)) 70 10 (nI 0)) 70 11 (nI 0)) 70 12 (nI 0)) 70 13 (nI 1))) (n := n) hn h96 rfl) (fun v36 m36 h36 => ?_)
  rw [show (mup (mup (mup (mup (mup (mup (mup m 70 3 (nI 0)) 70 7 (nI 0)) 70 8 (nI 0)) 70 10 (nI 0)) 70 11 (nI 0)) 70 12 (nI 0)) 70 13 (nI 1)) 71 = m 71 from rfl] at h36
  obtain ⟨rfl, g2, g3, g4, g5, g6⟩ := h36
  obtain ⟨hd1, hd2, hd3⟩ := hd_in (t := m 71) (n := n)
  refine Jb_ne (pc := 39) (tgt := 47) dX5_read_39 (by decide) (fun h39 => ?_) (fun h39 => ?_)
  · 
    refine J_aload_n (pc := 47) dX5_read_47 rfl ?_
    refine K_callVv (pc := 48) (id := 70) (As := []) dX5_read_48 kl_X5_64 rfl job_70 rfl rfl (Nat.le_of_ble_eq_true rfl) (c_step (m := m36) (n := n) (e := (hdS (m 71) n).2.2.1) ((g6 1 (by decide) (by decide) (by decide) (by decide)).trans hn) h96 g3 hd2) (fun m48 h48 => ?_)
    rw [g5 71 (by decide), show (mup (mup (mup (mup (mup (mup (mup m 70 3 (nI 0)) 70 7 (nI 0)) 70 8 (nI 0)) 70 10 (nI 0)) 70 11 (nI 0)) 70 12 (nI 0)) 70 13 (nI 1)) 71 = m 71 from rfl] at h48
    subst h48
    obtain ⟨nm, hnm⟩ : ∃ k, k = (hdS (m 71) n).2.2.2.1 := ⟨_, rfl⟩
    obtain ⟨R, hRd⟩ : ∃ R, R = rdS (m 71) n nm n (skp (m 71) n (hdS (m 71) n).2.2.1) (ndp (m 71) n (skp (m 71) n (hdS (m 71) n).2.2.1)) ([], [], 0, true) := ⟨_, rfl⟩
    rw [show rdAll (m 71) n = rdV n (hdS (m 71) n).2.2.2.2 R from by rw [hRd, hnm]; exact if_pos h39]
    have b4 := skp_le (t := m 71) (n := n) (e := (hdS (m 71) n).2.2.1) hd2
    have b5 := ndp_le (t := m 71) (n := n) (s := skp (m 71) n (hdS (m 71) n).2.2.1) (by omega)
    have b6 : skp (m 71) n (hdS (m 71) n).2.2.1 ≤ ndp (m 71) n (skp (m 71) n (hdS (m 71) n).2.2.1) := by
      by_cases q : skp (m 71) n (hdS (m 71) n).2.2.1 < n
      · have := b5.2 q; omega
      · rw [show ndp (m 71) n (skp (m 71) n (hdS (m 71) n).2.2.1) = n from if_neg q]; omega
    have hnm4 : (jsb nm).length = 4 := by rcases hd3 h39 with q | q <;> (rw [hnm, q]; rfl)
    have hnm5 : nm < 5 := by rcases hd3 h39 with q | q <;> omega
    have g4 := g4 h39
    refine J_iconst (pc := 51) dX5_read_51 kni_0 ?_
    refine J_istore_n (pc := 52) (ls' := [some _, some _, none]) dX5_read_52 rfl (Nat.le_of_ble_eq_true rfl) rfl ?_
    refine K_inv (pc := 53) n (fun w lsq mq => ∃ (y : Nat × Nat × rST), lsq = [some (.ref (jxb x + 70)), some (.int (nI w)), none] ∧ (mq 70 2 = nI y.1) ∧ (mq 70 3 = nI y.2.1) ∧ (y.1 ≤ y.2.1 ∧ y.2.1 ≤ n ∧ (y.1 < n → y.1 < y.2.1)) ∧ (w ≤ y.1) ∧ (rIs y.2.2 mq) ∧ (rSnd y.2.2 w) ∧ ((∀ i, i ≠ 70 → i ≠ 72 → i ≠ 73 → mq i = m i) ∧ mq 70 1 = nI n ∧ mq 70 4 = nI nm ∧ mq 70 5 = (hdS (m 71) n).2.2.2.2) ∧ (rdS (m 71) n nm (n - w) y.1 y.2.1 y.2.2 = R)) (fun w hw lsq mm hI53 ih53 => ?_) (fun lsq mm hI53 => ?_) 0 (Nat.zero_le _) _ _ (⟨(skp (m 71) n (hdS (m 71) n).2.2.1, ndp (m 71) n (skp (m 71) n (hdS (m 71) n).2.2.1), [], [], 0, true), rfl, stM_2, stM_3, ⟨b6, b5.1, b5.2⟩, Nat.zero_le _, ⟨⟨(stM_j (by decide) (by decide)).trans (g6 10 (by decide) (by decide) (by decide) (by decide)), ⟨rfl, fun j hj => absurd hj (Nat.not_lt_zero _)⟩, (stM_j (by decide) (by decide)).trans (g6 7 (by decide) (by decide) (by decide) (by decide)), ⟨rfl, fun j hj => absurd hj (Nat.not_lt_zero _)⟩, (stM_j (by decide) (by decide)).trans (g6 12 (by decide) (by decide) (by decide) (by decide)), (stM_j (by decide) (by decide)).trans (g6 11 (by decide) (by decide) (by decide) (by decide))⟩, (stM_j (by decide) (by decide)).trans (g6 8 (by decide) (by decide) (by decide) (by decide)), (stM_j (by decide) (by decide)).trans (g6 13 (by decide) (by decide) (by decide) (by decide))⟩, ⟨trivial, fun _ => (by simp), Nat.le_refl _⟩, ⟨fun i q1 q2 q3 => (stM_i q1).trans ((g5 i q1).trans ((mup_i' q1).trans ((mup_i' q1).trans ((mup_i' q1).trans ((mup_i' q1).trans ((mup_i' q1).trans ((mup_i' q1).trans (mup_i' q1)))))))), (stM_j (by decide) (by decide)).trans ((g6 1 (by decide) (by decide) (by decide) (by decide)).trans hn), (stM_j (by decide) (by decide)).trans (by rw [g4.1, hnm]), (stM_j (by decide) (by decide)).trans g4.2⟩, hRd.symm⟩)
    ·
      obtain ⟨y, rfl, hst, hen, hse, hw, hz, hsn, hF, hR⟩ := hI53
      refine J_iload_n (pc := 53) dX5_read_53 rfl ?_
      refine J_aload_n (pc := 54) dX5_read_54 rfl ?_
      refine K_getI (pc := 55) dX5_read_55 kf_X5_15 job_70 jrf_70_1 ?_
      refine J_top (b := nI n) (hF.2.1) ?_
      refine Jn_ge (pc := 58) (tgt := 128) dX5_read_58 (by decide) (by omega) (by omega) (fun h58 => absurd h58 (by omega)) (fun h58 => ?_)
      refine J_aload_n (pc := 61) dX5_read_61 rfl ?_
      refine K_getI (pc := 62) dX5_read_62 kf_X5_19 job_70 jrf_70_2 ?_
      refine J_top (b := nI y.1) (hst) ?_
      refine J_aload_n (pc := 65) dX5_read_65 rfl ?_
      refine K_getI (pc := 66) dX5_read_66 kf_X5_15 job_70 jrf_70_1 ?_
      refine J_top (b := nI n) (hF.2.1) ?_
      refine Jn_ge (pc := 69) (tgt := 128) dX5_read_69 (by decide) (by omega) (by omega) (fun h69 => ?_) (fun h69 => ?_)
      · 
        refine J_aload_n (pc := 128) dX5_read_128 rfl ?_
        refine K_getI (pc := 129) dX5_read_129 kf_X5_56 job_70 jrf_70_13 ?_
        refine J_top (b := (jb (y.2.2.2.2.2 = true))) (hz.2.2) ?_
        refine Jb_ne (pc := 132) (tgt := 142) dX5_read_132 (by decide) (fun h132 => ?_) (fun h132 => ?_)
        · 
          refine J_aload_n (pc := 142) dX5_read_142 rfl ?_
          refine K_getI (pc := 143) dX5_read_143 kf_X5_15 job_70 jrf_70_1 ?_
          refine J_top (b := nI n) (hF.2.1) ?_
          refine K_iret (pc := 146) dX5_read_146 rfl ⟨_, rfl, ?_⟩
          have hRe : R = (y.1, y.2.2, false) := by rw [← hR]; exact rdS_end (by omega)
          rw [hRe]
          have e : rdV n (hdS (m 71) n).2.2.2.2 (y.1, y.2.2, false) = (nI n, [], 0, 0) := (if_neg (fun q => by cases q)).trans (if_pos (Or.inl h132))
          rw [e]
          exact ⟨rfl, hF.1, hF.2.1, fun q => absurd q (nI_nm1 (by omega))⟩
        · 
          refine J_aload_n (pc := 135) dX5_read_135 rfl ?_
          have k40 : y.2.2.1.count (nI 40) ≤ y.2.2.1.length := List.count_le_length
          have hsl := hsn.2.2
          refine K_getI (pc := 136) dX5_read_136 kf_X5_50 job_70 jrf_70_11 ?_
          refine J_top (b := nI (y.2.2.1.count (nI 40))) (hz.1.2.2.2.2.2) ?_
          refine Jn_if_le (pc := 139) (tgt := 147) dX5_read_139 (by decide) (by omega) (fun h139 => ?_) (fun h139 => ?_)
          · 
            refine J_aload_n (pc := 147) dX5_read_147 rfl ?_
            refine J_iconst (pc := 148) dX5_read_148 kni_1 ?_
            refine K_callVv (pc := 149) (id := 70) (As := [_]) dX5_read_149 kl_X5_76 rfl job_70 rfl rfl (Nat.le_of_ble_eq_true rfl) (c_close (m := mm) (l := 1) (by decide) (by decide) hz.1 (by have := hsn.2.2; omega)) (fun m149 h149 => ?_)
            obtain ⟨t149, f149, k149⟩ := h149
            refine J_iconst (pc := 152) dX5_read_152 kni_m1 ?_
            refine K_iret (pc := 153) dX5_read_153 rfl ⟨_, rfl, ?_⟩
            have hRe : R = (y.1, y.2.2, false) := by rw [← hR]; exact rdS_end (by omega)
            rw [hRe]
            have e : rdV n (hdS (m 71) n).2.2.2.2 (y.1, y.2.2, false) = (-1, (clo 1 y.2.2.1 y.2.2.2.1).2, y.2.2.2.2.1, (hdS (m 71) n).2.2.2.2) := (if_neg (fun q => by cases q)).trans (if_neg (fun q => q.elim h132 (fun q => absurd q (by show ¬ 0 < y.2.2.1.count (nI 40); omega))))
            rw [e]
            have hcl := clo_len 1 y.2.2.1 y.2.2.2.1
            exact ⟨rfl, fun i q1 q2 q3 => (f149.1 i q1 q2 q3).trans (hF.1 i q1 q2 q3), (f149.2 1 (by decide)).trans hF.2.1, fun _ => ⟨by show (clo 1 y.2.2.1 y.2.2.2.1).2.length ≤ 96; have := hsn.2.2; omega, t149.2.2.1, t149.2.2.2.1, k149.1.trans hz.2.1, (f149.2 5 (by decide)).trans hF.2.2.2⟩⟩
          · 
            refine J_aload_n (pc := 142) dX5_read_142 rfl ?_
            refine K_getI (pc := 143) dX5_read_143 kf_X5_15 job_70 jrf_70_1 ?_
            refine J_top (b := nI n) (hF.2.1) ?_
            refine K_iret (pc := 146) dX5_read_146 rfl ⟨_, rfl, ?_⟩
            have hRe : R = (y.1, y.2.2, false) := by rw [← hR]; exact rdS_end (by omega)
            rw [hRe]
            have e : rdV n (hdS (m 71) n).2.2.2.2 (y.1, y.2.2, false) = (nI n, [], 0, 0) := (if_neg (fun q => by cases q)).trans (if_pos (Or.inr (by omega)))
            rw [e]
            exact ⟨rfl, hF.1, hF.2.1, fun q => absurd q (nI_nm1 (by omega))⟩
      · 
        have hlt := hse.2.2 (by omega)
        have e71 : mm 71 = m 71 := hF.1 71 (by decide) (by decide) (by decide)
        refine J_aload_n (pc := 72) dX5_read_72 rfl ?_
        refine K_callVp (pc := 73) (id := 70) (As := []) dX5_read_73 kl_X5_67 rfl job_70 rfl rfl (Nat.le_of_ble_eq_true rfl) (c_glued (m := mm) hst hF.2.1 h96 (by omega)) ?_
        refine Jb_ne (pc := 76) (tgt := 107) dX5_read_76 (by decide) (fun h76 => ?_) (fun h76 => ?_)
        · 
          have h76 : glP (m 71) n y.1 := by rw [← e71]; exact h76
          refine J_iconst (pc := 107) dX5_read_107 kni_0 ?_
          refine J_istore_n (pc := 108) (ls' := [some _, some _, some _]) dX5_read_108 rfl (Nat.le_of_ble_eq_true rfl) rfl ?_
          refine J_iload_n (pc := 109) dX5_read_109 rfl ?_
          refine Jn_if_ne (pc := 110) (tgt := 118) dX5_read_110 (by decide) (by omega) (fun h110 => absurd h110 (by omega)) (fun h110 => ?_)
          refine J_aload_n (pc := 113) dX5_read_113 rfl ?_
          refine K_getI (pc := 114) dX5_read_114 kf_X5_19 job_70 jrf_70_2 ?_
          refine J_top (b := nI y.1) (hst) ?_
          refine K_iret (pc := 117) dX5_read_117 rfl ⟨_, rfl, ?_⟩
          have hz0 : R = (y.1, y.2.2, true) := by
            rw [← hR, show n - w = (n - (w + 1)) + 1 by omega]
            exact rdS_no (by omega) (by unfold tkS; rw [if_pos h76])
          rw [hz0]
          exact ⟨rfl, hF.1, hF.2.1, fun q => absurd q (nI_nm1 (by show y.1 < _; omega))⟩
        · 
          have h76 : ¬ glP (m 71) n y.1 := by rw [← e71]; exact h76
          refine J_aload_n (pc := 79) dX5_read_79 rfl ?_
          refine K_getI (pc := 80) dX5_read_80 kf_X5_56 job_70 jrf_70_13 ?_
          refine J_top (b := (jb (y.2.2.2.2.2 = true))) (hz.2.2) ?_
          refine Jb_eq (pc := 83) (tgt := 96) dX5_read_83 (by decide) (fun h83 => ?_) (fun h83 => ?_)
          · 
            have h97c := c_readLink (x := x) (d := d + 2) (m := mm) (k := y.2.2.2.2.1) hst (by omega) hz.1 (by have := hsn.2.2; omega) hz.2.1 hsn.1 (hsn.2.1 h83)
            refine J_aload_n (pc := 96) dX5_read_96 rfl ?_
            refine K_callVi (pc := 97) (id := 70) (As := []) dX5_read_97 kl_X5_73 rfl job_70 rfl rfl (Nat.le_of_ble_eq_true rfl) (h97c) (fun v97 m97 h97 => ?_)
            rw [e71] at h97
            obtain ⟨f97, cc, rfl, n97, y97⟩ := h97
            refine Jp_eq (pc := 100) (tgt := 107) dX5_read_100 (by decide) (fun h100 => ?_) (fun h100 => ?_)
            · 
              refine J_iconst (pc := 107) dX5_read_107 kni_0 ?_
              refine J_istore_n (pc := 108) (ls' := [some _, some _, some _]) dX5_read_108 rfl (Nat.le_of_ble_eq_true rfl) rfl ?_
              refine J_iload_n (pc := 109) dX5_read_109 rfl ?_
              refine Jn_if_ne (pc := 110) (tgt := 118) dX5_read_110 (by decide) (by omega) (fun h110 => absurd h110 (by omega)) (fun h110 => ?_)
              refine J_aload_n (pc := 113) dX5_read_113 rfl ?_
              refine K_getI (pc := 114) dX5_read_114 kf_X5_19 job_70 jrf_70_2 ?_
              refine J_top (b := nI y.1) ((f97.2 2 (by decide)).trans hst) ?_
              refine K_iret (pc := 117) dX5_read_117 rfl ⟨_, rfl, ?_⟩
              have hz0 : R = (y.1, y.2.2, true) := by
                rw [← hR, show n - w = (n - (w + 1)) + 1 by omega]
                exact rdS_no (by omega) (by unfold tkS; rw [if_neg h76, if_neg h83]; exact n97 h100)
              rw [hz0]
              exact ⟨rfl, fun i q1 q2 q3 => (f97.1 i q1 q2 q3).trans (hF.1 i q1 q2 q3), (f97.2 1 (by decide)).trans hF.2.1, fun q => absurd q (nI_nm1 (by show y.1 < _; omega))⟩
            · 
              obtain ⟨y1, hy1, hi1⟩ := y97 h100
              refine J_iconst (pc := 103) dX5_read_103 kni_1 ?_
              refine J_goto (pc := 104) (tgt := 108) dX5_read_104 (by decide) ?_
              refine J_istore_n (pc := 108) (ls' := [some _, some _, some _]) dX5_read_108 rfl (Nat.le_of_ble_eq_true rfl) rfl ?_
              refine J_iload_n (pc := 109) dX5_read_109 rfl ?_
              refine Jn_if_ne (pc := 110) (tgt := 118) dX5_read_110 (by decide) (by omega) (fun h110 => ?_) (fun h110 => absurd h110 (by omega))
              refine J_aload_n (pc := 118) dX5_read_118 rfl ?_
              refine K_callVv (pc := 119) (id := 70) (As := []) dX5_read_119 kl_X5_64 rfl job_70 rfl rfl (Nat.le_of_ble_eq_true rfl) (c_step (m := m97) (n := n) (e := y.2.1) ((f97.2 1 (by decide)).trans hF.2.1) h96 ((f97.2 3 (by decide)).trans hen) hse.2.1) (fun m119 h119 => ?_)
              have e71k : m97 71 = m 71 := (f97.1 71 (by decide) (by decide) (by decide)).trans e71
              rw [e71k] at h119
              subst h119
              have c4 := skp_le (t := m 71) (n := n) (e := y.2.1) hse.2.1
              have c5 := ndp_le (t := m 71) (n := n) (s := skp (m 71) n y.2.1) (by omega)
              have c6 : skp (m 71) n y.2.1 ≤ ndp (m 71) n (skp (m 71) n y.2.1) := by
                by_cases q : skp (m 71) n y.2.1 < n
                · have := c5.2 q; omega
                · rw [show ndp (m 71) n (skp (m 71) n y.2.1) = n from if_neg q]; omega
              refine Jn_iinc (pc := 122) (ls' := [some _, some _, some _]) dX5_read_122 rfl knz_1 rfl rfl ?_
              refine J_goto (pc := 125) (tgt := 53) dX5_read_125 (by decide) ?_
              have hsnd : rSnd y1 (w + 1) := lnk_snd hy1 hsn.1 (hsn.2.1 h83) hsn.2.2
              have htk : tkS (m 71) n nm y.1 y.2.1 y.2.2 = some y1 := by unfold tkS; rw [if_neg h76, if_neg h83]; exact hy1
              refine J_wk' (ih53 [some (.ref (jxb x + 70)), some (.int (nI (w + 1))), none] _ ⟨(skp (m 71) n y.2.1, ndp (m 71) n (skp (m 71) n y.2.1), y1), rfl, stM_2, stM_3, ⟨c6, c5.1, c5.2⟩, by show w + 1 ≤ skp (m 71) n y.2.1; have := hse.2.2 (by omega); omega, ⟨TS_c hi1.1 (fun j hj => stM_j (by omega) (by omega)) (stM_i (by decide)) (stM_i (by decide)), (stM_j (by decide) (by decide)).trans hi1.2.1, (stM_j (by decide) (by decide)).trans hi1.2.2⟩, hsnd, ⟨fun i q1 q2 q3 => (stM_i q1).trans ((f97.1 i q1 q2 q3).trans (hF.1 i q1 q2 q3)), (stM_j (by decide) (by decide)).trans ((f97.2 1 (by decide)).trans hF.2.1), (stM_j (by decide) (by decide)).trans ((f97.2 4 (by decide)).trans hF.2.2.1), (stM_j (by decide) (by decide)).trans ((f97.2 5 (by decide)).trans hF.2.2.2)⟩, ?_⟩) rfl ?_
              · rw [← hR, show n - w = (n - (w + 1)) + 1 by omega]
                exact (rdS_go (by omega) htk).symm
              · rintro (_ | _ | _ | _ | k) v hv <;> first | exact hv | cases hv
          · 
            have h87c := c_readPiece (x := x) (d := d + 1) (m := mm) (k := y.2.2.2.2.1) (nm := nm) hst hen hlt (by omega) hF.2.2.1 hnm5 hnm4 hz.1 (by have := hsn.2.2; omega) hz.2.1 (by rw [hz.2.2]; exact if_pos h83)
            refine J_aload_n (pc := 86) dX5_read_86 rfl ?_
            refine K_callVi (pc := 87) (id := 70) (As := []) dX5_read_87 kl_X5_70 rfl job_70 rfl rfl (Nat.le_of_ble_eq_true rfl) (h87c) (fun v87 m87 h87 => ?_)
            rw [e71] at h87
            obtain ⟨f87, cc, rfl, n87, y87⟩ := h87
            refine Jp_eq (pc := 90) (tgt := 107) dX5_read_90 (by decide) (fun h90 => ?_) (fun h90 => ?_)
            · 
              refine J_iconst (pc := 107) dX5_read_107 kni_0 ?_
              refine J_istore_n (pc := 108) (ls' := [some _, some _, some _]) dX5_read_108 rfl (Nat.le_of_ble_eq_true rfl) rfl ?_
              refine J_iload_n (pc := 109) dX5_read_109 rfl ?_
              refine Jn_if_ne (pc := 110) (tgt := 118) dX5_read_110 (by decide) (by omega) (fun h110 => absurd h110 (by omega)) (fun h110 => ?_)
              refine J_aload_n (pc := 113) dX5_read_113 rfl ?_
              refine K_getI (pc := 114) dX5_read_114 kf_X5_19 job_70 jrf_70_2 ?_
              refine J_top (b := nI y.1) ((f87.2 2 (by decide)).trans hst) ?_
              refine K_iret (pc := 117) dX5_read_117 rfl ⟨_, rfl, ?_⟩
              have hz0 : R = (y.1, y.2.2, true) := by
                rw [← hR, show n - w = (n - (w + 1)) + 1 by omega]
                exact rdS_no (by omega) (by unfold tkS; rw [if_neg h76, if_pos h83]; exact n87 h90)
              rw [hz0]
              exact ⟨rfl, fun i q1 q2 q3 => (f87.1 i q1 q2 q3).trans (hF.1 i q1 q2 q3), (f87.2 1 (by decide)).trans hF.2.1, fun q => absurd q (nI_nm1 (by show y.1 < _; omega))⟩
            · 
              obtain ⟨y1, hy1, hi1⟩ := y87 h90
              refine J_goto (pc := 93) (tgt := 103) dX5_read_93 (by decide) ?_
              refine J_iconst (pc := 103) dX5_read_103 kni_1 ?_
              refine J_goto (pc := 104) (tgt := 108) dX5_read_104 (by decide) ?_
              refine J_istore_n (pc := 108) (ls' := [some _, some _, some _]) dX5_read_108 rfl (Nat.le_of_ble_eq_true rfl) rfl ?_
              refine J_iload_n (pc := 109) dX5_read_109 rfl ?_
              refine Jn_if_ne (pc := 110) (tgt := 118) dX5_read_110 (by decide) (by omega) (fun h110 => ?_) (fun h110 => absurd h110 (by omega))
              refine J_aload_n (pc := 118) dX5_read_118 rfl ?_
              refine K_callVv (pc := 119) (id := 70) (As := []) dX5_read_119 kl_X5_64 rfl job_70 rfl rfl (Nat.le_of_ble_eq_true rfl) (c_step (m := m87) (n := n) (e := y.2.1) ((f87.2 1 (by decide)).trans hF.2.1) h96 ((f87.2 3 (by decide)).trans hen) hse.2.1) (fun m119 h119 => ?_)
              have e71k : m87 71 = m 71 := (f87.1 71 (by decide) (by decide) (by decide)).trans e71
              rw [e71k] at h119
              subst h119
              have c4 := skp_le (t := m 71) (n := n) (e := y.2.1) hse.2.1
              have c5 := ndp_le (t := m 71) (n := n) (s := skp (m 71) n y.2.1) (by omega)
              have c6 : skp (m 71) n y.2.1 ≤ ndp (m 71) n (skp (m 71) n y.2.1) := by
                by_cases q : skp (m 71) n y.2.1 < n
                · have := c5.2 q; omega
                · rw [show ndp (m 71) n (skp (m 71) n y.2.1) = n from if_neg q]; omega
              refine Jn_iinc (pc := 122) (ls' := [some _, some _, some _]) dX5_read_122 rfl knz_1 rfl rfl ?_
              refine J_goto (pc := 125) (tgt := 53) dX5_read_125 (by decide) ?_
              have hsnd : rSnd y1 (w + 1) := pce_snd hy1 hsn.1 hsn.2.2
              have htk : tkS (m 71) n nm y.1 y.2.1 y.2.2 = some y1 := by unfold tkS; rw [if_neg h76, if_pos h83]; exact hy1
              refine J_wk' (ih53 [some (.ref (jxb x + 70)), some (.int (nI (w + 1))), none] _ ⟨(skp (m 71) n y.2.1, ndp (m 71) n (skp (m 71) n y.2.1), y1), rfl, stM_2, stM_3, ⟨c6, c5.1, c5.2⟩, by show w + 1 ≤ skp (m 71) n y.2.1; have := hse.2.2 (by omega); omega, ⟨TS_c hi1.1 (fun j hj => stM_j (by omega) (by omega)) (stM_i (by decide)) (stM_i (by decide)), (stM_j (by decide) (by decide)).trans hi1.2.1, (stM_j (by decide) (by decide)).trans hi1.2.2⟩, hsnd, ⟨fun i q1 q2 q3 => (stM_i q1).trans ((f87.1 i q1 q2 q3).trans (hF.1 i q1 q2 q3)), (stM_j (by decide) (by decide)).trans ((f87.2 1 (by decide)).trans hF.2.1), (stM_j (by decide) (by decide)).trans ((f87.2 4 (by decide)).trans hF.2.2.1), (stM_j (by decide) (by decide)).trans ((f87.2 5 (by decide)).trans hF.2.2.2)⟩, ?_⟩) rfl ?_
              · rw [← hR, show n - w = (n - (w + 1)) + 1 by omega]
                exact (rdS_go (by omega) htk).symm
              · rintro (_ | _ | _ | _ | k) v hv <;> first | exact hv | cases hv
    ·
      obtain ⟨y, rfl, hst, hen, hse, hw, hz, hsn, hF, hR⟩ := hI53
      refine J_iload_n (pc := 53) dX5_read_53 rfl ?_
      refine J_aload_n (pc := 54) dX5_read_54 rfl ?_
      refine K_getI (pc := 55) dX5_read_55 kf_X5_15 job_70 jrf_70_1 ?_
      refine J_top (b := nI n) (hF.2.1) ?_
      refine Jn_ge (pc := 58) (tgt := 128) dX5_read_58 (by decide) (by omega) (by omega) (fun h58 => ?_) (fun h58 => absurd h58 (by omega))
      refine J_aload_n (pc := 128) dX5_read_128 rfl ?_
      refine K_getI (pc := 129) dX5_read_129 kf_X5_56 job_70 jrf_70_13 ?_
      refine J_top (b := (jb (y.2.2.2.2.2 = true))) (hz.2.2) ?_
      refine Jb_ne (pc := 132) (tgt := 142) dX5_read_132 (by decide) (fun h132 => ?_) (fun h132 => ?_)
      · 
        refine J_aload_n (pc := 142) dX5_read_142 rfl ?_
        refine K_getI (pc := 143) dX5_read_143 kf_X5_15 job_70 jrf_70_1 ?_
        refine J_top (b := nI n) (hF.2.1) ?_
        refine K_iret (pc := 146) dX5_read_146 rfl ⟨_, rfl, ?_⟩
        have hRe : R = (y.1, y.2.2, false) := by rw [← hR]; exact rdS_end (by omega)
        rw [hRe]
        have e : rdV n (hdS (m 71) n).2.2.2.2 (y.1, y.2.2, false) = (nI n, [], 0, 0) := (if_neg (fun q => by cases q)).trans (if_pos (Or.inl h132))
        rw [e]
        exact ⟨rfl, hF.1, hF.2.1, fun q => absurd q (nI_nm1 (by omega))⟩
      · 
        refine J_aload_n (pc := 135) dX5_read_135 rfl ?_
        have k40 : y.2.2.1.count (nI 40) ≤ y.2.2.1.length := List.count_le_length
        have hsl := hsn.2.2
        refine K_getI (pc := 136) dX5_read_136 kf_X5_50 job_70 jrf_70_11 ?_
        refine J_top (b := nI (y.2.2.1.count (nI 40))) (hz.1.2.2.2.2.2) ?_
        refine Jn_if_le (pc := 139) (tgt := 147) dX5_read_139 (by decide) (by omega) (fun h139 => ?_) (fun h139 => ?_)
        · 
          refine J_aload_n (pc := 147) dX5_read_147 rfl ?_
          refine J_iconst (pc := 148) dX5_read_148 kni_1 ?_
          refine K_callVv (pc := 149) (id := 70) (As := [_]) dX5_read_149 kl_X5_76 rfl job_70 rfl rfl (Nat.le_of_ble_eq_true rfl) (c_close (m := mm) (l := 1) (by decide) (by decide) hz.1 (by have := hsn.2.2; omega)) (fun m149 h149 => ?_)
          obtain ⟨t149, f149, k149⟩ := h149
          refine J_iconst (pc := 152) dX5_read_152 kni_m1 ?_
          refine K_iret (pc := 153) dX5_read_153 rfl ⟨_, rfl, ?_⟩
          have hRe : R = (y.1, y.2.2, false) := by rw [← hR]; exact rdS_end (by omega)
          rw [hRe]
          have e : rdV n (hdS (m 71) n).2.2.2.2 (y.1, y.2.2, false) = (-1, (clo 1 y.2.2.1 y.2.2.2.1).2, y.2.2.2.2.1, (hdS (m 71) n).2.2.2.2) := (if_neg (fun q => by cases q)).trans (if_neg (fun q => q.elim h132 (fun q => absurd q (by show ¬ 0 < y.2.2.1.count (nI 40); omega))))
          rw [e]
          have hcl := clo_len 1 y.2.2.1 y.2.2.2.1
          exact ⟨rfl, fun i q1 q2 q3 => (f149.1 i q1 q2 q3).trans (hF.1 i q1 q2 q3), (f149.2 1 (by decide)).trans hF.2.1, fun _ => ⟨by show (clo 1 y.2.2.1 y.2.2.2.1).2.length ≤ 96; have := hsn.2.2; omega, t149.2.2.1, t149.2.2.2.1, k149.1.trans hz.2.1, (f149.2 5 (by decide)).trans hF.2.2.2⟩⟩
        · 
          refine J_aload_n (pc := 142) dX5_read_142 rfl ?_
          refine K_getI (pc := 143) dX5_read_143 kf_X5_15 job_70 jrf_70_1 ?_
          refine J_top (b := nI n) (hF.2.1) ?_
          refine K_iret (pc := 146) dX5_read_146 rfl ⟨_, rfl, ?_⟩
          have hRe : R = (y.1, y.2.2, false) := by rw [← hR]; exact rdS_end (by omega)
          rw [hRe]
          have e : rdV n (hdS (m 71) n).2.2.2.2 (y.1, y.2.2, false) = (nI n, [], 0, 0) := (if_neg (fun q => by cases q)).trans (if_pos (Or.inr (by omega)))
          rw [e]
          exact ⟨rfl, hF.1, hF.2.1, fun q => absurd q (nI_nm1 (by omega))⟩
  · 
    refine J_aload_n (pc := 42) dX5_read_42 rfl ?_
    refine K_getI (pc := 43) dX5_read_43 kf_X5_19 job_70 jrf_70_2 ?_
    refine J_top (b := nI ((hdS (m 71) n).2.1)) (g2) ?_
    refine K_iret (pc := 46) dX5_read_46 rfl ⟨_, rfl, ?_⟩
    rw [show rdAll (m 71) n = (nI (hdS (m 71) n).2.1, [], 0, 0) from if_neg h39]
    exact ⟨rfl, fun i q1 q2 q3 => (g5 i q1).trans ((mup_i' q1).trans ((mup_i' q1).trans ((mup_i' q1).trans ((mup_i' q1).trans ((mup_i' q1).trans ((mup_i' q1).trans (mup_i' q1))))))), (g6 1 (by decide) (by decide) (by decide) (by decide)).trans hn, fun q => absurd q (nI_nm1 (by show (hdS (m 71) n).2.1 < _; omega))⟩
