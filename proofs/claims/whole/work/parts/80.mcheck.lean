theorem aimR_r {m m' : jm} (h : m' 141 = m 141) (p : Nat) : aimR m' 141 p = aimR m 141 p := by unfold aimR drwR grp nrv; rw [h]
theorem wasR_r {m m' : jm} (h : m' 141 = m 141) (P : Nat) : ∀ k, wasR m' P k 141 = wasR m P k 141
  | 0 => (lit_141 (by decide) (by decide)).trans (h.trans (lit_141 (by decide) (by decide)).symm)
  | k + 1 => by
    show mup (wasR m' P k) 141 (40 + k) (finR m' P k) 141 = mup (wasR m P k) 141 (40 + k) (finR m P k) 141
    rw [mup_row, mup_row, wasR_r h P k, finR_c h]
theorem newR_r {m m' : jm} (h : m' 141 = m 141) (p : Nat) : newR m' p = newR m p := by
  unfold newR pacR
  rw [aimR_r h, h]
theorem stpR_r {m m' : jm} (h : m' 141 = m 141) (P : Nat) : ∀ p, stpR m' P p 141 = stpR m P p 141
  | 0 => wasR_r h P 48
  | p + 1 => by
    show mup (stpR m' P p) 141 (90 + 6 * p + 5) (newR m' p) 141 = mup (stpR m P p) 141 (90 + 6 * p + 5) (newR m p) 141
    rw [mup_row, mup_row, stpR_r h P p, newR_r h]
theorem tck_r {m m' : jm} (h : m' 141 = m 141) (P : Nat) : tckR m' P 141 = tckR m P 141 := by
  have e : mup (stpR m' P P) 141 1 (m' 141 1 + nI 1) 141 = mup (stpR m P P) 141 1 (m 141 1 + nI 1) 141 := by
    rw [mup_row, mup_row, stpR_r h P P, h]
  exact (mup_i' (by decide)).trans (e.trans (mup_i' (by decide)).symm)
theorem seR_r {m m' : jm} (h : m' 141 = m 141) (h4 : m' 144 = m 144) (h5 : m' 145 = m 145) (h6 : m' 146 = m 146) (g P : Nat) (tx : Int32) : seR m' g P tx = seR m g P tx := by
  funext p
  have e : finR m' P = finR m P := funext fun k => finR_c h P k
  have es : shdR m' g = shdR m g := funext fun k => shdR_c h4 h5 h6 g k
  unfold seR seeF
  rw [sawF_c (fun j _ => congrFun h j), e, es, h]
theorem mch_lt {r w : Nat → Int32} {many : Nat} : ∀ n i, i < mch r w many n → i < many ∧ w i = r i
  | 0, i, h => absurd h (Nat.not_lt_zero _)
  | n + 1, i, h => by
    unfold mch at h
    by_cases c : mch r w many n = n ∧ n < many ∧ w n = r n
    · rw [if_pos c] at h
      by_cases e : i = n
      · subst e; exact c.2
      · exact mch_lt n i (by omega)
    · rw [if_neg c] at h
      exact mch_lt n i h
theorem mch_end {r w : Nat → Int32} {many : Nat} : ∀ n, mch r w many n < n → ¬ (mch r w many n < many ∧ w (mch r w many n) = r (mch r w many n))
  | 0, h => absurd h (Nat.not_lt_zero _)
  | n + 1, h => by
    unfold mch at h ⊢
    by_cases c : mch r w many n = n ∧ n < many ∧ w n = r n
    · rw [if_pos c] at h; omega
    · rw [if_neg c]
      have hl := mch_le r w many n
      by_cases e : mch r w many n = n
      · rw [e]; exact fun z => c ⟨e, z⟩
      · exact mch_end n (by omega)
/-- the memory from which a check goes on, and what it finds -/
def ckM (m : jm) : jm := mfill (mfill (mup m 140 35 (nI 0)) 143 3450 (mup m 140 35 (nI 0) 141)) 141 3450 (mfill (mup m 140 35 (nI 0)) 143 3450 (mup m 140 35 (nI 0) 141) 142)
def rwK (m : jm) (P T j : Nat) : Int32 := if j % 2 = 0 then sumV (szR (tckN m P (j / 2 + 1))) P else nI (cnt (seR (tckN m P (j / 2 + 1)) 0 P (cntR (tckN m P (j / 2 + 1)) (nI 6) T)) 48)
theorem rwK_0 {m : jm} {P T i : Nat} : rwK m P T (2 * i) = sumV (szR (tckN m P (i + 1))) P := by
  unfold rwK
  rw [if_pos (by omega), show 2 * i / 2 = i by omega]
theorem rwK_1 {m : jm} {P T i : Nat} : rwK m P T (2 * i + 1) = nI (cnt (seR (tckN m P (i + 1)) 0 P (cntR (tckN m P (i + 1)) (nI 6) T)) 48) := by
  unfold rwK
  rw [if_neg (by omega), show (2 * i + 1) / 2 = i by omega]
theorem ckM_i {m : jm} {i : Nat} (h : i ≠ 140) (h1 : i ≠ 141) (h3 : i ≠ 143) : ckM m i = m i := (mfill_i' h1).trans ((mfill_i' h3).trans (mup_i' h))
theorem ckM_140 {m : jm} {k : Nat} : ckM m 140 k = if k = 35 then nI 0 else m 140 k := by
  refine (mfill_i (by decide)).trans ((mfill_i (by decide)).trans ?_)
  by_cases e : k = 35
  · subst e; exact mup_s.trans (if_pos rfl).symm
  · exact (mup_j e).trans (if_neg e).symm
theorem ckM_141 {m : jm} : ckM m 141 = mfill m 141 3450 (m 142) 141 := by
  funext j
  by_cases h : j < 3450
  · exact (mfill_lt h).trans (((mfill_i (by decide)).trans (mup_i (by decide))).trans (mfill_lt h).symm)
  · exact (mfill_ge (by omega)).trans (((mfill_i (by decide)).trans (mup_i (by decide))).trans (mfill_ge (by omega)).symm)
theorem ckM_143 {m : jm} {j : Nat} (h : j < 3450) : ckM m 143 j = m 141 j := (mfill_i (by decide)).trans ((mfill_lt h).trans (mup_i (by decide)))
set_option maxRecDepth 100000 in
set_option maxHeartbeats 400000 in
theorem m_check {x : jX} {m : jm} {d : Nat} (n : Int32) {w P T : Nat} (hw0 : m 140 35 = nI w) (hw60 : w ≤ 60) (hP : ¬ m 140 3 = 0 → m 142 0 = nI P) (h48 : P ≤ 48) (hplc : ¬ m 140 3 = 0 → ∀ p, p < P → vp_in (m 142 (90 + 6 * p + 1)) 48) (hw : ¬ m 140 3 = 0 → wfR m 142) (hT : ¬ m 140 3 = 0 → m 142 6 = nI T) (hT14 : T ≤ 14) (hS : ¬ m 140 3 = 0 → ∀ t, t < T → sndT (mfill m 141 3450 (m 142)) t) : Ct x (d + 5) eX8_check [.ref (jxb x + 140), .int n] m (ji fun rv m' => m' 140 35 = nI 0 ∧ (∀ k, k ≠ 33 → k ≠ 35 → m' 140 k = m 140 k) ∧ (m' 140 33 = nI 0 ∨ m' 140 33 = m 140 33) ∧ exs [140, 141, 143, 147, 148, 151, 152, 153, 154, 158] m m' ∧ m' 141 = m 141 ∧ rv = if ¬ (nI 1 ≤ n ∧ n ≤ nI 30) then -1000000001 else if m 140 3 = 0 then -1000000002 else if mch (rwK (ckM m) P T) (m 157) w (2 * tN n) = 2 * tN n ∧ w = 2 * tN n then nI 0 else nI 1 + nI (mch (rwK (ckM m) P T) (m 157) w (2 * tN n))) := by
  refine J_start (by decide +kernel) (Nat.le_of_ble_eq_true rfl) (ls := [some (.ref (jxb x + 140)), some (.int n), none, none]) rfl rfl ?_
  refine J_aload_n (pc := 0) dX8_check_0 rfl ?_
  refine K_getI (pc := 1) dX8_check_1 kf_X8_366 job_140 jrf_140_35 ?_
  refine J_top (b := nI w) (hw0) ?_
  refine J_istore_n (pc := 4) (ls' := [some _, some _, some _, none]) dX8_check_4 rfl (Nat.le_of_ble_eq_true rfl) rfl ?_
  refine J_aload_n (pc := 5) dX8_check_5 rfl ?_
  refine J_iconst (pc := 6) dX8_check_6 kni_0 ?_
  refine K_put (pc := 7) dX8_check_7 kp_X8_366 job_140 jrf_140_35 rfl rfl ?_
  refine J_iload_n (pc := 10) dX8_check_10 rfl ?_
  refine J_i2l (pc := 11) dX8_check_11 ?_
  refine J_lconst (pc := 12) (v := 1) dX8_check_12 rfl ?_
  refine J_ldc2 (pc := 13) dX8_check_13 kg_X8_369 ?_
  refine K_callSp (pc := 16) (As := [_, _, _]) dX8_check_16 kl_X8_71 rfl rfl (Nat.le_of_ble_eq_true rfl) (m_in32 (v := n) (a := nI 1) (b := nI 30) (by decide) (by decide)) ?_
  refine Jb_ne (pc := 19) (tgt := 25) dX8_check_19 (by decide) (fun h19 => ?_) (fun h19 => ?_)
  · 
    refine J_aload_n (pc := 25) dX8_check_25 rfl ?_
    refine K_getI (pc := 26) dX8_check_26 kf_X8_371 job_140 jrf_140_3 ?_
    refine J_top (b := (m 140 3)) (mup_j (by decide)) ?_
    refine J_if_ne (pc := 29) (tgt := 35) dX8_check_29 (by decide) (fun h29 => ?_) (fun h29 => ?_)
    · 
      obtain ⟨q, hq1, hq, hqe⟩ := w_of1 h19 (by decide)
      have htq : tN n = q := by rw [hqe]; exact tN_n (by omega)
      subst hqe
      have h26 : ¬ m 140 3 = 0 := h29
      refine J_aload_n (pc := 35) dX8_check_35 rfl ?_
      refine J_aload_n (pc := 36) dX8_check_36 rfl ?_
      refine K_getR (pc := 37) dX8_check_37 kf_X8_7 job_140 jrf_140_0 ?_
      refine J_aload_n (pc := 40) dX8_check_40 rfl ?_
      refine K_getR (pc := 41) dX8_check_41 kf_X8_16 job_140 jrf_140_2 ?_
      refine K_callVv (pc := 44) (id := 140) (As := [_, _]) dX8_check_44 kl_X8_151 rfl job_140 rfl rfl (Nat.le_of_ble_eq_true rfl) (m_setAside (m := (mup m 140 35 (nI 0))) (ar := 141) (ar2 := 143) (nn := 3450) jar_141 jar_143 rfl (by decide)) (fun m44 h44 => ?_)
      subst h44
      refine J_aload_n (pc := 47) dX8_check_47 rfl ?_
      refine J_aload_n (pc := 48) dX8_check_48 rfl ?_
      refine K_getR (pc := 49) dX8_check_49 kf_X8_13 job_140 jrf_140_1 ?_
      refine J_aload_n (pc := 52) dX8_check_52 rfl ?_
      refine K_getR (pc := 53) dX8_check_53 kf_X8_7 job_140 jrf_140_0 ?_
      refine K_callVv (pc := 56) (id := 140) (As := [_, _]) dX8_check_56 kl_X8_151 rfl job_140 rfl rfl (Nat.le_of_ble_eq_true rfl) (m_setAside (m := (mfill (mup m 140 35 (nI 0)) 143 3450 ((mup m 140 35 (nI 0)) 141))) (ar := 142) (ar2 := 141) (nn := 3450) jar_142 jar_141 rfl (by decide)) (fun m56 h56 => ?_)
      subst h56
      refine J_iconst (pc := 59) dX8_check_59 kni_0 ?_
      refine J_istore_n (pc := 60) (ls' := [some _, some _, some _, some _]) dX8_check_60 rfl (Nat.le_of_ble_eq_true rfl) rfl ?_
      refine K_inv (pc := 61) q (fun i lsq mq => lsq = [some (.ref (jxb x + 140)), some (.int (nI q)), some (.int (nI w)), some (.int (nI i))] ∧ (exs [140, 141, 147, 148, 151, 152, 153, 154, 158] (ckM m) mq) ∧ (mq 141 = tckN (ckM m) P i 141) ∧ (∀ k, k ≠ 33 → mq 140 k = ckM m 140 k) ∧ (mq 140 33 = nI 0 ∨ mq 140 33 = m 140 33) ∧ (∀ j, j < 2 * i → mq 158 j = rwK (ckM m) P T j)) (fun i hi lsq mm hI61 ih61 => ?_) (fun lsq mm hI61 => ?_) 0 (Nat.zero_le _) _ _ (⟨rfl, exs_rf _ _, rfl, fun k _ => rfl, Or.inr (ckM_140.trans (if_neg (by decide))), fun j hj => absurd hj (by omega)⟩)
      ·
        obtain ⟨rfl, hx, hv141, h140, h33, hrow⟩ := hI61
        have hE : ∀ j, j < 3450 → (j < 40 ∨ 88 ≤ j) → j ≠ 1 → (∀ q, q < P → j ≠ 90 + 6 * q + 5) → mm 141 j = m 142 j := fun j h0 h1 h2 h3 => by
          rw [hv141, tckN_j h1 h2 h3 i, ckM_141, mfill_lt h0]
        have hP2 : mm 141 0 = nI P := (hE 0 (by omega) (by omega) (by omega) (fun q hq => by omega)).trans (hP h26)
        have hpl2 : ∀ p, p < P → vp_in (mm 141 (90 + 6 * p + 1)) 48 := fun p hp => by rw [hE _ (by omega) (by omega) (by omega) (fun q hq => by omega)]; exact hplc h26 p hp
        have hw2 : wfR mm 141 := ⟨fun p hp => by rw [hE _ (by omega) (by omega) (by omega) (fun q hq => by omega)]; exact (hw h26).1 p hp, fun j hj => by rw [hE _ (by omega) (by omega) (by omega) (fun q hq => by omega)]; exact (hw h26).2 j hj⟩
        have hE2 : ∀ j, j < 3450 → (j < 40 ∨ 88 ≤ j) → j ≠ 1 → (∀ q, q < P → j ≠ 90 + 6 * q + 5) → tckR mm P 141 j = m 142 j := fun j h0 h1 h2 h3 => (tck_j h1 h2 h3).trans (hE j h0 h1 h2 h3)
        have h141b : tckR mm P 141 = tckN (ckM m) P (i + 1) 141 := tck_r hv141 P
        have hP3 : tckR mm P 141 0 = nI P := (hE2 0 (by omega) (by omega) (by omega) (fun q hq => by omega)).trans (hP h26)
        have hsz : sumV (szR (tckR mm P)) P = rwK (ckM m) P T (2 * i) := by
          rw [rwK_0]
          exact sumV_c P (fun p _ => congrFun h141b _)
        refine J_iload_n (pc := 61) dX8_check_61 rfl ?_
        refine J_iload_n (pc := 62) dX8_check_62 rfl ?_
        refine Jn_ge (pc := 63) (tgt := 103) dX8_check_63 (by decide) (by omega) (by omega) (fun h63 => absurd h63 (by omega)) (fun h63 => ?_)
        refine J_aload_n (pc := 66) dX8_check_66 rfl ?_
        refine K_callVv (pc := 67) (id := 140) (As := []) dX8_check_67 kl_X8_144 rfl job_140 rfl rfl (Nat.le_of_ble_eq_true rfl) (m_oneTick (m := mm) (P := P) hP2 h48 hpl2 hw2) (fun m67 h67 => ?_)
        subst h67
        refine J_aload_n (pc := 70) dX8_check_70 rfl ?_
        refine K_getR (pc := 71) dX8_check_71 kf_X8_63 job_140 jrf_140_36 ?_
        refine J_iconst (pc := 74) dX8_check_74 kni_2 ?_
        refine J_iload_n (pc := 75) dX8_check_75 rfl ?_
        refine J_imulv (pc := 76) dX8_check_76 (pk_mul _ _) ?_
        refine J_aload_n (pc := 77) dX8_check_77 rfl ?_
        refine K_callVp (pc := 78) (id := 140) (As := []) dX8_check_78 kl_X8_374 rfl job_140 rfl rfl (Nat.le_of_ble_eq_true rfl) (m_sizes (m := (tckR mm P)) (P := P) hP3 h48) ?_
        refine K_iastn (pc := 81) (id := 158) dX8_check_81 jar_158 (by omega) (by decide) ?_
        refine J_aload_n (pc := 82) dX8_check_82 rfl ?_
        refine K_getR (pc := 83) dX8_check_83 kf_X8_63 job_140 jrf_140_36 ?_
        refine J_iconst (pc := 86) dX8_check_86 kni_2 ?_
        refine J_iload_n (pc := 87) dX8_check_87 rfl ?_
        refine J_imulv (pc := 88) dX8_check_88 (pk_mul _ _) ?_
        refine J_iconst (pc := 89) dX8_check_89 kni_1 ?_
        refine J_iaddv (pc := 90) dX8_check_90 (nI_add _ _) ?_
        refine J_aload_n (pc := 91) dX8_check_91 rfl ?_
        refine J_iconst (pc := 92) dX8_check_92 kni_0 ?_
        have e141 : (mup (tckR mm P) 158 (2 * i) (rwK (ckM m) P T (2 * i))) 141 = tckN (ckM m) P (i + 1) 141 := (mup_i' (by decide)).trans h141b
        have eln : ∀ c, c = 144 ∨ c = 145 ∨ c = 146 → (mup (tckR mm P) 158 (2 * i) (rwK (ckM m) P T (2 * i))) c = tckN (ckM m) P (i + 1) c := fun c hc => (mup_i' (by omega)).trans ((tck_i (by omega) (by omega) (by omega) (by omega)).trans ((hx c (by rcases hc with rfl | rfl | rfl <;> decide)).trans (tckN_i (by omega) (by omega) (by omega) (by omega) (i + 1)).symm))
        have hsee : nI (cnt (seR (mup (tckR mm P) 158 (2 * i) (rwK (ckM m) P T (2 * i))) 0 P (cntR (mup (tckR mm P) 158 (2 * i) (rwK (ckM m) P T (2 * i))) (nI 6) T)) 48) = rwK (ckM m) P T (2 * i + 1) := by
          rw [rwK_1, seR_r e141 (eln 144 (by omega)) (eln 145 (by omega)) (eln 146 (by omega)), cntR_c (congrFun e141 1) (fun j _ => congrFun e141 j) T]
        have hS3 : ∀ t, t < T → sndT (mup (tckR mm P) 158 (2 * i) (rwK (ckM m) P T (2 * i))) t := fun t ht => sndT_c (m := mfill m 141 3450 (m 142)) (fun j hj => by
          rw [e141, tckN_j (by omega) (by omega) (fun q hq => by omega) (i + 1), ckM_141]) (hS h26 t ht)
        rw [hsz]
        refine K_callVi (pc := 93) (id := 140) (As := [_]) dX8_check_93 kl_X8_309 rfl job_140 rfl rfl (Nat.le_of_ble_eq_true rfl) (m_see (m := (mup (tckR mm P) 158 (2 * i) (rwK (ckM m) P T (2 * i)))) (g := 0) (P := P) (T := T) (by decide) ((mup_i (by decide)).trans hP3) h48 (fun p hp => by rw [mup_i (by decide), hE2 _ (by omega) (by omega) (by omega) (fun q hq => by omega)]; exact hplc h26 p hp) ((mup_i (by decide)).trans ((hE2 6 (by omega) (by omega) (by omega) (fun q hq => by omega)).trans (hT h26))) hT14 hS3) (fun v93 m93 h93 => ?_)
        obtain ⟨rfl, x93, -⟩ := h93
        rw [hsee]
        refine K_iastn (pc := 96) (id := 158) dX8_check_96 jar_158 (by omega) (by decide) ?_
        refine Jn_iinc (pc := 97) (ls' := [some _, some _, some _, some _]) dX8_check_97 rfl knz_1 rfl rfl ?_
        refine J_goto (pc := 100) (tgt := 61) dX8_check_100 (by decide) ?_
        have c140 : ∀ k, k ≠ 33 → m93 140 k = ckM m 140 k := fun k hk => by
          rw [x93 140 (by decide), mup_i (by decide), stp_140, if_neg hk]; exact h140 k hk
        have c33 : m93 140 33 = nI 0 := by rw [x93 140 (by decide), mup_i (by decide), stp_140, if_pos rfl]
        refine J_wk' (ih61 [some (.ref (jxb x + 140)), some (.int (nI q)), some (.int (nI w)), some (.int (nI (i + 1)))] _ ⟨rfl, ?_, ?_, ?_, ?_, ?_⟩) rfl ?_
        · intro c hc
          have hne : c ≠ 158 ∧ c ≠ 140 ∧ c ≠ 141 ∧ c ≠ 147 ∧ c ≠ 148 := by simp at hc; omega
          rw [mup_i' hne.1, x93 c (fun z => hc (by simp at z ⊢; omega)), mup_i' hne.1, tck_i hne.2.1 hne.2.2.1 hne.2.2.2.1 hne.2.2.2.2]
          exact hx c hc
        · rw [mup_i' (by decide), x93 141 (by decide), e141]
        · intro k hk
          rw [mup_i (by decide)]; exact c140 k hk
        · rw [mup_i (by decide)]; exact Or.inl c33
        · intro j hj
          by_cases e : j = 2 * i + 1
          · subst e; exact mup_s
          · rw [mup_j e, x93 158 (by decide)]
            by_cases e2 : j = 2 * i
            · subst e2; exact mup_s
            · rw [mup_j e2, tck_i (by decide) (by decide) (by decide) (by decide)]
              exact hrow j (by omega)
        rintro (_ | _ | _ | _ | k) v hv <;> first | exact hv | cases hv
      ·
        obtain ⟨rfl, hx, hv141, h140, h33, hrow⟩ := hI61
        refine J_iload_n (pc := 61) dX8_check_61 rfl ?_
        refine J_iload_n (pc := 62) dX8_check_62 rfl ?_
        refine Jn_ge (pc := 63) (tgt := 103) dX8_check_63 (by decide) (by omega) (by omega) (fun h63 => ?_) (fun h63 => absurd h63 (by omega))
        refine J_aload_n (pc := 103) dX8_check_103 rfl ?_
        refine J_aload_n (pc := 104) dX8_check_104 rfl ?_
        refine K_getR (pc := 105) dX8_check_105 kf_X8_16 job_140 jrf_140_2 ?_
        refine J_aload_n (pc := 108) dX8_check_108 rfl ?_
        refine K_getR (pc := 109) dX8_check_109 kf_X8_7 job_140 jrf_140_0 ?_
        refine K_callVv (pc := 112) (id := 140) (As := [_, _]) dX8_check_112 kl_X8_151 rfl job_140 rfl rfl (Nat.le_of_ble_eq_true rfl) (m_setAside (m := mm) (ar := 143) (ar2 := 141) (nn := 3450) jar_143 jar_141 rfl (by decide)) (fun m112 h112 => ?_)
        subst h112
        have hmw : ∀ j, (mfill mm 141 3450 (mm 143)) 157 j = m 157 j := fun j => (mfill_i (by decide)).trans ((congrFun (hx 157 (by decide)) j).trans (congrFun (ckM_i (by decide) (by decide) (by decide)) j))
        have hmr : ∀ j, j < 2 * q → (mfill mm 141 3450 (mm 143)) 158 j = rwK (ckM m) P T j := fun j hj => (mfill_i (by decide)).trans (hrow j hj)
        have hml := mch_le (rwK (ckM m) P T) (m 157) w (2 * q)
        refine J_iconst (pc := 115) dX8_check_115 kni_0 ?_
        refine J_istore_n (pc := 116) (ls' := [some _, some _, some _, some _]) dX8_check_116 rfl (Nat.le_of_ble_eq_true rfl) rfl ?_
        refine K_for' (pc := 117) ((mch (rwK (ckM m) P T) (m 157) w (2 * q))) (fun k => [some (.ref (jxb x + 140)), some (.int (nI q)), some (.int (nI w)), some (.int (nI k))]) (fun k => (mfill mm 141 3450 (mm 143))) (by rfl) (by rfl) (fun k hk ih117 => ?_) ?_
        ·
          show K x _ _ 117 [some (.ref (jxb x + 140)), some (.int (nI q)), some (.int (nI w)), some (.int (nI k))] _ ((mfill mm 141 3450 (mm 143))) _
          have hk2 := mch_lt _ _ hk
          refine J_iload_n (pc := 117) dX8_check_117 rfl ?_
          refine J_iload_n (pc := 118) dX8_check_118 rfl ?_
          refine Jn_ge (pc := 119) (tgt := 150) dX8_check_119 (by decide) (by omega) (by omega) (fun h119 => absurd h119 (by omega)) (fun h119 => ?_)
          refine J_iload_n (pc := 122) dX8_check_122 rfl ?_
          refine J_iconst (pc := 123) dX8_check_123 kni_2 ?_
          refine J_iload_n (pc := 124) dX8_check_124 rfl ?_
          refine J_imulv (pc := 125) dX8_check_125 (pk_mul _ _) ?_
          refine Jn_ge (pc := 126) (tgt := 150) dX8_check_126 (by decide) (by omega) (by omega) (fun h126 => absurd h126 (by omega)) (fun h126 => ?_)
          refine J_aload_n (pc := 129) dX8_check_129 rfl ?_
          refine K_getR (pc := 130) dX8_check_130 kf_X8_60 job_140 jrf_140_34 ?_
          refine J_iload_n (pc := 133) dX8_check_133 rfl ?_
          refine K_ialdn (pc := 134) (id := 157) dX8_check_134 jar_157 (by omega) (by decide) ?_
          refine J_top (b := (m 157 k)) (hmw k) ?_
          refine J_aload_n (pc := 135) dX8_check_135 rfl ?_
          refine K_getR (pc := 136) dX8_check_136 kf_X8_63 job_140 jrf_140_36 ?_
          refine J_iload_n (pc := 139) dX8_check_139 rfl ?_
          refine K_ialdn (pc := 140) (id := 158) dX8_check_140 jar_158 (by omega) (by decide) ?_
          refine J_top (b := (rwK (ckM m) P T k)) (hmr k (by omega)) ?_
          refine J_icmp_ne (pc := 141) (tgt := 150) dX8_check_141 (by decide) (fun h141 => absurd h141 (fun z => z hk2.2)) (fun h141 => ?_)
          refine Jn_iinc (pc := 144) (ls' := [some _, some _, some _, some _]) dX8_check_144 rfl knz_1 rfl rfl ?_
          refine J_goto (pc := 147) (tgt := 117) dX8_check_147 (by decide) ?_
          exact ih117
        ·
          show K x _ _ 117 [some (.ref (jxb x + 140)), some (.int (nI q)), some (.int (nI w)), some (.int (nI ((mch (rwK (ckM m) P T) (m 157) w (2 * q)))))] _ ((mfill mm 141 3450 (mm 143))) _
          refine J_iload_n (pc := 117) dX8_check_117 rfl ?_
          refine J_iload_n (pc := 118) dX8_check_118 rfl ?_
          refine Jn_ge (pc := 119) (tgt := 150) dX8_check_119 (by decide) (by omega) (by omega) (fun h119 => ?_) (fun h119 => ?_)
          · 
            refine J_iload_n (pc := 150) dX8_check_150 rfl ?_
            refine J_iload_n (pc := 151) dX8_check_151 rfl ?_
            refine Jn_ne (pc := 152) (tgt := 166) dX8_check_152 (by decide) (by omega) (by omega) (fun h152 => ?_) (fun h152 => ?_)
            · 
              refine J_iconst (pc := 166) dX8_check_166 kni_1 ?_
              refine J_iload_n (pc := 167) dX8_check_167 rfl ?_
              refine J_iaddv (pc := 168) dX8_check_168 (nI_add _ _) ?_
              refine K_iret (pc := 169) dX8_check_169 rfl ⟨_, rfl, ?_⟩
              refine ⟨?_, fun k h1 h2 => ?_, ?_, fun c hc => ?_, ?_, ?_⟩
              · rw [mfill_i (by decide), h140 35 (by decide), ckM_140, if_pos rfl]
              · rw [mfill_i (by decide), h140 k h1, ckM_140, if_neg h2]
              · rw [mfill_i (by decide)]; exact h33
              · have hne : c ≠ 140 ∧ c ≠ 141 ∧ c ≠ 143 := by simp at hc; omega
                rw [mfill_i' hne.2.1, hx c (fun z => hc (by simp at z ⊢; omega)), ckM_i hne.1 hne.2.1 hne.2.2]
              · funext j
                by_cases hj : j < 3450
                · rw [mfill_lt hj, hx 143 (by decide), ckM_143 hj]
                · rw [mfill_ge (by omega), hv141, tckN_j (by omega) (by omega) (fun q hq => by omega) q, ckM_141, mfill_ge (by omega)]
              · rw [htq, if_neg (Classical.not_not.mpr h19), if_neg h26]
                exact (nI_add 1 _).symm.trans (if_neg (c := mch (rwK (ckM m) P T) (m 157) w (2 * q) = 2 * q ∧ w = 2 * q) (fun z => h152 (z.1.trans z.2.symm))).symm
            · 
              refine J_iload_n (pc := 155) dX8_check_155 rfl ?_
              refine J_iconst (pc := 156) dX8_check_156 kni_2 ?_
              refine J_iload_n (pc := 157) dX8_check_157 rfl ?_
              refine J_imulv (pc := 158) dX8_check_158 (pk_mul _ _) ?_
              refine Jn_ne (pc := 159) (tgt := 166) dX8_check_159 (by decide) (by omega) (by omega) (fun h159 => ?_) (fun h159 => ?_)
              · 
                refine J_iconst (pc := 166) dX8_check_166 kni_1 ?_
                refine J_iload_n (pc := 167) dX8_check_167 rfl ?_
                refine J_iaddv (pc := 168) dX8_check_168 (nI_add _ _) ?_
                refine K_iret (pc := 169) dX8_check_169 rfl ⟨_, rfl, ?_⟩
                refine ⟨?_, fun k h1 h2 => ?_, ?_, fun c hc => ?_, ?_, ?_⟩
                · rw [mfill_i (by decide), h140 35 (by decide), ckM_140, if_pos rfl]
                · rw [mfill_i (by decide), h140 k h1, ckM_140, if_neg h2]
                · rw [mfill_i (by decide)]; exact h33
                · have hne : c ≠ 140 ∧ c ≠ 141 ∧ c ≠ 143 := by simp at hc; omega
                  rw [mfill_i' hne.2.1, hx c (fun z => hc (by simp at z ⊢; omega)), ckM_i hne.1 hne.2.1 hne.2.2]
                · funext j
                  by_cases hj : j < 3450
                  · rw [mfill_lt hj, hx 143 (by decide), ckM_143 hj]
                  · rw [mfill_ge (by omega), hv141, tckN_j (by omega) (by omega) (fun q hq => by omega) q, ckM_141, mfill_ge (by omega)]
                · rw [htq, if_neg (Classical.not_not.mpr h19), if_neg h26]
                  exact (nI_add 1 _).symm.trans (if_neg (c := mch (rwK (ckM m) P T) (m 157) w (2 * q) = 2 * q ∧ w = 2 * q) (fun z => h159 z.1)).symm
              · 
                refine J_iconst (pc := 162) dX8_check_162 kni_0 ?_
                refine J_goto (pc := 163) (tgt := 169) dX8_check_163 (by decide) ?_
                refine K_iret (pc := 169) dX8_check_169 rfl ⟨_, rfl, ?_⟩
                refine ⟨?_, fun k h1 h2 => ?_, ?_, fun c hc => ?_, ?_, ?_⟩
                · rw [mfill_i (by decide), h140 35 (by decide), ckM_140, if_pos rfl]
                · rw [mfill_i (by decide), h140 k h1, ckM_140, if_neg h2]
                · rw [mfill_i (by decide)]; exact h33
                · have hne : c ≠ 140 ∧ c ≠ 141 ∧ c ≠ 143 := by simp at hc; omega
                  rw [mfill_i' hne.2.1, hx c (fun z => hc (by simp at z ⊢; omega)), ckM_i hne.1 hne.2.1 hne.2.2]
                · funext j
                  by_cases hj : j < 3450
                  · rw [mfill_lt hj, hx 143 (by decide), ckM_143 hj]
                  · rw [mfill_ge (by omega), hv141, tckN_j (by omega) (by omega) (fun q hq => by omega) q, ckM_141, mfill_ge (by omega)]
                · rw [htq, if_neg (Classical.not_not.mpr h19), if_neg h26]
                  exact (if_pos ⟨h159, h152.symm.trans h159⟩).symm
          · 
            refine J_iload_n (pc := 122) dX8_check_122 rfl ?_
            refine J_iconst (pc := 123) dX8_check_123 kni_2 ?_
            refine J_iload_n (pc := 124) dX8_check_124 rfl ?_
            refine J_imulv (pc := 125) dX8_check_125 (pk_mul _ _) ?_
            refine Jn_ge (pc := 126) (tgt := 150) dX8_check_126 (by decide) (by omega) (by omega) (fun h126 => ?_) (fun h126 => ?_)
            · 
              refine J_iload_n (pc := 150) dX8_check_150 rfl ?_
              refine J_iload_n (pc := 151) dX8_check_151 rfl ?_
              refine Jn_ne (pc := 152) (tgt := 166) dX8_check_152 (by decide) (by omega) (by omega) (fun h152 => ?_) (fun h152 => ?_)
              · 
                refine J_iconst (pc := 166) dX8_check_166 kni_1 ?_
                refine J_iload_n (pc := 167) dX8_check_167 rfl ?_
                refine J_iaddv (pc := 168) dX8_check_168 (nI_add _ _) ?_
                refine K_iret (pc := 169) dX8_check_169 rfl ⟨_, rfl, ?_⟩
                refine ⟨?_, fun k h1 h2 => ?_, ?_, fun c hc => ?_, ?_, ?_⟩
                · rw [mfill_i (by decide), h140 35 (by decide), ckM_140, if_pos rfl]
                · rw [mfill_i (by decide), h140 k h1, ckM_140, if_neg h2]
                · rw [mfill_i (by decide)]; exact h33
                · have hne : c ≠ 140 ∧ c ≠ 141 ∧ c ≠ 143 := by simp at hc; omega
                  rw [mfill_i' hne.2.1, hx c (fun z => hc (by simp at z ⊢; omega)), ckM_i hne.1 hne.2.1 hne.2.2]
                · funext j
                  by_cases hj : j < 3450
                  · rw [mfill_lt hj, hx 143 (by decide), ckM_143 hj]
                  · rw [mfill_ge (by omega), hv141, tckN_j (by omega) (by omega) (fun q hq => by omega) q, ckM_141, mfill_ge (by omega)]
                · rw [htq, if_neg (Classical.not_not.mpr h19), if_neg h26]
                  exact (nI_add 1 _).symm.trans (if_neg (c := mch (rwK (ckM m) P T) (m 157) w (2 * q) = 2 * q ∧ w = 2 * q) (fun z => h152 (z.1.trans z.2.symm))).symm
              · 
                refine J_iload_n (pc := 155) dX8_check_155 rfl ?_
                refine J_iconst (pc := 156) dX8_check_156 kni_2 ?_
                refine J_iload_n (pc := 157) dX8_check_157 rfl ?_
                refine J_imulv (pc := 158) dX8_check_158 (pk_mul _ _) ?_
                refine Jn_ne (pc := 159) (tgt := 166) dX8_check_159 (by decide) (by omega) (by omega) (fun h159 => ?_) (fun h159 => ?_)
                · 
                  refine J_iconst (pc := 166) dX8_check_166 kni_1 ?_
                  refine J_iload_n (pc := 167) dX8_check_167 rfl ?_
                  refine J_iaddv (pc := 168) dX8_check_168 (nI_add _ _) ?_
                  refine K_iret (pc := 169) dX8_check_169 rfl ⟨_, rfl, ?_⟩
                  refine ⟨?_, fun k h1 h2 => ?_, ?_, fun c hc => ?_, ?_, ?_⟩
                  · rw [mfill_i (by decide), h140 35 (by decide), ckM_140, if_pos rfl]
                  · rw [mfill_i (by decide), h140 k h1, ckM_140, if_neg h2]
                  · rw [mfill_i (by decide)]; exact h33
                  · have hne : c ≠ 140 ∧ c ≠ 141 ∧ c ≠ 143 := by simp at hc; omega
                    rw [mfill_i' hne.2.1, hx c (fun z => hc (by simp at z ⊢; omega)), ckM_i hne.1 hne.2.1 hne.2.2]
                  · funext j
                    by_cases hj : j < 3450
                    · rw [mfill_lt hj, hx 143 (by decide), ckM_143 hj]
                    · rw [mfill_ge (by omega), hv141, tckN_j (by omega) (by omega) (fun q hq => by omega) q, ckM_141, mfill_ge (by omega)]
                  · rw [htq, if_neg (Classical.not_not.mpr h19), if_neg h26]
                    exact (nI_add 1 _).symm.trans (if_neg (c := mch (rwK (ckM m) P T) (m 157) w (2 * q) = 2 * q ∧ w = 2 * q) (fun z => h159 z.1)).symm
                · 
                  refine J_iconst (pc := 162) dX8_check_162 kni_0 ?_
                  refine J_goto (pc := 163) (tgt := 169) dX8_check_163 (by decide) ?_
                  refine K_iret (pc := 169) dX8_check_169 rfl ⟨_, rfl, ?_⟩
                  refine ⟨?_, fun k h1 h2 => ?_, ?_, fun c hc => ?_, ?_, ?_⟩
                  · rw [mfill_i (by decide), h140 35 (by decide), ckM_140, if_pos rfl]
                  · rw [mfill_i (by decide), h140 k h1, ckM_140, if_neg h2]
                  · rw [mfill_i (by decide)]; exact h33
                  · have hne : c ≠ 140 ∧ c ≠ 141 ∧ c ≠ 143 := by simp at hc; omega
                    rw [mfill_i' hne.2.1, hx c (fun z => hc (by simp at z ⊢; omega)), ckM_i hne.1 hne.2.1 hne.2.2]
                  · funext j
                    by_cases hj : j < 3450
                    · rw [mfill_lt hj, hx 143 (by decide), ckM_143 hj]
                    · rw [mfill_ge (by omega), hv141, tckN_j (by omega) (by omega) (fun q hq => by omega) q, ckM_141, mfill_ge (by omega)]
                  · rw [htq, if_neg (Classical.not_not.mpr h19), if_neg h26]
                    exact (if_pos ⟨h159, h152.symm.trans h159⟩).symm
            · 
              refine J_aload_n (pc := 129) dX8_check_129 rfl ?_
              refine K_getR (pc := 130) dX8_check_130 kf_X8_60 job_140 jrf_140_34 ?_
              refine J_iload_n (pc := 133) dX8_check_133 rfl ?_
              refine K_ialdn (pc := 134) (id := 157) dX8_check_134 jar_157 (by omega) (by decide) ?_
              refine J_top (b := (m 157 (mch (rwK (ckM m) P T) (m 157) w (2 * q)))) (hmw _) ?_
              refine J_aload_n (pc := 135) dX8_check_135 rfl ?_
              refine K_getR (pc := 136) dX8_check_136 kf_X8_63 job_140 jrf_140_36 ?_
              refine J_iload_n (pc := 139) dX8_check_139 rfl ?_
              refine K_ialdn (pc := 140) (id := 158) dX8_check_140 jar_158 (by omega) (by decide) ?_
              refine J_top (b := (rwK (ckM m) P T (mch (rwK (ckM m) P T) (m 157) w (2 * q)))) (hmr _ (by omega)) ?_
              refine J_icmp_ne (pc := 141) (tgt := 150) dX8_check_141 (by decide) (fun h141 => ?_) (fun h141 => absurd h141 (fun z => mch_end (r := rwK (ckM m) P T) (w := m 157) (many := w) (2 * q) (by omega) ⟨by omega, z⟩))
              refine J_iload_n (pc := 150) dX8_check_150 rfl ?_
              refine J_iload_n (pc := 151) dX8_check_151 rfl ?_
              refine Jn_ne (pc := 152) (tgt := 166) dX8_check_152 (by decide) (by omega) (by omega) (fun h152 => ?_) (fun h152 => ?_)
              · 
                refine J_iconst (pc := 166) dX8_check_166 kni_1 ?_
                refine J_iload_n (pc := 167) dX8_check_167 rfl ?_
                refine J_iaddv (pc := 168) dX8_check_168 (nI_add _ _) ?_
                refine K_iret (pc := 169) dX8_check_169 rfl ⟨_, rfl, ?_⟩
                refine ⟨?_, fun k h1 h2 => ?_, ?_, fun c hc => ?_, ?_, ?_⟩
                · rw [mfill_i (by decide), h140 35 (by decide), ckM_140, if_pos rfl]
                · rw [mfill_i (by decide), h140 k h1, ckM_140, if_neg h2]
                · rw [mfill_i (by decide)]; exact h33
                · have hne : c ≠ 140 ∧ c ≠ 141 ∧ c ≠ 143 := by simp at hc; omega
                  rw [mfill_i' hne.2.1, hx c (fun z => hc (by simp at z ⊢; omega)), ckM_i hne.1 hne.2.1 hne.2.2]
                · funext j
                  by_cases hj : j < 3450
                  · rw [mfill_lt hj, hx 143 (by decide), ckM_143 hj]
                  · rw [mfill_ge (by omega), hv141, tckN_j (by omega) (by omega) (fun q hq => by omega) q, ckM_141, mfill_ge (by omega)]
                · rw [htq, if_neg (Classical.not_not.mpr h19), if_neg h26]
                  exact (nI_add 1 _).symm.trans (if_neg (c := mch (rwK (ckM m) P T) (m 157) w (2 * q) = 2 * q ∧ w = 2 * q) (fun z => h152 (z.1.trans z.2.symm))).symm
              · 
                refine J_iload_n (pc := 155) dX8_check_155 rfl ?_
                refine J_iconst (pc := 156) dX8_check_156 kni_2 ?_
                refine J_iload_n (pc := 157) dX8_check_157 rfl ?_
                refine J_imulv (pc := 158) dX8_check_158 (pk_mul _ _) ?_
                refine Jn_ne (pc := 159) (tgt := 166) dX8_check_159 (by decide) (by omega) (by omega) (fun h159 => ?_) (fun h159 => ?_)
                · 
                  refine J_iconst (pc := 166) dX8_check_166 kni_1 ?_
                  refine J_iload_n (pc := 167) dX8_check_167 rfl ?_
                  refine J_iaddv (pc := 168) dX8_check_168 (nI_add _ _) ?_
                  refine K_iret (pc := 169) dX8_check_169 rfl ⟨_, rfl, ?_⟩
                  refine ⟨?_, fun k h1 h2 => ?_, ?_, fun c hc => ?_, ?_, ?_⟩
                  · rw [mfill_i (by decide), h140 35 (by decide), ckM_140, if_pos rfl]
                  · rw [mfill_i (by decide), h140 k h1, ckM_140, if_neg h2]
                  · rw [mfill_i (by decide)]; exact h33
                  · have hne : c ≠ 140 ∧ c ≠ 141 ∧ c ≠ 143 := by simp at hc; omega
                    rw [mfill_i' hne.2.1, hx c (fun z => hc (by simp at z ⊢; omega)), ckM_i hne.1 hne.2.1 hne.2.2]
                  · funext j
                    by_cases hj : j < 3450
                    · rw [mfill_lt hj, hx 143 (by decide), ckM_143 hj]
                    · rw [mfill_ge (by omega), hv141, tckN_j (by omega) (by omega) (fun q hq => by omega) q, ckM_141, mfill_ge (by omega)]
                  · rw [htq, if_neg (Classical.not_not.mpr h19), if_neg h26]
                    exact (nI_add 1 _).symm.trans (if_neg (c := mch (rwK (ckM m) P T) (m 157) w (2 * q) = 2 * q ∧ w = 2 * q) (fun z => h159 z.1)).symm
                · 
                  refine J_iconst (pc := 162) dX8_check_162 kni_0 ?_
                  refine J_goto (pc := 163) (tgt := 169) dX8_check_163 (by decide) ?_
                  refine K_iret (pc := 169) dX8_check_169 rfl ⟨_, rfl, ?_⟩
                  refine ⟨?_, fun k h1 h2 => ?_, ?_, fun c hc => ?_, ?_, ?_⟩
                  · rw [mfill_i (by decide), h140 35 (by decide), ckM_140, if_pos rfl]
                  · rw [mfill_i (by decide), h140 k h1, ckM_140, if_neg h2]
                  · rw [mfill_i (by decide)]; exact h33
                  · have hne : c ≠ 140 ∧ c ≠ 141 ∧ c ≠ 143 := by simp at hc; omega
                    rw [mfill_i' hne.2.1, hx c (fun z => hc (by simp at z ⊢; omega)), ckM_i hne.1 hne.2.1 hne.2.2]
                  · funext j
                    by_cases hj : j < 3450
                    · rw [mfill_lt hj, hx 143 (by decide), ckM_143 hj]
                    · rw [mfill_ge (by omega), hv141, tckN_j (by omega) (by omega) (fun q hq => by omega) q, ckM_141, mfill_ge (by omega)]
                  · rw [htq, if_neg (Classical.not_not.mpr h19), if_neg h26]
                    exact (if_pos ⟨h159, h152.symm.trans h159⟩).symm
    · 
      refine J_ldc (pc := 32) dX8_check_32 kc_X8_95 ?_
      refine K_iret (pc := 34) dX8_check_34 rfl ⟨_, rfl, ?_⟩
      refine ⟨mup_s, fun k h1 h2 => mup_j h2, Or.inr (mup_j (by decide)), fun i hi => mup_i' (fun z => hi (by rw [z]; decide)), mup_i' (by decide), ?_⟩
      exact ((if_neg (Classical.not_not.mpr h19)).trans (if_pos h29)).symm
  · 
    refine J_ldc (pc := 22) dX8_check_22 kc_X8_91 ?_
    refine K_iret (pc := 24) dX8_check_24 rfl ⟨_, rfl, ?_⟩
    refine ⟨mup_s, fun k h1 h2 => mup_j h2, Or.inr (mup_j (by decide)), fun i hi => mup_i' (fun z => hi (by rw [z]; decide)), mup_i' (by decide), ?_⟩
    exact (if_pos h19).symm
