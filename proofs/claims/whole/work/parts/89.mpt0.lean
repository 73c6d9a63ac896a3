theorem pow10 : (10 : Nat) ^ 4 = 10000 := rfl
theorem num_in {t : Nat → Int32} {s : Nat} : ∀ k, k ≤ 4 → (∀ j, j < k → dB (t (s + j)) = true) → ∃ q, q < 10 ^ k ∧ numV t s k = nI q
  | 0, _, _ => ⟨0, by decide, rfl⟩
  | k + 1, hk, h => by
    obtain ⟨q, h1, h2⟩ := num_in k (by omega) (fun j hj => h j (by omega))
    obtain ⟨d1, d2⟩ := dB_iff.mp (h k (by omega))
    rw [Int32.le_iff_toInt_le, nI_toInt (by decide)] at d1 d2
    have hp : 10 ^ k ≤ 10 ^ 3 := Nat.pow_le_pow_right (by decide) (by omega)
    have e10 : 10 ^ (k + 1) = 10 ^ k * 10 := Nat.pow_succ 10 k
    refine ⟨q * 10 + ((t (s + k)).toInt - 48).toNat, by omega, ?_⟩
    show numV t s k * nI 10 + t (s + k) - nI 48 = _
    rw [h2]
    apply Int32.toInt_inj.mp
    have hm : (nI q * nI 10).toInt = q * 10 := by
      rw [pk_mul, nI_toInt (by omega)]
      omega
    have ha : (nI q * nI 10 + t (s + k)).toInt = q * 10 + (t (s + k)).toInt := by
      rw [Int32.toInt_add, hm]
      exact Int.bmod_eq_of_le (by omega) (by omega)
    rw [Int32.toInt_sub, ha, nI_toInt (by decide), Int.bmod_eq_of_le (by omega) (by omega), nI_toInt (by omega)]
    omega
theorem num_0 {t : Nat → Int32} {n s e : Nat} (h : kdT t n s e = 2) (he : e = ndp t n s) : 0 ≤ numV t s (e - s) := by
  obtain ⟨h1, h2, h3, h4, h5⟩ := kd_2.mp h
  have e1 : ndp t n s = run (fun j => dB (t j)) (s + 1) (n - (s + 1)) := by unfold ndp; rw [if_pos h1, if_neg h2, if_pos h3]
  obtain ⟨q, q1, q2⟩ := num_in (t := t) (s := s) (e - s) h5 (fun j hj => by
    by_cases z : j = 0
    · subst z; exact h3
    · exact run_in (fun j => dB (t j)) (n - (s + 1)) (s + 1) (s + j) (by omega) (by rw [← e1]; omega))
  have hp : 10 ^ (e - s) ≤ 10 ^ 4 := Nat.pow_le_pow_right (by decide) h5
  rw [q2, Int32.le_iff_toInt_le, nI_toInt (by omega), show (0 : Int32).toInt = 0 from rfl]
  omega
theorem pce_num {t : Nat → Int32} {n nm s e w : Nat} {S C : List Int32} (h : kdT t n s e = 2) : tkS t n nm s e (S, C, w, true) = some ((enp S (numV t s (e - s) :: C)).1, (enp S (numV t s (e - s) :: C)).2, w + 1, false) := by
  obtain ⟨h1, h2, h3, h4, h5⟩ := kd_2.mp h
  unfold tkS
  rw [if_neg h4, if_pos rfl]
  unfold pceS
  rw [if_pos h3, if_pos h5]
theorem pce_name {t : Nat → Int32} {n nm s e w : Nat} {key : Int32} {S C : List Int32} (hnm : nmOK key nm) (h : kdT t n s e = 1) (h1 : e - s = 1) (h2 : isNm key (t s)) : tkS t n nm s e (S, C, w, true) = some ((enp S (nmc (t s) :: C)).1, (enp S (nmc (t s) :: C)).2, w + 1, false) := by
  obtain ⟨g1, g2, g3⟩ := kd_1.mp h
  have hx := nm_ix (v := t s) hnm
  unfold tkS
  rw [if_neg g3, if_pos rfl]
  unfold pceS
  rw [if_neg (lB_dB g2), if_pos g2, if_pos ⟨h1, hx.1.mpr h2⟩, hx.2 h2]
theorem pce_opn {t : Nat → Int32} {n nm s e w : Nat} {S C : List Int32} {c : Int32} (hs : s < n ∧ t s = c) (hc : c = nI 33 ∨ c = nI 40) (h1 : (c :: S).count (nI 33) ≤ 8) (h2 : (c :: S).count (nI 40) ≤ 8) : tkS t n nm s e (S, C, w, true) = some (c :: S, C, w, true) := by
  have hw : ¬ lB c = true ∧ ¬ dB c = true := by
    rcases hc with rfl | rfl <;> exact ⟨fun q => absurd (lB_iff.mp q) (by unfold lt8; decide), fun q => absurd (dB_iff.mp q) (by unfold dg8; decide)⟩
  unfold tkS
  rw [if_neg (gl_no (by rw [hs.2]; exact fun q => (wB_iff.mp q).elim hw.1 hw.2)), if_pos rfl, ]
  unfold pceS
  rw [hs.2, if_neg hw.2, if_neg hw.1, if_pos hc]
  exact if_pos ⟨h1, h2⟩
theorem pce_none {t : Nat → Int32} {n nm s e w : Nat} {key : Int32} {S C : List Int32} (hnm : nmOK key nm) (hs : s < n) (h2 : ¬ kdT t n s e = 2) (h1 : ¬ (kdT t n s e = 1 ∧ e - s = 1 ∧ isNm key (t s))) (h3 : ¬ (t s = nI 33 ∧ S.count (nI 33) < 8)) (h4 : ¬ (t s = nI 40 ∧ S.count (nI 40) < 8)) : tkS t n nm s e (S, C, w, true) = none := by
  unfold tkS
  by_cases g : glP t n s
  · rw [if_pos g]
  · rw [if_neg g, if_pos rfl]
    unfold pceS
    by_cases a : dB (t s) = true
    · rw [if_pos a, if_neg (fun z => h2 (kd_2.mpr ⟨hs, fun q => lB_dB q a, a, g, z⟩))]
    · rw [if_neg a]
      by_cases b : lB (t s) = true
      · rw [if_pos b, if_neg (fun z => h1 ⟨kd_1.mpr ⟨hs, b, g⟩, z.1, (nm_ix hnm).1.mp z.2⟩)]
      · rw [if_neg b]
        by_cases c : t s = nI 33 ∨ t s = nI 40
        · rw [if_pos c]
          unfold opn
          rw [if_neg]
          intro z
          rcases c with c | c
          · have : (t s :: S).count (nI 33) ≤ 8 := z.1
            rw [c, List.count_cons_self] at this
            exact h3 ⟨c, by omega⟩
          · have : (t s :: S).count (nI 40) ≤ 8 := z.2
            rw [c, List.count_cons_self] at this
            exact h4 ⟨c, by omega⟩
        · rw [if_neg c]
theorem fp_no {t : Nat → Int32} {n nm s e w A : Nat} {g key : Int32} {S C : List Int32} {m : jm} (hR : RS key A t n s e S C w m) (h : s < n → tkS t n nm s e (S, C, w, true) = none) : fPt t n nm g A s e (S, C, w, true) m m := by
  by_cases hs : s < n
  · exact ⟨s, vd_no hs (h hs), hR.1.2.2.1, pFr_rf A m⟩
  · have e1 : s = n := by have := hR.1.1; omega
    exact ⟨n, (vd_end hs).trans (if_pos (Or.inl rfl)), by rw [← e1]; exact hR.1.2.2.1, pFr_rf A m⟩
/-- a piece laid: on to the next word -/
theorem RS_pc {key : Int32} {A : Nat} {t : Nat → Int32} {n s e w : Nat} {S C : List Int32} {m m' : jm} {a b : Int32} (h96 : n ≤ 96) (h : RS key A t n s e S C w m) (hs : s < n) (hk : okS key a b) (hx : nxP t n (skp t n e) (ndp t n (skp t n e)) (mup (stpM m A C.length a b) 140 21 (nI (w + 1))) m') : RS key A t n (skp t n e) (ndp t n (skp t n e)) S (cdW a b :: C) (w + 1) m' ∧ pFr A m m' := by
  obtain ⟨a1, a2, a3, a4, a5, a6, a7, a8, a9⟩ := h
  have hl := (ndp_le (t := t) (n := n) (s := s) (by omega))
  have he : e ≤ n := by rw [a1.2.1]; exact hl.1
  have hse : s < e := by rw [a1.2.1]; exact hl.2 hs
  have hk2 := (skp_le (t := t) (n := n) (e := e) he)
  have e140 : ∀ j, j ≠ 19 → stpM m A C.length a b 140 j = m 140 j := fun j hj => (mup_j hj).trans ((mup_i (by decide)).trans (mup_i (by decide)))
  have e150 : stpM m A C.length a b 150 = m 150 := (mup_i' (by decide)).trans ((mup_i' (by decide)).trans (mup_i' (by decide)))
  have ho := stO_push (w := a) (v := b) a2 hk
  have c140 : ∀ j, j < 12 ∨ 16 < j → j ≠ 19 → j ≠ 21 → m' 140 j = m 140 j := fun j h1 h2 h3 => (hx.2.1 j h1).trans ((mup_j h3).trans (e140 j h2))
  refine ⟨⟨nx_tk he hx, stO_c ho ((hx.1 141 (by decide)).trans (mup_i' (by decide))) ((hx.2.1 19 (by omega)).trans (mup_j (by decide))), by rw [c140 17 (by omega) (by decide) (by decide)]; exact a3, by rw [c140 18 (by omega) (by decide) (by decide)]; exact a4, by rw [c140 20 (by omega) (by decide) (by decide)]; exact a5, by rw [hx.2.1 21 (by omega)]; exact mup_s, by rw [c140 11 (by omega) (by decide) (by decide)]; exact a7, fun j hj => by rw [hx.1 150 (by decide), mup_i' (by decide), e150]; exact a8 j hj, by rw [List.length_cons]; omega⟩, ?_⟩
  exact pFr_nx (pFr_140 (pFr_st (pFr_rf A m) (by omega)) (by omega)) hx
/-- a sign opened that is counted -/
theorem RS_op {key : Int32} {A : Nat} {t : Nat → Int32} {n s e w k : Nat} {S C : List Int32} {m m' : jm} {c : Int32} (h : RS key A t n s e S C w m) (hs : s < n) (hc : (c = nI 33 ∧ k = 18) ∨ (c = nI 40 ∧ k = 17)) (hx : nxP t n (skp t n e) (ndp t n (skp t n e)) (mup m 140 k (nI (S.count c + 1))) m') : RS key A t n (skp t n e) (ndp t n (skp t n e)) (c :: S) C w m' ∧ pFr A m m' := by
  obtain ⟨a1, a2, a3, a4, a5, a6, a7, a8, a9⟩ := h
  have hl := (ndp_le (t := t) (n := n) (s := s) (by omega))
  have he : e ≤ n := by rw [a1.2.1]; exact hl.1
  have hse : s < e := by rw [a1.2.1]; exact hl.2 hs
  have hk2 := (skp_le (t := t) (n := n) (e := e) he)
  have c140 : ∀ j, j < 12 ∨ 16 < j → j ≠ k → m' 140 j = m 140 j := fun j h1 h2 => (hx.2.1 j h1).trans (mup_j h2)
  have e17 : m' 140 17 = nI ((c :: S).count (nI 40)) := by
    rcases hc with ⟨rfl, rfl⟩ | ⟨rfl, rfl⟩
    · rw [c140 17 (by omega) (by decide), cnt_sg (by decide)]; exact a3
    · rw [hx.2.1 17 (by omega), List.count_cons_self]; exact mup_s
  have e18 : m' 140 18 = nI ((c :: S).count (nI 33)) := by
    rcases hc with ⟨rfl, rfl⟩ | ⟨rfl, rfl⟩
    · rw [hx.2.1 18 (by omega), List.count_cons_self]; exact mup_s
    · rw [c140 18 (by omega) (by decide), cnt_sg (by decide)]; exact a4
  exact ⟨⟨nx_tk he hx, stO_c a2 ((hx.1 141 (by decide)).trans (mup_i' (by decide))) (c140 19 (by omega) (by omega)), e17, e18, by rw [c140 20 (by omega) (by omega)]; exact a5, by rw [c140 21 (by omega) (by omega)]; exact a6, by rw [c140 11 (by omega) (by omega)]; exact a7, fun j hj => by rw [hx.1 150 (by decide), mup_i' (by decide)]; exact a8 j hj, by rw [List.length_cons]; omega⟩, pFr_nx (pFr_140 (pFr_rf A m) (by omega)) hx⟩
/-- a ! closed -/
theorem RS_nt {key : Int32} {A : Nat} {t : Nat → Int32} {n s e w : Nat} {S C : List Int32} {m : jm} (h : RS key A t n s e (nI 33 :: S) C w m) : RS key A t n s e S (-33 :: C) w (stpM (mup m 140 18 (nI (S.count (nI 33)))) A C.length (nI 2) (nI 33)) := by
  obtain ⟨a1, a2, a3, a4, a5, a6, a7, a8, a9⟩ := h
  rw [List.length_cons] at a9
  have hp := stO_push (m := mup m 140 18 (nI (S.count (nI 33)))) (w := nI 2) (v := nI 33) (stO_c (m' := mup m 140 18 (nI (S.count (nI 33)))) a2 (mup_i' (by decide)) (mup_j (by decide))) (Or.inr (Or.inr ⟨rfl, Or.inl rfl⟩))
  have e140 : ∀ j, j ≠ 19 → stpM (mup m 140 18 (nI (S.count (nI 33)))) A C.length (nI 2) (nI 33) 140 j = mup m 140 18 (nI (S.count (nI 33))) 140 j := fun j hj => (mup_j hj).trans ((mup_i (by decide)).trans (mup_i (by decide)))
  have e150 : stpM (mup m 140 18 (nI (S.count (nI 33)))) A C.length (nI 2) (nI 33) 150 = m 150 := (mup_i' (by decide)).trans ((mup_i' (by decide)).trans ((mup_i' (by decide)).trans (mup_i' (by decide))))
  exact ⟨tkP_c a1 (fun j _ _ => (e140 j (by omega)).trans (mup_j (by omega))), hp, by rw [e140 _ (by decide), mup_j (by decide), a3, cnt_sg (by decide)], by rw [e140 _ (by decide)]; exact mup_s, by rw [e140 _ (by decide), mup_j (by decide)]; exact a5, by rw [e140 _ (by decide), mup_j (by decide)]; exact a6, by rw [e140 _ (by decide), mup_j (by decide)]; exact a7, fun j hj => by rw [e150]; exact a8 j hj, by rw [List.length_cons]; omega⟩
/-- a ( closed -/
theorem RS_cl {key : Int32} {A : Nat} {t : Nat → Int32} {n s e w : Nat} {S C : List Int32} {m m' : jm} (h : RS key A t n s e (nI 40 :: S) C w m) (hs : s < n) (hx : nxP t n (skp t n e) (ndp t n (skp t n e)) (mup m 140 17 (nI (S.count (nI 40)))) m') : RS key A t n (skp t n e) (ndp t n (skp t n e)) S C w m' ∧ pFr A m m' := by
  obtain ⟨a1, a2, a3, a4, a5, a6, a7, a8, a9⟩ := h
  rw [List.length_cons] at a9
  have hl := (ndp_le (t := t) (n := n) (s := s) (by omega))
  have he : e ≤ n := by rw [a1.2.1]; exact hl.1
  have hse : s < e := by rw [a1.2.1]; exact hl.2 hs
  have hk2 := (skp_le (t := t) (n := n) (e := e) he)
  have c140 : ∀ j, j < 12 ∨ 16 < j → j ≠ 17 → m' 140 j = m 140 j := fun j h1 h2 => (hx.2.1 j h1).trans (mup_j h2)
  exact ⟨⟨nx_tk he hx, stO_c a2 ((hx.1 141 (by decide)).trans (mup_i' (by decide))) (c140 19 (by omega) (by decide)), by rw [hx.2.1 17 (by omega)]; exact mup_s, by rw [c140 18 (by omega) (by decide), a4, cnt_sg (by decide)], by rw [c140 20 (by omega) (by decide)]; exact a5, by rw [c140 21 (by omega) (by decide)]; exact a6, by rw [c140 11 (by omega) (by decide)]; exact a7, fun j hj => by rw [hx.1 150 (by decide), mup_i' (by decide)]; exact a8 j hj, by omega⟩, pFr_nx (pFr_140 (pFr_rf A m) (by omega)) hx⟩
theorem lnk_par {t : Nat → Int32} {n nm s e w : Nat} {O C S D : List Int32} (hs : s < n ∧ t s = nI 41) (h : clo 1 O C = (nI 40 :: S, D)) : tkS t n nm s e (O, C, w, false) = some ((enp S D).1, (enp S D).2, w, false) := by
  unfold tkS
  rw [if_neg (gl_no (by rw [hs.2]; exact (sg_wB (c := nI 41) (by decide)).1)), if_neg Bool.false_ne_true, hs.2]
  unfold lnkS
  have hc := clo_cnt (l := 1) (Nat.le_refl 1) (v := nI 40) (by decide) O C
  rw [h, List.count_cons_self] at hc
  rw [if_pos rfl, if_neg (show ¬ O.count (nI 40) = 0 by omega)]
  show some ((enp (clo 1 O C).1.tail (clo 1 O C).2).1, (enp (clo 1 O C).1.tail (clo 1 O C).2).2, w, false) = _
  rw [h]
  rfl
theorem par_no {t : Nat → Int32} {n nm s e w : Nat} {g : Int32} {O C S D : List Int32} (hsn : s ≤ n) (hs : ¬ (s < n ∧ t s = nI 41)) (h : clo 1 O C = (nI 40 :: S, D)) (hno : s < n → 1 ≤ lvl (t s) → tkS t n nm s e (O, C, w, false) = none) : vd t n nm g s e (O, C, w, false) = (nI s, [], 0, 0) := by
  by_cases a : s < n
  · refine vd_no a ?_
    rcases Nat.eq_zero_or_pos (lvl (t s)) with y | y
    · exact tk_lv0 y (fun z => hs ⟨a, z⟩)
    · exact hno a y
  · have hc := clo_cnt (l := 1) (Nat.le_refl 1) (v := nI 40) (by decide) O C
    rw [h, List.count_cons_self] at hc
    rw [vd_end a, if_pos (Or.inr (by show 0 < O.count (nI 40); omega)), show s = n by omega]
set_option maxRecDepth 100000 in
set_option maxHeartbeats 400000 in
theorem m_part0 {x : jX} {m : jm} {d : Nat} {key : Int32} {A : Nat} {t : Nat → Int32} {n nm N : Nat} {g : Int32} (h96 : n ≤ 96) (hA : A + 196 ≤ 3450) (hnm : nmOK key nm) (HP : 0 < N → PtC x key A t n nm g (d + 3) (N - 1)) (HE : 0 < N → LvC x key A t n nm g 1 eX8_either (d + 3) (N - 1)) (s e : Nat) (S C : List Int32) (w : Nat) (hR : RS key A t n s e S C w m) (hN : S.count (nI 40) ≤ 8 ∧ S.count (nI 33) ≤ 8 ∧ (8 - S.count (nI 40)) + (8 - S.count (nI 33)) ≤ N) : Ct x (d + 4) eX8_part0 [.ref (jxb x + 140), .int key] m (ji fun v m' => rsV (fPt t n nm g A s e (S, C, w, true) m) (yPt key t n nm g A s e S C w m) m' v) := by
  refine J_start (by decide +kernel) (Nat.le_of_ble_eq_true rfl) (ls := [some (.ref (jxb x + 140)), some (.int key)]) rfl rfl ?_
  have hlen := hR.2.2.2.2.2.2.2.2
  have hsn := hR.1.1
  obtain ⟨kd, hkd⟩ : ∃ k, k = kdT t n s e := ⟨_, rfl⟩
  have hk4 : kd ≤ 4 := by rw [hkd]; exact kdT_4 t n s e
  have htok : m 140 14 = nI kd := by rw [hkd]; exact hR.1.2.2.2.2.1
  refine J_aload_n (pc := 0) dX8_part0_0 rfl ?_
  refine K_getI (pc := 1) dX8_part0_1 kf_X8_193 job_140 jrf_140_14 ?_
  refine J_top (b := nI kd) (htok) ?_
  refine J_iconst (pc := 4) dX8_part0_4 kni_2 ?_
  refine Jn_ne (pc := 5) (tgt := 33) dX8_part0_5 (by decide) (by omega) (by omega) (fun h5 => ?_) (fun h5 => ?_)
  · 
    refine J_aload_n (pc := 33) dX8_part0_33 rfl ?_
    refine K_getI (pc := 34) dX8_part0_34 kf_X8_193 job_140 jrf_140_14 ?_
    refine J_top (b := nI kd) (htok) ?_
    refine J_iconst (pc := 37) dX8_part0_37 kni_1 ?_
    refine Jn_ne (pc := 38) (tgt := 84) dX8_part0_38 (by decide) (by omega) (by omega) (fun h38 => ?_) (fun h38 => ?_)
    · 
      refine J_aload_n (pc := 84) dX8_part0_84 rfl ?_
      refine J_bipush (pc := 85) dX8_part0_85 knb_33 ?_
      refine K_callVp (pc := 87) (id := 140) (As := [_]) dX8_part0_87 kl_X8_227 rfl job_140 rfl rfl (Nat.le_of_ble_eq_true rfl) (m_isSign2 (t := t) (k := 33) hR.1 (by decide) (sg_wB (c := nI 33) (by decide)).1) ?_
      refine Jb_eq (pc := 90) (tgt := 145) dX8_part0_90 (by decide) (fun h90 => ?_) (fun h90 => ?_)
      · 
        refine J_aload_n (pc := 145) dX8_part0_145 rfl ?_
        refine J_bipush (pc := 146) dX8_part0_146 knb_40 ?_
        refine K_callVp (pc := 148) (id := 140) (As := [_]) dX8_part0_148 kl_X8_227 rfl job_140 rfl rfl (Nat.le_of_ble_eq_true rfl) (m_isSign2 (t := t) (k := 40) hR.1 (by decide) (sg_wB (c := nI 40) (by decide)).1) ?_
        refine Jb_eq (pc := 151) (tgt := 163) dX8_part0_151 (by decide) (fun h151 => ?_) (fun h151 => ?_)
        · 
          refine J_iconst (pc := 163) dX8_part0_163 kni_0 ?_
          refine K_zret (pc := 164) dX8_part0_164 rfl rfl ⟨_, rfl, ?_⟩
          exact rsV_no (fp_no hR (fun hs => pce_none hnm hs (fun z => h5 (hkd.trans z)) (fun z => h38 (hkd.trans z.1)) (fun z => h90 ⟨hs, z.1⟩) (fun z => h151 ⟨hs, z.1⟩)))
        · 
          refine J_aload_n (pc := 154) dX8_part0_154 rfl ?_
          refine K_getI (pc := 155) dX8_part0_155 kf_X8_256 job_140 jrf_140_17 ?_
          refine J_top (b := nI (S.count (nI 40))) (hR.2.2.1) ?_
          refine J_bipush (pc := 158) dX8_part0_158 knb_8 ?_
          refine Jn_ne (pc := 160) (tgt := 165) dX8_part0_160 (by decide) (by omega) (by decide) (fun h160 => ?_) (fun h160 => ?_)
          · 
            refine J_aload_n (pc := 165) dX8_part0_165 rfl ?_
            refine J_dup (pc := 166) dX8_part0_166 rfl ?_
            refine K_getI (pc := 167) dX8_part0_167 kf_X8_256 job_140 jrf_140_17 ?_
            refine J_top (b := nI (S.count (nI 40))) (hR.2.2.1) ?_
            refine J_iconst (pc := 170) dX8_part0_170 kni_1 ?_
            refine J_iaddv (pc := 171) dX8_part0_171 (nI_add _ _) ?_
            refine K_put (pc := 172) dX8_part0_172 kp_X8_256 job_140 jrf_140_17 rfl rfl ?_
            refine J_aload_n (pc := 175) dX8_part0_175 rfl ?_
            refine K_callVv (pc := 176) (id := 140) (As := []) dX8_part0_176 kl_X8_215 rfl job_140 rfl rfl (Nat.le_of_ble_eq_true rfl) (m_next2 (m := mup m 140 17 (nI (S.count (nI 40) + 1))) (t := t) (n := n) (s := s) (e := e) ((mup_j (by decide)).trans hR.2.2.2.2.2.2.1) h96 (tkP_c hR.1 (fun j _ _ => mup_j (by omega))) h151.1 (by rw [kd_sg (e := e) h151.1 (by rw [h151.2]; exact (sg_wB (c := nI 40) (by decide)).2.1) (by rw [h151.2]; exact (sg_wB (c := nI 40) (by decide)).2.2.1)]; decide) (fun j hj => by rw [mup_i' (by decide)]; exact hR.2.2.2.2.2.2.2.1 j hj)) (fun m176 hx => ?_)
            obtain ⟨hR2, hf2⟩ := RS_op hR h151.1 (Or.inr ⟨rfl, rfl⟩) hx
            have htk : tkS t n nm s e (S, C, w, true) = some (nI 40 :: S, C, w, true) := pce_opn h151 (Or.inr rfl) (by rw [cnt_sg (by decide)]; exact hN.2.1) (by rw [List.count_cons_self]; omega)
            have hv2 := vd_go (g := g) hR.1.2.1 h151.1 htk
            refine J_aload_n (pc := 179) dX8_part0_179 rfl ?_
            refine J_iload_n (pc := 180) dX8_part0_180 rfl ?_
            refine K_callVi (pc := 181) (id := 140) (As := [_]) dX8_part0_181 kl_X8_259 rfl job_140 rfl rfl (Nat.le_of_ble_eq_true rfl) (HE (by omega) m176 _ _ _ _ _ hR2 (fun u hu => by cases hu; decide) ⟨by rw [List.count_cons_self]; omega, by rw [cnt_sg (by decide)]; exact hN.2.1, by rw [List.count_cons_self, cnt_sg (c := nI 40) (d := nI 33) (by decide)]; omega⟩) (fun v181 m181 h181 => ?_)
            obtain ⟨c181, rfl, f181, y181⟩ := h181
            refine Jp_eq (pc := 184) (tgt := 196) dX8_part0_184 (by decide) (fun h184 => ?_) (fun h184 => ?_)
            · 
              refine J_iconst (pc := 196) dX8_part0_196 kni_0 ?_
              refine K_zret (pc := 197) dX8_part0_197 rfl rfl ⟨_, rfl, ?_⟩
              obtain ⟨p, q1, q2, q3⟩ := f181 h184
              exact rsV_no ⟨p, hv2.trans q1, q2, pFr_tr hf2 q3⟩
            · 
              obtain ⟨s3, e3, O3, C3, D3, w3, r0, r1, r2, r3, r4, r5⟩ := y181 h184
              refine J_aload_n (pc := 187) dX8_part0_187 rfl ?_
              refine J_bipush (pc := 188) dX8_part0_188 knb_41 ?_
              refine K_callVp (pc := 190) (id := 140) (As := [_]) dX8_part0_190 kl_X8_227 rfl job_140 rfl rfl (Nat.le_of_ble_eq_true rfl) (m_isSign2 (t := t) (k := 41) r1.1 (by decide) (sg_wB (c := nI 41) (by decide)).1) ?_
              refine Jb_ne (pc := 193) (tgt := 198) dX8_part0_193 (by decide) (fun h193 => ?_) (fun h193 => ?_)
              · 
                have e17 : m181 140 17 = nI (S.count (nI 40) + 1) := by rw [r1.2.2.1, List.count_cons_self]
                have hl := (ndp_le (t := t) (n := n) (s := s) hsn)
                have hl2 := skp_le (t := t) (n := n) (e := e) (by rw [hR.1.2.1]; exact hl.1)
                have hl3 := hl.2 h151.1
                rw [← hR.1.2.1] at hl3
                have ha1 := (ndp_le (t := t) (n := n) (s := s3) r1.1.1)
                have ha2 := skp_le (t := t) (n := n) (e := e3) (by rw [r1.1.2.1]; exact ha1.1)
                have ha3 := ha1.2 h193.1
                rw [← r1.1.2.1] at ha3
                refine J_aload_n (pc := 198) dX8_part0_198 rfl ?_
                refine J_dup (pc := 199) dX8_part0_199 rfl ?_
                refine K_getI (pc := 200) dX8_part0_200 kf_X8_256 job_140 jrf_140_17 ?_
                refine J_top (b := nI (S.count (nI 40) + 1)) (e17) ?_
                refine J_iconst (pc := 203) dX8_part0_203 kni_1 ?_
                refine J_isubv (pc := 204) dX8_part0_204 (pk_sub (by omega)) ?_
                refine J_top (b := nI (S.count (nI 40))) (rfl) ?_
                refine K_put (pc := 205) dX8_part0_205 kp_X8_256 job_140 jrf_140_17 rfl rfl ?_
                refine J_aload_n (pc := 208) dX8_part0_208 rfl ?_
                refine K_callVv (pc := 209) (id := 140) (As := []) dX8_part0_209 kl_X8_215 rfl job_140 rfl rfl (Nat.le_of_ble_eq_true rfl) (m_next2 (m := mup m181 140 17 (nI (S.count (nI 40)))) (t := t) (n := n) (s := s3) (e := e3) ((mup_j (by decide)).trans r1.2.2.2.2.2.2.1) h96 (tkP_c r1.1 (fun j _ _ => mup_j (by omega))) h193.1 (by rw [kd_sg (e := e3) h193.1 (by rw [h193.2]; exact (sg_wB (c := nI 41) (by decide)).2.1) (by rw [h193.2]; exact (sg_wB (c := nI 41) (by decide)).2.2.1)]; decide) (fun j hj => by rw [mup_i' (by decide)]; exact r1.2.2.2.2.2.2.2.1 j hj)) (fun m209 hx3 => ?_)
                refine J_iconst (pc := 212) dX8_part0_212 kni_1 ?_
                refine K_zret (pc := 213) dX8_part0_213 rfl rfl ⟨_, rfl, ?_⟩
                obtain ⟨k1, k2⟩ := RS_cl r1 h193.1 hx3
                exact rsV_ok ⟨_, _, _, _, by omega, k1, (hv2.trans r2).trans (vd_go r1.1.2.1 h193.1 (lnk_par h193 r3)), pFr_tr (pFr_tr hf2 r4) k2⟩
              · 
                refine J_iconst (pc := 196) dX8_part0_196 kni_0 ?_
                refine K_zret (pc := 197) dX8_part0_197 rfl rfl ⟨_, rfl, ?_⟩
                exact rsV_no ⟨s3, (hv2.trans r2).trans (par_no r1.1.1 h193 r3 r5), r1.1.2.2.1, pFr_tr hf2 r4⟩
          · 
            refine J_iconst (pc := 163) dX8_part0_163 kni_0 ?_
            refine K_zret (pc := 164) dX8_part0_164 rfl rfl ⟨_, rfl, ?_⟩
            exact rsV_no (fp_no hR (fun hs => pce_none hnm hs (fun z => h5 (hkd.trans z)) (fun z => h38 (hkd.trans z.1)) (fun z => h90 ⟨hs, z.1⟩) (fun z => by omega)))
      · 
        refine J_aload_n (pc := 93) dX8_part0_93 rfl ?_
        refine K_getI (pc := 94) dX8_part0_94 kf_X8_253 job_140 jrf_140_18 ?_
        refine J_top (b := nI (S.count (nI 33))) (hR.2.2.2.1) ?_
        refine J_bipush (pc := 97) dX8_part0_97 knb_8 ?_
        refine Jn_ge (pc := 99) (tgt := 145) dX8_part0_99 (by decide) (by omega) (by decide) (fun h99 => ?_) (fun h99 => ?_)
        · 
          refine J_aload_n (pc := 145) dX8_part0_145 rfl ?_
          refine J_bipush (pc := 146) dX8_part0_146 knb_40 ?_
          refine K_callVp (pc := 148) (id := 140) (As := [_]) dX8_part0_148 kl_X8_227 rfl job_140 rfl rfl (Nat.le_of_ble_eq_true rfl) (m_isSign2 (t := t) (k := 40) hR.1 (by decide) (sg_wB (c := nI 40) (by decide)).1) ?_
          refine Jb_eq (pc := 151) (tgt := 163) dX8_part0_151 (by decide) (fun h151 => ?_) (fun h151 => ?_)
          · 
            refine J_iconst (pc := 163) dX8_part0_163 kni_0 ?_
            refine K_zret (pc := 164) dX8_part0_164 rfl rfl ⟨_, rfl, ?_⟩
            exact rsV_no (fp_no hR (fun hs => pce_none hnm hs (fun z => h5 (hkd.trans z)) (fun z => h38 (hkd.trans z.1)) (fun z => by omega) (fun z => h151 ⟨hs, z.1⟩)))
          · 
            refine J_aload_n (pc := 154) dX8_part0_154 rfl ?_
            refine K_getI (pc := 155) dX8_part0_155 kf_X8_256 job_140 jrf_140_17 ?_
            refine J_top (b := nI (S.count (nI 40))) (hR.2.2.1) ?_
            refine J_bipush (pc := 158) dX8_part0_158 knb_8 ?_
            refine Jn_ne (pc := 160) (tgt := 165) dX8_part0_160 (by decide) (by omega) (by decide) (fun h160 => ?_) (fun h160 => ?_)
            · 
              refine J_aload_n (pc := 165) dX8_part0_165 rfl ?_
              refine J_dup (pc := 166) dX8_part0_166 rfl ?_
              refine K_getI (pc := 167) dX8_part0_167 kf_X8_256 job_140 jrf_140_17 ?_
              refine J_top (b := nI (S.count (nI 40))) (hR.2.2.1) ?_
              refine J_iconst (pc := 170) dX8_part0_170 kni_1 ?_
              refine J_iaddv (pc := 171) dX8_part0_171 (nI_add _ _) ?_
              refine K_put (pc := 172) dX8_part0_172 kp_X8_256 job_140 jrf_140_17 rfl rfl ?_
              refine J_aload_n (pc := 175) dX8_part0_175 rfl ?_
              refine K_callVv (pc := 176) (id := 140) (As := []) dX8_part0_176 kl_X8_215 rfl job_140 rfl rfl (Nat.le_of_ble_eq_true rfl) (m_next2 (m := mup m 140 17 (nI (S.count (nI 40) + 1))) (t := t) (n := n) (s := s) (e := e) ((mup_j (by decide)).trans hR.2.2.2.2.2.2.1) h96 (tkP_c hR.1 (fun j _ _ => mup_j (by omega))) h151.1 (by rw [kd_sg (e := e) h151.1 (by rw [h151.2]; exact (sg_wB (c := nI 40) (by decide)).2.1) (by rw [h151.2]; exact (sg_wB (c := nI 40) (by decide)).2.2.1)]; decide) (fun j hj => by rw [mup_i' (by decide)]; exact hR.2.2.2.2.2.2.2.1 j hj)) (fun m176 hx => ?_)
              obtain ⟨hR2, hf2⟩ := RS_op hR h151.1 (Or.inr ⟨rfl, rfl⟩) hx
              have htk : tkS t n nm s e (S, C, w, true) = some (nI 40 :: S, C, w, true) := pce_opn h151 (Or.inr rfl) (by rw [cnt_sg (by decide)]; exact hN.2.1) (by rw [List.count_cons_self]; omega)
              have hv2 := vd_go (g := g) hR.1.2.1 h151.1 htk
              refine J_aload_n (pc := 179) dX8_part0_179 rfl ?_
              refine J_iload_n (pc := 180) dX8_part0_180 rfl ?_
              refine K_callVi (pc := 181) (id := 140) (As := [_]) dX8_part0_181 kl_X8_259 rfl job_140 rfl rfl (Nat.le_of_ble_eq_true rfl) (HE (by omega) m176 _ _ _ _ _ hR2 (fun u hu => by cases hu; decide) ⟨by rw [List.count_cons_self]; omega, by rw [cnt_sg (by decide)]; exact hN.2.1, by rw [List.count_cons_self, cnt_sg (c := nI 40) (d := nI 33) (by decide)]; omega⟩) (fun v181 m181 h181 => ?_)
              obtain ⟨c181, rfl, f181, y181⟩ := h181
              refine Jp_eq (pc := 184) (tgt := 196) dX8_part0_184 (by decide) (fun h184 => ?_) (fun h184 => ?_)
              · 
                refine J_iconst (pc := 196) dX8_part0_196 kni_0 ?_
                refine K_zret (pc := 197) dX8_part0_197 rfl rfl ⟨_, rfl, ?_⟩
                obtain ⟨p, q1, q2, q3⟩ := f181 h184
                exact rsV_no ⟨p, hv2.trans q1, q2, pFr_tr hf2 q3⟩
              · 
                obtain ⟨s3, e3, O3, C3, D3, w3, r0, r1, r2, r3, r4, r5⟩ := y181 h184
                refine J_aload_n (pc := 187) dX8_part0_187 rfl ?_
                refine J_bipush (pc := 188) dX8_part0_188 knb_41 ?_
                refine K_callVp (pc := 190) (id := 140) (As := [_]) dX8_part0_190 kl_X8_227 rfl job_140 rfl rfl (Nat.le_of_ble_eq_true rfl) (m_isSign2 (t := t) (k := 41) r1.1 (by decide) (sg_wB (c := nI 41) (by decide)).1) ?_
                refine Jb_ne (pc := 193) (tgt := 198) dX8_part0_193 (by decide) (fun h193 => ?_) (fun h193 => ?_)
                · 
                  have e17 : m181 140 17 = nI (S.count (nI 40) + 1) := by rw [r1.2.2.1, List.count_cons_self]
                  have hl := (ndp_le (t := t) (n := n) (s := s) hsn)
                  have hl2 := skp_le (t := t) (n := n) (e := e) (by rw [hR.1.2.1]; exact hl.1)
                  have hl3 := hl.2 h151.1
                  rw [← hR.1.2.1] at hl3
                  have ha1 := (ndp_le (t := t) (n := n) (s := s3) r1.1.1)
                  have ha2 := skp_le (t := t) (n := n) (e := e3) (by rw [r1.1.2.1]; exact ha1.1)
                  have ha3 := ha1.2 h193.1
                  rw [← r1.1.2.1] at ha3
                  refine J_aload_n (pc := 198) dX8_part0_198 rfl ?_
                  refine J_dup (pc := 199) dX8_part0_199 rfl ?_
                  refine K_getI (pc := 200) dX8_part0_200 kf_X8_256 job_140 jrf_140_17 ?_
                  refine J_top (b := nI (S.count (nI 40) + 1)) (e17) ?_
                  refine J_iconst (pc := 203) dX8_part0_203 kni_1 ?_
                  refine J_isubv (pc := 204) dX8_part0_204 (pk_sub (by omega)) ?_
                  refine J_top (b := nI (S.count (nI 40))) (rfl) ?_
                  refine K_put (pc := 205) dX8_part0_205 kp_X8_256 job_140 jrf_140_17 rfl rfl ?_
                  refine J_aload_n (pc := 208) dX8_part0_208 rfl ?_
                  refine K_callVv (pc := 209) (id := 140) (As := []) dX8_part0_209 kl_X8_215 rfl job_140 rfl rfl (Nat.le_of_ble_eq_true rfl) (m_next2 (m := mup m181 140 17 (nI (S.count (nI 40)))) (t := t) (n := n) (s := s3) (e := e3) ((mup_j (by decide)).trans r1.2.2.2.2.2.2.1) h96 (tkP_c r1.1 (fun j _ _ => mup_j (by omega))) h193.1 (by rw [kd_sg (e := e3) h193.1 (by rw [h193.2]; exact (sg_wB (c := nI 41) (by decide)).2.1) (by rw [h193.2]; exact (sg_wB (c := nI 41) (by decide)).2.2.1)]; decide) (fun j hj => by rw [mup_i' (by decide)]; exact r1.2.2.2.2.2.2.2.1 j hj)) (fun m209 hx3 => ?_)
                  refine J_iconst (pc := 212) dX8_part0_212 kni_1 ?_
                  refine K_zret (pc := 213) dX8_part0_213 rfl rfl ⟨_, rfl, ?_⟩
                  obtain ⟨k1, k2⟩ := RS_cl r1 h193.1 hx3
                  exact rsV_ok ⟨_, _, _, _, by omega, k1, (hv2.trans r2).trans (vd_go r1.1.2.1 h193.1 (lnk_par h193 r3)), pFr_tr (pFr_tr hf2 r4) k2⟩
                · 
                  refine J_iconst (pc := 196) dX8_part0_196 kni_0 ?_
                  refine K_zret (pc := 197) dX8_part0_197 rfl rfl ⟨_, rfl, ?_⟩
                  exact rsV_no ⟨s3, (hv2.trans r2).trans (par_no r1.1.1 h193 r3 r5), r1.1.2.2.1, pFr_tr hf2 r4⟩
            · 
              refine J_iconst (pc := 163) dX8_part0_163 kni_0 ?_
              refine K_zret (pc := 164) dX8_part0_164 rfl rfl ⟨_, rfl, ?_⟩
              exact rsV_no (fp_no hR (fun hs => pce_none hnm hs (fun z => h5 (hkd.trans z)) (fun z => h38 (hkd.trans z.1)) (fun z => by omega) (fun z => by omega)))
        · 
          refine J_aload_n (pc := 102) dX8_part0_102 rfl ?_
          refine J_dup (pc := 103) dX8_part0_103 rfl ?_
          refine K_getI (pc := 104) dX8_part0_104 kf_X8_253 job_140 jrf_140_18 ?_
          refine J_top (b := nI (S.count (nI 33))) (hR.2.2.2.1) ?_
          refine J_iconst (pc := 107) dX8_part0_107 kni_1 ?_
          refine J_iaddv (pc := 108) dX8_part0_108 (nI_add _ _) ?_
          refine K_put (pc := 109) dX8_part0_109 kp_X8_253 job_140 jrf_140_18 rfl rfl ?_
          refine J_aload_n (pc := 112) dX8_part0_112 rfl ?_
          refine K_callVv (pc := 113) (id := 140) (As := []) dX8_part0_113 kl_X8_215 rfl job_140 rfl rfl (Nat.le_of_ble_eq_true rfl) (m_next2 (m := mup m 140 18 (nI (S.count (nI 33) + 1))) (t := t) (n := n) (s := s) (e := e) ((mup_j (by decide)).trans hR.2.2.2.2.2.2.1) h96 (tkP_c hR.1 (fun j _ _ => mup_j (by omega))) h90.1 (by rw [kd_sg (e := e) h90.1 (by rw [h90.2]; exact (sg_wB (c := nI 33) (by decide)).2.1) (by rw [h90.2]; exact (sg_wB (c := nI 33) (by decide)).2.2.1)]; decide) (fun j hj => by rw [mup_i' (by decide)]; exact hR.2.2.2.2.2.2.2.1 j hj)) (fun m113 hx => ?_)
          obtain ⟨hR2, hf2⟩ := RS_op hR h90.1 (Or.inl ⟨rfl, rfl⟩) hx
          have htk : tkS t n nm s e (S, C, w, true) = some (nI 33 :: S, C, w, true) := pce_opn h90 (Or.inl rfl) (by rw [List.count_cons_self]; omega) (by rw [cnt_sg (by decide)]; exact hN.1)
          have hv2 := vd_go (g := g) hR.1.2.1 h90.1 htk
          refine J_aload_n (pc := 116) dX8_part0_116 rfl ?_
          refine J_iload_n (pc := 117) dX8_part0_117 rfl ?_
          refine K_callVi (pc := 118) (id := 140) (As := [_]) dX8_part0_118 kl_X8_243 rfl job_140 rfl rfl (Nat.le_of_ble_eq_true rfl) (HP (by omega) m113 _ _ _ _ _ hR2 ⟨by rw [cnt_sg (by decide)]; exact hN.1, by rw [List.count_cons_self]; omega, by rw [cnt_sg (by decide), List.count_cons_self]; omega⟩) (fun v118 m118 h118 => ?_)
          obtain ⟨c118, rfl, f118, y118⟩ := h118
          refine Jp_ne (pc := 121) (tgt := 126) dX8_part0_121 (by decide) (fun h121 => ?_) (fun h121 => ?_)
          · 
            obtain ⟨s3, e3, D3, w3, r0, r1, r2, r3⟩ := y118 h121
            have hlen3 := r1.2.2.2.2.2.2.2.2
            rw [List.length_cons] at hlen3
            have hs3 := r1.1.1
            have e18 : m118 140 18 = nI (S.count (nI 33) + 1) := by rw [r1.2.2.2.1, List.count_cons_self]
            have hl := (ndp_le (t := t) (n := n) (s := s) hsn)
            have hl2 := skp_le (t := t) (n := n) (e := e) (by rw [hR.1.2.1]; exact hl.1)
            have hl3 := hl.2 h90.1
            rw [← hR.1.2.1] at hl3
            refine J_aload_n (pc := 126) dX8_part0_126 rfl ?_
            refine J_dup (pc := 127) dX8_part0_127 rfl ?_
            refine K_getI (pc := 128) dX8_part0_128 kf_X8_253 job_140 jrf_140_18 ?_
            refine J_top (b := nI (S.count (nI 33) + 1)) (e18) ?_
            refine J_iconst (pc := 131) dX8_part0_131 kni_1 ?_
            refine J_isubv (pc := 132) dX8_part0_132 (pk_sub (by omega)) ?_
            refine J_top (b := nI (S.count (nI 33))) (rfl) ?_
            refine K_put (pc := 133) dX8_part0_133 kp_X8_253 job_140 jrf_140_18 rfl rfl ?_
            refine J_aload_n (pc := 136) dX8_part0_136 rfl ?_
            refine J_iconst (pc := 137) dX8_part0_137 kni_2 ?_
            refine J_bipush (pc := 138) dX8_part0_138 knb_33 ?_
            refine K_callVv (pc := 140) (id := 140) (As := [_, _]) dX8_part0_140 kl_X8_230 rfl job_140 rfl rfl (Nat.le_of_ble_eq_true rfl) (m_step (m := mup m118 140 18 (nI (S.count (nI 33)))) (A := A) (L := D3.length) ((mup_j (by decide)).trans r1.2.2.2.2.1) ((mup_j (by decide)).trans r1.2.1.1) (by omega) _ _) (fun m140 h140 => ?_)
            subst h140
            refine J_iconst (pc := 143) dX8_part0_143 kni_1 ?_
            refine K_zret (pc := 144) dX8_part0_144 rfl rfl ⟨_, rfl, ?_⟩
            refine rsV_ok ⟨s3, e3, -33 :: D3, w3, by omega, RS_nt r1, ?_, pFr_st (pFr_140 (pFr_tr hf2 r3) (by omega)) (by omega)⟩
            have ee : enp (nI 33 :: S) D3 = enp S (-33 :: D3) := by rw [enp, if_pos rfl]
            rw [← ee]
            exact hv2.trans r2
          · 
            refine J_iconst (pc := 124) dX8_part0_124 kni_0 ?_
            refine K_zret (pc := 125) dX8_part0_125 rfl rfl ⟨_, rfl, ?_⟩
            obtain ⟨p, q1, q2, q3⟩ := f118 h121
            exact rsV_no ⟨p, hv2.trans q1, q2, pFr_tr hf2 q3⟩
    · 
      refine J_aload_n (pc := 41) dX8_part0_41 rfl ?_
      refine K_getI (pc := 42) dX8_part0_42 kf_X8_202 job_140 jrf_140_16 ?_
      refine J_top (b := (if e - s = 1 then t s else nI 0)) (hR.1.2.2.2.2.2.2.1 (hkd.symm.trans h38)) ?_
      refine J_if_eq (pc := 45) (tgt := 84) dX8_part0_45 (by decide) (fun h45 => ?_) (fun h45 => ?_)
      · 
        refine J_aload_n (pc := 84) dX8_part0_84 rfl ?_
        refine J_bipush (pc := 85) dX8_part0_85 knb_33 ?_
        refine K_callVp (pc := 87) (id := 140) (As := [_]) dX8_part0_87 kl_X8_227 rfl job_140 rfl rfl (Nat.le_of_ble_eq_true rfl) (m_isSign2 (t := t) (k := 33) hR.1 (by decide) (sg_wB (c := nI 33) (by decide)).1) ?_
        refine Jb_eq (pc := 90) (tgt := 145) dX8_part0_90 (by decide) (fun h90 => ?_) (fun h90 => ?_)
        · 
          refine J_aload_n (pc := 145) dX8_part0_145 rfl ?_
          refine J_bipush (pc := 146) dX8_part0_146 knb_40 ?_
          refine K_callVp (pc := 148) (id := 140) (As := [_]) dX8_part0_148 kl_X8_227 rfl job_140 rfl rfl (Nat.le_of_ble_eq_true rfl) (m_isSign2 (t := t) (k := 40) hR.1 (by decide) (sg_wB (c := nI 40) (by decide)).1) ?_
          refine Jb_eq (pc := 151) (tgt := 163) dX8_part0_151 (by decide) (fun h151 => ?_) (fun h151 => ?_)
          · 
            refine J_iconst (pc := 163) dX8_part0_163 kni_0 ?_
            refine K_zret (pc := 164) dX8_part0_164 rfl rfl ⟨_, rfl, ?_⟩
            exact rsV_no (fp_no hR (fun hs => pce_none hnm hs (fun z => h5 (hkd.trans z)) (fun z => by rw [if_pos z.2.1] at h45; have q := (kd_1.mp z.1).2.1; rw [h45] at q; exact absurd q (fun y => absurd (lB_iff.mp y) (by unfold lt8; decide))) (fun z => h90 ⟨hs, z.1⟩) (fun z => h151 ⟨hs, z.1⟩)))
          · 
            refine J_aload_n (pc := 154) dX8_part0_154 rfl ?_
            refine K_getI (pc := 155) dX8_part0_155 kf_X8_256 job_140 jrf_140_17 ?_
            refine J_top (b := nI (S.count (nI 40))) (hR.2.2.1) ?_
            refine J_bipush (pc := 158) dX8_part0_158 knb_8 ?_
            refine Jn_ne (pc := 160) (tgt := 165) dX8_part0_160 (by decide) (by omega) (by decide) (fun h160 => ?_) (fun h160 => ?_)
            · 
              refine J_aload_n (pc := 165) dX8_part0_165 rfl ?_
              refine J_dup (pc := 166) dX8_part0_166 rfl ?_
              refine K_getI (pc := 167) dX8_part0_167 kf_X8_256 job_140 jrf_140_17 ?_
              refine J_top (b := nI (S.count (nI 40))) (hR.2.2.1) ?_
              refine J_iconst (pc := 170) dX8_part0_170 kni_1 ?_
              refine J_iaddv (pc := 171) dX8_part0_171 (nI_add _ _) ?_
              refine K_put (pc := 172) dX8_part0_172 kp_X8_256 job_140 jrf_140_17 rfl rfl ?_
              refine J_aload_n (pc := 175) dX8_part0_175 rfl ?_
              refine K_callVv (pc := 176) (id := 140) (As := []) dX8_part0_176 kl_X8_215 rfl job_140 rfl rfl (Nat.le_of_ble_eq_true rfl) (m_next2 (m := mup m 140 17 (nI (S.count (nI 40) + 1))) (t := t) (n := n) (s := s) (e := e) ((mup_j (by decide)).trans hR.2.2.2.2.2.2.1) h96 (tkP_c hR.1 (fun j _ _ => mup_j (by omega))) h151.1 (by rw [kd_sg (e := e) h151.1 (by rw [h151.2]; exact (sg_wB (c := nI 40) (by decide)).2.1) (by rw [h151.2]; exact (sg_wB (c := nI 40) (by decide)).2.2.1)]; decide) (fun j hj => by rw [mup_i' (by decide)]; exact hR.2.2.2.2.2.2.2.1 j hj)) (fun m176 hx => ?_)
              obtain ⟨hR2, hf2⟩ := RS_op hR h151.1 (Or.inr ⟨rfl, rfl⟩) hx
              have htk : tkS t n nm s e (S, C, w, true) = some (nI 40 :: S, C, w, true) := pce_opn h151 (Or.inr rfl) (by rw [cnt_sg (by decide)]; exact hN.2.1) (by rw [List.count_cons_self]; omega)
              have hv2 := vd_go (g := g) hR.1.2.1 h151.1 htk
              refine J_aload_n (pc := 179) dX8_part0_179 rfl ?_
              refine J_iload_n (pc := 180) dX8_part0_180 rfl ?_
              refine K_callVi (pc := 181) (id := 140) (As := [_]) dX8_part0_181 kl_X8_259 rfl job_140 rfl rfl (Nat.le_of_ble_eq_true rfl) (HE (by omega) m176 _ _ _ _ _ hR2 (fun u hu => by cases hu; decide) ⟨by rw [List.count_cons_self]; omega, by rw [cnt_sg (by decide)]; exact hN.2.1, by rw [List.count_cons_self, cnt_sg (c := nI 40) (d := nI 33) (by decide)]; omega⟩) (fun v181 m181 h181 => ?_)
              obtain ⟨c181, rfl, f181, y181⟩ := h181
              refine Jp_eq (pc := 184) (tgt := 196) dX8_part0_184 (by decide) (fun h184 => ?_) (fun h184 => ?_)
              · 
                refine J_iconst (pc := 196) dX8_part0_196 kni_0 ?_
                refine K_zret (pc := 197) dX8_part0_197 rfl rfl ⟨_, rfl, ?_⟩
                obtain ⟨p, q1, q2, q3⟩ := f181 h184
                exact rsV_no ⟨p, hv2.trans q1, q2, pFr_tr hf2 q3⟩
              · 
                obtain ⟨s3, e3, O3, C3, D3, w3, r0, r1, r2, r3, r4, r5⟩ := y181 h184
                refine J_aload_n (pc := 187) dX8_part0_187 rfl ?_
                refine J_bipush (pc := 188) dX8_part0_188 knb_41 ?_
                refine K_callVp (pc := 190) (id := 140) (As := [_]) dX8_part0_190 kl_X8_227 rfl job_140 rfl rfl (Nat.le_of_ble_eq_true rfl) (m_isSign2 (t := t) (k := 41) r1.1 (by decide) (sg_wB (c := nI 41) (by decide)).1) ?_
                refine Jb_ne (pc := 193) (tgt := 198) dX8_part0_193 (by decide) (fun h193 => ?_) (fun h193 => ?_)
                · 
                  have e17 : m181 140 17 = nI (S.count (nI 40) + 1) := by rw [r1.2.2.1, List.count_cons_self]
                  have hl := (ndp_le (t := t) (n := n) (s := s) hsn)
                  have hl2 := skp_le (t := t) (n := n) (e := e) (by rw [hR.1.2.1]; exact hl.1)
                  have hl3 := hl.2 h151.1
                  rw [← hR.1.2.1] at hl3
                  have ha1 := (ndp_le (t := t) (n := n) (s := s3) r1.1.1)
                  have ha2 := skp_le (t := t) (n := n) (e := e3) (by rw [r1.1.2.1]; exact ha1.1)
                  have ha3 := ha1.2 h193.1
                  rw [← r1.1.2.1] at ha3
                  refine J_aload_n (pc := 198) dX8_part0_198 rfl ?_
                  refine J_dup (pc := 199) dX8_part0_199 rfl ?_
                  refine K_getI (pc := 200) dX8_part0_200 kf_X8_256 job_140 jrf_140_17 ?_
                  refine J_top (b := nI (S.count (nI 40) + 1)) (e17) ?_
                  refine J_iconst (pc := 203) dX8_part0_203 kni_1 ?_
                  refine J_isubv (pc := 204) dX8_part0_204 (pk_sub (by omega)) ?_
                  refine J_top (b := nI (S.count (nI 40))) (rfl) ?_
                  refine K_put (pc := 205) dX8_part0_205 kp_X8_256 job_140 jrf_140_17 rfl rfl ?_
                  refine J_aload_n (pc := 208) dX8_part0_208 rfl ?_
                  refine K_callVv (pc := 209) (id := 140) (As := []) dX8_part0_209 kl_X8_215 rfl job_140 rfl rfl (Nat.le_of_ble_eq_true rfl) (m_next2 (m := mup m181 140 17 (nI (S.count (nI 40)))) (t := t) (n := n) (s := s3) (e := e3) ((mup_j (by decide)).trans r1.2.2.2.2.2.2.1) h96 (tkP_c r1.1 (fun j _ _ => mup_j (by omega))) h193.1 (by rw [kd_sg (e := e3) h193.1 (by rw [h193.2]; exact (sg_wB (c := nI 41) (by decide)).2.1) (by rw [h193.2]; exact (sg_wB (c := nI 41) (by decide)).2.2.1)]; decide) (fun j hj => by rw [mup_i' (by decide)]; exact r1.2.2.2.2.2.2.2.1 j hj)) (fun m209 hx3 => ?_)
                  refine J_iconst (pc := 212) dX8_part0_212 kni_1 ?_
                  refine K_zret (pc := 213) dX8_part0_213 rfl rfl ⟨_, rfl, ?_⟩
                  obtain ⟨k1, k2⟩ := RS_cl r1 h193.1 hx3
                  exact rsV_ok ⟨_, _, _, _, by omega, k1, (hv2.trans r2).trans (vd_go r1.1.2.1 h193.1 (lnk_par h193 r3)), pFr_tr (pFr_tr hf2 r4) k2⟩
                · 
                  refine J_iconst (pc := 196) dX8_part0_196 kni_0 ?_
                  refine K_zret (pc := 197) dX8_part0_197 rfl rfl ⟨_, rfl, ?_⟩
                  exact rsV_no ⟨s3, (hv2.trans r2).trans (par_no r1.1.1 h193 r3 r5), r1.1.2.2.1, pFr_tr hf2 r4⟩
            · 
              refine J_iconst (pc := 163) dX8_part0_163 kni_0 ?_
              refine K_zret (pc := 164) dX8_part0_164 rfl rfl ⟨_, rfl, ?_⟩
              exact rsV_no (fp_no hR (fun hs => pce_none hnm hs (fun z => h5 (hkd.trans z)) (fun z => by rw [if_pos z.2.1] at h45; have q := (kd_1.mp z.1).2.1; rw [h45] at q; exact absurd q (fun y => absurd (lB_iff.mp y) (by unfold lt8; decide))) (fun z => h90 ⟨hs, z.1⟩) (fun z => by omega)))
        · 
          refine J_aload_n (pc := 93) dX8_part0_93 rfl ?_
          refine K_getI (pc := 94) dX8_part0_94 kf_X8_253 job_140 jrf_140_18 ?_
          refine J_top (b := nI (S.count (nI 33))) (hR.2.2.2.1) ?_
          refine J_bipush (pc := 97) dX8_part0_97 knb_8 ?_
          refine Jn_ge (pc := 99) (tgt := 145) dX8_part0_99 (by decide) (by omega) (by decide) (fun h99 => ?_) (fun h99 => ?_)
          · 
            refine J_aload_n (pc := 145) dX8_part0_145 rfl ?_
            refine J_bipush (pc := 146) dX8_part0_146 knb_40 ?_
            refine K_callVp (pc := 148) (id := 140) (As := [_]) dX8_part0_148 kl_X8_227 rfl job_140 rfl rfl (Nat.le_of_ble_eq_true rfl) (m_isSign2 (t := t) (k := 40) hR.1 (by decide) (sg_wB (c := nI 40) (by decide)).1) ?_
            refine Jb_eq (pc := 151) (tgt := 163) dX8_part0_151 (by decide) (fun h151 => ?_) (fun h151 => ?_)
            · 
              refine J_iconst (pc := 163) dX8_part0_163 kni_0 ?_
              refine K_zret (pc := 164) dX8_part0_164 rfl rfl ⟨_, rfl, ?_⟩
              exact rsV_no (fp_no hR (fun hs => pce_none hnm hs (fun z => h5 (hkd.trans z)) (fun z => by rw [if_pos z.2.1] at h45; have q := (kd_1.mp z.1).2.1; rw [h45] at q; exact absurd q (fun y => absurd (lB_iff.mp y) (by unfold lt8; decide))) (fun z => by omega) (fun z => h151 ⟨hs, z.1⟩)))
            · 
              refine J_aload_n (pc := 154) dX8_part0_154 rfl ?_
              refine K_getI (pc := 155) dX8_part0_155 kf_X8_256 job_140 jrf_140_17 ?_
              refine J_top (b := nI (S.count (nI 40))) (hR.2.2.1) ?_
              refine J_bipush (pc := 158) dX8_part0_158 knb_8 ?_
              refine Jn_ne (pc := 160) (tgt := 165) dX8_part0_160 (by decide) (by omega) (by decide) (fun h160 => ?_) (fun h160 => ?_)
              · 
                refine J_aload_n (pc := 165) dX8_part0_165 rfl ?_
                refine J_dup (pc := 166) dX8_part0_166 rfl ?_
                refine K_getI (pc := 167) dX8_part0_167 kf_X8_256 job_140 jrf_140_17 ?_
                refine J_top (b := nI (S.count (nI 40))) (hR.2.2.1) ?_
                refine J_iconst (pc := 170) dX8_part0_170 kni_1 ?_
                refine J_iaddv (pc := 171) dX8_part0_171 (nI_add _ _) ?_
                refine K_put (pc := 172) dX8_part0_172 kp_X8_256 job_140 jrf_140_17 rfl rfl ?_
                refine J_aload_n (pc := 175) dX8_part0_175 rfl ?_
                refine K_callVv (pc := 176) (id := 140) (As := []) dX8_part0_176 kl_X8_215 rfl job_140 rfl rfl (Nat.le_of_ble_eq_true rfl) (m_next2 (m := mup m 140 17 (nI (S.count (nI 40) + 1))) (t := t) (n := n) (s := s) (e := e) ((mup_j (by decide)).trans hR.2.2.2.2.2.2.1) h96 (tkP_c hR.1 (fun j _ _ => mup_j (by omega))) h151.1 (by rw [kd_sg (e := e) h151.1 (by rw [h151.2]; exact (sg_wB (c := nI 40) (by decide)).2.1) (by rw [h151.2]; exact (sg_wB (c := nI 40) (by decide)).2.2.1)]; decide) (fun j hj => by rw [mup_i' (by decide)]; exact hR.2.2.2.2.2.2.2.1 j hj)) (fun m176 hx => ?_)
                obtain ⟨hR2, hf2⟩ := RS_op hR h151.1 (Or.inr ⟨rfl, rfl⟩) hx
                have htk : tkS t n nm s e (S, C, w, true) = some (nI 40 :: S, C, w, true) := pce_opn h151 (Or.inr rfl) (by rw [cnt_sg (by decide)]; exact hN.2.1) (by rw [List.count_cons_self]; omega)
                have hv2 := vd_go (g := g) hR.1.2.1 h151.1 htk
                refine J_aload_n (pc := 179) dX8_part0_179 rfl ?_
                refine J_iload_n (pc := 180) dX8_part0_180 rfl ?_
                refine K_callVi (pc := 181) (id := 140) (As := [_]) dX8_part0_181 kl_X8_259 rfl job_140 rfl rfl (Nat.le_of_ble_eq_true rfl) (HE (by omega) m176 _ _ _ _ _ hR2 (fun u hu => by cases hu; decide) ⟨by rw [List.count_cons_self]; omega, by rw [cnt_sg (by decide)]; exact hN.2.1, by rw [List.count_cons_self, cnt_sg (c := nI 40) (d := nI 33) (by decide)]; omega⟩) (fun v181 m181 h181 => ?_)
                obtain ⟨c181, rfl, f181, y181⟩ := h181
                refine Jp_eq (pc := 184) (tgt := 196) dX8_part0_184 (by decide) (fun h184 => ?_) (fun h184 => ?_)
                · 
                  refine J_iconst (pc := 196) dX8_part0_196 kni_0 ?_
                  refine K_zret (pc := 197) dX8_part0_197 rfl rfl ⟨_, rfl, ?_⟩
                  obtain ⟨p, q1, q2, q3⟩ := f181 h184
                  exact rsV_no ⟨p, hv2.trans q1, q2, pFr_tr hf2 q3⟩
                · 
                  obtain ⟨s3, e3, O3, C3, D3, w3, r0, r1, r2, r3, r4, r5⟩ := y181 h184
                  refine J_aload_n (pc := 187) dX8_part0_187 rfl ?_
                  refine J_bipush (pc := 188) dX8_part0_188 knb_41 ?_
                  refine K_callVp (pc := 190) (id := 140) (As := [_]) dX8_part0_190 kl_X8_227 rfl job_140 rfl rfl (Nat.le_of_ble_eq_true rfl) (m_isSign2 (t := t) (k := 41) r1.1 (by decide) (sg_wB (c := nI 41) (by decide)).1) ?_
                  refine Jb_ne (pc := 193) (tgt := 198) dX8_part0_193 (by decide) (fun h193 => ?_) (fun h193 => ?_)
                  · 
                    have e17 : m181 140 17 = nI (S.count (nI 40) + 1) := by rw [r1.2.2.1, List.count_cons_self]
                    have hl := (ndp_le (t := t) (n := n) (s := s) hsn)
                    have hl2 := skp_le (t := t) (n := n) (e := e) (by rw [hR.1.2.1]; exact hl.1)
                    have hl3 := hl.2 h151.1
                    rw [← hR.1.2.1] at hl3
                    have ha1 := (ndp_le (t := t) (n := n) (s := s3) r1.1.1)
                    have ha2 := skp_le (t := t) (n := n) (e := e3) (by rw [r1.1.2.1]; exact ha1.1)
                    have ha3 := ha1.2 h193.1
                    rw [← r1.1.2.1] at ha3
                    refine J_aload_n (pc := 198) dX8_part0_198 rfl ?_
                    refine J_dup (pc := 199) dX8_part0_199 rfl ?_
                    refine K_getI (pc := 200) dX8_part0_200 kf_X8_256 job_140 jrf_140_17 ?_
                    refine J_top (b := nI (S.count (nI 40) + 1)) (e17) ?_
                    refine J_iconst (pc := 203) dX8_part0_203 kni_1 ?_
                    refine J_isubv (pc := 204) dX8_part0_204 (pk_sub (by omega)) ?_
                    refine J_top (b := nI (S.count (nI 40))) (rfl) ?_
                    refine K_put (pc := 205) dX8_part0_205 kp_X8_256 job_140 jrf_140_17 rfl rfl ?_
                    refine J_aload_n (pc := 208) dX8_part0_208 rfl ?_
                    refine K_callVv (pc := 209) (id := 140) (As := []) dX8_part0_209 kl_X8_215 rfl job_140 rfl rfl (Nat.le_of_ble_eq_true rfl) (m_next2 (m := mup m181 140 17 (nI (S.count (nI 40)))) (t := t) (n := n) (s := s3) (e := e3) ((mup_j (by decide)).trans r1.2.2.2.2.2.2.1) h96 (tkP_c r1.1 (fun j _ _ => mup_j (by omega))) h193.1 (by rw [kd_sg (e := e3) h193.1 (by rw [h193.2]; exact (sg_wB (c := nI 41) (by decide)).2.1) (by rw [h193.2]; exact (sg_wB (c := nI 41) (by decide)).2.2.1)]; decide) (fun j hj => by rw [mup_i' (by decide)]; exact r1.2.2.2.2.2.2.2.1 j hj)) (fun m209 hx3 => ?_)
                    refine J_iconst (pc := 212) dX8_part0_212 kni_1 ?_
                    refine K_zret (pc := 213) dX8_part0_213 rfl rfl ⟨_, rfl, ?_⟩
                    obtain ⟨k1, k2⟩ := RS_cl r1 h193.1 hx3
                    exact rsV_ok ⟨_, _, _, _, by omega, k1, (hv2.trans r2).trans (vd_go r1.1.2.1 h193.1 (lnk_par h193 r3)), pFr_tr (pFr_tr hf2 r4) k2⟩
                  · 
                    refine J_iconst (pc := 196) dX8_part0_196 kni_0 ?_
                    refine K_zret (pc := 197) dX8_part0_197 rfl rfl ⟨_, rfl, ?_⟩
                    exact rsV_no ⟨s3, (hv2.trans r2).trans (par_no r1.1.1 h193 r3 r5), r1.1.2.2.1, pFr_tr hf2 r4⟩
              · 
                refine J_iconst (pc := 163) dX8_part0_163 kni_0 ?_
                refine K_zret (pc := 164) dX8_part0_164 rfl rfl ⟨_, rfl, ?_⟩
                exact rsV_no (fp_no hR (fun hs => pce_none hnm hs (fun z => h5 (hkd.trans z)) (fun z => by rw [if_pos z.2.1] at h45; have q := (kd_1.mp z.1).2.1; rw [h45] at q; exact absurd q (fun y => absurd (lB_iff.mp y) (by unfold lt8; decide))) (fun z => by omega) (fun z => by omega)))
          · 
            refine J_aload_n (pc := 102) dX8_part0_102 rfl ?_
            refine J_dup (pc := 103) dX8_part0_103 rfl ?_
            refine K_getI (pc := 104) dX8_part0_104 kf_X8_253 job_140 jrf_140_18 ?_
            refine J_top (b := nI (S.count (nI 33))) (hR.2.2.2.1) ?_
            refine J_iconst (pc := 107) dX8_part0_107 kni_1 ?_
            refine J_iaddv (pc := 108) dX8_part0_108 (nI_add _ _) ?_
            refine K_put (pc := 109) dX8_part0_109 kp_X8_253 job_140 jrf_140_18 rfl rfl ?_
            refine J_aload_n (pc := 112) dX8_part0_112 rfl ?_
            refine K_callVv (pc := 113) (id := 140) (As := []) dX8_part0_113 kl_X8_215 rfl job_140 rfl rfl (Nat.le_of_ble_eq_true rfl) (m_next2 (m := mup m 140 18 (nI (S.count (nI 33) + 1))) (t := t) (n := n) (s := s) (e := e) ((mup_j (by decide)).trans hR.2.2.2.2.2.2.1) h96 (tkP_c hR.1 (fun j _ _ => mup_j (by omega))) h90.1 (by rw [kd_sg (e := e) h90.1 (by rw [h90.2]; exact (sg_wB (c := nI 33) (by decide)).2.1) (by rw [h90.2]; exact (sg_wB (c := nI 33) (by decide)).2.2.1)]; decide) (fun j hj => by rw [mup_i' (by decide)]; exact hR.2.2.2.2.2.2.2.1 j hj)) (fun m113 hx => ?_)
            obtain ⟨hR2, hf2⟩ := RS_op hR h90.1 (Or.inl ⟨rfl, rfl⟩) hx
            have htk : tkS t n nm s e (S, C, w, true) = some (nI 33 :: S, C, w, true) := pce_opn h90 (Or.inl rfl) (by rw [List.count_cons_self]; omega) (by rw [cnt_sg (by decide)]; exact hN.1)
            have hv2 := vd_go (g := g) hR.1.2.1 h90.1 htk
            refine J_aload_n (pc := 116) dX8_part0_116 rfl ?_
            refine J_iload_n (pc := 117) dX8_part0_117 rfl ?_
            refine K_callVi (pc := 118) (id := 140) (As := [_]) dX8_part0_118 kl_X8_243 rfl job_140 rfl rfl (Nat.le_of_ble_eq_true rfl) (HP (by omega) m113 _ _ _ _ _ hR2 ⟨by rw [cnt_sg (by decide)]; exact hN.1, by rw [List.count_cons_self]; omega, by rw [cnt_sg (by decide), List.count_cons_self]; omega⟩) (fun v118 m118 h118 => ?_)
            obtain ⟨c118, rfl, f118, y118⟩ := h118
            refine Jp_ne (pc := 121) (tgt := 126) dX8_part0_121 (by decide) (fun h121 => ?_) (fun h121 => ?_)
            · 
              obtain ⟨s3, e3, D3, w3, r0, r1, r2, r3⟩ := y118 h121
              have hlen3 := r1.2.2.2.2.2.2.2.2
              rw [List.length_cons] at hlen3
              have hs3 := r1.1.1
              have e18 : m118 140 18 = nI (S.count (nI 33) + 1) := by rw [r1.2.2.2.1, List.count_cons_self]
              have hl := (ndp_le (t := t) (n := n) (s := s) hsn)
              have hl2 := skp_le (t := t) (n := n) (e := e) (by rw [hR.1.2.1]; exact hl.1)
              have hl3 := hl.2 h90.1
              rw [← hR.1.2.1] at hl3
              refine J_aload_n (pc := 126) dX8_part0_126 rfl ?_
              refine J_dup (pc := 127) dX8_part0_127 rfl ?_
              refine K_getI (pc := 128) dX8_part0_128 kf_X8_253 job_140 jrf_140_18 ?_
              refine J_top (b := nI (S.count (nI 33) + 1)) (e18) ?_
              refine J_iconst (pc := 131) dX8_part0_131 kni_1 ?_
              refine J_isubv (pc := 132) dX8_part0_132 (pk_sub (by omega)) ?_
              refine J_top (b := nI (S.count (nI 33))) (rfl) ?_
              refine K_put (pc := 133) dX8_part0_133 kp_X8_253 job_140 jrf_140_18 rfl rfl ?_
              refine J_aload_n (pc := 136) dX8_part0_136 rfl ?_
              refine J_iconst (pc := 137) dX8_part0_137 kni_2 ?_
              refine J_bipush (pc := 138) dX8_part0_138 knb_33 ?_
              refine K_callVv (pc := 140) (id := 140) (As := [_, _]) dX8_part0_140 kl_X8_230 rfl job_140 rfl rfl (Nat.le_of_ble_eq_true rfl) (m_step (m := mup m118 140 18 (nI (S.count (nI 33)))) (A := A) (L := D3.length) ((mup_j (by decide)).trans r1.2.2.2.2.1) ((mup_j (by decide)).trans r1.2.1.1) (by omega) _ _) (fun m140 h140 => ?_)
              subst h140
              refine J_iconst (pc := 143) dX8_part0_143 kni_1 ?_
              refine K_zret (pc := 144) dX8_part0_144 rfl rfl ⟨_, rfl, ?_⟩
              refine rsV_ok ⟨s3, e3, -33 :: D3, w3, by omega, RS_nt r1, ?_, pFr_st (pFr_140 (pFr_tr hf2 r3) (by omega)) (by omega)⟩
              have ee : enp (nI 33 :: S) D3 = enp S (-33 :: D3) := by rw [enp, if_pos rfl]
              rw [← ee]
              exact hv2.trans r2
            · 
              refine J_iconst (pc := 124) dX8_part0_124 kni_0 ?_
              refine K_zret (pc := 125) dX8_part0_125 rfl rfl ⟨_, rfl, ?_⟩
              obtain ⟨p, q1, q2, q3⟩ := f118 h121
              exact rsV_no ⟨p, hv2.trans q1, q2, pFr_tr hf2 q3⟩
      · 
        refine J_iload_n (pc := 48) dX8_part0_48 rfl ?_
        refine J_aload_n (pc := 49) dX8_part0_49 rfl ?_
        refine K_getI (pc := 50) dX8_part0_50 kf_X8_202 job_140 jrf_140_16 ?_
        refine J_top (b := (if e - s = 1 then t s else nI 0)) (hR.1.2.2.2.2.2.2.1 (hkd.symm.trans h38)) ?_
        refine K_callSp (pc := 53) (As := [_, _]) dX8_part0_53 kl_X8_249 rfl rfl (Nat.le_of_ble_eq_true rfl) (m_isName key (if e - s = 1 then t s else nI 0)) ?_
        refine Jp_eq (pc := 56) (tgt := 84) dX8_part0_56 (by decide) (fun h56 => ?_) (fun h56 => ?_)
        · 
          refine J_aload_n (pc := 84) dX8_part0_84 rfl ?_
          refine J_bipush (pc := 85) dX8_part0_85 knb_33 ?_
          refine K_callVp (pc := 87) (id := 140) (As := [_]) dX8_part0_87 kl_X8_227 rfl job_140 rfl rfl (Nat.le_of_ble_eq_true rfl) (m_isSign2 (t := t) (k := 33) hR.1 (by decide) (sg_wB (c := nI 33) (by decide)).1) ?_
          refine Jb_eq (pc := 90) (tgt := 145) dX8_part0_90 (by decide) (fun h90 => ?_) (fun h90 => ?_)
          · 
            refine J_aload_n (pc := 145) dX8_part0_145 rfl ?_
            refine J_bipush (pc := 146) dX8_part0_146 knb_40 ?_
            refine K_callVp (pc := 148) (id := 140) (As := [_]) dX8_part0_148 kl_X8_227 rfl job_140 rfl rfl (Nat.le_of_ble_eq_true rfl) (m_isSign2 (t := t) (k := 40) hR.1 (by decide) (sg_wB (c := nI 40) (by decide)).1) ?_
            refine Jb_eq (pc := 151) (tgt := 163) dX8_part0_151 (by decide) (fun h151 => ?_) (fun h151 => ?_)
            · 
              refine J_iconst (pc := 163) dX8_part0_163 kni_0 ?_
              refine K_zret (pc := 164) dX8_part0_164 rfl rfl ⟨_, rfl, ?_⟩
              exact rsV_no (fp_no hR (fun hs => pce_none hnm hs (fun z => h5 (hkd.trans z)) (fun z => h56 (by rw [if_pos z.2.1]; exact z.2.2)) (fun z => h90 ⟨hs, z.1⟩) (fun z => h151 ⟨hs, z.1⟩)))
            · 
              refine J_aload_n (pc := 154) dX8_part0_154 rfl ?_
              refine K_getI (pc := 155) dX8_part0_155 kf_X8_256 job_140 jrf_140_17 ?_
              refine J_top (b := nI (S.count (nI 40))) (hR.2.2.1) ?_
              refine J_bipush (pc := 158) dX8_part0_158 knb_8 ?_
              refine Jn_ne (pc := 160) (tgt := 165) dX8_part0_160 (by decide) (by omega) (by decide) (fun h160 => ?_) (fun h160 => ?_)
              · 
                refine J_aload_n (pc := 165) dX8_part0_165 rfl ?_
                refine J_dup (pc := 166) dX8_part0_166 rfl ?_
                refine K_getI (pc := 167) dX8_part0_167 kf_X8_256 job_140 jrf_140_17 ?_
                refine J_top (b := nI (S.count (nI 40))) (hR.2.2.1) ?_
                refine J_iconst (pc := 170) dX8_part0_170 kni_1 ?_
                refine J_iaddv (pc := 171) dX8_part0_171 (nI_add _ _) ?_
                refine K_put (pc := 172) dX8_part0_172 kp_X8_256 job_140 jrf_140_17 rfl rfl ?_
                refine J_aload_n (pc := 175) dX8_part0_175 rfl ?_
                refine K_callVv (pc := 176) (id := 140) (As := []) dX8_part0_176 kl_X8_215 rfl job_140 rfl rfl (Nat.le_of_ble_eq_true rfl) (m_next2 (m := mup m 140 17 (nI (S.count (nI 40) + 1))) (t := t) (n := n) (s := s) (e := e) ((mup_j (by decide)).trans hR.2.2.2.2.2.2.1) h96 (tkP_c hR.1 (fun j _ _ => mup_j (by omega))) h151.1 (by rw [kd_sg (e := e) h151.1 (by rw [h151.2]; exact (sg_wB (c := nI 40) (by decide)).2.1) (by rw [h151.2]; exact (sg_wB (c := nI 40) (by decide)).2.2.1)]; decide) (fun j hj => by rw [mup_i' (by decide)]; exact hR.2.2.2.2.2.2.2.1 j hj)) (fun m176 hx => ?_)
                obtain ⟨hR2, hf2⟩ := RS_op hR h151.1 (Or.inr ⟨rfl, rfl⟩) hx
                have htk : tkS t n nm s e (S, C, w, true) = some (nI 40 :: S, C, w, true) := pce_opn h151 (Or.inr rfl) (by rw [cnt_sg (by decide)]; exact hN.2.1) (by rw [List.count_cons_self]; omega)
                have hv2 := vd_go (g := g) hR.1.2.1 h151.1 htk
                refine J_aload_n (pc := 179) dX8_part0_179 rfl ?_
                refine J_iload_n (pc := 180) dX8_part0_180 rfl ?_
                refine K_callVi (pc := 181) (id := 140) (As := [_]) dX8_part0_181 kl_X8_259 rfl job_140 rfl rfl (Nat.le_of_ble_eq_true rfl) (HE (by omega) m176 _ _ _ _ _ hR2 (fun u hu => by cases hu; decide) ⟨by rw [List.count_cons_self]; omega, by rw [cnt_sg (by decide)]; exact hN.2.1, by rw [List.count_cons_self, cnt_sg (c := nI 40) (d := nI 33) (by decide)]; omega⟩) (fun v181 m181 h181 => ?_)
                obtain ⟨c181, rfl, f181, y181⟩ := h181
                refine Jp_eq (pc := 184) (tgt := 196) dX8_part0_184 (by decide) (fun h184 => ?_) (fun h184 => ?_)
                · 
                  refine J_iconst (pc := 196) dX8_part0_196 kni_0 ?_
                  refine K_zret (pc := 197) dX8_part0_197 rfl rfl ⟨_, rfl, ?_⟩
                  obtain ⟨p, q1, q2, q3⟩ := f181 h184
                  exact rsV_no ⟨p, hv2.trans q1, q2, pFr_tr hf2 q3⟩
                · 
                  obtain ⟨s3, e3, O3, C3, D3, w3, r0, r1, r2, r3, r4, r5⟩ := y181 h184
                  refine J_aload_n (pc := 187) dX8_part0_187 rfl ?_
                  refine J_bipush (pc := 188) dX8_part0_188 knb_41 ?_
                  refine K_callVp (pc := 190) (id := 140) (As := [_]) dX8_part0_190 kl_X8_227 rfl job_140 rfl rfl (Nat.le_of_ble_eq_true rfl) (m_isSign2 (t := t) (k := 41) r1.1 (by decide) (sg_wB (c := nI 41) (by decide)).1) ?_
                  refine Jb_ne (pc := 193) (tgt := 198) dX8_part0_193 (by decide) (fun h193 => ?_) (fun h193 => ?_)
                  · 
                    have e17 : m181 140 17 = nI (S.count (nI 40) + 1) := by rw [r1.2.2.1, List.count_cons_self]
                    have hl := (ndp_le (t := t) (n := n) (s := s) hsn)
                    have hl2 := skp_le (t := t) (n := n) (e := e) (by rw [hR.1.2.1]; exact hl.1)
                    have hl3 := hl.2 h151.1
                    rw [← hR.1.2.1] at hl3
                    have ha1 := (ndp_le (t := t) (n := n) (s := s3) r1.1.1)
                    have ha2 := skp_le (t := t) (n := n) (e := e3) (by rw [r1.1.2.1]; exact ha1.1)
                    have ha3 := ha1.2 h193.1
                    rw [← r1.1.2.1] at ha3
                    refine J_aload_n (pc := 198) dX8_part0_198 rfl ?_
                    refine J_dup (pc := 199) dX8_part0_199 rfl ?_
                    refine K_getI (pc := 200) dX8_part0_200 kf_X8_256 job_140 jrf_140_17 ?_
                    refine J_top (b := nI (S.count (nI 40) + 1)) (e17) ?_
                    refine J_iconst (pc := 203) dX8_part0_203 kni_1 ?_
                    refine J_isubv (pc := 204) dX8_part0_204 (pk_sub (by omega)) ?_
                    refine J_top (b := nI (S.count (nI 40))) (rfl) ?_
                    refine K_put (pc := 205) dX8_part0_205 kp_X8_256 job_140 jrf_140_17 rfl rfl ?_
                    refine J_aload_n (pc := 208) dX8_part0_208 rfl ?_
                    refine K_callVv (pc := 209) (id := 140) (As := []) dX8_part0_209 kl_X8_215 rfl job_140 rfl rfl (Nat.le_of_ble_eq_true rfl) (m_next2 (m := mup m181 140 17 (nI (S.count (nI 40)))) (t := t) (n := n) (s := s3) (e := e3) ((mup_j (by decide)).trans r1.2.2.2.2.2.2.1) h96 (tkP_c r1.1 (fun j _ _ => mup_j (by omega))) h193.1 (by rw [kd_sg (e := e3) h193.1 (by rw [h193.2]; exact (sg_wB (c := nI 41) (by decide)).2.1) (by rw [h193.2]; exact (sg_wB (c := nI 41) (by decide)).2.2.1)]; decide) (fun j hj => by rw [mup_i' (by decide)]; exact r1.2.2.2.2.2.2.2.1 j hj)) (fun m209 hx3 => ?_)
                    refine J_iconst (pc := 212) dX8_part0_212 kni_1 ?_
                    refine K_zret (pc := 213) dX8_part0_213 rfl rfl ⟨_, rfl, ?_⟩
                    obtain ⟨k1, k2⟩ := RS_cl r1 h193.1 hx3
                    exact rsV_ok ⟨_, _, _, _, by omega, k1, (hv2.trans r2).trans (vd_go r1.1.2.1 h193.1 (lnk_par h193 r3)), pFr_tr (pFr_tr hf2 r4) k2⟩
                  · 
                    refine J_iconst (pc := 196) dX8_part0_196 kni_0 ?_
                    refine K_zret (pc := 197) dX8_part0_197 rfl rfl ⟨_, rfl, ?_⟩
                    exact rsV_no ⟨s3, (hv2.trans r2).trans (par_no r1.1.1 h193 r3 r5), r1.1.2.2.1, pFr_tr hf2 r4⟩
              · 
                refine J_iconst (pc := 163) dX8_part0_163 kni_0 ?_
                refine K_zret (pc := 164) dX8_part0_164 rfl rfl ⟨_, rfl, ?_⟩
                exact rsV_no (fp_no hR (fun hs => pce_none hnm hs (fun z => h5 (hkd.trans z)) (fun z => h56 (by rw [if_pos z.2.1]; exact z.2.2)) (fun z => h90 ⟨hs, z.1⟩) (fun z => by omega)))
          · 
            refine J_aload_n (pc := 93) dX8_part0_93 rfl ?_
            refine K_getI (pc := 94) dX8_part0_94 kf_X8_253 job_140 jrf_140_18 ?_
            refine J_top (b := nI (S.count (nI 33))) (hR.2.2.2.1) ?_
            refine J_bipush (pc := 97) dX8_part0_97 knb_8 ?_
            refine Jn_ge (pc := 99) (tgt := 145) dX8_part0_99 (by decide) (by omega) (by decide) (fun h99 => ?_) (fun h99 => ?_)
            · 
              refine J_aload_n (pc := 145) dX8_part0_145 rfl ?_
              refine J_bipush (pc := 146) dX8_part0_146 knb_40 ?_
              refine K_callVp (pc := 148) (id := 140) (As := [_]) dX8_part0_148 kl_X8_227 rfl job_140 rfl rfl (Nat.le_of_ble_eq_true rfl) (m_isSign2 (t := t) (k := 40) hR.1 (by decide) (sg_wB (c := nI 40) (by decide)).1) ?_
              refine Jb_eq (pc := 151) (tgt := 163) dX8_part0_151 (by decide) (fun h151 => ?_) (fun h151 => ?_)
              · 
                refine J_iconst (pc := 163) dX8_part0_163 kni_0 ?_
                refine K_zret (pc := 164) dX8_part0_164 rfl rfl ⟨_, rfl, ?_⟩
                exact rsV_no (fp_no hR (fun hs => pce_none hnm hs (fun z => h5 (hkd.trans z)) (fun z => h56 (by rw [if_pos z.2.1]; exact z.2.2)) (fun z => by omega) (fun z => h151 ⟨hs, z.1⟩)))
              · 
                refine J_aload_n (pc := 154) dX8_part0_154 rfl ?_
                refine K_getI (pc := 155) dX8_part0_155 kf_X8_256 job_140 jrf_140_17 ?_
                refine J_top (b := nI (S.count (nI 40))) (hR.2.2.1) ?_
                refine J_bipush (pc := 158) dX8_part0_158 knb_8 ?_
                refine Jn_ne (pc := 160) (tgt := 165) dX8_part0_160 (by decide) (by omega) (by decide) (fun h160 => ?_) (fun h160 => ?_)
                · 
                  refine J_aload_n (pc := 165) dX8_part0_165 rfl ?_
                  refine J_dup (pc := 166) dX8_part0_166 rfl ?_
                  refine K_getI (pc := 167) dX8_part0_167 kf_X8_256 job_140 jrf_140_17 ?_
                  refine J_top (b := nI (S.count (nI 40))) (hR.2.2.1) ?_
                  refine J_iconst (pc := 170) dX8_part0_170 kni_1 ?_
                  refine J_iaddv (pc := 171) dX8_part0_171 (nI_add _ _) ?_
                  refine K_put (pc := 172) dX8_part0_172 kp_X8_256 job_140 jrf_140_17 rfl rfl ?_
                  refine J_aload_n (pc := 175) dX8_part0_175 rfl ?_
                  refine K_callVv (pc := 176) (id := 140) (As := []) dX8_part0_176 kl_X8_215 rfl job_140 rfl rfl (Nat.le_of_ble_eq_true rfl) (m_next2 (m := mup m 140 17 (nI (S.count (nI 40) + 1))) (t := t) (n := n) (s := s) (e := e) ((mup_j (by decide)).trans hR.2.2.2.2.2.2.1) h96 (tkP_c hR.1 (fun j _ _ => mup_j (by omega))) h151.1 (by rw [kd_sg (e := e) h151.1 (by rw [h151.2]; exact (sg_wB (c := nI 40) (by decide)).2.1) (by rw [h151.2]; exact (sg_wB (c := nI 40) (by decide)).2.2.1)]; decide) (fun j hj => by rw [mup_i' (by decide)]; exact hR.2.2.2.2.2.2.2.1 j hj)) (fun m176 hx => ?_)
                  obtain ⟨hR2, hf2⟩ := RS_op hR h151.1 (Or.inr ⟨rfl, rfl⟩) hx
                  have htk : tkS t n nm s e (S, C, w, true) = some (nI 40 :: S, C, w, true) := pce_opn h151 (Or.inr rfl) (by rw [cnt_sg (by decide)]; exact hN.2.1) (by rw [List.count_cons_self]; omega)
                  have hv2 := vd_go (g := g) hR.1.2.1 h151.1 htk
                  refine J_aload_n (pc := 179) dX8_part0_179 rfl ?_
                  refine J_iload_n (pc := 180) dX8_part0_180 rfl ?_
                  refine K_callVi (pc := 181) (id := 140) (As := [_]) dX8_part0_181 kl_X8_259 rfl job_140 rfl rfl (Nat.le_of_ble_eq_true rfl) (HE (by omega) m176 _ _ _ _ _ hR2 (fun u hu => by cases hu; decide) ⟨by rw [List.count_cons_self]; omega, by rw [cnt_sg (by decide)]; exact hN.2.1, by rw [List.count_cons_self, cnt_sg (c := nI 40) (d := nI 33) (by decide)]; omega⟩) (fun v181 m181 h181 => ?_)
                  obtain ⟨c181, rfl, f181, y181⟩ := h181
                  refine Jp_eq (pc := 184) (tgt := 196) dX8_part0_184 (by decide) (fun h184 => ?_) (fun h184 => ?_)
                  · 
                    refine J_iconst (pc := 196) dX8_part0_196 kni_0 ?_
                    refine K_zret (pc := 197) dX8_part0_197 rfl rfl ⟨_, rfl, ?_⟩
                    obtain ⟨p, q1, q2, q3⟩ := f181 h184
                    exact rsV_no ⟨p, hv2.trans q1, q2, pFr_tr hf2 q3⟩
                  · 
                    obtain ⟨s3, e3, O3, C3, D3, w3, r0, r1, r2, r3, r4, r5⟩ := y181 h184
                    refine J_aload_n (pc := 187) dX8_part0_187 rfl ?_
                    refine J_bipush (pc := 188) dX8_part0_188 knb_41 ?_
                    refine K_callVp (pc := 190) (id := 140) (As := [_]) dX8_part0_190 kl_X8_227 rfl job_140 rfl rfl (Nat.le_of_ble_eq_true rfl) (m_isSign2 (t := t) (k := 41) r1.1 (by decide) (sg_wB (c := nI 41) (by decide)).1) ?_
                    refine Jb_ne (pc := 193) (tgt := 198) dX8_part0_193 (by decide) (fun h193 => ?_) (fun h193 => ?_)
                    · 
                      have e17 : m181 140 17 = nI (S.count (nI 40) + 1) := by rw [r1.2.2.1, List.count_cons_self]
                      have hl := (ndp_le (t := t) (n := n) (s := s) hsn)
                      have hl2 := skp_le (t := t) (n := n) (e := e) (by rw [hR.1.2.1]; exact hl.1)
                      have hl3 := hl.2 h151.1
                      rw [← hR.1.2.1] at hl3
                      have ha1 := (ndp_le (t := t) (n := n) (s := s3) r1.1.1)
                      have ha2 := skp_le (t := t) (n := n) (e := e3) (by rw [r1.1.2.1]; exact ha1.1)
                      have ha3 := ha1.2 h193.1
                      rw [← r1.1.2.1] at ha3
                      refine J_aload_n (pc := 198) dX8_part0_198 rfl ?_
                      refine J_dup (pc := 199) dX8_part0_199 rfl ?_
                      refine K_getI (pc := 200) dX8_part0_200 kf_X8_256 job_140 jrf_140_17 ?_
                      refine J_top (b := nI (S.count (nI 40) + 1)) (e17) ?_
                      refine J_iconst (pc := 203) dX8_part0_203 kni_1 ?_
                      refine J_isubv (pc := 204) dX8_part0_204 (pk_sub (by omega)) ?_
                      refine J_top (b := nI (S.count (nI 40))) (rfl) ?_
                      refine K_put (pc := 205) dX8_part0_205 kp_X8_256 job_140 jrf_140_17 rfl rfl ?_
                      refine J_aload_n (pc := 208) dX8_part0_208 rfl ?_
                      refine K_callVv (pc := 209) (id := 140) (As := []) dX8_part0_209 kl_X8_215 rfl job_140 rfl rfl (Nat.le_of_ble_eq_true rfl) (m_next2 (m := mup m181 140 17 (nI (S.count (nI 40)))) (t := t) (n := n) (s := s3) (e := e3) ((mup_j (by decide)).trans r1.2.2.2.2.2.2.1) h96 (tkP_c r1.1 (fun j _ _ => mup_j (by omega))) h193.1 (by rw [kd_sg (e := e3) h193.1 (by rw [h193.2]; exact (sg_wB (c := nI 41) (by decide)).2.1) (by rw [h193.2]; exact (sg_wB (c := nI 41) (by decide)).2.2.1)]; decide) (fun j hj => by rw [mup_i' (by decide)]; exact r1.2.2.2.2.2.2.2.1 j hj)) (fun m209 hx3 => ?_)
                      refine J_iconst (pc := 212) dX8_part0_212 kni_1 ?_
                      refine K_zret (pc := 213) dX8_part0_213 rfl rfl ⟨_, rfl, ?_⟩
                      obtain ⟨k1, k2⟩ := RS_cl r1 h193.1 hx3
                      exact rsV_ok ⟨_, _, _, _, by omega, k1, (hv2.trans r2).trans (vd_go r1.1.2.1 h193.1 (lnk_par h193 r3)), pFr_tr (pFr_tr hf2 r4) k2⟩
                    · 
                      refine J_iconst (pc := 196) dX8_part0_196 kni_0 ?_
                      refine K_zret (pc := 197) dX8_part0_197 rfl rfl ⟨_, rfl, ?_⟩
                      exact rsV_no ⟨s3, (hv2.trans r2).trans (par_no r1.1.1 h193 r3 r5), r1.1.2.2.1, pFr_tr hf2 r4⟩
                · 
                  refine J_iconst (pc := 163) dX8_part0_163 kni_0 ?_
                  refine K_zret (pc := 164) dX8_part0_164 rfl rfl ⟨_, rfl, ?_⟩
                  exact rsV_no (fp_no hR (fun hs => pce_none hnm hs (fun z => h5 (hkd.trans z)) (fun z => h56 (by rw [if_pos z.2.1]; exact z.2.2)) (fun z => by omega) (fun z => by omega)))
            · 
              refine J_aload_n (pc := 102) dX8_part0_102 rfl ?_
              refine J_dup (pc := 103) dX8_part0_103 rfl ?_
              refine K_getI (pc := 104) dX8_part0_104 kf_X8_253 job_140 jrf_140_18 ?_
              refine J_top (b := nI (S.count (nI 33))) (hR.2.2.2.1) ?_
              refine J_iconst (pc := 107) dX8_part0_107 kni_1 ?_
              refine J_iaddv (pc := 108) dX8_part0_108 (nI_add _ _) ?_
              refine K_put (pc := 109) dX8_part0_109 kp_X8_253 job_140 jrf_140_18 rfl rfl ?_
              refine J_aload_n (pc := 112) dX8_part0_112 rfl ?_
              refine K_callVv (pc := 113) (id := 140) (As := []) dX8_part0_113 kl_X8_215 rfl job_140 rfl rfl (Nat.le_of_ble_eq_true rfl) (m_next2 (m := mup m 140 18 (nI (S.count (nI 33) + 1))) (t := t) (n := n) (s := s) (e := e) ((mup_j (by decide)).trans hR.2.2.2.2.2.2.1) h96 (tkP_c hR.1 (fun j _ _ => mup_j (by omega))) h90.1 (by rw [kd_sg (e := e) h90.1 (by rw [h90.2]; exact (sg_wB (c := nI 33) (by decide)).2.1) (by rw [h90.2]; exact (sg_wB (c := nI 33) (by decide)).2.2.1)]; decide) (fun j hj => by rw [mup_i' (by decide)]; exact hR.2.2.2.2.2.2.2.1 j hj)) (fun m113 hx => ?_)
              obtain ⟨hR2, hf2⟩ := RS_op hR h90.1 (Or.inl ⟨rfl, rfl⟩) hx
              have htk : tkS t n nm s e (S, C, w, true) = some (nI 33 :: S, C, w, true) := pce_opn h90 (Or.inl rfl) (by rw [List.count_cons_self]; omega) (by rw [cnt_sg (by decide)]; exact hN.1)
              have hv2 := vd_go (g := g) hR.1.2.1 h90.1 htk
              refine J_aload_n (pc := 116) dX8_part0_116 rfl ?_
              refine J_iload_n (pc := 117) dX8_part0_117 rfl ?_
              refine K_callVi (pc := 118) (id := 140) (As := [_]) dX8_part0_118 kl_X8_243 rfl job_140 rfl rfl (Nat.le_of_ble_eq_true rfl) (HP (by omega) m113 _ _ _ _ _ hR2 ⟨by rw [cnt_sg (by decide)]; exact hN.1, by rw [List.count_cons_self]; omega, by rw [cnt_sg (by decide), List.count_cons_self]; omega⟩) (fun v118 m118 h118 => ?_)
              obtain ⟨c118, rfl, f118, y118⟩ := h118
              refine Jp_ne (pc := 121) (tgt := 126) dX8_part0_121 (by decide) (fun h121 => ?_) (fun h121 => ?_)
              · 
                obtain ⟨s3, e3, D3, w3, r0, r1, r2, r3⟩ := y118 h121
                have hlen3 := r1.2.2.2.2.2.2.2.2
                rw [List.length_cons] at hlen3
                have hs3 := r1.1.1
                have e18 : m118 140 18 = nI (S.count (nI 33) + 1) := by rw [r1.2.2.2.1, List.count_cons_self]
                have hl := (ndp_le (t := t) (n := n) (s := s) hsn)
                have hl2 := skp_le (t := t) (n := n) (e := e) (by rw [hR.1.2.1]; exact hl.1)
                have hl3 := hl.2 h90.1
                rw [← hR.1.2.1] at hl3
                refine J_aload_n (pc := 126) dX8_part0_126 rfl ?_
                refine J_dup (pc := 127) dX8_part0_127 rfl ?_
                refine K_getI (pc := 128) dX8_part0_128 kf_X8_253 job_140 jrf_140_18 ?_
                refine J_top (b := nI (S.count (nI 33) + 1)) (e18) ?_
                refine J_iconst (pc := 131) dX8_part0_131 kni_1 ?_
                refine J_isubv (pc := 132) dX8_part0_132 (pk_sub (by omega)) ?_
                refine J_top (b := nI (S.count (nI 33))) (rfl) ?_
                refine K_put (pc := 133) dX8_part0_133 kp_X8_253 job_140 jrf_140_18 rfl rfl ?_
                refine J_aload_n (pc := 136) dX8_part0_136 rfl ?_
                refine J_iconst (pc := 137) dX8_part0_137 kni_2 ?_
                refine J_bipush (pc := 138) dX8_part0_138 knb_33 ?_
                refine K_callVv (pc := 140) (id := 140) (As := [_, _]) dX8_part0_140 kl_X8_230 rfl job_140 rfl rfl (Nat.le_of_ble_eq_true rfl) (m_step (m := mup m118 140 18 (nI (S.count (nI 33)))) (A := A) (L := D3.length) ((mup_j (by decide)).trans r1.2.2.2.2.1) ((mup_j (by decide)).trans r1.2.1.1) (by omega) _ _) (fun m140 h140 => ?_)
                subst h140
                refine J_iconst (pc := 143) dX8_part0_143 kni_1 ?_
                refine K_zret (pc := 144) dX8_part0_144 rfl rfl ⟨_, rfl, ?_⟩
                refine rsV_ok ⟨s3, e3, -33 :: D3, w3, by omega, RS_nt r1, ?_, pFr_st (pFr_140 (pFr_tr hf2 r3) (by omega)) (by omega)⟩
                have ee : enp (nI 33 :: S) D3 = enp S (-33 :: D3) := by rw [enp, if_pos rfl]
                rw [← ee]
                exact hv2.trans r2
              · 
                refine J_iconst (pc := 124) dX8_part0_124 kni_0 ?_
                refine K_zret (pc := 125) dX8_part0_125 rfl rfl ⟨_, rfl, ?_⟩
                obtain ⟨p, q1, q2, q3⟩ := f118 h121
                exact rsV_no ⟨p, hv2.trans q1, q2, pFr_tr hf2 q3⟩
        · 
          have he1 : e - s = 1 := Classical.byContradiction fun z => h45 (if_neg z)
          have hlt : (if e - s = 1 then t s else nI 0) = t s := if_pos he1
          have hnm1 : isNm key (t s) := hlt ▸ h56
          have hk1 : kdT t n s e = 1 := hkd.symm.trans h38
          have hs : s < n := (kd_1.mp hk1).1
          refine J_aload_n (pc := 59) dX8_part0_59 rfl ?_
          refine J_iconst (pc := 60) dX8_part0_60 kni_1 ?_
          refine J_aload_n (pc := 61) dX8_part0_61 rfl ?_
          refine K_getI (pc := 62) dX8_part0_62 kf_X8_202 job_140 jrf_140_16 ?_
          refine J_top (b := (t s)) ((hR.1.2.2.2.2.2.2.1 (hkd.symm.trans h38)).trans hlt) ?_
          refine K_callVv (pc := 65) (id := 140) (As := [_, _]) dX8_part0_65 kl_X8_230 rfl job_140 rfl rfl (Nat.le_of_ble_eq_true rfl) (m_step (m := m) (A := A) (L := C.length) hR.2.2.2.2.1 hR.2.1.1 (by omega) _ _) (fun m65 h65 => ?_)
          subst h65
          refine J_aload_n (pc := 68) dX8_part0_68 rfl ?_
          refine J_dup (pc := 69) dX8_part0_69 rfl ?_
          refine K_getI (pc := 70) dX8_part0_70 kf_X8_246 job_140 jrf_140_21 ?_
          refine J_top (b := nI w) (((mup_j (by decide)).trans ((mup_i (by decide)).trans (mup_i (by decide)))).trans hR.2.2.2.2.2.1) ?_
          refine J_iconst (pc := 73) dX8_part0_73 kni_1 ?_
          refine J_iaddv (pc := 74) dX8_part0_74 (nI_add _ _) ?_
          refine K_put (pc := 75) dX8_part0_75 kp_X8_246 job_140 jrf_140_21 rfl rfl ?_
          refine J_aload_n (pc := 78) dX8_part0_78 rfl ?_
          refine K_callVv (pc := 79) (id := 140) (As := []) dX8_part0_79 kl_X8_215 rfl job_140 rfl rfl (Nat.le_of_ble_eq_true rfl) (m_next2 (m := (mup (stpM m A C.length (nI 1) (t s)) 140 21 (nI (w + 1)))) (t := t) (n := n) (s := s) (e := e) (((mup_j (by decide)).trans ((mup_j (by decide)).trans ((mup_i (by decide)).trans (mup_i (by decide))))).trans hR.2.2.2.2.2.2.1) h96 (tkP_c hR.1 (fun j _ _ => (mup_j (by omega)).trans ((mup_j (by omega)).trans ((mup_i (by decide)).trans (mup_i (by decide)))))) hs (by rw [hk1]; decide) (fun j hj => by rw [mup_i' (by decide), show stpM m A C.length _ _ 150 = m 150 from (mup_i' (by decide)).trans ((mup_i' (by decide)).trans (mup_i' (by decide)))]; exact hR.2.2.2.2.2.2.2.1 j hj)) (fun m79 hx => ?_)
          refine J_iconst (pc := 82) dX8_part0_82 kni_1 ?_
          refine K_zret (pc := 83) dX8_part0_83 rfl rfl ⟨_, rfl, ?_⟩
          obtain ⟨r1, r2⟩ := RS_pc h96 hR hs (Or.inr (Or.inl ⟨rfl, hnm1⟩)) hx
          have hl := (ndp_le (t := t) (n := n) (s := s) hsn)
          have hl2 := skp_le (t := t) (n := n) (e := e) (by rw [hR.1.2.1]; exact hl.1)
          have hl3 := hl.2 hs
          rw [← hR.1.2.1] at hl3
          exact rsV_ok ⟨_, _, _, _, by omega, r1, vd_go hR.1.2.1 hs (pce_name hnm hk1 he1 hnm1), r2⟩
  · 
    refine J_aload_n (pc := 8) dX8_part0_8 rfl ?_
    refine J_iconst (pc := 9) dX8_part0_9 kni_0 ?_
    refine J_aload_n (pc := 10) dX8_part0_10 rfl ?_
    refine K_getI (pc := 11) dX8_part0_11 kf_X8_208 job_140 jrf_140_15 ?_
    refine J_top (b := (numV t s (e - s))) (hR.1.2.2.2.2.2.1 (hkd.symm.trans h5)) ?_
    refine K_callVv (pc := 14) (id := 140) (As := [_, _]) dX8_part0_14 kl_X8_230 rfl job_140 rfl rfl (Nat.le_of_ble_eq_true rfl) (m_step (m := m) (A := A) (L := C.length) hR.2.2.2.2.1 hR.2.1.1 (by omega) _ _) (fun m14 h14 => ?_)
    subst h14
    have hk2 : kdT t n s e = 2 := hkd.symm.trans h5
    have hs : s < n := (kd_2.mp hk2).1
    refine J_aload_n (pc := 17) dX8_part0_17 rfl ?_
    refine J_dup (pc := 18) dX8_part0_18 rfl ?_
    refine K_getI (pc := 19) dX8_part0_19 kf_X8_246 job_140 jrf_140_21 ?_
    refine J_top (b := nI w) (((mup_j (by decide)).trans ((mup_i (by decide)).trans (mup_i (by decide)))).trans hR.2.2.2.2.2.1) ?_
    refine J_iconst (pc := 22) dX8_part0_22 kni_1 ?_
    refine J_iaddv (pc := 23) dX8_part0_23 (nI_add _ _) ?_
    refine K_put (pc := 24) dX8_part0_24 kp_X8_246 job_140 jrf_140_21 rfl rfl ?_
    refine J_aload_n (pc := 27) dX8_part0_27 rfl ?_
    refine K_callVv (pc := 28) (id := 140) (As := []) dX8_part0_28 kl_X8_215 rfl job_140 rfl rfl (Nat.le_of_ble_eq_true rfl) (m_next2 (m := (mup (stpM m A C.length (nI 0) (numV t s (e - s))) 140 21 (nI (w + 1)))) (t := t) (n := n) (s := s) (e := e) (((mup_j (by decide)).trans ((mup_j (by decide)).trans ((mup_i (by decide)).trans (mup_i (by decide))))).trans hR.2.2.2.2.2.2.1) h96 (tkP_c hR.1 (fun j _ _ => (mup_j (by omega)).trans ((mup_j (by omega)).trans ((mup_i (by decide)).trans (mup_i (by decide)))))) hs (by rw [hk2]; decide) (fun j hj => by rw [mup_i' (by decide), show stpM m A C.length _ _ 150 = m 150 from (mup_i' (by decide)).trans ((mup_i' (by decide)).trans (mup_i' (by decide)))]; exact hR.2.2.2.2.2.2.2.1 j hj)) (fun m28 hx => ?_)
    refine J_iconst (pc := 31) dX8_part0_31 kni_1 ?_
    refine K_zret (pc := 32) dX8_part0_32 rfl rfl ⟨_, rfl, ?_⟩
    obtain ⟨r1, r2⟩ := RS_pc h96 hR hs (Or.inl ⟨rfl, num_0 hk2 hR.1.2.1⟩) hx
    have hl := (ndp_le (t := t) (n := n) (s := s) hsn)
    have hl2 := skp_le (t := t) (n := n) (e := e) (by rw [hR.1.2.1]; exact hl.1)
    have hl3 := hl.2 hs
    rw [← hR.1.2.1] at hl3
    exact rsV_ok ⟨_, _, _, _, by omega, r1, vd_go hR.1.2.1 hs (pce_num hk2), r2⟩
