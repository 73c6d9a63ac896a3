def lA (T : Nat) : Nat := if T < 14 then 440 + 200 * T + 4 else 3250
theorem lA_le (T : Nat) : lA T + 196 ≤ 3450 ∧ 440 ≤ lA T := by
  unfold lA
  by_cases h : T < 14
  · rw [if_pos h]; omega
  · rw [if_neg h]; omega
noncomputable def prP (t : Nat → Int32) (n T : Nat) (m m' : jm) (v : Int32) : Prop :=
  (∀ i, i ≠ 140 → i ≠ 141 → m' i = m i) ∧ (∀ j, j < 11 ∨ 21 < j → m' 140 j = m 140 j) ∧ m' 140 11 = nI 0 ∧ (∀ j, j < lA T ∨ lA T + 196 ≤ j → m' 141 j = m 141 j) ∧
  ((v < 0 ∧ ∃ p, rdAll t n = (nI p, [], 0, 0) ∧ m' 140 12 = nI p) ∨ (0 ≤ v ∧ ∃ C w, rdAll t n = (-1, C, w, v) ∧ stO v (lA T) C m' ∧ m' 140 21 = nI w ∧ C.length ≤ 96 ∧ (v = nI 6 ∨ ∃ q, q < 6 ∧ v = nI q)))
theorem end_no {t : Nat → Int32} {n nm s e w : Nat} {g : Int32} {O C D : List Int32} (hs : s < n) (h : clo 1 O C = ([], D)) (hno : s < n → 1 ≤ lvl (t s) → tkS t n nm s e (O, C, w, false) = none) : vd t n nm g s e (O, C, w, false) = (nI s, [], 0, 0) := by
  refine vd_no hs ?_
  rcases Nat.eq_zero_or_pos (lvl (t s)) with y | y
  · by_cases z : t s = nI 41
    · unfold tkS
      by_cases g : glP t n s
      · rw [if_pos g]
      · rw [if_neg g, if_neg Bool.false_ne_true]
        unfold lnkS
        have hc := clo_cnt (l := 1) (Nat.le_refl 1) (v := nI 40) (by decide) O C
        rw [h] at hc
        rw [if_pos z, if_pos (show O.count (nI 40) = 0 by rw [← hc]; rfl)]
    · exact tk_lv0 y z
  · exact hno hs y
theorem end_ok {t : Nat → Int32} {n nm s e w : Nat} {g : Int32} {O C D : List Int32} (hs : ¬ s < n) (h : clo 1 O C = ([], D)) : vd t n nm g s e (O, C, w, false) = (-1, D, w, g) := by
  have hc := clo_cnt (l := 1) (Nat.le_refl 1) (v := nI 40) (by decide) O C
  rw [h] at hc
  rw [vd_end hs, if_neg (fun z => z.elim Bool.false_ne_true (fun y => by
    have : 0 < O.count (nI 40) := y
    rw [← hc] at this
    exact absurd this (Nat.lt_irrefl 0))), h]
theorem all_vd {t : Nat → Int32} {n : Nat} (h : (hdS t n).1 = true) (he : (hdS t n).2.2.1 ≤ n) : rdAll t n = vd t n (hdS t n).2.2.2.1 (hdS t n).2.2.2.2 (skp t n (hdS t n).2.2.1) (ndp t n (skp t n (hdS t n).2.2.1)) ([], [], 0, true) := by
  unfold rdAll vd
  rw [if_pos h, rdS_fuel n _ _ _ rfl (skp_le he).2 (by omega)]
theorem all_no {t : Nat → Int32} {n : Nat} (h : (hdS t n).1 = false) : rdAll t n = (nI (hdS t n).2.1, [], 0, 0) := by
  unfold rdAll
  rw [if_neg (by rw [h]; exact Bool.false_ne_true)]
theorem kd_0 {t : Nat → Int32} {n s e : Nat} : kdT t n s e = 0 ↔ ¬ s < n := by
  unfold kdT
  by_cases a : s < n
  · rw [if_pos a]
    by_cases b : lB (t s) = true
    · rw [if_pos b]
      by_cases c : glP t n s
      · rw [if_pos c]; omega
      · rw [if_neg c]; omega
    · rw [if_neg b]
      by_cases c : dB (t s) = true
      · rw [if_pos c]
        by_cases f : glP t n s ∨ 4 < e - s
        · rw [if_pos f]; omega
        · rw [if_neg f]; omega
      · rw [if_neg c]; omega
  · rw [if_neg a]; omega
theorem prP_mk {t : Nat → Int32} {n T : Nat} {m m1 : jm} {v : Int32} (h1 : ∀ i, i ≠ 140 → i ≠ 141 → m1 i = m i) (h2 : ∀ j, j < 11 ∨ 21 < j → m1 140 j = m 140 j) (h3 : ∀ j, j < lA T ∨ lA T + 196 ≤ j → m1 141 j = m 141 j) (h4 : (v < 0 ∧ ∃ p, rdAll t n = (nI p, [], 0, 0) ∧ m1 140 12 = nI p) ∨ (0 ≤ v ∧ ∃ C w, rdAll t n = (-1, C, w, v) ∧ stO v (lA T) C m1 ∧ m1 140 21 = nI w ∧ C.length ≤ 96 ∧ (v = nI 6 ∨ ∃ q, q < 6 ∧ v = nI q))) : prP t n T m (mup m1 140 11 (nI 0)) v :=
  ⟨fun i p q => (mup_i' p).trans (h1 i p q), fun j hj => (mup_j (by omega)).trans (h2 j hj), mup_s, fun j hj => (mup_i (by decide)).trans (h3 j hj), h4.imp (fun z => ⟨z.1, z.2.elim fun p q => ⟨p, q.1, (mup_j (by decide)).trans q.2⟩⟩) (fun z => ⟨z.1, z.2.elim fun C q => q.elim fun w q => ⟨C, w, q.1, stO_c q.2.1 (mup_i' (by decide)) (mup_j (by decide)), (mup_j (by decide)).trans q.2.2.1, q.2.2.2⟩⟩)⟩
set_option maxRecDepth 100000 in
set_option maxHeartbeats 400000 in
theorem m_parse {x : jX} {m : jm} {d : Nat} {n T : Nat} {t : Nat → Int32} (hn : m 140 11 = nI n) (h96 : n ≤ 96) (hb : ∀ j, j < n → bR (m 150 j) (t j)) (hT : m 141 6 = nI T) (hT14 : T ≤ 14) : Ct x (d + 106) eX8_parse [.ref (jxb x + 140)] m (ji fun v m' => prP t n T m m' v) := by
  refine J_start (by decide +kernel) (Nat.le_of_ble_eq_true rfl) (ls := [some (.ref (jxb x + 140)), none, none]) rfl rfl ?_
  refine J_aload_n (pc := 0) dX8_parse_0 rfl ?_
  refine J_iconst (pc := 1) dX8_parse_1 kni_0 ?_
  refine K_put (pc := 2) dX8_parse_2 kp_X8_190 job_140 jrf_140_13 rfl rfl ?_
  refine J_aload_n (pc := 5) dX8_parse_5 rfl ?_
  refine J_iconst (pc := 6) dX8_parse_6 kni_3 ?_
  refine K_put (pc := 7) dX8_parse_7 kp_X8_193 job_140 jrf_140_14 rfl rfl ?_
  refine J_aload_n (pc := 10) dX8_parse_10 rfl ?_
  refine J_iconst (pc := 11) dX8_parse_11 kni_0 ?_
  refine K_put (pc := 12) dX8_parse_12 kp_X8_256 job_140 jrf_140_17 rfl rfl ?_
  refine J_aload_n (pc := 15) dX8_parse_15 rfl ?_
  refine J_iconst (pc := 16) dX8_parse_16 kni_0 ?_
  refine K_put (pc := 17) dX8_parse_17 kp_X8_253 job_140 jrf_140_18 rfl rfl ?_
  refine J_aload_n (pc := 20) dX8_parse_20 rfl ?_
  refine J_iconst (pc := 21) dX8_parse_21 kni_0 ?_
  refine K_put (pc := 22) dX8_parse_22 kp_X8_221 job_140 jrf_140_19 rfl rfl ?_
  refine J_aload_n (pc := 25) dX8_parse_25 rfl ?_
  refine J_iconst (pc := 26) dX8_parse_26 kni_0 ?_
  refine K_put (pc := 27) dX8_parse_27 kp_X8_246 job_140 jrf_140_21 rfl rfl ?_
  refine J_aload_n (pc := 30) dX8_parse_30 rfl ?_
  refine J_aload_n (pc := 31) dX8_parse_31 rfl ?_
  refine K_getR (pc := 32) dX8_parse_32 kf_X8_7 job_140 jrf_140_0 ?_
  refine J_bipush (pc := 35) dX8_parse_35 knb_6 ?_
  refine K_ialdn (pc := 37) (id := 141) dX8_parse_37 jar_141 (by decide) (by decide) ?_
  refine J_top (b := nI T) (by rw [mup_i (by decide), mup_i (by decide), mup_i (by decide), mup_i (by decide), mup_i (by decide), mup_i (by decide)]; exact hT) ?_
  refine J_bipush (pc := 38) dX8_parse_38 knb_14 ?_
  refine K_merge (jc := 62) (ls' := [some (.ref (jxb x + 140)), none, none]) (st' := [.int (nI (lA T)), .ref (jxb x + 140)]) (m' := (mup (mup (mup (mup (mup (mup m 140 13 (nI 0)) 140 14 (nI 3)) 140 17 (nI 0)) 140 18 (nI 0)) 140 19 (nI 0)) 140 21 (nI 0))) ?_ (fun hj62 => ?_)
  ·
    refine K_put (pc := 62) dX8_parse_62 kp_X8_218 job_140 jrf_140_20 rfl rfl ?_
    refine J_aload_n (pc := 65) dX8_parse_65 rfl ?_
    refine K_callVv (pc := 66) (id := 140) (As := []) dX8_parse_66 kl_X8_215 rfl job_140 rfl rfl (Nat.le_of_ble_eq_true rfl) (m_next (m := (mup (mup (mup (mup (mup (mup (mup m 140 13 (nI 0)) 140 14 (nI 3)) 140 17 (nI 0)) 140 18 (nI 0)) 140 19 (nI 0)) 140 21 (nI 0)) 140 20 (nI (lA T)))) (n := n) (e := 0) (kd := 3) (t := t) (by rw [mup_j (by decide), mup_j (by decide), mup_j (by decide), mup_j (by decide), mup_j (by decide), mup_j (by decide), mup_j (by decide)]; exact hn) h96 (by rw [mup_j (by decide), mup_j (by decide), mup_j (by decide), mup_j (by decide), mup_j (by decide), mup_j (by decide)]; exact mup_s) (Nat.zero_le _) (by rw [mup_j (by decide), mup_j (by decide), mup_j (by decide), mup_j (by decide), mup_j (by decide)]; exact mup_s) (by decide) (fun j hj => by rw [mup_i (by decide), mup_i (by decide), mup_i (by decide), mup_i (by decide), mup_i (by decide), mup_i (by decide), mup_i (by decide)]; exact hb j hj) ⟨fun z => absurd z.1 (Nat.lt_irrefl 0), fun z => absurd z.1 (Nat.lt_irrefl 0)⟩) (fun m66 hx => ?_)
    have p12 : ∀ j, j < 11 ∨ 21 < j ∨ j = 11 → m66 140 j = m 140 j := fun j hj => by rw [hx.2.1 j (by omega), mup_j (by omega), mup_j (by omega), mup_j (by omega), mup_j (by omega), mup_j (by omega), mup_j (by omega), mup_j (by omega)]
    have pi : ∀ i, i ≠ 140 → m66 i = m i := fun i hi => by rw [hx.1 i hi, mup_i' hi, mup_i' hi, mup_i' hi, mup_i' hi, mup_i' hi, mup_i' hi, mup_i' hi]
    have q17 : m66 140 17 = nI 0 := by rw [hx.2.1 17 (by omega), mup_j (by decide), mup_j (by decide), mup_j (by decide), mup_j (by decide)]; exact mup_s
    have q18 : m66 140 18 = nI 0 := by rw [hx.2.1 18 (by omega), mup_j (by decide), mup_j (by decide), mup_j (by decide)]; exact mup_s
    have q19 : m66 140 19 = nI 0 := by rw [hx.2.1 19 (by omega), mup_j (by decide), mup_j (by decide)]; exact mup_s
    have q21 : m66 140 21 = nI 0 := by rw [hx.2.1 21 (by omega), mup_j (by decide)]; exact mup_s
    have q20 : m66 140 20 = nI (lA T) := by rw [hx.2.1 20 (by omega)]; exact mup_s
    have hb66 : ∀ j, j < n → bR (m66 150 j) (t j) := fun j hj => by rw [pi 150 (by decide)]; exact hb j hj
    have hn66 : m66 140 11 = nI n := (p12 11 (by omega)).trans hn
    refine J_aload_n (pc := 69) dX8_parse_69 rfl ?_
    refine K_callVi (pc := 70) (id := 140) (As := []) dX8_parse_70 kl_X8_265 rfl job_140 rfl rfl (Nat.le_of_ble_eq_true rfl) (m_key (m := m66) (n := n) (t := t) hn66 h96 (nx_tk (Nat.zero_le _) hx) hb66) (fun v70 m70 h70 => ?_)
    obtain ⟨k1, k2, k3, k4, k5⟩ := h70
    have b12 : ∀ j, j < 12 ∨ 16 < j → m70 140 j = m66 140 j := k2
    have bi : ∀ i, i ≠ 140 → m70 i = m i := fun i hi => (k1 i hi).trans (pi i hi)
    have hin := hd_in (t := t) (n := n)
    refine J_istore_n (pc := 73) (ls' := [some _, some _, none]) dX8_parse_73 rfl (Nat.le_of_ble_eq_true rfl) rfl ?_
    refine J_iload_n (pc := 74) dX8_parse_74 rfl ?_
    refine J_if_lt (pc := 75) (tgt := 82) dX8_parse_75 (by decide) (fun h75 => ?_) (fun h75 => ?_)
    · 
      refine J_iconst (pc := 82) dX8_parse_82 kni_0 ?_
      refine J_istore_n (pc := 83) (ls' := [some _, some _, some _]) dX8_parse_83 rfl (Nat.le_of_ble_eq_true rfl) rfl ?_
      refine J_iload_n (pc := 84) dX8_parse_84 rfl ?_
      refine Jn_if_eq (pc := 85) (tgt := 113) dX8_parse_85 (by decide) (by omega) (fun h85 => ?_) (fun h85 => absurd h85 (by omega))
      refine J_aload_n (pc := 113) dX8_parse_113 rfl ?_
      refine J_iconst (pc := 114) dX8_parse_114 kni_0 ?_
      refine K_put (pc := 115) dX8_parse_115 kp_X8_180 job_140 jrf_140_11 rfl rfl ?_
      refine J_iload_n (pc := 118) dX8_parse_118 rfl ?_
      refine Jn_if_eq (pc := 119) (tgt := 126) dX8_parse_119 (by decide) (by omega) (fun h119 => ?_) (fun h119 => absurd h119 (by omega))
      refine J_iconst (pc := 126) dX8_parse_126 kni_m1 ?_
      refine K_iret (pc := 127) dX8_parse_127 rfl ⟨_, rfl, ?_⟩
      have hz0 : (hdS t n).1 = false := by
        cases z : (hdS t n).1 with
        | false => rfl
        | true => exact absurd h75 (Int32.not_lt.mpr (k4 z).2.1)
      exact prP_mk (fun i p q => bi i p) (fun j hj => (b12 j (by omega)).trans (p12 j (by omega))) (fun j _ => congrFun (bi 141 (by decide)) j) (Or.inl ⟨by decide, _, all_no hz0, k3⟩)
    · 
      refine J_iconst (pc := 78) dX8_parse_78 kni_1 ?_
      refine J_goto (pc := 79) (tgt := 83) dX8_parse_79 (by decide) ?_
      refine J_istore_n (pc := 83) (ls' := [some _, some _, some _]) dX8_parse_83 rfl (Nat.le_of_ble_eq_true rfl) rfl ?_
      refine J_iload_n (pc := 84) dX8_parse_84 rfl ?_
      refine Jn_if_eq (pc := 85) (tgt := 113) dX8_parse_85 (by decide) (by omega) (fun h85 => absurd h85 (by omega)) (fun h85 => ?_)
      have hz1 : (hdS t n).1 = true := by
        cases z : (hdS t n).1 with
        | true => rfl
        | false => rw [k5 z] at h75; exact absurd (by decide) h75
      obtain ⟨y1, y2, y3, y4, y5, y6, y7⟩ := k4 hz1
      refine J_aload_n (pc := 88) dX8_parse_88 rfl ?_
      refine K_callVv (pc := 89) (id := 140) (As := []) dX8_parse_89 kl_X8_215 rfl job_140 rfl rfl (Nat.le_of_ble_eq_true rfl) (m_next2 (m := m70) (t := t) (n := n) (s := (hdS t n).2.1) (e := (hdS t n).2.2.1) ((b12 11 (by omega)).trans hn66) h96 y3 y4 y5 (fun j hj => by rw [bi 150 (by decide)]; exact hb j hj)) (fun m89 hx2 => ?_)
      have hsk := skp_le (t := t) (n := n) (e := (hdS t n).2.2.1) hin.2.1
      have hRS : RS v70 (lA T) t n (skp t n (hdS t n).2.2.1) (ndp t n (skp t n (hdS t n).2.2.1)) [] [] 0 m89 :=
        ⟨nx_tk hin.2.1 hx2, ⟨by rw [hx2.2.1 19 (by omega), b12 19 (by omega)]; exact q19, fun j hj => absurd hj (Nat.not_lt_zero j)⟩, by rw [hx2.2.1 17 (by omega), b12 17 (by omega)]; exact q17, by rw [hx2.2.1 18 (by omega), b12 18 (by omega)]; exact q18, by rw [hx2.2.1 20 (by omega), b12 20 (by omega)]; exact q20, by rw [hx2.2.1 21 (by omega), b12 21 (by omega)]; exact q21, by rw [hx2.2.1 11 (by omega), b12 11 (by omega)]; exact hn66, fun j hj => by rw [hx2.1 150 (by decide), bi 150 (by decide)]; exact hb j hj, Nat.zero_le _⟩
      have hal := all_vd hz1 hin.2.1
      rw [← y1] at hal
      have f140 : ∀ j, j < 11 ∨ 21 < j → m89 140 j = m 140 j := fun j hj => by rw [hx2.2.1 j (by omega), b12 j (by omega)]; exact p12 j (by omega)
      have fi : ∀ i, i ≠ 140 → m89 i = m i := fun i hi => (hx2.1 i hi).trans (bi i hi)
      refine J_aload_n (pc := 92) dX8_parse_92 rfl ?_
      refine J_iload_n (pc := 93) dX8_parse_93 rfl ?_
      refine K_callVi (pc := 94) (id := 140) (As := [_]) dX8_parse_94 kl_X8_259 rfl job_140 rfl rfl (Nat.le_of_ble_eq_true rfl) ((Pt_all (x := x) (g := v70) (nm := (hdS t n).2.2.2.1) h96 (lA_le T).1 y6 16 d).2 m89 _ _ _ _ _ hRS (fun u hu => by cases hu) ⟨by decide, by decide, by decide⟩) (fun v94 m94 h94 => ?_)
      obtain ⟨c94, rfl, f94, y94⟩ := h94
      refine Jp_eq (pc := 97) (tgt := 111) dX8_parse_97 (by decide) (fun h97 => ?_) (fun h97 => ?_)
      · 
        refine J_iconst (pc := 111) dX8_parse_111 kni_0 ?_
        refine J_istore_n (pc := 112) (ls' := [some _, some _, some _]) dX8_parse_112 rfl (Nat.le_of_ble_eq_true rfl) rfl ?_
        refine J_aload_n (pc := 113) dX8_parse_113 rfl ?_
        refine J_iconst (pc := 114) dX8_parse_114 kni_0 ?_
        refine K_put (pc := 115) dX8_parse_115 kp_X8_180 job_140 jrf_140_11 rfl rfl ?_
        refine J_iload_n (pc := 118) dX8_parse_118 rfl ?_
        refine Jn_if_eq (pc := 119) (tgt := 126) dX8_parse_119 (by decide) (by omega) (fun h119 => ?_) (fun h119 => absurd h119 (by omega))
        refine J_iconst (pc := 126) dX8_parse_126 kni_m1 ?_
        refine K_iret (pc := 127) dX8_parse_127 rfl ⟨_, rfl, ?_⟩
        obtain ⟨p, r1, r2, r3⟩ := f94 h97
        exact prP_mk (fun i p q => (r3.1 i p q).trans (fi i p)) (fun j hj => (r3.2.1 j (by omega)).trans (f140 j hj)) (fun j hj => (r3.2.2 j hj).trans (congrFun (fi 141 (by decide)) j)) (Or.inl ⟨by decide, p, hal.trans r1, r2⟩)
      · 
        obtain ⟨s3, e3, O3, C3, D3, w3, r0, r1, r2, r3, r4, r5⟩ := y94 h97
        have hk4 := kdT_4 t n s3 e3
        refine J_aload_n (pc := 100) dX8_parse_100 rfl ?_
        refine K_getI (pc := 101) dX8_parse_101 kf_X8_193 job_140 jrf_140_14 ?_
        refine J_top (b := nI (kdT t n s3 e3)) (r1.1.2.2.2.2.1) ?_
        refine Jn_if_ne (pc := 104) (tgt := 111) dX8_parse_104 (by decide) (by omega) (fun h104 => ?_) (fun h104 => ?_)
        · 
          refine J_iconst (pc := 111) dX8_parse_111 kni_0 ?_
          refine J_istore_n (pc := 112) (ls' := [some _, some _, some _]) dX8_parse_112 rfl (Nat.le_of_ble_eq_true rfl) rfl ?_
          refine J_aload_n (pc := 113) dX8_parse_113 rfl ?_
          refine J_iconst (pc := 114) dX8_parse_114 kni_0 ?_
          refine K_put (pc := 115) dX8_parse_115 kp_X8_180 job_140 jrf_140_11 rfl rfl ?_
          refine J_iload_n (pc := 118) dX8_parse_118 rfl ?_
          refine Jn_if_eq (pc := 119) (tgt := 126) dX8_parse_119 (by decide) (by omega) (fun h119 => ?_) (fun h119 => absurd h119 (by omega))
          refine J_iconst (pc := 126) dX8_parse_126 kni_m1 ?_
          refine K_iret (pc := 127) dX8_parse_127 rfl ⟨_, rfl, ?_⟩
          have hs3 : s3 < n := Classical.byContradiction fun z => h104 (kd_0.mpr z)
          exact prP_mk (fun i p q => (r4.1 i p q).trans (fi i p)) (fun j hj => (r4.2.1 j (by omega)).trans (f140 j hj)) (fun j hj => (r4.2.2 j hj).trans (congrFun (fi 141 (by decide)) j)) (Or.inl ⟨by decide, s3, (hal.trans r2).trans (end_no hs3 r3 r5), r1.1.2.2.1⟩)
        · 
          refine J_iconst (pc := 107) dX8_parse_107 kni_1 ?_
          refine J_goto (pc := 108) (tgt := 112) dX8_parse_108 (by decide) ?_
          refine J_istore_n (pc := 112) (ls' := [some _, some _, some _]) dX8_parse_112 rfl (Nat.le_of_ble_eq_true rfl) rfl ?_
          refine J_aload_n (pc := 113) dX8_parse_113 rfl ?_
          refine J_iconst (pc := 114) dX8_parse_114 kni_0 ?_
          refine K_put (pc := 115) dX8_parse_115 kp_X8_180 job_140 jrf_140_11 rfl rfl ?_
          refine J_iload_n (pc := 118) dX8_parse_118 rfl ?_
          refine Jn_if_eq (pc := 119) (tgt := 126) dX8_parse_119 (by decide) (by omega) (fun h119 => absurd h119 (by omega)) (fun h119 => ?_)
          refine J_iload_n (pc := 122) dX8_parse_122 rfl ?_
          refine J_goto (pc := 123) (tgt := 127) dX8_parse_123 (by decide) ?_
          refine K_iret (pc := 127) dX8_parse_127 rfl ⟨_, rfl, ?_⟩
          have hl3 := r1.2.2.2.2.2.2.2.2
          have hs3 := r1.1.1
          exact prP_mk (fun i p q => (r4.1 i p q).trans (fi i p)) (fun j hj => (r4.2.1 j (by omega)).trans (f140 j hj)) (fun j hj => (r4.2.2 j hj).trans (congrFun (fi 141 (by decide)) j)) (Or.inr ⟨Int32.not_lt.mp h75, D3, w3, (hal.trans r2).trans (end_ok (kd_0.mp h104) r3), r1.2.1, r1.2.2.2.2.2.1, by omega, y7⟩)
  ·
    refine Jn_ge (pc := 40) (tgt := 59) dX8_parse_40 (by decide) (by omega) (by omega) (fun h40 => ?_) (fun h40 => ?_)
    · 
      refine J_sipush (pc := 59) dX8_parse_59 kns_3250 ?_
      have e62 : lA T = 3250 := if_neg (by omega)
      rw [e62] at hj62
      exact hj62
    · 
      refine J_aload_n (pc := 43) dX8_parse_43 rfl ?_
      refine J_aload_n (pc := 44) dX8_parse_44 rfl ?_
      refine K_getR (pc := 45) dX8_parse_45 kf_X8_7 job_140 jrf_140_0 ?_
      refine J_bipush (pc := 48) dX8_parse_48 knb_6 ?_
      refine K_ialdn (pc := 50) (id := 141) dX8_parse_50 jar_141 (by decide) (by decide) ?_
      refine J_top (b := nI T) (by rw [mup_i (by decide), mup_i (by decide), mup_i (by decide), mup_i (by decide), mup_i (by decide), mup_i (by decide)]; exact hT) ?_
      refine K_callVp (pc := 51) (id := 140) (As := [_]) dX8_parse_51 kl_X8_262 rfl job_140 rfl rfl (Nat.le_of_ble_eq_true rfl) (m_textAt (m := (mup (mup (mup (mup (mup (mup m 140 13 (nI 0)) 140 14 (nI 3)) 140 17 (nI 0)) 140 18 (nI 0)) 140 19 (nI 0)) 140 21 (nI 0))) (t := T)) ?_
      refine J_iconst (pc := 54) dX8_parse_54 kni_4 ?_
      refine J_iaddv (pc := 55) dX8_parse_55 (nI_add _ _) ?_
      refine J_goto (pc := 56) (tgt := 62) dX8_parse_56 (by decide) ?_
      have e62 : lA T = 440 + 200 * T + 4 := if_pos h40
      rw [e62] at hj62
      exact hj62
/-- a text kept -/
def txR (m : jm) (T : Nat) (v tick : Int32) : jm := mup (mup (mup (mup (mup (mup m 141 (440 + 200 * T) v) 141 (440 + 200 * T + 1) tick) 141 (440 + 200 * T + 2) (m 140 21)) 141 (440 + 200 * T + 3) (m 140 19)) 141 6 (nI (T + 1))) 140 33 (nI 0)
noncomputable def tdP (t : Nat → Int32) (n T : Nat) (tick : Int32) (m m' : jm) (rv : Int32) : Prop := ∃ m1 v, prP t n T m m1 v ∧
  ((¬ (nI 0 ≤ tick ∧ tick ≤ nI 9999) ∧ rv = -1000000001 ∧ m' = m1) ∨ ((nI 0 ≤ tick ∧ tick ≤ nI 9999) ∧ v < 0 ∧ rv = (-100) - m1 140 12 ∧ m' = m1) ∨ ((nI 0 ≤ tick ∧ tick ≤ nI 9999) ∧ 0 ≤ v ∧ T = 14 ∧ rv = -1000000003 ∧ m' = m1) ∨ ((nI 0 ≤ tick ∧ tick ≤ nI 9999) ∧ 0 ≤ v ∧ T < 14 ∧ rv = nI T ∧ m' = txR m1 T v tick))
set_option maxRecDepth 100000 in
set_option maxHeartbeats 400000 in
theorem m_text {x : jX} {m : jm} {d : Nat} {n T : Nat} {t : Nat → Int32} (tick : Int32) (hn : m 140 11 = nI n) (h96 : n ≤ 96) (hb : ∀ j, j < n → bR (m 150 j) (t j)) (hT : m 141 6 = nI T) (hT14 : T ≤ 14) : Ct x (d + 107) eX8_text [.ref (jxb x + 140), .int tick] m (ji fun rv m' => tdP t n T tick m m' rv) := by
  refine J_start (by decide +kernel) (Nat.le_of_ble_eq_true rfl) (ls := [some (.ref (jxb x + 140)), some (.int tick), none, none, none]) rfl rfl ?_
  refine J_iload_n (pc := 0) dX8_text_0 rfl ?_
  refine J_i2l (pc := 1) dX8_text_1 ?_
  refine J_lconst (pc := 2) (v := 0) dX8_text_2 rfl ?_
  refine J_ldc2 (pc := 3) dX8_text_3 kg_X8_268 ?_
  refine K_callSp (pc := 6) (As := [_, _, _]) dX8_text_6 kl_X8_71 rfl rfl (Nat.le_of_ble_eq_true rfl) (m_in32 (v := tick) (a := nI 0) (b := nI 9999) (by decide) (by decide)) ?_
  refine J_istore_n (pc := 9) (ls' := [some _, some _, some _, none, none]) dX8_text_9 rfl (Nat.le_of_ble_eq_true rfl) rfl ?_
  refine J_aload_n (pc := 10) dX8_text_10 rfl ?_
  refine K_callVi (pc := 11) (id := 140) (As := []) dX8_text_11 kl_X8_270 rfl job_140 rfl rfl (Nat.le_of_ble_eq_true rfl) (m_parse (m := m) hn h96 hb hT hT14) (fun v11 m11 h11 => ?_)
  have e6 : m11 141 6 = nI T := by
    rw [h11.2.2.2.1 6 (by have := (lA_le T).2; omega)]
    exact hT
  refine J_istore_n (pc := 14) (ls' := [some _, some _, some _, some _, none]) dX8_text_14 rfl (Nat.le_of_ble_eq_true rfl) rfl ?_
  refine J_iload_n (pc := 15) dX8_text_15 rfl ?_
  refine Jb_ne (pc := 16) (tgt := 22) dX8_text_16 (by decide) (fun h16 => ?_) (fun h16 => ?_)
  · 
    refine J_iload_n (pc := 22) dX8_text_22 rfl ?_
    refine J_if_ge (pc := 23) (tgt := 34) dX8_text_23 (by decide) (fun h23 => ?_) (fun h23 => ?_)
    · 
      refine J_aload_n (pc := 34) dX8_text_34 rfl ?_
      refine K_getR (pc := 35) dX8_text_35 kf_X8_7 job_140 jrf_140_0 ?_
      refine J_bipush (pc := 38) dX8_text_38 knb_6 ?_
      refine K_ialdn (pc := 40) (id := 141) dX8_text_40 jar_141 (by decide) (by decide) ?_
      refine J_top (b := nI T) (e6) ?_
      refine J_bipush (pc := 41) dX8_text_41 knb_14 ?_
      refine Jn_ne (pc := 43) (tgt := 49) dX8_text_43 (by decide) (by omega) (by omega) (fun h43 => ?_) (fun h43 => ?_)
      · 
        refine J_aload_n (pc := 49) dX8_text_49 rfl ?_
        refine J_aload_n (pc := 50) dX8_text_50 rfl ?_
        refine K_getR (pc := 51) dX8_text_51 kf_X8_7 job_140 jrf_140_0 ?_
        refine J_bipush (pc := 54) dX8_text_54 knb_6 ?_
        refine K_ialdn (pc := 56) (id := 141) dX8_text_56 jar_141 (by decide) (by decide) ?_
        refine J_top (b := nI T) (e6) ?_
        refine K_callVp (pc := 57) (id := 140) (As := [_]) dX8_text_57 kl_X8_262 rfl job_140 rfl rfl (Nat.le_of_ble_eq_true rfl) (m_textAt (m := m11) (t := T)) ?_
        refine J_istore (pc := 60) (ls' := [some _, some _, some _, some _, some _]) dX8_text_60 rfl (Nat.le_of_ble_eq_true rfl) rfl ?_
        refine J_aload_n (pc := 62) dX8_text_62 rfl ?_
        refine K_getR (pc := 63) dX8_text_63 kf_X8_7 job_140 jrf_140_0 ?_
        refine J_iload (pc := 66) dX8_text_66 rfl ?_
        refine J_iconst (pc := 68) dX8_text_68 kni_0 ?_
        refine J_iaddv (pc := 69) dX8_text_69 (nI_add _ _) ?_
        refine J_iload_n (pc := 70) dX8_text_70 rfl ?_
        refine K_iastn (pc := 71) (id := 141) dX8_text_71 jar_141 (by omega) (by decide) ?_
        refine J_aload_n (pc := 72) dX8_text_72 rfl ?_
        refine K_getR (pc := 73) dX8_text_73 kf_X8_7 job_140 jrf_140_0 ?_
        refine J_iload (pc := 76) dX8_text_76 rfl ?_
        refine J_iconst (pc := 78) dX8_text_78 kni_1 ?_
        refine J_iaddv (pc := 79) dX8_text_79 (nI_add _ _) ?_
        refine J_iload_n (pc := 80) dX8_text_80 rfl ?_
        refine K_iastn (pc := 81) (id := 141) dX8_text_81 jar_141 (by omega) (by decide) ?_
        refine J_aload_n (pc := 82) dX8_text_82 rfl ?_
        refine K_getR (pc := 83) dX8_text_83 kf_X8_7 job_140 jrf_140_0 ?_
        refine J_iload (pc := 86) dX8_text_86 rfl ?_
        refine J_iconst (pc := 88) dX8_text_88 kni_2 ?_
        refine J_iaddv (pc := 89) dX8_text_89 (nI_add _ _) ?_
        refine J_aload_n (pc := 90) dX8_text_90 rfl ?_
        refine K_getI (pc := 91) dX8_text_91 kf_X8_246 job_140 jrf_140_21 ?_
        refine J_top (b := (m11 140 21)) ((mup_i (by decide)).trans (mup_i (by decide))) ?_
        refine K_iastn (pc := 94) (id := 141) dX8_text_94 jar_141 (by omega) (by decide) ?_
        refine J_aload_n (pc := 95) dX8_text_95 rfl ?_
        refine K_getR (pc := 96) dX8_text_96 kf_X8_7 job_140 jrf_140_0 ?_
        refine J_iload (pc := 99) dX8_text_99 rfl ?_
        refine J_iconst (pc := 101) dX8_text_101 kni_3 ?_
        refine J_iaddv (pc := 102) dX8_text_102 (nI_add _ _) ?_
        refine J_aload_n (pc := 103) dX8_text_103 rfl ?_
        refine K_getI (pc := 104) dX8_text_104 kf_X8_221 job_140 jrf_140_19 ?_
        refine J_top (b := (m11 140 19)) ((mup_i (by decide)).trans ((mup_i (by decide)).trans (mup_i (by decide)))) ?_
        refine K_iastn (pc := 107) (id := 141) dX8_text_107 jar_141 (by omega) (by decide) ?_
        refine J_aload_n (pc := 108) dX8_text_108 rfl ?_
        refine K_getR (pc := 109) dX8_text_109 kf_X8_7 job_140 jrf_140_0 ?_
        refine J_bipush (pc := 112) dX8_text_112 knb_6 ?_
        refine J_dup2 (pc := 114) dX8_text_114 rfl rfl ?_
        refine K_ialdn (pc := 115) (id := 141) dX8_text_115 jar_141 (by decide) (by decide) ?_
        refine J_top (b := nI T) (by rw [mup_j (by omega), mup_j (by omega), mup_j (by omega), mup_j (by omega)]; exact e6) ?_
        refine J_iconst (pc := 116) dX8_text_116 kni_1 ?_
        refine J_iaddv (pc := 117) dX8_text_117 (nI_add _ _) ?_
        refine K_iastn (pc := 118) (id := 141) dX8_text_118 jar_141 (by decide) (by decide) ?_
        refine J_aload_n (pc := 119) dX8_text_119 rfl ?_
        refine J_iconst (pc := 120) dX8_text_120 kni_0 ?_
        refine K_put (pc := 121) dX8_text_121 kp_X8_67 job_140 jrf_140_33 rfl rfl ?_
        refine J_aload_n (pc := 124) dX8_text_124 rfl ?_
        refine K_getR (pc := 125) dX8_text_125 kf_X8_7 job_140 jrf_140_0 ?_
        refine J_bipush (pc := 128) dX8_text_128 knb_6 ?_
        refine K_ialdn (pc := 130) (id := 141) dX8_text_130 jar_141 (by decide) (by decide) ?_
        refine J_top (b := nI (T + 1)) (by rw [mup_i (by decide), mup_s]) ?_
        refine J_iconst (pc := 131) dX8_text_131 kni_1 ?_
        refine J_isubv (pc := 132) dX8_text_132 (pk_sub (by omega)) ?_
        refine J_top (b := nI T) (rfl) ?_
        refine K_iret (pc := 133) dX8_text_133 rfl ⟨_, rfl, ?_⟩
        exact ⟨m11, v11, h11, Or.inr (Or.inr (Or.inr ⟨h16, h23, by omega, rfl, rfl⟩))⟩
      · 
        refine J_ldc (pc := 46) dX8_text_46 kc_X8_96 ?_
        refine K_iret (pc := 48) dX8_text_48 rfl ⟨_, rfl, ?_⟩
        exact ⟨m11, v11, h11, Or.inr (Or.inr (Or.inl ⟨h16, h23, h43, rfl, rfl⟩))⟩
    · 
      refine J_bipush (pc := 26) dX8_text_26 knb_m100 ?_
      refine J_aload_n (pc := 28) dX8_text_28 rfl ?_
      refine K_getI (pc := 29) dX8_text_29 kf_X8_196 job_140 jrf_140_12 ?_
      refine J_isub (pc := 32) dX8_text_32 ?_
      refine K_iret (pc := 33) dX8_text_33 rfl ⟨_, rfl, ?_⟩
      exact ⟨m11, v11, h11, Or.inr (Or.inl ⟨h16, Int32.not_le.mp h23, rfl, rfl⟩)⟩
  · 
    refine J_ldc (pc := 19) dX8_text_19 kc_X8_91 ?_
    refine K_iret (pc := 21) dX8_text_21 rfl ⟨_, rfl, ?_⟩
    exact ⟨m11, v11, h11, Or.inl ⟨h16, rfl, rfl⟩⟩
