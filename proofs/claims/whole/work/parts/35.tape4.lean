/-- how loosely a sign holds together -/
def lvl (s : Int32) : Nat := if s = nI 38 then 2 else if s = nI 42 then 5 else if s = nI 43 then 4 else if s = nI 45 then 4 else if s = nI 47 then 5 else if s = nI 60 then 3 else if s = nI 61 then 3 else if s = nI 62 then 3 else if s = nI 124 then 1 else 0
theorem lvl_5 (s : Int32) : lvl s ≤ 5 := by unfold lvl; (repeat' split) <;> omega
theorem lvl_no {s : Int32} (h : 1 ≤ lvl s) : s ≠ nI 33 ∧ s ≠ nI 40 := by
  constructor <;> (rintro rfl; exact absurd h (by decide))
/-- the tape's state: open signs and code laid, the last first -/
def TS (O C : List Int32) (m : jm) : Prop := m 70 10 = nI O.length ∧ stkR O O.length (m 73) ∧ m 70 7 = nI C.length ∧ stkR C C.length (m 72) ∧ m 70 12 = nI (O.count (nI 33)) ∧ m 70 11 = nI (O.count (nI 40))
def tFr (m m' : jm) : Prop := (∀ i, i ≠ 70 → i ≠ 72 → i ≠ 73 → m' i = m i) ∧ ∀ j, j < 7 → m' 70 j = m 70 j
theorem tFr_rf (m : jm) : tFr m m := ⟨fun _ _ _ _ => rfl, fun _ _ => rfl⟩
theorem tFr_tr {a b c : jm} (h1 : tFr a b) (h2 : tFr b c) : tFr a c := ⟨fun i p q r => (h2.1 i p q r).trans (h1.1 i p q r), fun j p => (h2.2 j p).trans (h1.2 j p)⟩
theorem tFr_70 {m m' : jm} (h : tFr m m') {k : Nat} {v : Int32} (hk : 7 ≤ k) : tFr m (mup m' 70 k v) := ⟨fun i p q r => (mup_i' p).trans (h.1 i p q r), fun j p => (mup_j (by omega)).trans (h.2 j p)⟩
theorem tFr_72 {m m' : jm} (h : tFr m m') {k : Nat} {v : Int32} : tFr m (mup m' 72 k v) := ⟨fun i p q r => (mup_i' q).trans (h.1 i p q r), fun j p => (mup_i (by decide)).trans (h.2 j p)⟩
theorem tFr_73 {m m' : jm} (h : tFr m m') {k : Nat} {v : Int32} : tFr m (mup m' 73 k v) := ⟨fun i p q r => (mup_i' r).trans (h.1 i p q r), fun j p => (mup_i (by decide)).trans (h.2 j p)⟩
theorem stk_top' {O : List Int32} {v : Int32} {t : List Int32} {f : Nat → Int32} (hO : O = v :: t) (h : stkR O O.length f) : 1 ≤ O.length ∧ f (O.length - 1) = v ∧ stkR t t.length f ∧ t.length = O.length - 1 := by
  subst hO
  obtain ⟨h1, h2, h3⟩ := stk_top (L := []) h
  exact ⟨h1, h2, h3, rfl⟩
def clo (l : Nat) : List Int32 → List Int32 → List Int32 × List Int32
  | [], C => ([], C)
  | s :: O, C => if l ≤ lvl s then clo l O (-s :: C) else (s :: O, C)
def enp : List Int32 → List Int32 → List Int32 × List Int32
  | [], C => ([], C)
  | s :: O, C => if s = nI 33 then enp O (-33 :: C) else (s :: O, C)
theorem clo_len (l : Nat) : ∀ O C, (clo l O C).1.length + (clo l O C).2.length = O.length + C.length
  | [], C => rfl
  | s :: O, C => by
    unfold clo
    by_cases h : l ≤ lvl s
    · rw [if_pos h, clo_len l O, List.length_cons, List.length_cons]; omega
    · rw [if_neg h]
theorem enp_len : ∀ O C, (enp O C).1.length + (enp O C).2.length = O.length + C.length
  | [], C => rfl
  | s :: O, C => by
    unfold enp
    by_cases h : s = nI 33
    · rw [if_pos h, enp_len O, List.length_cons, List.length_cons]; omega
    · rw [if_neg h]
theorem TS_pop {O C t : List Int32} {v w : Int32} {mm : jm} (h : TS O C mm) (hO : O = v :: t) (h1 : v ≠ nI 33) (h2 : v ≠ nI 40) : TS t (w :: C) (mup (mup (mup mm 70 10 (nI (O.length - 1))) 70 7 (nI (C.length + 1))) 72 C.length w) := by
  obtain ⟨a1, a2, a3, a4, a5, a6⟩ := h
  obtain ⟨b1, b2, b3, b4⟩ := stk_top' hO a2
  refine ⟨?_, ?_, ?_, ?_, ?_, ?_⟩
  · rw [mup_i (by decide), mup_j (by decide), mup_s, b4]
  · exact stk_f b3 (fun j _ => by rw [mup_i (by decide), mup_i (by decide), mup_i (by decide)])
  · rw [mup_i (by decide), mup_s, List.length_cons]
  · exact stk_push (c := 72) (stk_f a4 (fun j _ => by rw [mup_i (by decide), mup_i (by decide)])) w
  · rw [mup_i (by decide), mup_j (by decide), mup_j (by decide), a5, hO, List.count_cons_of_ne h1]
  · rw [mup_i (by decide), mup_j (by decide), mup_j (by decide), a6, hO, List.count_cons_of_ne h2]
theorem TS_not {O C t : List Int32} {v : Int32} {mm : jm} (h : TS O C mm) (hO : O = v :: t) (h1 : v = nI 33) : TS t (-33 :: C) (mup (mup (mup (mup mm 70 10 (nI (O.length - 1))) 70 12 (nI (O.count (nI 33) - 1))) 70 7 (nI (C.length + 1))) 72 C.length (-33)) := by
  obtain ⟨a1, a2, a3, a4, a5, a6⟩ := h
  obtain ⟨b1, b2, b3, b4⟩ := stk_top' hO a2
  refine ⟨?_, ?_, ?_, ?_, ?_, ?_⟩
  · rw [mup_i (by decide), mup_j (by decide), mup_j (by decide), mup_s, b4]
  · exact stk_f b3 (fun j _ => by rw [mup_i (by decide), mup_i (by decide), mup_i (by decide), mup_i (by decide)])
  · rw [mup_i (by decide), mup_s, List.length_cons]
  · exact stk_push (c := 72) (stk_f a4 (fun j _ => by rw [mup_i (by decide), mup_i (by decide), mup_i (by decide)])) _
  · rw [mup_i (by decide), mup_j (by decide), mup_s, hO, h1, List.count_cons_self]; rfl
  · rw [mup_i (by decide), mup_j (by decide), mup_j (by decide), mup_j (by decide), a6, hO, List.count_cons_of_ne (by rw [h1]; decide)]
theorem TS_c {O C : List Int32} {m m' : jm} (h : TS O C m) (h1 : ∀ j, j = 7 ∨ j = 10 ∨ j = 11 ∨ j = 12 → m' 70 j = m 70 j) (h2 : m' 72 = m 72) (h3 : m' 73 = m 73) : TS O C m' := by
  obtain ⟨a1, a2, a3, a4, a5, a6⟩ := h
  exact ⟨by rw [h1 10 (by omega)]; exact a1, by rw [h3]; exact a2, by rw [h1 7 (by omega)]; exact a3, by rw [h2]; exact a4, by rw [h1 12 (by omega)]; exact a5, by rw [h1 11 (by omega)]; exact a6⟩
set_option maxRecDepth 100000 in
set_option maxHeartbeats 400000 in
theorem c_putDown {x : jX} {m : jm} {d : Nat} {n : Nat} {w : Int32} (h : m 70 7 = nI n) (hn : n < 96) : Ct x d eX5_putDown [.ref (jxb x + 70), .int w] m (jv fun m' => m' = mup (mup m 70 7 (nI (n + 1))) 72 n w) := by
  refine J_start (by decide +kernel) (Nat.le_of_ble_eq_true rfl) (ls := [some (.ref (jxb x + 70)), some (.int w)]) rfl rfl ?_
  refine J_aload_n (pc := 0) dX5_putDown_0 rfl ?_
  refine K_getI (pc := 1) dX5_putDown_1 kf_X5_38 job_70 jrf_70_7 ?_
  refine J_top (b := nI n) (h) ?_
  refine J_bipush (pc := 4) dX5_putDown_4 knb_96 ?_
  refine Jn_ge (pc := 6) (tgt := 26) dX5_putDown_6 (by decide) (by omega) (by omega) (fun h6 => absurd h6 (by omega)) (fun h6 => ?_)
  refine J_aload_n (pc := 9) dX5_putDown_9 rfl ?_
  refine K_getR (pc := 10) dX5_putDown_10 kf_X5_34 job_70 jrf_70_6 ?_
  refine J_aload_n (pc := 13) dX5_putDown_13 rfl ?_
  refine J_dup (pc := 14) dX5_putDown_14 rfl ?_
  refine K_getI (pc := 15) dX5_putDown_15 kf_X5_38 job_70 jrf_70_7 ?_
  refine J_top (b := nI n) (h) ?_
  refine J_dup_x1 (pc := 18) dX5_putDown_18 rfl rfl ?_
  refine J_iconst (pc := 19) dX5_putDown_19 kni_1 ?_
  refine J_iaddv (pc := 20) dX5_putDown_20 (nI_add _ _) ?_
  refine K_put (pc := 21) dX5_putDown_21 kp_X5_38 job_70 jrf_70_7 rfl rfl ?_
  refine J_iload_n (pc := 24) dX5_putDown_24 rfl ?_
  refine K_iastn (pc := 25) (id := 72) dX5_putDown_25 jar_72 (by omega) (by decide) ?_
  refine K_vret (pc := 26) dX5_putDown_26 rfl ⟨rfl, ?_⟩
  rfl
set_option maxRecDepth 100000 in
set_option maxHeartbeats 400000 in
theorem c_hold {x : jX} {m : jm} {d : Nat} {n : Nat} {w : Int32} (h : m 70 10 = nI n) (hn : n < 96) : Ct x d eX5_hold [.ref (jxb x + 70), .int w] m (jv fun m' => m' = mup (mup m 70 10 (nI (n + 1))) 73 n w) := by
  refine J_start (by decide +kernel) (Nat.le_of_ble_eq_true rfl) (ls := [some (.ref (jxb x + 70)), some (.int w)]) rfl rfl ?_
  refine J_aload_n (pc := 0) dX5_hold_0 rfl ?_
  refine K_getI (pc := 1) dX5_hold_1 kf_X5_47 job_70 jrf_70_10 ?_
  refine J_top (b := nI n) (h) ?_
  refine J_bipush (pc := 4) dX5_hold_4 knb_96 ?_
  refine Jn_ge (pc := 6) (tgt := 26) dX5_hold_6 (by decide) (by omega) (by omega) (fun h6 => absurd h6 (by omega)) (fun h6 => ?_)
  refine J_aload_n (pc := 9) dX5_hold_9 rfl ?_
  refine K_getR (pc := 10) dX5_hold_10 kf_X5_44 job_70 jrf_70_9 ?_
  refine J_aload_n (pc := 13) dX5_hold_13 rfl ?_
  refine J_dup (pc := 14) dX5_hold_14 rfl ?_
  refine K_getI (pc := 15) dX5_hold_15 kf_X5_47 job_70 jrf_70_10 ?_
  refine J_top (b := nI n) (h) ?_
  refine J_dup_x1 (pc := 18) dX5_hold_18 rfl rfl ?_
  refine J_iconst (pc := 19) dX5_hold_19 kni_1 ?_
  refine J_iaddv (pc := 20) dX5_hold_20 (nI_add _ _) ?_
  refine K_put (pc := 21) dX5_hold_21 kp_X5_47 job_70 jrf_70_10 rfl rfl ?_
  refine J_iload_n (pc := 24) dX5_hold_24 rfl ?_
  refine K_iastn (pc := 25) (id := 73) dX5_hold_25 jar_73 (by omega) (by decide) ?_
  refine K_vret (pc := 26) dX5_hold_26 rfl ⟨rfl, ?_⟩
  rfl
set_option maxRecDepth 100000 in
set_option maxHeartbeats 400000 in
theorem c_levelOf {x : jX} {m : jm} {d : Nat} (v : Int32) : Ct x d eX5_levelOf [.int v] m (jp (nI (lvl v)) m) := by
  refine J_start (by decide +kernel) (Nat.le_of_ble_eq_true rfl) (ls := [some (.int v)]) rfl rfl ?_
  refine J_iload_n (pc := 0) dX5_levelOf_0 rfl ?_
  by_cases c1_38 : v = nI 38
  ·
    refine J_lsw (pc := 1) (tgt := 86) (off := 85) dX5_levelOf_1 (by decide) (by rw [c1_38]; decide) (by decide) ?_
    refine J_iconst (pc := 86) dX5_levelOf_86 kni_2 ?_
    refine K_iret (pc := 87) dX5_levelOf_87 rfl ⟨_, rfl, ?_⟩
    unfold lvl
    exact ⟨by rw [if_pos c1_38], rfl⟩
  by_cases c1_42 : v = nI 42
  ·
    refine J_lsw (pc := 1) (tgt := 92) (off := 91) dX5_levelOf_1 (by decide) (by rw [c1_42]; decide) (by decide) ?_
    refine J_iconst (pc := 92) dX5_levelOf_92 kni_5 ?_
    refine K_iret (pc := 93) dX5_levelOf_93 rfl ⟨_, rfl, ?_⟩
    unfold lvl
    exact ⟨by rw [if_neg c1_38, if_pos c1_42], rfl⟩
  by_cases c1_43 : v = nI 43
  ·
    refine J_lsw (pc := 1) (tgt := 90) (off := 89) dX5_levelOf_1 (by decide) (by rw [c1_43]; decide) (by decide) ?_
    refine J_iconst (pc := 90) dX5_levelOf_90 kni_4 ?_
    refine K_iret (pc := 91) dX5_levelOf_91 rfl ⟨_, rfl, ?_⟩
    unfold lvl
    exact ⟨by rw [if_neg c1_38, if_neg c1_42, if_pos c1_43], rfl⟩
  by_cases c1_45 : v = nI 45
  ·
    refine J_lsw (pc := 1) (tgt := 90) (off := 89) dX5_levelOf_1 (by decide) (by rw [c1_45]; decide) (by decide) ?_
    refine J_iconst (pc := 90) dX5_levelOf_90 kni_4 ?_
    refine K_iret (pc := 91) dX5_levelOf_91 rfl ⟨_, rfl, ?_⟩
    unfold lvl
    exact ⟨by rw [if_neg c1_38, if_neg c1_42, if_neg c1_43, if_pos c1_45], rfl⟩
  by_cases c1_47 : v = nI 47
  ·
    refine J_lsw (pc := 1) (tgt := 92) (off := 91) dX5_levelOf_1 (by decide) (by rw [c1_47]; decide) (by decide) ?_
    refine J_iconst (pc := 92) dX5_levelOf_92 kni_5 ?_
    refine K_iret (pc := 93) dX5_levelOf_93 rfl ⟨_, rfl, ?_⟩
    unfold lvl
    exact ⟨by rw [if_neg c1_38, if_neg c1_42, if_neg c1_43, if_neg c1_45, if_pos c1_47], rfl⟩
  by_cases c1_60 : v = nI 60
  ·
    refine J_lsw (pc := 1) (tgt := 88) (off := 87) dX5_levelOf_1 (by decide) (by rw [c1_60]; decide) (by decide) ?_
    refine J_iconst (pc := 88) dX5_levelOf_88 kni_3 ?_
    refine K_iret (pc := 89) dX5_levelOf_89 rfl ⟨_, rfl, ?_⟩
    unfold lvl
    exact ⟨by rw [if_neg c1_38, if_neg c1_42, if_neg c1_43, if_neg c1_45, if_neg c1_47, if_pos c1_60], rfl⟩
  by_cases c1_61 : v = nI 61
  ·
    refine J_lsw (pc := 1) (tgt := 88) (off := 87) dX5_levelOf_1 (by decide) (by rw [c1_61]; decide) (by decide) ?_
    refine J_iconst (pc := 88) dX5_levelOf_88 kni_3 ?_
    refine K_iret (pc := 89) dX5_levelOf_89 rfl ⟨_, rfl, ?_⟩
    unfold lvl
    exact ⟨by rw [if_neg c1_38, if_neg c1_42, if_neg c1_43, if_neg c1_45, if_neg c1_47, if_neg c1_60, if_pos c1_61], rfl⟩
  by_cases c1_62 : v = nI 62
  ·
    refine J_lsw (pc := 1) (tgt := 88) (off := 87) dX5_levelOf_1 (by decide) (by rw [c1_62]; decide) (by decide) ?_
    refine J_iconst (pc := 88) dX5_levelOf_88 kni_3 ?_
    refine K_iret (pc := 89) dX5_levelOf_89 rfl ⟨_, rfl, ?_⟩
    unfold lvl
    exact ⟨by rw [if_neg c1_38, if_neg c1_42, if_neg c1_43, if_neg c1_45, if_neg c1_47, if_neg c1_60, if_neg c1_61, if_pos c1_62], rfl⟩
  by_cases c1_124 : v = nI 124
  ·
    refine J_lsw (pc := 1) (tgt := 84) (off := 83) dX5_levelOf_1 (by decide) (by rw [c1_124]; decide) (by decide) ?_
    refine J_iconst (pc := 84) dX5_levelOf_84 kni_1 ?_
    refine K_iret (pc := 85) dX5_levelOf_85 rfl ⟨_, rfl, ?_⟩
    unfold lvl
    exact ⟨by rw [if_neg c1_38, if_neg c1_42, if_neg c1_43, if_neg c1_45, if_neg c1_47, if_neg c1_60, if_neg c1_61, if_neg c1_62, if_pos c1_124], rfl⟩
  refine J_lsw (pc := 1) (tgt := 94) (off := 93) dX5_levelOf_1 (by decide) (by have qc1_38 : ¬ (38 : Int) = (v).toInt := fun r => jsw_ne c1_38 (by decide) r.symm; have qc1_42 : ¬ (42 : Int) = (v).toInt := fun r => jsw_ne c1_42 (by decide) r.symm; have qc1_43 : ¬ (43 : Int) = (v).toInt := fun r => jsw_ne c1_43 (by decide) r.symm; have qc1_45 : ¬ (45 : Int) = (v).toInt := fun r => jsw_ne c1_45 (by decide) r.symm; have qc1_47 : ¬ (47 : Int) = (v).toInt := fun r => jsw_ne c1_47 (by decide) r.symm; have qc1_60 : ¬ (60 : Int) = (v).toInt := fun r => jsw_ne c1_60 (by decide) r.symm; have qc1_61 : ¬ (61 : Int) = (v).toInt := fun r => jsw_ne c1_61 (by decide) r.symm; have qc1_62 : ¬ (62 : Int) = (v).toInt := fun r => jsw_ne c1_62 (by decide) r.symm; have qc1_124 : ¬ (124 : Int) = (v).toInt := fun r => jsw_ne c1_124 (by decide) r.symm; simp [Op.lookupswitch.offset, qc1_38, qc1_42, qc1_43, qc1_45, qc1_47, qc1_60, qc1_61, qc1_62, qc1_124]) (by decide) ?_
  refine J_iconst (pc := 94) dX5_levelOf_94 kni_0 ?_
  refine K_iret (pc := 95) dX5_levelOf_95 rfl ⟨_, rfl, ?_⟩
  unfold lvl
  exact ⟨by rw [if_neg c1_38, if_neg c1_42, if_neg c1_43, if_neg c1_45, if_neg c1_47, if_neg c1_60, if_neg c1_61, if_neg c1_62, if_neg c1_124], rfl⟩
set_option maxRecDepth 100000 in
set_option maxHeartbeats 400000 in
theorem c_close {x : jX} {m : jm} {d : Nat} {l : Nat} {O C : List Int32} (hl : 1 ≤ l) (hl9 : l ≤ 9) (hT0 : TS O C m) (hlc0 : C.length + O.length ≤ 96) : Ct x (d + 1) eX5_close [.ref (jxb x + 70), .int (nI l)] m (jv fun m' => TS (clo l O C).1 (clo l O C).2 m' ∧ tFr m m' ∧ m' 70 8 = m 70 8 ∧ m' 70 13 = m 70 13) := by
  refine J_start (by decide +kernel) (Nat.le_of_ble_eq_true rfl) (ls := [some (.ref (jxb x + 70)), some (.int (nI l))]) rfl rfl ?_
  refine K_inv (pc := 0) O.length (fun i lsq mq => ∃ (O1 C1 : List Int32), lsq = [some (.ref (jxb x + 70)), some (.int (nI l))] ∧ (TS O1 C1 mq) ∧ (tFr m mq) ∧ (mq 70 8 = m 70 8 ∧ mq 70 13 = m 70 13) ∧ (clo l O1 C1 = clo l O C) ∧ (O1.length + i = O.length) ∧ (C1.length + O1.length ≤ 96)) (fun i hi lsq mm hI0 ih0 => ?_) (fun lsq mm hI0 => ?_) 0 (Nat.zero_le _) _ _ (⟨O, C, rfl, hT0, tFr_rf m, ⟨rfl, rfl⟩, rfl, by omega, hlc0⟩)
  ·
    obtain ⟨O1, C1, rfl, hT, hF, h8, hcl, hlen, hlc⟩ := hI0
    obtain ⟨v, t, hO⟩ : ∃ v t, O1 = v :: t := by
      cases O1 with
      | nil => exact absurd hlen (by simp; omega)
      | cons v t => exact ⟨v, t, rfl⟩
    obtain ⟨b1, b2, b3, b4⟩ := stk_top' hO hT.2.1
    have hl5 := lvl_5 v
    refine J_aload_n (pc := 0) dX5_close_0 rfl ?_
    refine K_getI (pc := 1) dX5_close_1 kf_X5_47 job_70 jrf_70_10 ?_
    refine J_top (b := nI O1.length) (hT.1) ?_
    refine Jn_if_le (pc := 4) (tgt := 52) dX5_close_4 (by decide) (by omega) (fun h4 => absurd h4 (by omega)) (fun h4 => ?_)
    refine J_aload_n (pc := 7) dX5_close_7 rfl ?_
    refine K_getR (pc := 8) dX5_close_8 kf_X5_44 job_70 jrf_70_9 ?_
    refine J_aload_n (pc := 11) dX5_close_11 rfl ?_
    refine K_getI (pc := 12) dX5_close_12 kf_X5_47 job_70 jrf_70_10 ?_
    refine J_top (b := nI O1.length) (hT.1) ?_
    refine J_iconst (pc := 15) dX5_close_15 kni_1 ?_
    refine J_isubv (pc := 16) dX5_close_16 (pk_sub (by omega)) ?_
    refine K_ialdn (pc := 17) (id := 73) dX5_close_17 jar_73 (by omega) (by decide) ?_
    refine J_top (b := v) (b2) ?_
    refine K_callSp (pc := 18) (As := [_]) dX5_close_18 kl_X5_136 rfl rfl (Nat.le_of_ble_eq_true rfl) (c_levelOf v) ?_
    refine J_iload_n (pc := 21) dX5_close_21 rfl ?_
    refine Jn_lt (pc := 22) (tgt := 52) dX5_close_22 (by decide) (by omega) (by omega) (fun h22 => ?_) (fun h22 => ?_)
    · 
      refine K_vret (pc := 52) dX5_close_52 rfl ⟨rfl, ?_⟩
      have e : clo l O C = (O1, C1) := by rw [← hcl, hO]; exact if_neg (by omega)
      exact ⟨by rw [e]; exact hT, hF, h8.1, h8.2⟩
    · 
      refine J_aload_n (pc := 25) dX5_close_25 rfl ?_
      refine J_dup (pc := 26) dX5_close_26 rfl ?_
      refine K_getI (pc := 27) dX5_close_27 kf_X5_47 job_70 jrf_70_10 ?_
      refine J_top (b := nI O1.length) (hT.1) ?_
      refine J_iconst (pc := 30) dX5_close_30 kni_1 ?_
      refine J_isubv (pc := 31) dX5_close_31 (pk_sub (by omega)) ?_
      refine K_put (pc := 32) dX5_close_32 kp_X5_47 job_70 jrf_70_10 rfl rfl ?_
      refine J_aload_n (pc := 35) dX5_close_35 rfl ?_
      refine J_aload_n (pc := 36) dX5_close_36 rfl ?_
      refine K_getR (pc := 37) dX5_close_37 kf_X5_44 job_70 jrf_70_9 ?_
      refine J_aload_n (pc := 40) dX5_close_40 rfl ?_
      refine K_getI (pc := 41) dX5_close_41 kf_X5_47 job_70 jrf_70_10 ?_
      refine J_top (b := nI (O1.length - 1)) (by rw [mup_s]) ?_
      refine K_ialdn (pc := 44) (id := 73) dX5_close_44 jar_73 (by omega) (by decide) ?_
      refine J_top (b := v) (by rw [mup_i (by decide)]; exact b2) ?_
      refine J_ineg (pc := 45) dX5_close_45 ?_
      refine K_callVv (pc := 46) (id := 70) (As := [_]) dX5_close_46 kl_X5_130 rfl job_70 rfl rfl (Nat.le_of_ble_eq_true rfl) (c_putDown (n := C1.length) (w := -v) (by rw [mup_j (by decide)]; exact hT.2.2.1) (by omega)) (fun m46 h46 => ?_)
      subst h46
      refine J_goto (pc := 49) (tgt := 0) dX5_close_49 (by decide) ?_
      have hv := lvl_no (s := v) (by omega)
      refine ih0 _ _ ⟨t, -v :: C1, rfl, TS_pop hT hO hv.1 hv.2, tFr_72 (tFr_70 (tFr_70 hF (by decide)) (by decide)), ⟨by rw [mup_i (by decide), mup_j (by decide), mup_j (by decide)]; exact h8.1, by rw [mup_i (by decide), mup_j (by decide), mup_j (by decide)]; exact h8.2⟩, ?_, by omega, by rw [List.length_cons]; omega⟩
      rw [← hcl, hO]
      exact (if_pos (by omega)).symm
  ·
    obtain ⟨O1, C1, rfl, hT, hF, h8, hcl, hlen, hlc⟩ := hI0
    have hO : O1 = [] := List.eq_nil_of_length_eq_zero (by omega)
    refine J_aload_n (pc := 0) dX5_close_0 rfl ?_
    refine K_getI (pc := 1) dX5_close_1 kf_X5_47 job_70 jrf_70_10 ?_
    refine J_top (b := nI O1.length) (hT.1) ?_
    refine Jn_if_le (pc := 4) (tgt := 52) dX5_close_4 (by decide) (by omega) (fun h4 => ?_) (fun h4 => absurd h4 (by omega))
    refine K_vret (pc := 52) dX5_close_52 rfl ⟨rfl, ?_⟩
    have e : clo l O C = (O1, C1) := by rw [← hcl, hO]; exact rfl
    exact ⟨by rw [e]; exact hT, hF, h8.1, h8.2⟩
