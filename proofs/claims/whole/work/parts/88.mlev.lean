theorem clo_pop {l : Nat} {O C S D : List Int32} {c : Int32} (h : clo (l + 1) O C = (c :: S, D)) (hl : l ≤ lvl c) (hS : ∀ u, S.head? = some u → lvl u < l) : clo l O C = (S, -c :: D) := by
  rw [clo_clo (Nat.le_succ l) O C, h]
  show clo l (c :: S) D = _
  rw [clo, if_pos hl]
  exact clo_st _ hS
theorem clo_dn {l : Nat} {O C S D : List Int32} (h : clo (l + 1) O C = (S, D)) (hS : ∀ u, S.head? = some u → lvl u < l) : clo l O C = (S, D) := by
  rw [clo_clo (Nat.le_succ l) O C, h]
  exact clo_st _ hS
theorem lvl_41 : lvl (nI 41) = 0 := by decide
theorem lvl_inv {v : Int32} : (lvl v = 5 → v = nI 42 ∨ v = nI 47) ∧ (lvl v = 4 → v = nI 43 ∨ v = nI 45) ∧ (lvl v = 3 → v = nI 60 ∨ v = nI 61 ∨ v = nI 62) ∧ (lvl v = 2 → v = nI 38) ∧ (lvl v = 1 → v = nI 124) := by
  unfold lvl
  by_cases a1 : v = nI 38
  · rw [if_pos a1]; exact ⟨fun z => by omega, fun z => by omega, fun z => by omega, fun _ => a1, fun z => by omega⟩
  rw [if_neg a1]
  by_cases a2 : v = nI 42
  · rw [if_pos a2]; exact ⟨fun _ => Or.inl a2, fun z => by omega, fun z => by omega, fun z => by omega, fun z => by omega⟩
  rw [if_neg a2]
  by_cases a3 : v = nI 43
  · rw [if_pos a3]; exact ⟨fun z => by omega, fun _ => Or.inl a3, fun z => by omega, fun z => by omega, fun z => by omega⟩
  rw [if_neg a3]
  by_cases a4 : v = nI 45
  · rw [if_pos a4]; exact ⟨fun z => by omega, fun _ => Or.inr a4, fun z => by omega, fun z => by omega, fun z => by omega⟩
  rw [if_neg a4]
  by_cases a5 : v = nI 47
  · rw [if_pos a5]; exact ⟨fun _ => Or.inr a5, fun z => by omega, fun z => by omega, fun z => by omega, fun z => by omega⟩
  rw [if_neg a5]
  by_cases a6 : v = nI 60
  · rw [if_pos a6]; exact ⟨fun z => by omega, fun z => by omega, fun _ => Or.inl a6, fun z => by omega, fun z => by omega⟩
  rw [if_neg a6]
  by_cases a7 : v = nI 61
  · rw [if_pos a7]; exact ⟨fun z => by omega, fun z => by omega, fun _ => Or.inr (Or.inl a7), fun z => by omega, fun z => by omega⟩
  rw [if_neg a7]
  by_cases a8 : v = nI 62
  · rw [if_pos a8]; exact ⟨fun z => by omega, fun z => by omega, fun _ => Or.inr (Or.inr a8), fun z => by omega, fun z => by omega⟩
  rw [if_neg a8]
  by_cases a9 : v = nI 124
  · rw [if_pos a9]; exact ⟨fun z => by omega, fun z => by omega, fun z => by omega, fun z => by omega, fun _ => a9⟩
  rw [if_neg a9]
  exact ⟨fun z => by omega, fun z => by omega, fun z => by omega, fun z => by omega, fun z => by omega⟩
theorem lnk_ok {O C S D : List Int32} {c : Int32} {w : Nat} (h0 : 1 ≤ lvl c) (h : clo (lvl c) O C = (S, D)) (h3 : lvl c = 3 → clo 4 O C = (S, D) ∧ ∀ u, S.head? = some u → lvl u < 3) : lnkS c O C w = some (c :: S, D, w, true) := by
  unfold lnkS
  rw [if_neg (fun z => by rw [z, lvl_41] at h0; omega), if_neg (by omega), if_neg ?_]
  · rw [← clo_clo (Nat.le_succ (lvl c)) O C, h]
  · intro z
    obtain ⟨q1, q2⟩ := h3 z.1
    have z2 := z.2
    rw [z.1, q1] at z2
    cases S with
    | nil => simp at z2
    | cons u S =>
      have := q2 u rfl
      simp at z2
      omega
theorem tk_lnk {t : Nat → Int32} {n nm s e w : Nat} {O C S D : List Int32} {c : Int32} (hs : s < n ∧ t s = c) (hw : ¬ wB c = true) (h0 : 1 ≤ lvl c) (h : clo (lvl c) O C = (S, D)) (h3 : lvl c = 3 → clo 4 O C = (S, D) ∧ ∀ u, S.head? = some u → lvl u < 3) : tkS t n nm s e (O, C, w, false) = some (c :: S, D, w, true) := by
  unfold tkS
  rw [if_neg (gl_no (by rw [hs.2]; exact hw)), if_neg Bool.false_ne_true, hs.2]
  exact lnk_ok h0 h h3
theorem tk_cmp {t : Nat → Int32} {n nm s e w : Nat} {O C S D : List Int32} {c : Int32} (h3 : lvl (t s) = 3) (hc : lvl c = 3) (h : clo 4 O C = (c :: S, D)) : tkS t n nm s e (O, C, w, false) = none := by
  unfold tkS
  by_cases g : glP t n s
  · rw [if_pos g]
  · rw [if_neg g, if_neg Bool.false_ne_true]
    unfold lnkS
    rw [if_neg (fun z => by rw [z, lvl_41] at h3; omega), if_neg (by omega), if_pos ⟨h3, by rw [h3, h]; show some (lvl c) = _; rw [hc]⟩]
theorem tk_lv0 {t : Nat → Int32} {n nm s e w : Nat} {O C : List Int32} (h0 : lvl (t s) = 0) (h : ¬ t s = nI 41) : tkS t n nm s e (O, C, w, false) = none := by
  unfold tkS
  by_cases g : glP t n s
  · rw [if_pos g]
  · rw [if_neg g, if_neg Bool.false_ne_true]
    unfold lnkS
    rw [if_neg h, if_pos h0]
theorem cnt_sg {c d : Int32} (h : c ≠ d) (S : List Int32) : (c :: S).count d = S.count d := List.count_cons_of_ne h
theorem RS_go {key : Int32} {A : Nat} {t : Nat → Int32} {n s e w : Nat} {S S0 C : List Int32} {m m' : jm} {c : Int32} (h : RS key A t n s e S C w m) (hs : s < n ∧ t s = c) (h40 : c ≠ nI 40) (h33 : c ≠ nI 33) (hx : nxP t n (skp t n e) (ndp t n (skp t n e)) m m') : RS key A t n (skp t n e) (ndp t n (skp t n e)) (c :: S) C w m' :=
  RS_nx h hs.1 hx (cnt_sg h40 S) (cnt_sg h33 S) (by have := h.2.2.2.2.2.2.2.2; rw [List.length_cons]; omega) h.2.1
/-- a level's contract -/
def LvC (x : jX) (key : Int32) (A : Nat) (t : Nat → Int32) (n nm : Nat) (g : Int32) (l : Nat) (y : jMe) (d N : Nat) : Prop :=
  ∀ (m : jm) (s e : Nat) (S C : List Int32) (w : Nat), RS key A t n s e S C w m → (∀ u, S.head? = some u → lvl u < l ∧ u ≠ nI 33) → (S.count (nI 40) ≤ 8 ∧ S.count (nI 33) ≤ 8 ∧ (8 - S.count (nI 40)) + (8 - S.count (nI 33)) ≤ N) →
    Ct x d y [.ref (jxb x + 140), .int key] m (ji fun v m' => rsV (fPt t n nm g A s e (S, C, w, true) m) (yLv key t n nm g A l s e S C w m) m' v)
def PtC (x : jX) (key : Int32) (A : Nat) (t : Nat → Int32) (n nm : Nat) (g : Int32) (d N : Nat) : Prop :=
  ∀ (m : jm) (s e : Nat) (S C : List Int32) (w : Nat), RS key A t n s e S C w m → (S.count (nI 40) ≤ 8 ∧ S.count (nI 33) ≤ 8 ∧ (8 - S.count (nI 40)) + (8 - S.count (nI 33)) ≤ N) →
    Ct x d eX8_part0 [.ref (jxb x + 140), .int key] m (ji fun v m' => rsV (fPt t n nm g A s e (S, C, w, true) m) (yPt key t n nm g A s e S C w m) m' v)
theorem PtC_lv {x : jX} {key : Int32} {A : Nat} {t : Nat → Int32} {n nm : Nat} {g : Int32} {d N : Nat} (H : PtC x key A t n nm g d N) : LvC x key A t n nm g 6 eX8_part0 d N := fun m s e S C w h hd hN => by
  refine Ct_mono (fun r m' q => ?_) (H m s e S C w h hN)
  obtain ⟨v, rfl, c, q1, q2, q3⟩ := q
  refine ⟨v, rfl, c, q1, q2, fun z => ?_⟩
  obtain ⟨s', e', C1, w', r0, r1, r2, r3⟩ := q3 z
  have hne : S.head? ≠ some (nI 33) := fun y => (hd _ y).2 rfl
  rw [enp_st C1 hne] at r2
  exact ⟨s', e', S, C1, C1, w', r0, r1, r2, clo_6 (Nat.le_refl 6) S C1, r3, fun _ y => by have := lvl_5 (t s'); omega⟩
set_option maxRecDepth 100000 in
set_option maxHeartbeats 400000 in
theorem m_Lterm {x : jX} {m : jm} {d : Nat} {key : Int32} {A : Nat} {t : Nat → Int32} {n nm N : Nat} {g : Int32} (h96 : n ≤ 96) (hA : A + 196 ≤ 3450) (H : LvC x key A t n nm g 6 eX8_part0 (d + 4) N) (s e : Nat) (S C : List Int32) (w : Nat) (hR0 : RS key A t n s e S C w m) (hd : ∀ u, S.head? = some u → lvl u < 5 ∧ u ≠ nI 33) (hN : S.count (nI 40) ≤ 8 ∧ S.count (nI 33) ≤ 8 ∧ (8 - S.count (nI 40)) + (8 - S.count (nI 33)) ≤ N) : Ct x (d + 5) eX8_term [.ref (jxb x + 140), .int key] m (ji fun v m' => rsV (fPt t n nm g A s e (S, C, w, true) m) (yLv key t n nm g A 5 s e S C w m) m' v) := by
  refine J_start (by decide +kernel) (Nat.le_of_ble_eq_true rfl) (ls := [some (.ref (jxb x + 140)), some (.int key), none]) rfl rfl ?_
  refine J_aload_n (pc := 0) dX8_term_0 rfl ?_
  refine J_iload_n (pc := 1) dX8_term_1 rfl ?_
  refine K_callVi (pc := 2) (id := 140) (As := [_]) dX8_term_2 kl_X8_243 rfl job_140 rfl rfl (Nat.le_of_ble_eq_true rfl) (H m s e S C w hR0 (fun u hu => ⟨by have := (hd u hu).1; omega, (hd u hu).2⟩) hN) (fun v2 m2 h2 => ?_)
  obtain ⟨c2, rfl, f2, y2⟩ := h2
  refine Jp_ne (pc := 5) (tgt := 10) dX8_term_5 (by decide) (fun h5 => ?_) (fun h5 => ?_)
  · 
    obtain ⟨s0, e0, O0, C0, D0, w0, a0, a1, a2, a3, a4, a5⟩ := y2 h5
    refine K_inv (pc := 10) ((n + 1)) (fun i lsq mq => ∃ (s1 e1 : Nat) (O1 C1 D1 : List Int32) (w1 : Nat), lsq = [some (.ref (jxb x + 140)), some (.int key), none] ∧ (RS key A t n s1 e1 S D1 w1 mq) ∧ (vd t n nm g s e (S, C, w, true) = vd t n nm g s1 e1 (O1, C1, w1, false)) ∧ (clo 5 O1 C1 = (S, D1)) ∧ (pFr A m mq) ∧ (s1 < n → 6 ≤ lvl (t s1) → tkS t n nm s1 e1 (O1, C1, w1, false) = none) ∧ (s + 1 + i ≤ s1)) (fun i hi lsq mm hI10 ih10 => ?_) (fun lsq mm hI10 => ?_) 0 (Nat.zero_le _) _ _ (⟨s0, e0, O0, C0, D0, w0, rfl, a1, a2, clo_dn a3 (fun u hu => (hd u hu).1), a4, a5, by omega⟩)
    ·
      obtain ⟨s1, e1, O1, C1, D1, w1, rfl, hR, hv, hc, hf, hno, hsi⟩ := hI10
      refine J_aload_n (pc := 10) dX8_term_10 rfl ?_
      refine J_bipush (pc := 11) dX8_term_11 knb_42 ?_
      refine K_callVp (pc := 13) (id := 140) (As := [_]) dX8_term_13 kl_X8_227 rfl job_140 rfl rfl (Nat.le_of_ble_eq_true rfl) (m_isSign2 (t := t) (k := 42) hR.1 (by decide) (sg_wB (c := nI 42) (by decide)).1) ?_
      refine Jb_ne (pc := 16) (tgt := 28) dX8_term_16 (by decide) (fun h16 => ?_) (fun h16 => ?_)
      · 
        refine J_aload_n (pc := 28) dX8_term_28 rfl ?_
        refine K_getI (pc := 29) dX8_term_29 kf_X8_202 job_140 jrf_140_16 ?_
        refine J_top (b := nI 42) (tk_let hR.1 h16 (sg_wB (c := nI 42) (by decide)).2) ?_
        refine J_istore_n (pc := 32) (ls' := [some _, some _, some _]) dX8_term_32 rfl (Nat.le_of_ble_eq_true rfl) rfl ?_
        refine J_aload_n (pc := 33) dX8_term_33 rfl ?_
        refine K_callVv (pc := 34) (id := 140) (As := []) dX8_term_34 kl_X8_215 rfl job_140 rfl rfl (Nat.le_of_ble_eq_true rfl) (m_next2 (t := t) (n := n) (s := s1) (e := e1) hR.2.2.2.2.2.2.1 h96 hR.1 h16.1 (by rw [kd_sg (e := e1) h16.1 (by rw [h16.2]; exact (sg_wB (c := nI 42) (by decide)).2.1) (by rw [h16.2]; exact (sg_wB (c := nI 42) (by decide)).2.2.1)]; decide) hR.2.2.2.2.2.2.2.1) (fun m34 hx1 => ?_)
        have hR2 := RS_go (S0 := S) hR h16 (by decide) (by decide) hx1
        have htk : tkS t n nm s1 e1 (O1, C1, w1, false) = some (nI 42 :: S, D1, w1, true) := tk_lnk h16 (sg_wB (c := nI 42) (by decide)).1 (by decide) hc (fun z => absurd z (by decide))
        have hv2 := hv.trans (vd_go (g := g) hR.1.2.1 h16.1 htk)
        refine J_aload_n (pc := 37) dX8_term_37 rfl ?_
        refine J_iload_n (pc := 38) dX8_term_38 rfl ?_
        refine K_callVi (pc := 39) (id := 140) (As := [_]) dX8_term_39 kl_X8_243 rfl job_140 rfl rfl (Nat.le_of_ble_eq_true rfl) (H m34 _ _ _ _ _ hR2 (fun u hu => by cases hu; decide) ⟨by rw [cnt_sg (by decide)]; exact hN.1, by rw [cnt_sg (by decide)]; exact hN.2.1, by rw [cnt_sg (by decide), cnt_sg (by decide)]; exact hN.2.2⟩) (fun v39 m39 h39 => ?_)
        obtain ⟨c39, rfl, f39, y39⟩ := h39
        refine Jp_ne (pc := 42) (tgt := 47) dX8_term_42 (by decide) (fun h42 => ?_) (fun h42 => ?_)
        · 
          obtain ⟨s3, e3, O3, C3, D3, w3, r0, r1, r2, r3, r4, r5⟩ := y39 h42
          have hlen3 := r1.2.2.2.2.2.2.2.2
          rw [List.length_cons] at hlen3
          have hs3 := r1.1.1
          have hee := (ndp_le (t := t) (n := n) (s := s1) hR.1.1).1
          have hee2 := (ndp_le (t := t) (n := n) (s := s1) hR.1.1).2
          have hskp := skp_le (t := t) (n := n) (e := e1) (by rw [hR.1.2.1]; exact hee)
          rw [← hR.1.2.1] at hee hee2
          refine J_aload_n (pc := 47) dX8_term_47 rfl ?_
          refine J_iconst (pc := 48) dX8_term_48 kni_2 ?_
          refine J_iload_n (pc := 49) dX8_term_49 rfl ?_
          refine K_callVv (pc := 50) (id := 140) (As := [_, _]) dX8_term_50 kl_X8_230 rfl job_140 rfl rfl (Nat.le_of_ble_eq_true rfl) (m_step (m := m39) (A := A) (L := D3.length) r1.2.2.2.2.1 r1.2.1.1 (by omega) _ _) (fun m50 h50 => ?_)
          subst h50
          refine J_goto (pc := 53) (tgt := 10) dX8_term_53 (by decide) ?_
          have hlt1 := hee2 h16.1
          refine J_wk' (ih10 [some (.ref (jxb x + 140)), some (.int key), none] _ ⟨s3, e3, O3, C3, cdW (nI 2) (nI 42) :: D3, w3, rfl, RS_st r1 (cnt_sg (by decide) S).symm (cnt_sg (by decide) S).symm (by rw [List.length_cons]; omega) (Or.inr (Or.inr ⟨rfl, by unfold isSg; decide⟩)), hv2.trans r2, clo_pop r3 (by decide) (fun u hu => (hd u hu).1), pFr_st (pFr_tr (pFr_nx hf hx1) r4) (by omega), r5, by omega⟩) rfl ?_
          rintro (_ | _ | _ | k) v hv <;> first | exact hv | cases hv
        · 
          refine J_iconst (pc := 45) dX8_term_45 kni_0 ?_
          refine K_zret (pc := 46) dX8_term_46 rfl rfl ⟨_, rfl, ?_⟩
          obtain ⟨p, q1, q2, q3⟩ := f39 h42
          exact rsV_no ⟨p, hv2.trans q1, q2, pFr_tr (pFr_nx hf hx1) q3⟩
      · 
        refine J_aload_n (pc := 19) dX8_term_19 rfl ?_
        refine J_bipush (pc := 20) dX8_term_20 knb_47 ?_
        refine K_callVp (pc := 22) (id := 140) (As := [_]) dX8_term_22 kl_X8_227 rfl job_140 rfl rfl (Nat.le_of_ble_eq_true rfl) (m_isSign2 (t := t) (k := 47) hR.1 (by decide) (sg_wB (c := nI 47) (by decide)).1) ?_
        refine Jb_eq (pc := 25) (tgt := 56) dX8_term_25 (by decide) (fun h25 => ?_) (fun h25 => ?_)
        · 
          refine J_iconst (pc := 56) dX8_term_56 kni_1 ?_
          refine K_zret (pc := 57) dX8_term_57 rfl rfl ⟨_, rfl, ?_⟩
          exact rsV_ok ⟨s1, e1, O1, C1, D1, w1, by omega, hR, hv, hc, hf, fun hs hl => by
            rcases Nat.lt_or_ge 5 (lvl (t s1)) with y | y
            · exact hno hs y
            · have q := lvl_inv.1 (show lvl (t s1) = 5 by omega)
              exact q.elim (fun y => absurd ⟨hs, y⟩ h16) (fun y => absurd ⟨hs, y⟩ h25)⟩
        · 
          refine J_aload_n (pc := 28) dX8_term_28 rfl ?_
          refine K_getI (pc := 29) dX8_term_29 kf_X8_202 job_140 jrf_140_16 ?_
          refine J_top (b := nI 47) (tk_let hR.1 h25 (sg_wB (c := nI 47) (by decide)).2) ?_
          refine J_istore_n (pc := 32) (ls' := [some _, some _, some _]) dX8_term_32 rfl (Nat.le_of_ble_eq_true rfl) rfl ?_
          refine J_aload_n (pc := 33) dX8_term_33 rfl ?_
          refine K_callVv (pc := 34) (id := 140) (As := []) dX8_term_34 kl_X8_215 rfl job_140 rfl rfl (Nat.le_of_ble_eq_true rfl) (m_next2 (t := t) (n := n) (s := s1) (e := e1) hR.2.2.2.2.2.2.1 h96 hR.1 h25.1 (by rw [kd_sg (e := e1) h25.1 (by rw [h25.2]; exact (sg_wB (c := nI 47) (by decide)).2.1) (by rw [h25.2]; exact (sg_wB (c := nI 47) (by decide)).2.2.1)]; decide) hR.2.2.2.2.2.2.2.1) (fun m34 hx1 => ?_)
          have hR2 := RS_go (S0 := S) hR h25 (by decide) (by decide) hx1
          have htk : tkS t n nm s1 e1 (O1, C1, w1, false) = some (nI 47 :: S, D1, w1, true) := tk_lnk h25 (sg_wB (c := nI 47) (by decide)).1 (by decide) hc (fun z => absurd z (by decide))
          have hv2 := hv.trans (vd_go (g := g) hR.1.2.1 h25.1 htk)
          refine J_aload_n (pc := 37) dX8_term_37 rfl ?_
          refine J_iload_n (pc := 38) dX8_term_38 rfl ?_
          refine K_callVi (pc := 39) (id := 140) (As := [_]) dX8_term_39 kl_X8_243 rfl job_140 rfl rfl (Nat.le_of_ble_eq_true rfl) (H m34 _ _ _ _ _ hR2 (fun u hu => by cases hu; decide) ⟨by rw [cnt_sg (by decide)]; exact hN.1, by rw [cnt_sg (by decide)]; exact hN.2.1, by rw [cnt_sg (by decide), cnt_sg (by decide)]; exact hN.2.2⟩) (fun v39 m39 h39 => ?_)
          obtain ⟨c39, rfl, f39, y39⟩ := h39
          refine Jp_ne (pc := 42) (tgt := 47) dX8_term_42 (by decide) (fun h42 => ?_) (fun h42 => ?_)
          · 
            obtain ⟨s3, e3, O3, C3, D3, w3, r0, r1, r2, r3, r4, r5⟩ := y39 h42
            have hlen3 := r1.2.2.2.2.2.2.2.2
            rw [List.length_cons] at hlen3
            have hs3 := r1.1.1
            have hee := (ndp_le (t := t) (n := n) (s := s1) hR.1.1).1
            have hee2 := (ndp_le (t := t) (n := n) (s := s1) hR.1.1).2
            have hskp := skp_le (t := t) (n := n) (e := e1) (by rw [hR.1.2.1]; exact hee)
            rw [← hR.1.2.1] at hee hee2
            refine J_aload_n (pc := 47) dX8_term_47 rfl ?_
            refine J_iconst (pc := 48) dX8_term_48 kni_2 ?_
            refine J_iload_n (pc := 49) dX8_term_49 rfl ?_
            refine K_callVv (pc := 50) (id := 140) (As := [_, _]) dX8_term_50 kl_X8_230 rfl job_140 rfl rfl (Nat.le_of_ble_eq_true rfl) (m_step (m := m39) (A := A) (L := D3.length) r1.2.2.2.2.1 r1.2.1.1 (by omega) _ _) (fun m50 h50 => ?_)
            subst h50
            refine J_goto (pc := 53) (tgt := 10) dX8_term_53 (by decide) ?_
            have hlt1 := hee2 h25.1
            refine J_wk' (ih10 [some (.ref (jxb x + 140)), some (.int key), none] _ ⟨s3, e3, O3, C3, cdW (nI 2) (nI 47) :: D3, w3, rfl, RS_st r1 (cnt_sg (by decide) S).symm (cnt_sg (by decide) S).symm (by rw [List.length_cons]; omega) (Or.inr (Or.inr ⟨rfl, by unfold isSg; decide⟩)), hv2.trans r2, clo_pop r3 (by decide) (fun u hu => (hd u hu).1), pFr_st (pFr_tr (pFr_nx hf hx1) r4) (by omega), r5, by omega⟩) rfl ?_
            rintro (_ | _ | _ | k) v hv <;> first | exact hv | cases hv
          · 
            refine J_iconst (pc := 45) dX8_term_45 kni_0 ?_
            refine K_zret (pc := 46) dX8_term_46 rfl rfl ⟨_, rfl, ?_⟩
            obtain ⟨p, q1, q2, q3⟩ := f39 h42
            exact rsV_no ⟨p, hv2.trans q1, q2, pFr_tr (pFr_nx hf hx1) q3⟩
    ·
      obtain ⟨s1, e1, O1, C1, D1, w1, rfl, hR, hv, hc, hf, hno, hsi⟩ := hI10
      have := hR.1.1
      omega
  · 
    refine J_iconst (pc := 8) dX8_term_8 kni_0 ?_
    refine K_zret (pc := 9) dX8_term_9 rfl rfl ⟨_, rfl, ?_⟩
    exact rsV_no (f2 h5)
set_option maxRecDepth 100000 in
set_option maxHeartbeats 400000 in
theorem m_Lsum {x : jX} {m : jm} {d : Nat} {key : Int32} {A : Nat} {t : Nat → Int32} {n nm N : Nat} {g : Int32} (h96 : n ≤ 96) (hA : A + 196 ≤ 3450) (H : LvC x key A t n nm g 5 eX8_term (d + 4) N) (s e : Nat) (S C : List Int32) (w : Nat) (hR0 : RS key A t n s e S C w m) (hd : ∀ u, S.head? = some u → lvl u < 4 ∧ u ≠ nI 33) (hN : S.count (nI 40) ≤ 8 ∧ S.count (nI 33) ≤ 8 ∧ (8 - S.count (nI 40)) + (8 - S.count (nI 33)) ≤ N) : Ct x (d + 5) eX8_sum [.ref (jxb x + 140), .int key] m (ji fun v m' => rsV (fPt t n nm g A s e (S, C, w, true) m) (yLv key t n nm g A 4 s e S C w m) m' v) := by
  refine J_start (by decide +kernel) (Nat.le_of_ble_eq_true rfl) (ls := [some (.ref (jxb x + 140)), some (.int key), none]) rfl rfl ?_
  refine J_aload_n (pc := 0) dX8_sum_0 rfl ?_
  refine J_iload_n (pc := 1) dX8_sum_1 rfl ?_
  refine K_callVi (pc := 2) (id := 140) (As := [_]) dX8_sum_2 kl_X8_240 rfl job_140 rfl rfl (Nat.le_of_ble_eq_true rfl) (H m s e S C w hR0 (fun u hu => ⟨by have := (hd u hu).1; omega, (hd u hu).2⟩) hN) (fun v2 m2 h2 => ?_)
  obtain ⟨c2, rfl, f2, y2⟩ := h2
  refine Jp_ne (pc := 5) (tgt := 10) dX8_sum_5 (by decide) (fun h5 => ?_) (fun h5 => ?_)
  · 
    obtain ⟨s0, e0, O0, C0, D0, w0, a0, a1, a2, a3, a4, a5⟩ := y2 h5
    refine K_inv (pc := 10) ((n + 1)) (fun i lsq mq => ∃ (s1 e1 : Nat) (O1 C1 D1 : List Int32) (w1 : Nat), lsq = [some (.ref (jxb x + 140)), some (.int key), none] ∧ (RS key A t n s1 e1 S D1 w1 mq) ∧ (vd t n nm g s e (S, C, w, true) = vd t n nm g s1 e1 (O1, C1, w1, false)) ∧ (clo 4 O1 C1 = (S, D1)) ∧ (pFr A m mq) ∧ (s1 < n → 5 ≤ lvl (t s1) → tkS t n nm s1 e1 (O1, C1, w1, false) = none) ∧ (s + 1 + i ≤ s1)) (fun i hi lsq mm hI10 ih10 => ?_) (fun lsq mm hI10 => ?_) 0 (Nat.zero_le _) _ _ (⟨s0, e0, O0, C0, D0, w0, rfl, a1, a2, clo_dn a3 (fun u hu => (hd u hu).1), a4, a5, by omega⟩)
    ·
      obtain ⟨s1, e1, O1, C1, D1, w1, rfl, hR, hv, hc, hf, hno, hsi⟩ := hI10
      refine J_aload_n (pc := 10) dX8_sum_10 rfl ?_
      refine J_bipush (pc := 11) dX8_sum_11 knb_43 ?_
      refine K_callVp (pc := 13) (id := 140) (As := [_]) dX8_sum_13 kl_X8_227 rfl job_140 rfl rfl (Nat.le_of_ble_eq_true rfl) (m_isSign2 (t := t) (k := 43) hR.1 (by decide) (sg_wB (c := nI 43) (by decide)).1) ?_
      refine Jb_ne (pc := 16) (tgt := 28) dX8_sum_16 (by decide) (fun h16 => ?_) (fun h16 => ?_)
      · 
        refine J_aload_n (pc := 28) dX8_sum_28 rfl ?_
        refine K_getI (pc := 29) dX8_sum_29 kf_X8_202 job_140 jrf_140_16 ?_
        refine J_top (b := nI 43) (tk_let hR.1 h16 (sg_wB (c := nI 43) (by decide)).2) ?_
        refine J_istore_n (pc := 32) (ls' := [some _, some _, some _]) dX8_sum_32 rfl (Nat.le_of_ble_eq_true rfl) rfl ?_
        refine J_aload_n (pc := 33) dX8_sum_33 rfl ?_
        refine K_callVv (pc := 34) (id := 140) (As := []) dX8_sum_34 kl_X8_215 rfl job_140 rfl rfl (Nat.le_of_ble_eq_true rfl) (m_next2 (t := t) (n := n) (s := s1) (e := e1) hR.2.2.2.2.2.2.1 h96 hR.1 h16.1 (by rw [kd_sg (e := e1) h16.1 (by rw [h16.2]; exact (sg_wB (c := nI 43) (by decide)).2.1) (by rw [h16.2]; exact (sg_wB (c := nI 43) (by decide)).2.2.1)]; decide) hR.2.2.2.2.2.2.2.1) (fun m34 hx1 => ?_)
        have hR2 := RS_go (S0 := S) hR h16 (by decide) (by decide) hx1
        have htk : tkS t n nm s1 e1 (O1, C1, w1, false) = some (nI 43 :: S, D1, w1, true) := tk_lnk h16 (sg_wB (c := nI 43) (by decide)).1 (by decide) hc (fun z => absurd z (by decide))
        have hv2 := hv.trans (vd_go (g := g) hR.1.2.1 h16.1 htk)
        refine J_aload_n (pc := 37) dX8_sum_37 rfl ?_
        refine J_iload_n (pc := 38) dX8_sum_38 rfl ?_
        refine K_callVi (pc := 39) (id := 140) (As := [_]) dX8_sum_39 kl_X8_240 rfl job_140 rfl rfl (Nat.le_of_ble_eq_true rfl) (H m34 _ _ _ _ _ hR2 (fun u hu => by cases hu; decide) ⟨by rw [cnt_sg (by decide)]; exact hN.1, by rw [cnt_sg (by decide)]; exact hN.2.1, by rw [cnt_sg (by decide), cnt_sg (by decide)]; exact hN.2.2⟩) (fun v39 m39 h39 => ?_)
        obtain ⟨c39, rfl, f39, y39⟩ := h39
        refine Jp_ne (pc := 42) (tgt := 47) dX8_sum_42 (by decide) (fun h42 => ?_) (fun h42 => ?_)
        · 
          obtain ⟨s3, e3, O3, C3, D3, w3, r0, r1, r2, r3, r4, r5⟩ := y39 h42
          have hlen3 := r1.2.2.2.2.2.2.2.2
          rw [List.length_cons] at hlen3
          have hs3 := r1.1.1
          have hee := (ndp_le (t := t) (n := n) (s := s1) hR.1.1).1
          have hee2 := (ndp_le (t := t) (n := n) (s := s1) hR.1.1).2
          have hskp := skp_le (t := t) (n := n) (e := e1) (by rw [hR.1.2.1]; exact hee)
          rw [← hR.1.2.1] at hee hee2
          refine J_aload_n (pc := 47) dX8_sum_47 rfl ?_
          refine J_iconst (pc := 48) dX8_sum_48 kni_2 ?_
          refine J_iload_n (pc := 49) dX8_sum_49 rfl ?_
          refine K_callVv (pc := 50) (id := 140) (As := [_, _]) dX8_sum_50 kl_X8_230 rfl job_140 rfl rfl (Nat.le_of_ble_eq_true rfl) (m_step (m := m39) (A := A) (L := D3.length) r1.2.2.2.2.1 r1.2.1.1 (by omega) _ _) (fun m50 h50 => ?_)
          subst h50
          refine J_goto (pc := 53) (tgt := 10) dX8_sum_53 (by decide) ?_
          have hlt1 := hee2 h16.1
          refine J_wk' (ih10 [some (.ref (jxb x + 140)), some (.int key), none] _ ⟨s3, e3, O3, C3, cdW (nI 2) (nI 43) :: D3, w3, rfl, RS_st r1 (cnt_sg (by decide) S).symm (cnt_sg (by decide) S).symm (by rw [List.length_cons]; omega) (Or.inr (Or.inr ⟨rfl, by unfold isSg; decide⟩)), hv2.trans r2, clo_pop r3 (by decide) (fun u hu => (hd u hu).1), pFr_st (pFr_tr (pFr_nx hf hx1) r4) (by omega), r5, by omega⟩) rfl ?_
          rintro (_ | _ | _ | k) v hv <;> first | exact hv | cases hv
        · 
          refine J_iconst (pc := 45) dX8_sum_45 kni_0 ?_
          refine K_zret (pc := 46) dX8_sum_46 rfl rfl ⟨_, rfl, ?_⟩
          obtain ⟨p, q1, q2, q3⟩ := f39 h42
          exact rsV_no ⟨p, hv2.trans q1, q2, pFr_tr (pFr_nx hf hx1) q3⟩
      · 
        refine J_aload_n (pc := 19) dX8_sum_19 rfl ?_
        refine J_bipush (pc := 20) dX8_sum_20 knb_45 ?_
        refine K_callVp (pc := 22) (id := 140) (As := [_]) dX8_sum_22 kl_X8_227 rfl job_140 rfl rfl (Nat.le_of_ble_eq_true rfl) (m_isSign2 (t := t) (k := 45) hR.1 (by decide) (sg_wB (c := nI 45) (by decide)).1) ?_
        refine Jb_eq (pc := 25) (tgt := 56) dX8_sum_25 (by decide) (fun h25 => ?_) (fun h25 => ?_)
        · 
          refine J_iconst (pc := 56) dX8_sum_56 kni_1 ?_
          refine K_zret (pc := 57) dX8_sum_57 rfl rfl ⟨_, rfl, ?_⟩
          exact rsV_ok ⟨s1, e1, O1, C1, D1, w1, by omega, hR, hv, hc, hf, fun hs hl => by
            rcases Nat.lt_or_ge 4 (lvl (t s1)) with y | y
            · exact hno hs y
            · have q := lvl_inv.2.1 (show lvl (t s1) = 4 by omega)
              exact q.elim (fun y => absurd ⟨hs, y⟩ h16) (fun y => absurd ⟨hs, y⟩ h25)⟩
        · 
          refine J_aload_n (pc := 28) dX8_sum_28 rfl ?_
          refine K_getI (pc := 29) dX8_sum_29 kf_X8_202 job_140 jrf_140_16 ?_
          refine J_top (b := nI 45) (tk_let hR.1 h25 (sg_wB (c := nI 45) (by decide)).2) ?_
          refine J_istore_n (pc := 32) (ls' := [some _, some _, some _]) dX8_sum_32 rfl (Nat.le_of_ble_eq_true rfl) rfl ?_
          refine J_aload_n (pc := 33) dX8_sum_33 rfl ?_
          refine K_callVv (pc := 34) (id := 140) (As := []) dX8_sum_34 kl_X8_215 rfl job_140 rfl rfl (Nat.le_of_ble_eq_true rfl) (m_next2 (t := t) (n := n) (s := s1) (e := e1) hR.2.2.2.2.2.2.1 h96 hR.1 h25.1 (by rw [kd_sg (e := e1) h25.1 (by rw [h25.2]; exact (sg_wB (c := nI 45) (by decide)).2.1) (by rw [h25.2]; exact (sg_wB (c := nI 45) (by decide)).2.2.1)]; decide) hR.2.2.2.2.2.2.2.1) (fun m34 hx1 => ?_)
          have hR2 := RS_go (S0 := S) hR h25 (by decide) (by decide) hx1
          have htk : tkS t n nm s1 e1 (O1, C1, w1, false) = some (nI 45 :: S, D1, w1, true) := tk_lnk h25 (sg_wB (c := nI 45) (by decide)).1 (by decide) hc (fun z => absurd z (by decide))
          have hv2 := hv.trans (vd_go (g := g) hR.1.2.1 h25.1 htk)
          refine J_aload_n (pc := 37) dX8_sum_37 rfl ?_
          refine J_iload_n (pc := 38) dX8_sum_38 rfl ?_
          refine K_callVi (pc := 39) (id := 140) (As := [_]) dX8_sum_39 kl_X8_240 rfl job_140 rfl rfl (Nat.le_of_ble_eq_true rfl) (H m34 _ _ _ _ _ hR2 (fun u hu => by cases hu; decide) ⟨by rw [cnt_sg (by decide)]; exact hN.1, by rw [cnt_sg (by decide)]; exact hN.2.1, by rw [cnt_sg (by decide), cnt_sg (by decide)]; exact hN.2.2⟩) (fun v39 m39 h39 => ?_)
          obtain ⟨c39, rfl, f39, y39⟩ := h39
          refine Jp_ne (pc := 42) (tgt := 47) dX8_sum_42 (by decide) (fun h42 => ?_) (fun h42 => ?_)
          · 
            obtain ⟨s3, e3, O3, C3, D3, w3, r0, r1, r2, r3, r4, r5⟩ := y39 h42
            have hlen3 := r1.2.2.2.2.2.2.2.2
            rw [List.length_cons] at hlen3
            have hs3 := r1.1.1
            have hee := (ndp_le (t := t) (n := n) (s := s1) hR.1.1).1
            have hee2 := (ndp_le (t := t) (n := n) (s := s1) hR.1.1).2
            have hskp := skp_le (t := t) (n := n) (e := e1) (by rw [hR.1.2.1]; exact hee)
            rw [← hR.1.2.1] at hee hee2
            refine J_aload_n (pc := 47) dX8_sum_47 rfl ?_
            refine J_iconst (pc := 48) dX8_sum_48 kni_2 ?_
            refine J_iload_n (pc := 49) dX8_sum_49 rfl ?_
            refine K_callVv (pc := 50) (id := 140) (As := [_, _]) dX8_sum_50 kl_X8_230 rfl job_140 rfl rfl (Nat.le_of_ble_eq_true rfl) (m_step (m := m39) (A := A) (L := D3.length) r1.2.2.2.2.1 r1.2.1.1 (by omega) _ _) (fun m50 h50 => ?_)
            subst h50
            refine J_goto (pc := 53) (tgt := 10) dX8_sum_53 (by decide) ?_
            have hlt1 := hee2 h25.1
            refine J_wk' (ih10 [some (.ref (jxb x + 140)), some (.int key), none] _ ⟨s3, e3, O3, C3, cdW (nI 2) (nI 45) :: D3, w3, rfl, RS_st r1 (cnt_sg (by decide) S).symm (cnt_sg (by decide) S).symm (by rw [List.length_cons]; omega) (Or.inr (Or.inr ⟨rfl, by unfold isSg; decide⟩)), hv2.trans r2, clo_pop r3 (by decide) (fun u hu => (hd u hu).1), pFr_st (pFr_tr (pFr_nx hf hx1) r4) (by omega), r5, by omega⟩) rfl ?_
            rintro (_ | _ | _ | k) v hv <;> first | exact hv | cases hv
          · 
            refine J_iconst (pc := 45) dX8_sum_45 kni_0 ?_
            refine K_zret (pc := 46) dX8_sum_46 rfl rfl ⟨_, rfl, ?_⟩
            obtain ⟨p, q1, q2, q3⟩ := f39 h42
            exact rsV_no ⟨p, hv2.trans q1, q2, pFr_tr (pFr_nx hf hx1) q3⟩
    ·
      obtain ⟨s1, e1, O1, C1, D1, w1, rfl, hR, hv, hc, hf, hno, hsi⟩ := hI10
      have := hR.1.1
      omega
  · 
    refine J_iconst (pc := 8) dX8_sum_8 kni_0 ?_
    refine K_zret (pc := 9) dX8_sum_9 rfl rfl ⟨_, rfl, ?_⟩
    exact rsV_no (f2 h5)
set_option maxRecDepth 100000 in
set_option maxHeartbeats 400000 in
theorem m_Ltest {x : jX} {m : jm} {d : Nat} {key : Int32} {A : Nat} {t : Nat → Int32} {n nm N : Nat} {g : Int32} (h96 : n ≤ 96) (hA : A + 196 ≤ 3450) (H : LvC x key A t n nm g 4 eX8_sum (d + 4) N) (s e : Nat) (S C : List Int32) (w : Nat) (hR0 : RS key A t n s e S C w m) (hd : ∀ u, S.head? = some u → lvl u < 3 ∧ u ≠ nI 33) (hN : S.count (nI 40) ≤ 8 ∧ S.count (nI 33) ≤ 8 ∧ (8 - S.count (nI 40)) + (8 - S.count (nI 33)) ≤ N) : Ct x (d + 5) eX8_test [.ref (jxb x + 140), .int key] m (ji fun v m' => rsV (fPt t n nm g A s e (S, C, w, true) m) (yLv key t n nm g A 3 s e S C w m) m' v) := by
  refine J_start (by decide +kernel) (Nat.le_of_ble_eq_true rfl) (ls := [some (.ref (jxb x + 140)), some (.int key), none]) rfl rfl ?_
  refine J_aload_n (pc := 0) dX8_test_0 rfl ?_
  refine J_iload_n (pc := 1) dX8_test_1 rfl ?_
  refine K_callVi (pc := 2) (id := 140) (As := [_]) dX8_test_2 kl_X8_237 rfl job_140 rfl rfl (Nat.le_of_ble_eq_true rfl) (H m s e S C w hR0 (fun u hu => ⟨by have := (hd u hu).1; omega, (hd u hu).2⟩) hN) (fun v2 m2 h2 => ?_)
  obtain ⟨c2, rfl, f2, y2⟩ := h2
  refine Jp_ne (pc := 5) (tgt := 10) dX8_test_5 (by decide) (fun h5 => ?_) (fun h5 => ?_)
  · 
    obtain ⟨s1, e1, O1, C1, D1, w1, hs0, hR, hv, hc, hf, hno⟩ := y2 h5
    refine J_aload_n (pc := 10) dX8_test_10 rfl ?_
    refine J_bipush (pc := 11) dX8_test_11 knb_60 ?_
    refine K_callVp (pc := 13) (id := 140) (As := [_]) dX8_test_13 kl_X8_227 rfl job_140 rfl rfl (Nat.le_of_ble_eq_true rfl) (m_isSign2 (t := t) (k := 60) hR.1 (by decide) (sg_wB (c := nI 60) (by decide)).1) ?_
    refine Jb_ne (pc := 16) (tgt := 37) dX8_test_16 (by decide) (fun h16 => ?_) (fun h16 => ?_)
    · 
      refine J_aload_n (pc := 37) dX8_test_37 rfl ?_
      refine K_getI (pc := 38) dX8_test_38 kf_X8_202 job_140 jrf_140_16 ?_
      refine J_top (b := nI 60) (tk_let hR.1 h16 (sg_wB (c := nI 60) (by decide)).2) ?_
      refine J_istore_n (pc := 41) (ls' := [some _, some _, some _]) dX8_test_41 rfl (Nat.le_of_ble_eq_true rfl) rfl ?_
      refine J_aload_n (pc := 42) dX8_test_42 rfl ?_
      refine K_callVv (pc := 43) (id := 140) (As := []) dX8_test_43 kl_X8_215 rfl job_140 rfl rfl (Nat.le_of_ble_eq_true rfl) (m_next2 (t := t) (n := n) (s := s1) (e := e1) hR.2.2.2.2.2.2.1 h96 hR.1 h16.1 (by rw [kd_sg (e := e1) h16.1 (by rw [h16.2]; exact (sg_wB (c := nI 60) (by decide)).2.1) (by rw [h16.2]; exact (sg_wB (c := nI 60) (by decide)).2.2.1)]; decide) hR.2.2.2.2.2.2.2.1) (fun m43 hx1 => ?_)
      have hR2 := RS_go (S0 := S) hR h16 (by decide) (by decide) hx1
      have htk : tkS t n nm s1 e1 (O1, C1, w1, false) = some (nI 60 :: S, D1, w1, true) := tk_lnk h16 (sg_wB (c := nI 60) (by decide)).1 (by decide) (clo_dn hc (fun u hu => (hd u hu).1)) (fun _ => ⟨hc, fun u hu => (hd u hu).1⟩)
      have hv2 := hv.trans (vd_go (g := g) hR.1.2.1 h16.1 htk)
      refine J_aload_n (pc := 46) dX8_test_46 rfl ?_
      refine J_iload_n (pc := 47) dX8_test_47 rfl ?_
      refine K_callVi (pc := 48) (id := 140) (As := [_]) dX8_test_48 kl_X8_237 rfl job_140 rfl rfl (Nat.le_of_ble_eq_true rfl) (H m43 _ _ _ _ _ hR2 (fun u hu => by cases hu; decide) ⟨by rw [cnt_sg (by decide)]; exact hN.1, by rw [cnt_sg (by decide)]; exact hN.2.1, by rw [cnt_sg (by decide), cnt_sg (by decide)]; exact hN.2.2⟩) (fun v48 m48 h48 => ?_)
      obtain ⟨c48, rfl, f48, y48⟩ := h48
      refine Jp_ne (pc := 51) (tgt := 56) dX8_test_51 (by decide) (fun h51 => ?_) (fun h51 => ?_)
      · 
        obtain ⟨s3, e3, O3, C3, D3, w3, r0, r1, r2, r3, r4, r5⟩ := y48 h51
        have hlen3 := r1.2.2.2.2.2.2.2.2
        rw [List.length_cons] at hlen3
        have hs3 := r1.1.1
        have hee := (ndp_le (t := t) (n := n) (s := s1) hR.1.1).1
        have hee2 := (ndp_le (t := t) (n := n) (s := s1) hR.1.1).2
        have hskp := skp_le (t := t) (n := n) (e := e1) (by rw [hR.1.2.1]; exact hee)
        rw [← hR.1.2.1] at hee hee2
        refine J_aload_n (pc := 56) dX8_test_56 rfl ?_
        refine J_iconst (pc := 57) dX8_test_57 kni_2 ?_
        refine J_iload_n (pc := 58) dX8_test_58 rfl ?_
        refine K_callVv (pc := 59) (id := 140) (As := [_, _]) dX8_test_59 kl_X8_230 rfl job_140 rfl rfl (Nat.le_of_ble_eq_true rfl) (m_step (m := m48) (A := A) (L := D3.length) r1.2.2.2.2.1 r1.2.1.1 (by omega) _ _) (fun m59 h59 => ?_)
        subst h59
        refine J_iconst (pc := 62) dX8_test_62 kni_1 ?_
        refine K_zret (pc := 63) dX8_test_63 rfl rfl ⟨_, rfl, ?_⟩
        have hlt1 := hee2 h16.1
        exact rsV_ok ⟨s3, e3, O3, C3, cdW (nI 2) (nI 60) :: D3, w3, by omega, RS_st r1 (cnt_sg (by decide) S).symm (cnt_sg (by decide) S).symm (by rw [List.length_cons]; omega) (Or.inr (Or.inr ⟨rfl, by unfold isSg; decide⟩)), hv2.trans r2, clo_pop r3 (by decide) (fun u hu => (hd u hu).1), pFr_st (pFr_tr (pFr_nx hf hx1) r4) (by omega), fun hs hl => by
          rcases Nat.lt_or_ge 3 (lvl (t s3)) with y | y
          · exact r5 hs y
          · exact tk_cmp (by omega) (by decide) r3⟩
      · 
        refine J_iconst (pc := 54) dX8_test_54 kni_0 ?_
        refine K_zret (pc := 55) dX8_test_55 rfl rfl ⟨_, rfl, ?_⟩
        obtain ⟨p, q1, q2, q3⟩ := f48 h51
        exact rsV_no ⟨p, hv2.trans q1, q2, pFr_tr (pFr_nx hf hx1) q3⟩
    · 
      refine J_aload_n (pc := 19) dX8_test_19 rfl ?_
      refine J_bipush (pc := 20) dX8_test_20 knb_61 ?_
      refine K_callVp (pc := 22) (id := 140) (As := [_]) dX8_test_22 kl_X8_227 rfl job_140 rfl rfl (Nat.le_of_ble_eq_true rfl) (m_isSign2 (t := t) (k := 61) hR.1 (by decide) (sg_wB (c := nI 61) (by decide)).1) ?_
      refine Jb_ne (pc := 25) (tgt := 37) dX8_test_25 (by decide) (fun h25 => ?_) (fun h25 => ?_)
      · 
        refine J_aload_n (pc := 37) dX8_test_37 rfl ?_
        refine K_getI (pc := 38) dX8_test_38 kf_X8_202 job_140 jrf_140_16 ?_
        refine J_top (b := nI 61) (tk_let hR.1 h25 (sg_wB (c := nI 61) (by decide)).2) ?_
        refine J_istore_n (pc := 41) (ls' := [some _, some _, some _]) dX8_test_41 rfl (Nat.le_of_ble_eq_true rfl) rfl ?_
        refine J_aload_n (pc := 42) dX8_test_42 rfl ?_
        refine K_callVv (pc := 43) (id := 140) (As := []) dX8_test_43 kl_X8_215 rfl job_140 rfl rfl (Nat.le_of_ble_eq_true rfl) (m_next2 (t := t) (n := n) (s := s1) (e := e1) hR.2.2.2.2.2.2.1 h96 hR.1 h25.1 (by rw [kd_sg (e := e1) h25.1 (by rw [h25.2]; exact (sg_wB (c := nI 61) (by decide)).2.1) (by rw [h25.2]; exact (sg_wB (c := nI 61) (by decide)).2.2.1)]; decide) hR.2.2.2.2.2.2.2.1) (fun m43 hx1 => ?_)
        have hR2 := RS_go (S0 := S) hR h25 (by decide) (by decide) hx1
        have htk : tkS t n nm s1 e1 (O1, C1, w1, false) = some (nI 61 :: S, D1, w1, true) := tk_lnk h25 (sg_wB (c := nI 61) (by decide)).1 (by decide) (clo_dn hc (fun u hu => (hd u hu).1)) (fun _ => ⟨hc, fun u hu => (hd u hu).1⟩)
        have hv2 := hv.trans (vd_go (g := g) hR.1.2.1 h25.1 htk)
        refine J_aload_n (pc := 46) dX8_test_46 rfl ?_
        refine J_iload_n (pc := 47) dX8_test_47 rfl ?_
        refine K_callVi (pc := 48) (id := 140) (As := [_]) dX8_test_48 kl_X8_237 rfl job_140 rfl rfl (Nat.le_of_ble_eq_true rfl) (H m43 _ _ _ _ _ hR2 (fun u hu => by cases hu; decide) ⟨by rw [cnt_sg (by decide)]; exact hN.1, by rw [cnt_sg (by decide)]; exact hN.2.1, by rw [cnt_sg (by decide), cnt_sg (by decide)]; exact hN.2.2⟩) (fun v48 m48 h48 => ?_)
        obtain ⟨c48, rfl, f48, y48⟩ := h48
        refine Jp_ne (pc := 51) (tgt := 56) dX8_test_51 (by decide) (fun h51 => ?_) (fun h51 => ?_)
        · 
          obtain ⟨s3, e3, O3, C3, D3, w3, r0, r1, r2, r3, r4, r5⟩ := y48 h51
          have hlen3 := r1.2.2.2.2.2.2.2.2
          rw [List.length_cons] at hlen3
          have hs3 := r1.1.1
          have hee := (ndp_le (t := t) (n := n) (s := s1) hR.1.1).1
          have hee2 := (ndp_le (t := t) (n := n) (s := s1) hR.1.1).2
          have hskp := skp_le (t := t) (n := n) (e := e1) (by rw [hR.1.2.1]; exact hee)
          rw [← hR.1.2.1] at hee hee2
          refine J_aload_n (pc := 56) dX8_test_56 rfl ?_
          refine J_iconst (pc := 57) dX8_test_57 kni_2 ?_
          refine J_iload_n (pc := 58) dX8_test_58 rfl ?_
          refine K_callVv (pc := 59) (id := 140) (As := [_, _]) dX8_test_59 kl_X8_230 rfl job_140 rfl rfl (Nat.le_of_ble_eq_true rfl) (m_step (m := m48) (A := A) (L := D3.length) r1.2.2.2.2.1 r1.2.1.1 (by omega) _ _) (fun m59 h59 => ?_)
          subst h59
          refine J_iconst (pc := 62) dX8_test_62 kni_1 ?_
          refine K_zret (pc := 63) dX8_test_63 rfl rfl ⟨_, rfl, ?_⟩
          have hlt1 := hee2 h25.1
          exact rsV_ok ⟨s3, e3, O3, C3, cdW (nI 2) (nI 61) :: D3, w3, by omega, RS_st r1 (cnt_sg (by decide) S).symm (cnt_sg (by decide) S).symm (by rw [List.length_cons]; omega) (Or.inr (Or.inr ⟨rfl, by unfold isSg; decide⟩)), hv2.trans r2, clo_pop r3 (by decide) (fun u hu => (hd u hu).1), pFr_st (pFr_tr (pFr_nx hf hx1) r4) (by omega), fun hs hl => by
            rcases Nat.lt_or_ge 3 (lvl (t s3)) with y | y
            · exact r5 hs y
            · exact tk_cmp (by omega) (by decide) r3⟩
        · 
          refine J_iconst (pc := 54) dX8_test_54 kni_0 ?_
          refine K_zret (pc := 55) dX8_test_55 rfl rfl ⟨_, rfl, ?_⟩
          obtain ⟨p, q1, q2, q3⟩ := f48 h51
          exact rsV_no ⟨p, hv2.trans q1, q2, pFr_tr (pFr_nx hf hx1) q3⟩
      · 
        refine J_aload_n (pc := 28) dX8_test_28 rfl ?_
        refine J_bipush (pc := 29) dX8_test_29 knb_62 ?_
        refine K_callVp (pc := 31) (id := 140) (As := [_]) dX8_test_31 kl_X8_227 rfl job_140 rfl rfl (Nat.le_of_ble_eq_true rfl) (m_isSign2 (t := t) (k := 62) hR.1 (by decide) (sg_wB (c := nI 62) (by decide)).1) ?_
        refine Jb_eq (pc := 34) (tgt := 62) dX8_test_34 (by decide) (fun h34 => ?_) (fun h34 => ?_)
        · 
          refine J_iconst (pc := 62) dX8_test_62 kni_1 ?_
          refine K_zret (pc := 63) dX8_test_63 rfl rfl ⟨_, rfl, ?_⟩
          exact rsV_ok ⟨s1, e1, O1, C1, D1, w1, by omega, hR, hv, (clo_dn hc (fun u hu => (hd u hu).1)), hf, fun hs hl => by
            rcases Nat.lt_or_ge 3 (lvl (t s1)) with y | y
            · exact hno hs y
            · have q := lvl_inv.2.2.1 (show lvl (t s1) = 3 by omega)
              exact q.elim (fun y => absurd ⟨hs, y⟩ h16) (fun q => q.elim (fun y => absurd ⟨hs, y⟩ h25) (fun y => absurd ⟨hs, y⟩ h34))⟩
        · 
          refine J_aload_n (pc := 37) dX8_test_37 rfl ?_
          refine K_getI (pc := 38) dX8_test_38 kf_X8_202 job_140 jrf_140_16 ?_
          refine J_top (b := nI 62) (tk_let hR.1 h34 (sg_wB (c := nI 62) (by decide)).2) ?_
          refine J_istore_n (pc := 41) (ls' := [some _, some _, some _]) dX8_test_41 rfl (Nat.le_of_ble_eq_true rfl) rfl ?_
          refine J_aload_n (pc := 42) dX8_test_42 rfl ?_
          refine K_callVv (pc := 43) (id := 140) (As := []) dX8_test_43 kl_X8_215 rfl job_140 rfl rfl (Nat.le_of_ble_eq_true rfl) (m_next2 (t := t) (n := n) (s := s1) (e := e1) hR.2.2.2.2.2.2.1 h96 hR.1 h34.1 (by rw [kd_sg (e := e1) h34.1 (by rw [h34.2]; exact (sg_wB (c := nI 62) (by decide)).2.1) (by rw [h34.2]; exact (sg_wB (c := nI 62) (by decide)).2.2.1)]; decide) hR.2.2.2.2.2.2.2.1) (fun m43 hx1 => ?_)
          have hR2 := RS_go (S0 := S) hR h34 (by decide) (by decide) hx1
          have htk : tkS t n nm s1 e1 (O1, C1, w1, false) = some (nI 62 :: S, D1, w1, true) := tk_lnk h34 (sg_wB (c := nI 62) (by decide)).1 (by decide) (clo_dn hc (fun u hu => (hd u hu).1)) (fun _ => ⟨hc, fun u hu => (hd u hu).1⟩)
          have hv2 := hv.trans (vd_go (g := g) hR.1.2.1 h34.1 htk)
          refine J_aload_n (pc := 46) dX8_test_46 rfl ?_
          refine J_iload_n (pc := 47) dX8_test_47 rfl ?_
          refine K_callVi (pc := 48) (id := 140) (As := [_]) dX8_test_48 kl_X8_237 rfl job_140 rfl rfl (Nat.le_of_ble_eq_true rfl) (H m43 _ _ _ _ _ hR2 (fun u hu => by cases hu; decide) ⟨by rw [cnt_sg (by decide)]; exact hN.1, by rw [cnt_sg (by decide)]; exact hN.2.1, by rw [cnt_sg (by decide), cnt_sg (by decide)]; exact hN.2.2⟩) (fun v48 m48 h48 => ?_)
          obtain ⟨c48, rfl, f48, y48⟩ := h48
          refine Jp_ne (pc := 51) (tgt := 56) dX8_test_51 (by decide) (fun h51 => ?_) (fun h51 => ?_)
          · 
            obtain ⟨s3, e3, O3, C3, D3, w3, r0, r1, r2, r3, r4, r5⟩ := y48 h51
            have hlen3 := r1.2.2.2.2.2.2.2.2
            rw [List.length_cons] at hlen3
            have hs3 := r1.1.1
            have hee := (ndp_le (t := t) (n := n) (s := s1) hR.1.1).1
            have hee2 := (ndp_le (t := t) (n := n) (s := s1) hR.1.1).2
            have hskp := skp_le (t := t) (n := n) (e := e1) (by rw [hR.1.2.1]; exact hee)
            rw [← hR.1.2.1] at hee hee2
            refine J_aload_n (pc := 56) dX8_test_56 rfl ?_
            refine J_iconst (pc := 57) dX8_test_57 kni_2 ?_
            refine J_iload_n (pc := 58) dX8_test_58 rfl ?_
            refine K_callVv (pc := 59) (id := 140) (As := [_, _]) dX8_test_59 kl_X8_230 rfl job_140 rfl rfl (Nat.le_of_ble_eq_true rfl) (m_step (m := m48) (A := A) (L := D3.length) r1.2.2.2.2.1 r1.2.1.1 (by omega) _ _) (fun m59 h59 => ?_)
            subst h59
            refine J_iconst (pc := 62) dX8_test_62 kni_1 ?_
            refine K_zret (pc := 63) dX8_test_63 rfl rfl ⟨_, rfl, ?_⟩
            have hlt1 := hee2 h34.1
            exact rsV_ok ⟨s3, e3, O3, C3, cdW (nI 2) (nI 62) :: D3, w3, by omega, RS_st r1 (cnt_sg (by decide) S).symm (cnt_sg (by decide) S).symm (by rw [List.length_cons]; omega) (Or.inr (Or.inr ⟨rfl, by unfold isSg; decide⟩)), hv2.trans r2, clo_pop r3 (by decide) (fun u hu => (hd u hu).1), pFr_st (pFr_tr (pFr_nx hf hx1) r4) (by omega), fun hs hl => by
              rcases Nat.lt_or_ge 3 (lvl (t s3)) with y | y
              · exact r5 hs y
              · exact tk_cmp (by omega) (by decide) r3⟩
          · 
            refine J_iconst (pc := 54) dX8_test_54 kni_0 ?_
            refine K_zret (pc := 55) dX8_test_55 rfl rfl ⟨_, rfl, ?_⟩
            obtain ⟨p, q1, q2, q3⟩ := f48 h51
            exact rsV_no ⟨p, hv2.trans q1, q2, pFr_tr (pFr_nx hf hx1) q3⟩
  · 
    refine J_iconst (pc := 8) dX8_test_8 kni_0 ?_
    refine K_zret (pc := 9) dX8_test_9 rfl rfl ⟨_, rfl, ?_⟩
    exact rsV_no (f2 h5)
set_option maxRecDepth 100000 in
set_option maxHeartbeats 400000 in
theorem m_Lboth {x : jX} {m : jm} {d : Nat} {key : Int32} {A : Nat} {t : Nat → Int32} {n nm N : Nat} {g : Int32} (h96 : n ≤ 96) (hA : A + 196 ≤ 3450) (H : LvC x key A t n nm g 3 eX8_test (d + 4) N) (s e : Nat) (S C : List Int32) (w : Nat) (hR0 : RS key A t n s e S C w m) (hd : ∀ u, S.head? = some u → lvl u < 2 ∧ u ≠ nI 33) (hN : S.count (nI 40) ≤ 8 ∧ S.count (nI 33) ≤ 8 ∧ (8 - S.count (nI 40)) + (8 - S.count (nI 33)) ≤ N) : Ct x (d + 5) eX8_both [.ref (jxb x + 140), .int key] m (ji fun v m' => rsV (fPt t n nm g A s e (S, C, w, true) m) (yLv key t n nm g A 2 s e S C w m) m' v) := by
  refine J_start (by decide +kernel) (Nat.le_of_ble_eq_true rfl) (ls := [some (.ref (jxb x + 140)), some (.int key)]) rfl rfl ?_
  refine J_aload_n (pc := 0) dX8_both_0 rfl ?_
  refine J_iload_n (pc := 1) dX8_both_1 rfl ?_
  refine K_callVi (pc := 2) (id := 140) (As := [_]) dX8_both_2 kl_X8_234 rfl job_140 rfl rfl (Nat.le_of_ble_eq_true rfl) (H m s e S C w hR0 (fun u hu => ⟨by have := (hd u hu).1; omega, (hd u hu).2⟩) hN) (fun v2 m2 h2 => ?_)
  obtain ⟨c2, rfl, f2, y2⟩ := h2
  refine Jp_ne (pc := 5) (tgt := 10) dX8_both_5 (by decide) (fun h5 => ?_) (fun h5 => ?_)
  · 
    obtain ⟨s0, e0, O0, C0, D0, w0, a0, a1, a2, a3, a4, a5⟩ := y2 h5
    refine K_inv (pc := 10) ((n + 1)) (fun i lsq mq => ∃ (s1 e1 : Nat) (O1 C1 D1 : List Int32) (w1 : Nat), lsq = [some (.ref (jxb x + 140)), some (.int key)] ∧ (RS key A t n s1 e1 S D1 w1 mq) ∧ (vd t n nm g s e (S, C, w, true) = vd t n nm g s1 e1 (O1, C1, w1, false)) ∧ (clo 2 O1 C1 = (S, D1)) ∧ (pFr A m mq) ∧ (s1 < n → 3 ≤ lvl (t s1) → tkS t n nm s1 e1 (O1, C1, w1, false) = none) ∧ (s + 1 + i ≤ s1)) (fun i hi lsq mm hI10 ih10 => ?_) (fun lsq mm hI10 => ?_) 0 (Nat.zero_le _) _ _ (⟨s0, e0, O0, C0, D0, w0, rfl, a1, a2, clo_dn a3 (fun u hu => (hd u hu).1), a4, a5, by omega⟩)
    ·
      obtain ⟨s1, e1, O1, C1, D1, w1, rfl, hR, hv, hc, hf, hno, hsi⟩ := hI10
      refine J_aload_n (pc := 10) dX8_both_10 rfl ?_
      refine J_bipush (pc := 11) dX8_both_11 knb_38 ?_
      refine K_callVp (pc := 13) (id := 140) (As := [_]) dX8_both_13 kl_X8_227 rfl job_140 rfl rfl (Nat.le_of_ble_eq_true rfl) (m_isSign2 (t := t) (k := 38) hR.1 (by decide) (sg_wB (c := nI 38) (by decide)).1) ?_
      refine Jb_eq (pc := 16) (tgt := 43) dX8_both_16 (by decide) (fun h16 => ?_) (fun h16 => ?_)
      · 
        refine J_iconst (pc := 43) dX8_both_43 kni_1 ?_
        refine K_zret (pc := 44) dX8_both_44 rfl rfl ⟨_, rfl, ?_⟩
        exact rsV_ok ⟨s1, e1, O1, C1, D1, w1, by omega, hR, hv, hc, hf, fun hs hl => by
          rcases Nat.lt_or_ge 2 (lvl (t s1)) with y | y
          · exact hno hs y
          · have q := lvl_inv.2.2.2.1 (show lvl (t s1) = 2 by omega)
            exact absurd ⟨hs, q⟩ h16⟩
      · 
        refine J_aload_n (pc := 19) dX8_both_19 rfl ?_
        refine K_callVv (pc := 20) (id := 140) (As := []) dX8_both_20 kl_X8_215 rfl job_140 rfl rfl (Nat.le_of_ble_eq_true rfl) (m_next2 (t := t) (n := n) (s := s1) (e := e1) hR.2.2.2.2.2.2.1 h96 hR.1 h16.1 (by rw [kd_sg (e := e1) h16.1 (by rw [h16.2]; exact (sg_wB (c := nI 38) (by decide)).2.1) (by rw [h16.2]; exact (sg_wB (c := nI 38) (by decide)).2.2.1)]; decide) hR.2.2.2.2.2.2.2.1) (fun m20 hx1 => ?_)
        have hR2 := RS_go (S0 := S) hR h16 (by decide) (by decide) hx1
        have htk : tkS t n nm s1 e1 (O1, C1, w1, false) = some (nI 38 :: S, D1, w1, true) := tk_lnk h16 (sg_wB (c := nI 38) (by decide)).1 (by decide) hc (fun z => absurd z (by decide))
        have hv2 := hv.trans (vd_go (g := g) hR.1.2.1 h16.1 htk)
        refine J_aload_n (pc := 23) dX8_both_23 rfl ?_
        refine J_iload_n (pc := 24) dX8_both_24 rfl ?_
        refine K_callVi (pc := 25) (id := 140) (As := [_]) dX8_both_25 kl_X8_234 rfl job_140 rfl rfl (Nat.le_of_ble_eq_true rfl) (H m20 _ _ _ _ _ hR2 (fun u hu => by cases hu; decide) ⟨by rw [cnt_sg (by decide)]; exact hN.1, by rw [cnt_sg (by decide)]; exact hN.2.1, by rw [cnt_sg (by decide), cnt_sg (by decide)]; exact hN.2.2⟩) (fun v25 m25 h25 => ?_)
        obtain ⟨c25, rfl, f25, y25⟩ := h25
        refine Jp_ne (pc := 28) (tgt := 33) dX8_both_28 (by decide) (fun h28 => ?_) (fun h28 => ?_)
        · 
          obtain ⟨s3, e3, O3, C3, D3, w3, r0, r1, r2, r3, r4, r5⟩ := y25 h28
          have hlen3 := r1.2.2.2.2.2.2.2.2
          rw [List.length_cons] at hlen3
          have hs3 := r1.1.1
          have hee := (ndp_le (t := t) (n := n) (s := s1) hR.1.1).1
          have hee2 := (ndp_le (t := t) (n := n) (s := s1) hR.1.1).2
          have hskp := skp_le (t := t) (n := n) (e := e1) (by rw [hR.1.2.1]; exact hee)
          rw [← hR.1.2.1] at hee hee2
          refine J_aload_n (pc := 33) dX8_both_33 rfl ?_
          refine J_iconst (pc := 34) dX8_both_34 kni_2 ?_
          refine J_bipush (pc := 35) dX8_both_35 knb_38 ?_
          refine K_callVv (pc := 37) (id := 140) (As := [_, _]) dX8_both_37 kl_X8_230 rfl job_140 rfl rfl (Nat.le_of_ble_eq_true rfl) (m_step (m := m25) (A := A) (L := D3.length) r1.2.2.2.2.1 r1.2.1.1 (by omega) _ _) (fun m37 h37 => ?_)
          subst h37
          refine J_goto (pc := 40) (tgt := 10) dX8_both_40 (by decide) ?_
          have hlt1 := hee2 h16.1
          refine J_wk' (ih10 [some (.ref (jxb x + 140)), some (.int key)] _ ⟨s3, e3, O3, C3, cdW (nI 2) (nI 38) :: D3, w3, rfl, RS_st r1 (cnt_sg (by decide) S).symm (cnt_sg (by decide) S).symm (by rw [List.length_cons]; omega) (Or.inr (Or.inr ⟨rfl, by unfold isSg; decide⟩)), hv2.trans r2, clo_pop r3 (by decide) (fun u hu => (hd u hu).1), pFr_st (pFr_tr (pFr_nx hf hx1) r4) (by omega), r5, by omega⟩) rfl ?_
          rintro (_ | _ | _ | k) v hv <;> first | exact hv | cases hv
        · 
          refine J_iconst (pc := 31) dX8_both_31 kni_0 ?_
          refine K_zret (pc := 32) dX8_both_32 rfl rfl ⟨_, rfl, ?_⟩
          obtain ⟨p, q1, q2, q3⟩ := f25 h28
          exact rsV_no ⟨p, hv2.trans q1, q2, pFr_tr (pFr_nx hf hx1) q3⟩
    ·
      obtain ⟨s1, e1, O1, C1, D1, w1, rfl, hR, hv, hc, hf, hno, hsi⟩ := hI10
      have := hR.1.1
      omega
  · 
    refine J_iconst (pc := 8) dX8_both_8 kni_0 ?_
    refine K_zret (pc := 9) dX8_both_9 rfl rfl ⟨_, rfl, ?_⟩
    exact rsV_no (f2 h5)
set_option maxRecDepth 100000 in
set_option maxHeartbeats 400000 in
theorem m_Leither {x : jX} {m : jm} {d : Nat} {key : Int32} {A : Nat} {t : Nat → Int32} {n nm N : Nat} {g : Int32} (h96 : n ≤ 96) (hA : A + 196 ≤ 3450) (H : LvC x key A t n nm g 2 eX8_both (d + 4) N) (s e : Nat) (S C : List Int32) (w : Nat) (hR0 : RS key A t n s e S C w m) (hd : ∀ u, S.head? = some u → lvl u < 1 ∧ u ≠ nI 33) (hN : S.count (nI 40) ≤ 8 ∧ S.count (nI 33) ≤ 8 ∧ (8 - S.count (nI 40)) + (8 - S.count (nI 33)) ≤ N) : Ct x (d + 5) eX8_either [.ref (jxb x + 140), .int key] m (ji fun v m' => rsV (fPt t n nm g A s e (S, C, w, true) m) (yLv key t n nm g A 1 s e S C w m) m' v) := by
  refine J_start (by decide +kernel) (Nat.le_of_ble_eq_true rfl) (ls := [some (.ref (jxb x + 140)), some (.int key)]) rfl rfl ?_
  refine J_aload_n (pc := 0) dX8_either_0 rfl ?_
  refine J_iload_n (pc := 1) dX8_either_1 rfl ?_
  refine K_callVi (pc := 2) (id := 140) (As := [_]) dX8_either_2 kl_X8_224 rfl job_140 rfl rfl (Nat.le_of_ble_eq_true rfl) (H m s e S C w hR0 (fun u hu => ⟨by have := (hd u hu).1; omega, (hd u hu).2⟩) hN) (fun v2 m2 h2 => ?_)
  obtain ⟨c2, rfl, f2, y2⟩ := h2
  refine Jp_ne (pc := 5) (tgt := 10) dX8_either_5 (by decide) (fun h5 => ?_) (fun h5 => ?_)
  · 
    obtain ⟨s0, e0, O0, C0, D0, w0, a0, a1, a2, a3, a4, a5⟩ := y2 h5
    refine K_inv (pc := 10) ((n + 1)) (fun i lsq mq => ∃ (s1 e1 : Nat) (O1 C1 D1 : List Int32) (w1 : Nat), lsq = [some (.ref (jxb x + 140)), some (.int key)] ∧ (RS key A t n s1 e1 S D1 w1 mq) ∧ (vd t n nm g s e (S, C, w, true) = vd t n nm g s1 e1 (O1, C1, w1, false)) ∧ (clo 1 O1 C1 = (S, D1)) ∧ (pFr A m mq) ∧ (s1 < n → 2 ≤ lvl (t s1) → tkS t n nm s1 e1 (O1, C1, w1, false) = none) ∧ (s + 1 + i ≤ s1)) (fun i hi lsq mm hI10 ih10 => ?_) (fun lsq mm hI10 => ?_) 0 (Nat.zero_le _) _ _ (⟨s0, e0, O0, C0, D0, w0, rfl, a1, a2, clo_dn a3 (fun u hu => (hd u hu).1), a4, a5, by omega⟩)
    ·
      obtain ⟨s1, e1, O1, C1, D1, w1, rfl, hR, hv, hc, hf, hno, hsi⟩ := hI10
      refine J_aload_n (pc := 10) dX8_either_10 rfl ?_
      refine J_bipush (pc := 11) dX8_either_11 knb_124 ?_
      refine K_callVp (pc := 13) (id := 140) (As := [_]) dX8_either_13 kl_X8_227 rfl job_140 rfl rfl (Nat.le_of_ble_eq_true rfl) (m_isSign2 (t := t) (k := 124) hR.1 (by decide) (sg_wB (c := nI 124) (by decide)).1) ?_
      refine Jb_eq (pc := 16) (tgt := 43) dX8_either_16 (by decide) (fun h16 => ?_) (fun h16 => ?_)
      · 
        refine J_iconst (pc := 43) dX8_either_43 kni_1 ?_
        refine K_zret (pc := 44) dX8_either_44 rfl rfl ⟨_, rfl, ?_⟩
        exact rsV_ok ⟨s1, e1, O1, C1, D1, w1, by omega, hR, hv, hc, hf, fun hs hl => by
          rcases Nat.lt_or_ge 1 (lvl (t s1)) with y | y
          · exact hno hs y
          · have q := lvl_inv.2.2.2.2 (show lvl (t s1) = 1 by omega)
            exact absurd ⟨hs, q⟩ h16⟩
      · 
        refine J_aload_n (pc := 19) dX8_either_19 rfl ?_
        refine K_callVv (pc := 20) (id := 140) (As := []) dX8_either_20 kl_X8_215 rfl job_140 rfl rfl (Nat.le_of_ble_eq_true rfl) (m_next2 (t := t) (n := n) (s := s1) (e := e1) hR.2.2.2.2.2.2.1 h96 hR.1 h16.1 (by rw [kd_sg (e := e1) h16.1 (by rw [h16.2]; exact (sg_wB (c := nI 124) (by decide)).2.1) (by rw [h16.2]; exact (sg_wB (c := nI 124) (by decide)).2.2.1)]; decide) hR.2.2.2.2.2.2.2.1) (fun m20 hx1 => ?_)
        have hR2 := RS_go (S0 := S) hR h16 (by decide) (by decide) hx1
        have htk : tkS t n nm s1 e1 (O1, C1, w1, false) = some (nI 124 :: S, D1, w1, true) := tk_lnk h16 (sg_wB (c := nI 124) (by decide)).1 (by decide) hc (fun z => absurd z (by decide))
        have hv2 := hv.trans (vd_go (g := g) hR.1.2.1 h16.1 htk)
        refine J_aload_n (pc := 23) dX8_either_23 rfl ?_
        refine J_iload_n (pc := 24) dX8_either_24 rfl ?_
        refine K_callVi (pc := 25) (id := 140) (As := [_]) dX8_either_25 kl_X8_224 rfl job_140 rfl rfl (Nat.le_of_ble_eq_true rfl) (H m20 _ _ _ _ _ hR2 (fun u hu => by cases hu; decide) ⟨by rw [cnt_sg (by decide)]; exact hN.1, by rw [cnt_sg (by decide)]; exact hN.2.1, by rw [cnt_sg (by decide), cnt_sg (by decide)]; exact hN.2.2⟩) (fun v25 m25 h25 => ?_)
        obtain ⟨c25, rfl, f25, y25⟩ := h25
        refine Jp_ne (pc := 28) (tgt := 33) dX8_either_28 (by decide) (fun h28 => ?_) (fun h28 => ?_)
        · 
          obtain ⟨s3, e3, O3, C3, D3, w3, r0, r1, r2, r3, r4, r5⟩ := y25 h28
          have hlen3 := r1.2.2.2.2.2.2.2.2
          rw [List.length_cons] at hlen3
          have hs3 := r1.1.1
          have hee := (ndp_le (t := t) (n := n) (s := s1) hR.1.1).1
          have hee2 := (ndp_le (t := t) (n := n) (s := s1) hR.1.1).2
          have hskp := skp_le (t := t) (n := n) (e := e1) (by rw [hR.1.2.1]; exact hee)
          rw [← hR.1.2.1] at hee hee2
          refine J_aload_n (pc := 33) dX8_either_33 rfl ?_
          refine J_iconst (pc := 34) dX8_either_34 kni_2 ?_
          refine J_bipush (pc := 35) dX8_either_35 knb_124 ?_
          refine K_callVv (pc := 37) (id := 140) (As := [_, _]) dX8_either_37 kl_X8_230 rfl job_140 rfl rfl (Nat.le_of_ble_eq_true rfl) (m_step (m := m25) (A := A) (L := D3.length) r1.2.2.2.2.1 r1.2.1.1 (by omega) _ _) (fun m37 h37 => ?_)
          subst h37
          refine J_goto (pc := 40) (tgt := 10) dX8_either_40 (by decide) ?_
          have hlt1 := hee2 h16.1
          refine J_wk' (ih10 [some (.ref (jxb x + 140)), some (.int key)] _ ⟨s3, e3, O3, C3, cdW (nI 2) (nI 124) :: D3, w3, rfl, RS_st r1 (cnt_sg (by decide) S).symm (cnt_sg (by decide) S).symm (by rw [List.length_cons]; omega) (Or.inr (Or.inr ⟨rfl, by unfold isSg; decide⟩)), hv2.trans r2, clo_pop r3 (by decide) (fun u hu => (hd u hu).1), pFr_st (pFr_tr (pFr_nx hf hx1) r4) (by omega), r5, by omega⟩) rfl ?_
          rintro (_ | _ | _ | k) v hv <;> first | exact hv | cases hv
        · 
          refine J_iconst (pc := 31) dX8_either_31 kni_0 ?_
          refine K_zret (pc := 32) dX8_either_32 rfl rfl ⟨_, rfl, ?_⟩
          obtain ⟨p, q1, q2, q3⟩ := f25 h28
          exact rsV_no ⟨p, hv2.trans q1, q2, pFr_tr (pFr_nx hf hx1) q3⟩
    ·
      obtain ⟨s1, e1, O1, C1, D1, w1, rfl, hR, hv, hc, hf, hno, hsi⟩ := hI10
      have := hR.1.1
      omega
  · 
    refine J_iconst (pc := 8) dX8_either_8 kni_0 ?_
    refine K_zret (pc := 9) dX8_either_9 rfl rfl ⟨_, rfl, ?_⟩
    exact rsV_no (f2 h5)
