/-- steps laid, the last first, as words of a text -/
def stO (key : Int32) (A : Nat) (C : List Int32) (m : jm) : Prop := m 140 19 = nI C.length ∧ ∀ j, j < C.length → C[C.length - 1 - j]? = some (cdW (m 141 (A + 2 * j)) (m 141 (A + 2 * j + 1))) ∧ okS key (m 141 (A + 2 * j)) (m 141 (A + 2 * j + 1))
theorem stO_c {key : Int32} {A : Nat} {C : List Int32} {m m' : jm} (h : stO key A C m) (h1 : m' 141 = m 141) (h2 : m' 140 19 = m 140 19) : stO key A C m' := ⟨by rw [h2]; exact h.1, fun j hj => by rw [h1]; exact h.2 j hj⟩
def stpM (m : jm) (A L : Nat) (w v : Int32) : jm := mup (mup (mup m 141 (A + 2 * L) w) 141 (A + 2 * L + 1) v) 140 19 (nI (L + 1))
theorem stO_push {key : Int32} {A : Nat} {C : List Int32} {m : jm} {w v : Int32} (h : stO key A C m) (hk : okS key w v) : stO key A (cdW w v :: C) (stpM m A C.length w v) := by
  refine ⟨by rw [List.length_cons]; exact mup_s, fun j hj => ?_⟩
  rw [List.length_cons] at hj ⊢
  have e1 : ∀ k, k ≠ A + 2 * C.length → k ≠ A + 2 * C.length + 1 → stpM m A C.length w v 141 k = m 141 k := fun k k1 k2 => (mup_i (by decide)).trans ((mup_j k2).trans (mup_j k1))
  by_cases q : j = C.length
  · subst q
    have a1 : stpM m A C.length w v 141 (A + 2 * C.length) = w := (mup_i (by decide)).trans ((mup_j (by omega)).trans mup_s)
    have a2 : stpM m A C.length w v 141 (A + 2 * C.length + 1) = v := (mup_i (by decide)).trans mup_s
    rw [a1, a2, show C.length + 1 - 1 - C.length = 0 by omega]
    exact ⟨rfl, hk⟩
  · rw [e1 _ (by omega) (by omega), e1 _ (by omega) (by omega), show C.length + 1 - 1 - j = (C.length - 1 - j) + 1 by omega, List.getElem?_cons_succ]
    exact h.2 j (by omega)
set_option maxRecDepth 100000 in
set_option maxHeartbeats 400000 in
theorem m_step {x : jX} {m : jm} {d : Nat} {A L : Nat} (hA : m 140 20 = nI A) (hL : m 140 19 = nI L) (hAL : A + 2 * L + 1 < 3450) (w v : Int32) : Ct x d eX8_step [.ref (jxb x + 140), .int w, .int v] m (jv fun m' => m' = stpM m A L w v) := by
  refine J_start (by decide +kernel) (Nat.le_of_ble_eq_true rfl) (ls := [some (.ref (jxb x + 140)), some (.int w), some (.int v)]) rfl rfl ?_
  refine J_aload_n (pc := 0) dX8_step_0 rfl ?_
  refine K_getR (pc := 1) dX8_step_1 kf_X8_7 job_140 jrf_140_0 ?_
  refine J_aload_n (pc := 4) dX8_step_4 rfl ?_
  refine K_getI (pc := 5) dX8_step_5 kf_X8_218 job_140 jrf_140_20 ?_
  refine J_top (b := nI A) (hA) ?_
  refine J_iconst (pc := 8) dX8_step_8 kni_2 ?_
  refine J_aload_n (pc := 9) dX8_step_9 rfl ?_
  refine K_getI (pc := 10) dX8_step_10 kf_X8_221 job_140 jrf_140_19 ?_
  refine J_top (b := nI L) (hL) ?_
  refine J_imulv (pc := 13) dX8_step_13 (pk_mul _ _) ?_
  refine J_iaddv (pc := 14) dX8_step_14 (nI_add _ _) ?_
  refine J_iload_n (pc := 15) dX8_step_15 rfl ?_
  refine K_iastn (pc := 16) (id := 141) dX8_step_16 jar_141 (by omega) (by decide) ?_
  refine J_aload_n (pc := 17) dX8_step_17 rfl ?_
  refine K_getR (pc := 18) dX8_step_18 kf_X8_7 job_140 jrf_140_0 ?_
  refine J_aload_n (pc := 21) dX8_step_21 rfl ?_
  refine K_getI (pc := 22) dX8_step_22 kf_X8_218 job_140 jrf_140_20 ?_
  refine J_top (b := nI A) ((mup_i (by decide)).trans hA) ?_
  refine J_iconst (pc := 25) dX8_step_25 kni_2 ?_
  refine J_aload_n (pc := 26) dX8_step_26 rfl ?_
  refine K_getI (pc := 27) dX8_step_27 kf_X8_221 job_140 jrf_140_19 ?_
  refine J_top (b := nI L) ((mup_i (by decide)).trans hL) ?_
  refine J_imulv (pc := 30) dX8_step_30 (pk_mul _ _) ?_
  refine J_iaddv (pc := 31) dX8_step_31 (nI_add _ _) ?_
  refine J_iconst (pc := 32) dX8_step_32 kni_1 ?_
  refine J_iaddv (pc := 33) dX8_step_33 (nI_add _ _) ?_
  refine J_iload_n (pc := 34) dX8_step_34 rfl ?_
  refine K_iastn (pc := 35) (id := 141) dX8_step_35 jar_141 (by omega) (by decide) ?_
  refine J_aload_n (pc := 36) dX8_step_36 rfl ?_
  refine J_dup (pc := 37) dX8_step_37 rfl ?_
  refine K_getI (pc := 38) dX8_step_38 kf_X8_221 job_140 jrf_140_19 ?_
  refine J_top (b := nI L) ((mup_i (by decide)).trans ((mup_i (by decide)).trans hL)) ?_
  refine J_iconst (pc := 41) dX8_step_41 kni_1 ?_
  refine J_iaddv (pc := 42) dX8_step_42 (nI_add _ _) ?_
  refine K_put (pc := 43) dX8_step_43 kp_X8_221 job_140 jrf_140_19 rfl rfl ?_
  refine K_vret (pc := 46) dX8_step_46 rfl ⟨rfl, rfl⟩
/-- the reference's reader -/
noncomputable def RS (key : Int32) (A : Nat) (t : Nat → Int32) (n s e : Nat) (S C : List Int32) (w : Nat) (m : jm) : Prop :=
  tkP t n s e m ∧ stO key A C m ∧ m 140 17 = nI (S.count (nI 40)) ∧ m 140 18 = nI (S.count (nI 33)) ∧ m 140 20 = nI A ∧ m 140 21 = nI w ∧ m 140 11 = nI n ∧ (∀ j, j < n → bR (m 150 j) (t j)) ∧ C.length + S.length ≤ s
/-- what its reading leaves alone -/
def pFr (A : Nat) (m m' : jm) : Prop := (∀ i, i ≠ 140 → i ≠ 141 → m' i = m i) ∧ (∀ j, j < 12 ∨ j = 20 ∨ 21 < j → m' 140 j = m 140 j) ∧ ∀ j, j < A ∨ A + 196 ≤ j → m' 141 j = m 141 j
theorem pFr_rf (A : Nat) (m : jm) : pFr A m m := ⟨fun _ _ _ => rfl, fun _ _ => rfl, fun _ _ => rfl⟩
theorem pFr_tr {A : Nat} {a b c : jm} (h1 : pFr A a b) (h2 : pFr A b c) : pFr A a c := ⟨fun i p q => (h2.1 i p q).trans (h1.1 i p q), fun j p => (h2.2.1 j p).trans (h1.2.1 j p), fun j p => (h2.2.2 j p).trans (h1.2.2 j p)⟩
theorem pFr_140 {A : Nat} {m m' : jm} (h : pFr A m m') {k : Nat} {v : Int32} (hk : (12 ≤ k ∧ k < 20) ∨ k = 21) : pFr A m (mup m' 140 k v) := ⟨fun i p q => (mup_i' p).trans (h.1 i p q), fun j p => (mup_j (by omega)).trans (h.2.1 j p), fun j p => (mup_i (by decide)).trans (h.2.2 j p)⟩
theorem pFr_141 {A : Nat} {m m' : jm} (h : pFr A m m') {k : Nat} {v : Int32} (hk : A ≤ k ∧ k < A + 196) : pFr A m (mup m' 141 k v) := ⟨fun i p q => (mup_i' q).trans (h.1 i p q), fun j p => (mup_i (by decide)).trans (h.2.1 j p), fun j p => (mup_j (by omega)).trans (h.2.2 j p)⟩
theorem pFr_nx {A : Nat} {t : Nat → Int32} {n s e : Nat} {a b c : jm} (h1 : pFr A a b) (h2 : nxP t n s e b c) : pFr A a c := pFr_tr h1 ⟨fun i p q => h2.1 i p, fun j p => h2.2.1 j (by omega), fun j p => congrFun (h2.1 141 (by decide)) j⟩
theorem pFr_st {A L : Nat} {w v : Int32} {a b : jm} (h : pFr A a b) (hL : L < 97) : pFr A a (stpM b A L w v) := pFr_140 (pFr_141 (pFr_141 h (by omega)) (by omega)) (by omega)
/-- a sign that has been laid open: on to the next word -/
theorem RS_nx {key : Int32} {A : Nat} {t : Nat → Int32} {n s e w : Nat} {S C : List Int32} {m m' : jm} (h : RS key A t n s e S C w m) (hs : s < n) (hx : nxP t n (skp t n e) (ndp t n (skp t n e)) m m') {S' C' : List Int32} (h1 : S'.count (nI 40) = S.count (nI 40)) (h2 : S'.count (nI 33) = S.count (nI 33)) (h3 : C'.length + S'.length ≤ s + 1) (h4 : stO key A C' m) : RS key A t n (skp t n e) (ndp t n (skp t n e)) S' C' w m' := by
  obtain ⟨a1, a2, a3, a4, a5, a6, a7, a8, a9⟩ := h
  have hl := (ndp_le (t := t) (n := n) (s := s) (by omega))
  have he : e ≤ n := by rw [a1.2.1]; exact hl.1
  have hse : s < e := by rw [a1.2.1]; exact hl.2 hs
  have hk := (skp_le (t := t) (n := n) (e := e) he)
  exact ⟨nx_tk he hx, stO_c h4 (hx.1 141 (by decide)) (hx.2.1 19 (by omega)), by rw [hx.2.1 17 (by omega), h1]; exact a3, by rw [hx.2.1 18 (by omega), h2]; exact a4, by rw [hx.2.1 20 (by omega)]; exact a5, by rw [hx.2.1 21 (by omega)]; exact a6, by rw [hx.2.1 11 (by omega)]; exact a7, fun j hj => by rw [hx.1 150 (by decide)]; exact a8 j hj, by omega⟩
theorem tkP_c {t : Nat → Int32} {n s e : Nat} {m m' : jm} (h : tkP t n s e m) (hc : ∀ j, 12 ≤ j → j ≤ 16 → m' 140 j = m 140 j) : tkP t n s e m' :=
  ⟨h.1, h.2.1, (hc 12 (by omega) (by omega)).trans h.2.2.1, (hc 13 (by omega) (by omega)).trans h.2.2.2.1, (hc 14 (by omega) (by omega)).trans h.2.2.2.2.1, fun z => (hc 15 (by omega) (by omega)).trans (h.2.2.2.2.2.1 z), fun z => (hc 16 (by omega) (by omega)).trans (h.2.2.2.2.2.2.1 z), fun z => by rw [hc 16 (by omega) (by omega)]; exact h.2.2.2.2.2.2.2 z⟩
/-- a step laid for a sign that was open -/
theorem RS_st {key : Int32} {A : Nat} {t : Nat → Int32} {n s e w : Nat} {S S' C : List Int32} {m : jm} {a b : Int32} (h : RS key A t n s e S' C w m) (h1 : S.count (nI 40) = S'.count (nI 40)) (h2 : S.count (nI 33) = S'.count (nI 33)) (h3 : S.length + 1 ≤ S'.length) (hk : okS key a b) : RS key A t n s e S (cdW a b :: C) w (stpM m A C.length a b) := by
  obtain ⟨a1, a2, a3, a4, a5, a6, a7, a8, a9⟩ := h
  have e140 : ∀ j, j ≠ 19 → stpM m A C.length a b 140 j = m 140 j := fun j hj => (mup_j hj).trans ((mup_i (by decide)).trans (mup_i (by decide)))
  have e150 : stpM m A C.length a b 150 = m 150 := (mup_i' (by decide)).trans ((mup_i' (by decide)).trans (mup_i' (by decide)))
  exact ⟨tkP_c a1 (fun j _ _ => e140 j (by omega)), stO_push a2 hk, by rw [e140 _ (by decide), h1]; exact a3, by rw [e140 _ (by decide), h2]; exact a4, by rw [e140 _ (by decide)]; exact a5, by rw [e140 _ (by decide)]; exact a6, by rw [e140 _ (by decide)]; exact a7, fun j hj => by rw [e150]; exact a8 j hj, by rw [List.length_cons]; omega⟩
/-- refused at a word -/
noncomputable def fPt (t : Nat → Int32) (n nm : Nat) (g : Int32) (A s e : Nat) (z : rST) (m m' : jm) : Prop := ∃ p, vd t n nm g s e z = (nI p, [], 0, 0) ∧ m' 140 12 = nI p ∧ pFr A m m'
/-- read: a piece -/
noncomputable def yPt (key : Int32) (t : Nat → Int32) (n nm : Nat) (g : Int32) (A s e : Nat) (S C : List Int32) (w : Nat) (m m' : jm) : Prop := ∃ s' e' C1 w', s < s' ∧ RS key A t n s' e' S C1 w' m' ∧ vd t n nm g s e (S, C, w, true) = vd t n nm g s' e' ((enp S C1).1, (enp S C1).2, w', false) ∧ pFr A m m'
/-- read: all that holds together as tightly as l -/
noncomputable def yLv (key : Int32) (t : Nat → Int32) (n nm : Nat) (g : Int32) (A l s e : Nat) (S C : List Int32) (w : Nat) (m m' : jm) : Prop := ∃ s' e' O' C' C1 w', s < s' ∧ RS key A t n s' e' S C1 w' m' ∧ vd t n nm g s e (S, C, w, true) = vd t n nm g s' e' (O', C', w', false) ∧ clo l O' C' = (S, C1) ∧ pFr A m m' ∧ (s' < n → l ≤ lvl (t s') → tkS t n nm s' e' (O', C', w', false) = none)
def rsV (F H : jm → Prop) (m' : jm) (v : Int32) : Prop := ∃ c : Prop, v = jbp c ∧ (¬ c → F m') ∧ (c → H m')
theorem rsV_no {F H : jm → Prop} {m' : jm} (h : F m') : rsV F H m' (nI 0) := ⟨False, jbpF id, fun _ => h, False.elim⟩
theorem rsV_ok {F H : jm → Prop} {m' : jm} (h : H m') : rsV F H m' (nI 1) := ⟨True, jbpT trivial, fun q => absurd trivial q, fun _ => h⟩
/-- the names of a text by its group -/
def nmOK (key : Int32) (nm : Nat) : Prop := (key = nI 6 ∧ nm = 2) ∨ (¬ key = nI 6 ∧ nm = 4)
theorem nm_ix {key v : Int32} {nm : Nat} (h : nmOK key nm) : (¬ ixV nm v < 0 ↔ isNm key v) ∧ (isNm key v → -1 - ixV nm v = nmc v) := by
  rcases h with ⟨h1, rfl⟩ | ⟨h1, rfl⟩
  · have e : ixV 2 v = if nI 100 = v then nI 0 else if nI 103 = v then nI 1 else if nI 109 = v then nI 2 else if nI 99 = v then nI 3 else -1 := rfl
    rw [e]
    unfold isNm
    by_cases a : nI 100 = v
    · rw [if_pos a]; subst a; exact ⟨⟨fun _ => Or.inl ⟨h1, Or.inl rfl⟩, fun _ => by decide⟩, fun _ => by decide⟩
    rw [if_neg a]
    by_cases b : nI 103 = v
    · rw [if_pos b]; subst b; exact ⟨⟨fun _ => Or.inl ⟨h1, Or.inr (Or.inl rfl)⟩, fun _ => by decide⟩, fun _ => by decide⟩
    rw [if_neg b]
    by_cases c : nI 109 = v
    · rw [if_pos c]; subst c; exact ⟨⟨fun _ => Or.inl ⟨h1, Or.inr (Or.inr (Or.inl rfl))⟩, fun _ => by decide⟩, fun _ => by decide⟩
    rw [if_neg c]
    by_cases f : nI 99 = v
    · rw [if_pos f]; subst f; exact ⟨⟨fun _ => Or.inl ⟨h1, Or.inr (Or.inr (Or.inr rfl))⟩, fun _ => by decide⟩, fun _ => by decide⟩
    rw [if_neg f]
    have no : ¬ ((key = nI 6 ∧ (v = nI 100 ∨ v = nI 103 ∨ v = nI 109 ∨ v = nI 99)) ∨ (¬ key = nI 6 ∧ (v = nI 108 ∨ v = nI 114 ∨ v = nI 101 ∨ v = nI 98))) := fun z => z.elim (fun y => y.2.elim (fun q => a q.symm) (fun q => q.elim (fun q => b q.symm) (fun q => q.elim (fun q => c q.symm) (fun q => f q.symm)))) (fun y => y.1 h1)
    exact ⟨⟨fun z => absurd (by decide) z, fun z => absurd z no⟩, fun z => absurd z no⟩
  · have e : ixV 4 v = if nI 108 = v then nI 0 else if nI 114 = v then nI 1 else if nI 101 = v then nI 2 else if nI 98 = v then nI 3 else -1 := rfl
    rw [e]
    unfold isNm
    by_cases a : nI 108 = v
    · rw [if_pos a]; subst a; exact ⟨⟨fun _ => Or.inr ⟨h1, Or.inl rfl⟩, fun _ => by decide⟩, fun _ => by decide⟩
    rw [if_neg a]
    by_cases b : nI 114 = v
    · rw [if_pos b]; subst b; exact ⟨⟨fun _ => Or.inr ⟨h1, Or.inr (Or.inl rfl)⟩, fun _ => by decide⟩, fun _ => by decide⟩
    rw [if_neg b]
    by_cases c : nI 101 = v
    · rw [if_pos c]; subst c; exact ⟨⟨fun _ => Or.inr ⟨h1, Or.inr (Or.inr (Or.inl rfl))⟩, fun _ => by decide⟩, fun _ => by decide⟩
    rw [if_neg c]
    by_cases f : nI 98 = v
    · rw [if_pos f]; subst f; exact ⟨⟨fun _ => Or.inr ⟨h1, Or.inr (Or.inr (Or.inr rfl))⟩, fun _ => by decide⟩, fun _ => by decide⟩
    rw [if_neg f]
    have no : ¬ ((key = nI 6 ∧ (v = nI 100 ∨ v = nI 103 ∨ v = nI 109 ∨ v = nI 99)) ∨ (¬ key = nI 6 ∧ (v = nI 108 ∨ v = nI 114 ∨ v = nI 101 ∨ v = nI 98))) := fun z => z.elim (fun y => h1 y.1) (fun y => y.2.elim (fun q => a q.symm) (fun q => q.elim (fun q => b q.symm) (fun q => q.elim (fun q => c q.symm) (fun q => f q.symm))))
    exact ⟨⟨fun z => absurd (by decide) z, fun z => absurd z no⟩, fun z => absurd z no⟩
set_option maxRecDepth 100000 in
set_option maxHeartbeats 400000 in
theorem m_isName {x : jX} {m : jm} {d : Nat} (key v : Int32) : Ct x d eX8_isName [.int key, .int v] m (jp (jbp (isNm key v)) m) := by
  refine J_start (by decide +kernel) (Nat.le_of_ble_eq_true rfl) (ls := [some (.int key), some (.int v)]) rfl rfl ?_
  refine J_iload_n (pc := 0) dX8_isName_0 rfl ?_
  refine J_bipush (pc := 1) dX8_isName_1 knb_6 ?_
  refine J_icmp_ne (pc := 3) (tgt := 38) dX8_isName_3 (by decide) (fun h3 => ?_) (fun h3 => ?_)
  · 
    refine J_iload_n (pc := 38) dX8_isName_38 rfl ?_
    refine J_bipush (pc := 39) dX8_isName_39 knb_108 ?_
    refine J_icmp_eq (pc := 41) (tgt := 62) dX8_isName_41 (by decide) (fun h41 => ?_) (fun h41 => ?_)
    · 
      refine J_iconst (pc := 62) dX8_isName_62 kni_1 ?_
      refine J_goto (pc := 63) (tgt := 67) dX8_isName_63 (by decide) ?_
      refine K_zret (pc := 67) dX8_isName_67 rfl rfl ⟨_, rfl, ?_⟩
      exact ⟨jbpT (Or.inr ⟨h3, Or.inl h41⟩), rfl⟩
    · 
      refine J_iload_n (pc := 44) dX8_isName_44 rfl ?_
      refine J_bipush (pc := 45) dX8_isName_45 knb_114 ?_
      refine J_icmp_eq (pc := 47) (tgt := 62) dX8_isName_47 (by decide) (fun h47 => ?_) (fun h47 => ?_)
      · 
        refine J_iconst (pc := 62) dX8_isName_62 kni_1 ?_
        refine J_goto (pc := 63) (tgt := 67) dX8_isName_63 (by decide) ?_
        refine K_zret (pc := 67) dX8_isName_67 rfl rfl ⟨_, rfl, ?_⟩
        exact ⟨jbpT (Or.inr ⟨h3, Or.inr (Or.inl h47)⟩), rfl⟩
      · 
        refine J_iload_n (pc := 50) dX8_isName_50 rfl ?_
        refine J_bipush (pc := 51) dX8_isName_51 knb_101 ?_
        refine J_icmp_eq (pc := 53) (tgt := 62) dX8_isName_53 (by decide) (fun h53 => ?_) (fun h53 => ?_)
        · 
          refine J_iconst (pc := 62) dX8_isName_62 kni_1 ?_
          refine J_goto (pc := 63) (tgt := 67) dX8_isName_63 (by decide) ?_
          refine K_zret (pc := 67) dX8_isName_67 rfl rfl ⟨_, rfl, ?_⟩
          exact ⟨jbpT (Or.inr ⟨h3, Or.inr (Or.inr (Or.inl h53))⟩), rfl⟩
        · 
          refine J_iload_n (pc := 56) dX8_isName_56 rfl ?_
          refine J_bipush (pc := 57) dX8_isName_57 knb_98 ?_
          refine J_icmp_ne (pc := 59) (tgt := 66) dX8_isName_59 (by decide) (fun h59 => ?_) (fun h59 => ?_)
          · 
            refine J_iconst (pc := 66) dX8_isName_66 kni_0 ?_
            refine K_zret (pc := 67) dX8_isName_67 rfl rfl ⟨_, rfl, ?_⟩
            exact ⟨jbpF (fun z => z.elim (fun y => h3 y.1) (fun y => y.2.elim h41 (fun q => q.elim h47 (fun q => q.elim h53 h59)))), rfl⟩
          · 
            refine J_iconst (pc := 62) dX8_isName_62 kni_1 ?_
            refine J_goto (pc := 63) (tgt := 67) dX8_isName_63 (by decide) ?_
            refine K_zret (pc := 67) dX8_isName_67 rfl rfl ⟨_, rfl, ?_⟩
            exact ⟨jbpT (Or.inr ⟨h3, Or.inr (Or.inr (Or.inr h59))⟩), rfl⟩
  · 
    refine J_iload_n (pc := 6) dX8_isName_6 rfl ?_
    refine J_bipush (pc := 7) dX8_isName_7 knb_100 ?_
    refine J_icmp_eq (pc := 9) (tgt := 30) dX8_isName_9 (by decide) (fun h9 => ?_) (fun h9 => ?_)
    · 
      refine J_iconst (pc := 30) dX8_isName_30 kni_1 ?_
      refine J_goto (pc := 31) (tgt := 67) dX8_isName_31 (by decide) ?_
      refine K_zret (pc := 67) dX8_isName_67 rfl rfl ⟨_, rfl, ?_⟩
      exact ⟨jbpT (Or.inl ⟨h3, Or.inl h9⟩), rfl⟩
    · 
      refine J_iload_n (pc := 12) dX8_isName_12 rfl ?_
      refine J_bipush (pc := 13) dX8_isName_13 knb_103 ?_
      refine J_icmp_eq (pc := 15) (tgt := 30) dX8_isName_15 (by decide) (fun h15 => ?_) (fun h15 => ?_)
      · 
        refine J_iconst (pc := 30) dX8_isName_30 kni_1 ?_
        refine J_goto (pc := 31) (tgt := 67) dX8_isName_31 (by decide) ?_
        refine K_zret (pc := 67) dX8_isName_67 rfl rfl ⟨_, rfl, ?_⟩
        exact ⟨jbpT (Or.inl ⟨h3, Or.inr (Or.inl h15)⟩), rfl⟩
      · 
        refine J_iload_n (pc := 18) dX8_isName_18 rfl ?_
        refine J_bipush (pc := 19) dX8_isName_19 knb_109 ?_
        refine J_icmp_eq (pc := 21) (tgt := 30) dX8_isName_21 (by decide) (fun h21 => ?_) (fun h21 => ?_)
        · 
          refine J_iconst (pc := 30) dX8_isName_30 kni_1 ?_
          refine J_goto (pc := 31) (tgt := 67) dX8_isName_31 (by decide) ?_
          refine K_zret (pc := 67) dX8_isName_67 rfl rfl ⟨_, rfl, ?_⟩
          exact ⟨jbpT (Or.inl ⟨h3, Or.inr (Or.inr (Or.inl h21))⟩), rfl⟩
        · 
          refine J_iload_n (pc := 24) dX8_isName_24 rfl ?_
          refine J_bipush (pc := 25) dX8_isName_25 knb_99 ?_
          refine J_icmp_ne (pc := 27) (tgt := 34) dX8_isName_27 (by decide) (fun h27 => ?_) (fun h27 => ?_)
          · 
            refine J_iconst (pc := 34) dX8_isName_34 kni_0 ?_
            refine J_goto (pc := 35) (tgt := 67) dX8_isName_35 (by decide) ?_
            refine K_zret (pc := 67) dX8_isName_67 rfl rfl ⟨_, rfl, ?_⟩
            exact ⟨jbpF (fun z => z.elim (fun y => y.2.elim h9 (fun q => q.elim h15 (fun q => q.elim h21 h27))) (fun y => y.1 h3)), rfl⟩
          · 
            refine J_iconst (pc := 30) dX8_isName_30 kni_1 ?_
            refine J_goto (pc := 31) (tgt := 67) dX8_isName_31 (by decide) ?_
            refine K_zret (pc := 67) dX8_isName_67 rfl rfl ⟨_, rfl, ?_⟩
            exact ⟨jbpT (Or.inl ⟨h3, Or.inr (Or.inr (Or.inr h27))⟩), rfl⟩
