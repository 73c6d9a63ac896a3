theorem clo_clo {k l : Nat} (h : k ≤ l) : ∀ O C, clo k O C = clo k (clo l O C).1 (clo l O C).2
  | [], _ => rfl
  | s :: O, C => by
    by_cases c : l ≤ lvl s
    · have e1 : clo l (s :: O) C = clo l O (-s :: C) := by rw [clo, if_pos c]
      have e2 : clo k (s :: O) C = clo k O (-s :: C) := by rw [clo, if_pos (by omega)]
      rw [e1, e2]
      exact clo_clo h O (-s :: C)
    · have e1 : clo l (s :: O) C = (s :: O, C) := by rw [clo, if_neg c]
      rw [e1]
theorem clo_st {l : Nat} {O : List Int32} (C : List Int32) (h : ∀ u, O.head? = some u → lvl u < l) : clo l O C = (O, C) := by
  cases O with
  | nil => rfl
  | cons s O => rw [clo, if_neg (by have := h s rfl; omega)]
theorem clo_6 {l : Nat} (h : 6 ≤ l) (O C : List Int32) : clo l O C = (O, C) := clo_st C (fun u _ => by have := lvl_5 u; omega)
theorem enp_st {O : List Int32} (C : List Int32) (h : O.head? ≠ some (nI 33)) : enp O C = (O, C) := by
  cases O with
  | nil => rfl
  | cons s O => rw [enp, if_neg (fun z => h (by rw [z]; rfl))]
/-- the reader's verdict from a word on -/
noncomputable def vd (t : Nat → Int32) (n nm : Nat) (g : Int32) (s e : Nat) (z : rST) : Int32 × List Int32 × Nat × Int32 := rdV n g (rdS t n nm (n - s) s e z)
theorem rdS_fuel {t : Nat → Int32} {n nm : Nat} : ∀ f s e z, e = ndp t n s → s ≤ n → n - s ≤ f → rdS t n nm f s e z = rdS t n nm (n - s) s e z
  | 0, s, e, z, _, _, h => by rw [show n - s = 0 by omega]
  | f + 1, s, e, z, he, hs, h => by
    by_cases c : s < n
    · obtain ⟨k, hk⟩ : ∃ k, n - s = k + 1 := ⟨n - s - 1, by omega⟩
      rw [hk]
      cases q : tkS t n nm s e z with
      | none => rw [rdS_no c q, rdS_no c q]
      | some y =>
        rw [rdS_go c q, rdS_go c q]
        have h1 := (ndp_le (t := t) (n := n) (s := s) hs)
        have h2 := skp_le (t := t) (n := n) (e := e) (by rw [he]; exact h1.1)
        have h3 := h1.2 c
        rw [rdS_fuel f _ _ y rfl h2.2 (by omega), rdS_fuel k _ _ y rfl h2.2 (by omega)]
    · rw [show n - s = 0 by omega, rdS_end c, rdS_end c]
theorem vd_go {t : Nat → Int32} {n nm s e : Nat} {g : Int32} {z y : rST} (he : e = ndp t n s) (h : s < n) (q : tkS t n nm s e z = some y) : vd t n nm g s e z = vd t n nm g (skp t n e) (ndp t n (skp t n e)) y := by
  have h1 := (ndp_le (t := t) (n := n) (s := s) (by omega))
  have h2 := skp_le (t := t) (n := n) (e := e) (by rw [he]; exact h1.1)
  have h3 := h1.2 h
  unfold vd
  obtain ⟨k, hk⟩ : ∃ k, n - s = k + 1 := ⟨n - s - 1, by omega⟩
  rw [hk, rdS_go h q, rdS_fuel k _ _ y rfl h2.2 (by omega)]
theorem vd_no {t : Nat → Int32} {n nm s e : Nat} {g : Int32} {z : rST} (h : s < n) (q : tkS t n nm s e z = none) : vd t n nm g s e z = (nI s, [], 0, 0) := by
  unfold vd
  obtain ⟨k, hk⟩ : ∃ k, n - s = k + 1 := ⟨n - s - 1, by omega⟩
  rw [hk, rdS_no h q]
  exact if_pos rfl
theorem vd_end {t : Nat → Int32} {n nm s e : Nat} {g : Int32} {z : rST} (h : ¬ s < n) : vd t n nm g s e z = if z.2.2.2 = true ∨ 0 < z.1.count (nI 40) then (nI n, [], 0, 0) else (-1, (clo 1 z.1 z.2.1).2, z.2.2.1, g) := by
  unfold vd
  rw [rdS_end h]
  exact if_neg Bool.false_ne_true
theorem sg_wB {c : Int32} (h : c = nI 33 ∨ c = nI 38 ∨ c = nI 40 ∨ c = nI 41 ∨ c = nI 42 ∨ c = nI 43 ∨ c = nI 45 ∨ c = nI 47 ∨ c = nI 60 ∨ c = nI 61 ∨ c = nI 62 ∨ c = nI 124) : ¬ wB c = true ∧ ¬ lB c = true ∧ ¬ dB c = true ∧ 0 ≤ c := by
  have e : ¬ lB c = true ∧ ¬ dB c = true ∧ 0 ≤ c := by
    rcases h with h | h | h | h | h | h | h | h | h | h | h | h <;> subst h <;> exact ⟨fun q => absurd (lB_iff.mp q) (by unfold lt8; decide), fun q => absurd (dB_iff.mp q) (by unfold dg8; decide), by decide⟩
  exact ⟨fun q => (wB_iff.mp q).elim e.1 e.2.1, e.1, e.2.1, e.2.2⟩
theorem gl_no {t : Nat → Int32} {n s : Nat} (h : ¬ wB (t s) = true) : ¬ glP t n s := fun z => h z.2.2.1
/-- the word or sign on which the reference stands -/
noncomputable def tkP (t : Nat → Int32) (n s e : Nat) (m : jm) : Prop :=
  s ≤ n ∧ e = ndp t n s ∧ m 140 12 = nI s ∧ m 140 13 = nI e ∧ m 140 14 = nI (kdT t n s e) ∧
  (kdT t n s e = 2 → m 140 15 = numV t s (e - s)) ∧ (kdT t n s e = 1 → m 140 16 = if e - s = 1 then t s else nI 0) ∧ (kdT t n s e = 3 → bR (m 140 16) (t s))
theorem kdT_4 (t : Nat → Int32) (n s e : Nat) : kdT t n s e ≤ 4 := by
  unfold kdT
  by_cases a : s < n
  · rw [if_pos a]
    by_cases b : lB (t s) = true
    · rw [if_pos b]
      by_cases c : glP t n s
      · rw [if_pos c]; omega
      · rw [if_neg c]; omega
    · rw [if_neg b]
      by_cases c : dB (t s) = true
      · rw [if_pos c]
        by_cases f : glP t n s ∨ 4 < e - s
        · rw [if_pos f]; omega
        · rw [if_neg f]; omega
      · rw [if_neg c]; omega
  · rw [if_neg a]; omega
theorem kd_sg {t : Nat → Int32} {n s e : Nat} (h : s < n) (h2 : ¬ lB (t s) = true) (h3 : ¬ dB (t s) = true) : kdT t n s e = 3 := by
  unfold kdT
  rw [if_pos h, if_neg h2, if_neg h3]
theorem kd_3 {t : Nat → Int32} {n s e : Nat} (h : kdT t n s e = 3) : s < n ∧ ¬ lB (t s) = true ∧ ¬ dB (t s) = true := by
  unfold kdT at h
  by_cases a : s < n
  · rw [if_pos a] at h
    by_cases b : lB (t s) = true
    · rw [if_pos b] at h
      by_cases c : glP t n s
      · rw [if_pos c] at h; omega
      · rw [if_neg c] at h; omega
    · rw [if_neg b] at h
      by_cases c : dB (t s) = true
      · rw [if_pos c] at h
        by_cases f : glP t n s ∨ 4 < e - s
        · rw [if_pos f] at h; omega
        · rw [if_neg f] at h; omega
      · exact ⟨a, b, c⟩
  · rw [if_neg a] at h; omega
theorem kd_2 {t : Nat → Int32} {n s e : Nat} : kdT t n s e = 2 ↔ (s < n ∧ ¬ lB (t s) = true ∧ dB (t s) = true ∧ ¬ glP t n s ∧ e - s ≤ 4) := by
  unfold kdT
  by_cases a : s < n
  · rw [if_pos a]
    by_cases b : lB (t s) = true
    · rw [if_pos b]
      by_cases c : glP t n s
      · rw [if_pos c]; exact ⟨fun z => by omega, fun z => absurd b z.2.1⟩
      · rw [if_neg c]; exact ⟨fun z => by omega, fun z => absurd b z.2.1⟩
    · rw [if_neg b]
      by_cases c : dB (t s) = true
      · rw [if_pos c]
        by_cases f : glP t n s ∨ 4 < e - s
        · rw [if_pos f]; exact ⟨fun z => by omega, fun z => absurd f (fun y => y.elim z.2.2.2.1 (fun w => by have := z.2.2.2.2; omega))⟩
        · rw [if_neg f]; exact ⟨fun _ => ⟨a, b, c, fun y => f (Or.inl y), by rcases Nat.lt_or_ge 4 (e - s) with w | w; exact absurd (Or.inr w) f; exact w⟩, fun _ => rfl⟩
      · rw [if_neg c]; exact ⟨fun z => by omega, fun z => absurd z.2.2.1 c⟩
  · rw [if_neg a]; exact ⟨fun z => by omega, fun z => absurd z.1 a⟩
theorem kd_1 {t : Nat → Int32} {n s e : Nat} : kdT t n s e = 1 ↔ (s < n ∧ lB (t s) = true ∧ ¬ glP t n s) := by
  unfold kdT
  by_cases a : s < n
  · rw [if_pos a]
    by_cases b : lB (t s) = true
    · rw [if_pos b]
      by_cases c : glP t n s
      · rw [if_pos c]; exact ⟨fun z => by omega, fun z => absurd c z.2.2⟩
      · rw [if_neg c]; exact ⟨fun _ => ⟨a, b, c⟩, fun _ => rfl⟩
    · rw [if_neg b]
      by_cases c : dB (t s) = true
      · rw [if_pos c]
        by_cases f : glP t n s ∨ 4 < e - s
        · rw [if_pos f]; exact ⟨fun z => by omega, fun z => absurd z.2.1 b⟩
        · rw [if_neg f]; exact ⟨fun z => by omega, fun z => absurd z.2.1 b⟩
      · rw [if_neg c]; exact ⟨fun z => by omega, fun z => absurd z.2.1 b⟩
  · rw [if_neg a]; exact ⟨fun z => by omega, fun z => absurd z.1 a⟩
theorem kd_hq {t : Nat → Int32} {n s e : Nat} (h : s < n) (he : e = ndp t n s) (h4 : kdT t n s e ≠ 4) : (0 < e ∧ (kdT t n s e = 1 ∨ kdT t n s e = 2)) ↔ (0 < e ∧ wB (t (e - 1)) = true) := by
  have hl := (ndp_le (t := t) (n := n) (s := s) (by omega)).2 h
  by_cases a : lB (t s) = true
  · have e1 : ndp t n s = run (fun j => lB (t j)) (s + 1) (n - (s + 1)) := by unfold ndp; rw [if_pos h, if_pos a]
    have hk : kdT t n s e = 1 := by
      by_cases g : glP t n s
      · exact absurd (by unfold kdT; rw [if_pos h, if_pos a, if_pos g]) h4
      · exact kd_1.mpr ⟨h, a, g⟩
    have hw : wB (t (e - 1)) = true := by
      refine wB_iff.mpr (Or.inl ?_)
      by_cases q : e - 1 = s
      · rw [q]; exact a
      · exact run_in (fun j => lB (t j)) (n - (s + 1)) (s + 1) (e - 1) (by omega) (by rw [← e1]; omega)
    exact ⟨fun z => ⟨z.1, hw⟩, fun z => ⟨z.1, Or.inl hk⟩⟩
  · by_cases b : dB (t s) = true
    · have e1 : ndp t n s = run (fun j => dB (t j)) (s + 1) (n - (s + 1)) := by unfold ndp; rw [if_pos h, if_neg a, if_pos b]
      have hk : kdT t n s e = 2 := by
        by_cases g : glP t n s ∨ 4 < e - s
        · exact absurd (by unfold kdT; rw [if_pos h, if_neg a, if_pos b, if_pos g]) h4
        · exact kd_2.mpr ⟨h, a, b, fun z => g (Or.inl z), by rcases Nat.lt_or_ge 4 (e - s) with w | w; exact absurd (Or.inr w) g; exact w⟩
      have hw : wB (t (e - 1)) = true := by
        refine wB_iff.mpr (Or.inr ?_)
        by_cases q : e - 1 = s
        · rw [q]; exact b
        · exact run_in (fun j => dB (t j)) (n - (s + 1)) (s + 1) (e - 1) (by omega) (by rw [← e1]; omega)
      exact ⟨fun z => ⟨z.1, hw⟩, fun z => ⟨z.1, Or.inr hk⟩⟩
    · have e1 : ndp t n s = s + 1 := by unfold ndp; rw [if_pos h, if_neg a, if_neg b]
      have hk := kd_sg (e := e) h a b
      refine ⟨fun z => by rw [hk] at z; omega, fun z => ?_⟩
      have hz := z.2
      rw [he, e1, show s + 1 - 1 = s by omega] at hz
      exact absurd hz (fun q => (wB_iff.mp q).elim a b)
theorem nx_tk {t : Nat → Int32} {n e : Nat} {m m' : jm} (he : e ≤ n) (h : nxP t n (skp t n e) (ndp t n (skp t n e)) m m') : tkP t n (skp t n e) (ndp t n (skp t n e)) m' :=
  ⟨(skp_le he).2, rfl, h.2.2.1, h.2.2.2.1, h.2.2.2.2.1, h.2.2.2.2.2.1, h.2.2.2.2.2.2.1, h.2.2.2.2.2.2.2⟩
theorem m_next2 {x : jX} {m : jm} {d n s e : Nat} {t : Nat → Int32} (hn : m 140 11 = nI n) (h96 : n ≤ 96) (htk : tkP t n s e m) (hs : s < n) (h4 : kdT t n s e ≠ 4) (hb : ∀ j, j < n → bR (m 150 j) (t j)) : Ct x (d + 2) eX8_next [.ref (jxb x + 140)] m (jv fun m' => nxP t n (skp t n e) (ndp t n (skp t n e)) m m') := by
  obtain ⟨h1, h2, h3, h5, h6, -⟩ := htk
  have hl := (ndp_le (t := t) (n := n) (s := s) (by omega))
  exact m_next hn h96 h5 (by rw [h2]; exact hl.1) h6 (kdT_4 t n s e) hb (kd_hq hs h2 h4)
theorem m_isSign2 {x : jX} {m : jm} {d n s e k : Nat} {t : Nat → Int32} (htk : tkP t n s e m) (hk : k < 128) (hnl : ¬ wB (nI k) = true) : Ct x d eX8_isSign [.ref (jxb x + 140), .int (nI k)] m (jp (jb (s < n ∧ t s = nI k)) m) := by
  obtain ⟨h1, h2, h3, h5, h6, h7, h8, h9⟩ := htk
  rw [← jb_iff (c := m 140 14 = nI 3 ∧ m 140 16 = nI k) (e := s < n ∧ t s = nI k) ?_]
  · exact m_isSign (nI k)
  · rw [h6]
    have hk4 := kdT_4 t n s e
    constructor
    · intro z
      have e3 := (nI_eq (by omega) (by decide)).mp z.1
      exact ⟨(kd_3 e3).1, (bR_c (h9 e3) hk).mp z.2⟩
    · intro z
      have nl : ¬ lB (t s) = true ∧ ¬ dB (t s) = true := by rw [z.2]; exact ⟨fun q => hnl (wB_iff.mpr (Or.inl q)), fun q => hnl (wB_iff.mpr (Or.inr q))⟩
      have e3 := kd_sg (e := e) z.1 nl.1 nl.2
      exact ⟨by rw [e3], (bR_c (h9 e3) hk).mpr z.2⟩
theorem tk_let {m : jm} {n s e : Nat} {t : Nat → Int32} (htk : tkP t n s e m) {c : Int32} (h : s < n ∧ t s = c) (hc : ¬ lB c = true ∧ ¬ dB c = true ∧ 0 ≤ c) : m 140 16 = c := by
  obtain ⟨h1, h2, h3, h5, h6, h7, h8, h9⟩ := htk
  have e3 := kd_sg (t := t) (e := e) h.1 (by rw [h.2]; exact hc.1) (by rw [h.2]; exact hc.2.1)
  rw [bR_eq (h9 e3) (by rw [h.2]; exact hc.2.2), h.2]
