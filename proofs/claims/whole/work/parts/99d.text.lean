/-- a code laid, the last word first, is sound -/
def dpL : List Int32 → Nat
  | [] => 0
  | w :: C => if -4 ≤ w then dpL C + 1 else if w = -33 then dpL C else dpL C - 1
def okL : List Int32 → Prop
  | [] => True
  | w :: C => okL C ∧ (¬ -4 ≤ w → (if w = -33 then 1 else 2) ≤ dpL C)
def bnO : List Int32 → Nat
  | [] => 0
  | s :: O => if 1 ≤ lvl s then bnO O + 1 else bnO O
theorem dp_f {f : Nat → Int32} : ∀ C : List Int32, (∀ k, k < C.length → C[C.length - 1 - k]? = some (f k)) → dpL C = dep f C.length ∧ (okL C → ∀ i, i < C.length → ¬ -4 ≤ f i → (if f i = -33 then 1 else 2) ≤ dep f i)
  | [], _ => ⟨rfl, fun _ i hi => absurd hi (Nat.not_lt_zero i)⟩
  | w :: C, h => by
    have h2 : ∀ k, k < C.length → C[C.length - 1 - k]? = some (f k) := fun k hk => by
      have := h k (by rw [List.length_cons]; omega)
      rw [List.length_cons, show C.length + 1 - 1 - k = (C.length - 1 - k) + 1 by omega, List.getElem?_cons_succ] at this
      exact this
    have hw : w = f C.length := by
      have := h C.length (by rw [List.length_cons]; omega)
      rw [List.length_cons, show C.length + 1 - 1 - C.length = 0 by omega] at this
      exact Option.some.inj this
    obtain ⟨i1, i2⟩ := dp_f C h2
    refine ⟨?_, fun hok i hi hn => ?_⟩
    · show (if -4 ≤ w then dpL C + 1 else if w = -33 then dpL C else dpL C - 1) = dep f (C.length + 1)
      rw [dep, ← i1, ← hw]
    · rw [List.length_cons] at hi
      by_cases e : i = C.length
      · subst e
        rw [← hw] at hn ⊢
        rw [← i1]
        exact hok.2 hn
      · exact i2 hok.1 i (by omega) hn
theorem wf_L {f : Nat → Int32} {C : List Int32} (h : ∀ k, k < C.length → C[C.length - 1 - k]? = some (f k)) (hok : okL C) (h1 : dpL C = 1) : wfC f C.length :=
  ⟨(dp_f C h).2 hok, by rw [← (dp_f C h).1]; exact h1⟩
theorem lvl_sg {s : Int32} (h : 1 ≤ lvl s) : ¬ -4 ≤ -s ∧ ¬ -s = -33 := by
  have key : s = nI 38 ∨ s = nI 42 ∨ s = nI 43 ∨ s = nI 45 ∨ s = nI 47 ∨ s = nI 60 ∨ s = nI 61 ∨ s = nI 62 ∨ s = nI 124 := by
    obtain ⟨h5, h4, h3, h2, h1⟩ := lvl_inv (v := s)
    have hl := lvl_5 s
    rcases (show lvl s = 5 ∨ lvl s = 4 ∨ lvl s = 3 ∨ lvl s = 2 ∨ lvl s = 1 by omega) with e | e | e | e | e
    · rcases h5 e with z | z <;> simp [z]
    · rcases h4 e with z | z <;> simp [z]
    · rcases h3 e with z | z | z <;> simp [z]
    · simp [h2 e]
    · simp [h1 e]
  rcases key with e | e | e | e | e | e | e | e | e <;> (subst e; decide)
/-- the reader's code against its open signs -/
def dIn (O C : List Int32) (w : Bool) : Prop := okL C ∧ dpL C = bnO O + (if w = true then 0 else 1)
theorem clo_d {l : Nat} (hl : 1 ≤ l) : ∀ O C, dIn O C false → dIn (clo l O C).1 (clo l O C).2 false
  | [], C, h => h
  | s :: O, C, h => by
    unfold clo
    by_cases c : l ≤ lvl s
    · rw [if_pos c]
      have hs := lvl_sg (s := s) (by omega)
      refine clo_d hl O _ ?_
      obtain ⟨h1, h2⟩ := h
      have e : bnO (s :: O) = bnO O + 1 := by show (if 1 ≤ lvl s then _ else _) = _; rw [if_pos (by omega)]
      rw [e, if_neg Bool.false_ne_true] at h2
      refine ⟨⟨h1, fun _ => by rw [if_neg hs.2]; omega⟩, ?_⟩
      show (if -4 ≤ -s then _ else if -s = -33 then _ else dpL C - 1) = _
      rw [if_neg hs.1, if_neg hs.2, if_neg Bool.false_ne_true]
      omega
    · rw [if_neg c]; exact h
theorem enp_d : ∀ O C, dIn O C false → dIn (enp O C).1 (enp O C).2 false
  | [], C, h => h
  | s :: O, C, h => by
    unfold enp
    by_cases c : s = nI 33
    · rw [if_pos c]
      refine enp_d O _ ?_
      obtain ⟨h1, h2⟩ := h
      have e : bnO (s :: O) = bnO O := by show (if 1 ≤ lvl s then _ else _) = _; rw [if_neg (by rw [c]; decide)]
      rw [e, if_neg Bool.false_ne_true] at h2
      refine ⟨⟨h1, fun _ => by rw [if_pos rfl]; omega⟩, ?_⟩
      show (if -4 ≤ (-33 : Int32) then _ else if (-33 : Int32) = -33 then dpL C else _) = _
      rw [if_neg (by decide), if_pos rfl, if_neg Bool.false_ne_true]
      omega
    · rw [if_neg c]; exact h
theorem opd_d {O C : List Int32} {v : Int32} (h : dIn O C true) (hv : -4 ≤ v) : dIn (enp O (v :: C)).1 (enp O (v :: C)).2 false := by
  refine enp_d O _ ?_
  obtain ⟨h1, h2⟩ := h
  rw [if_pos rfl] at h2
  refine ⟨⟨h1, fun z => absurd hv z⟩, ?_⟩
  show (if -4 ≤ v then dpL C + 1 else _) = _
  rw [if_pos hv, if_neg Bool.false_ne_true]
  omega
theorem ix_in {nm : Nat} {v : Int32} (h : ¬ ixV nm v < 0) : -4 ≤ -1 - ixV nm v := by
  unfold ixV at *
  (repeat' split at h) <;> (repeat' split) <;> first | decide | exact absurd (by decide) h | contradiction
theorem tk_d {t : Nat → Int32} {n nm s e w : Nat} {z y : rST} (he : e = ndp t n s) (hs : s < n) (hz : rSnd z w) (h : dIn z.1 z.2.1 z.2.2.2) (hy : tkS t n nm s e z = some y) : dIn y.1 y.2.1 y.2.2.2 := by
  obtain ⟨O, C, k, b⟩ := z
  obtain ⟨hz1, hz2, hz3⟩ := hz
  unfold tkS at hy
  by_cases g : glP t n s
  · rw [if_pos g] at hy; cases hy
  rw [if_neg g] at hy
  cases b with
  | true =>
    rw [if_pos rfl] at hy
    unfold pceS at hy
    by_cases a1 : dB (t s) = true
    · rw [if_pos a1] at hy
      by_cases a2 : e - s ≤ 4
      · rw [if_pos a2] at hy
        cases hy
        have nl : ¬ lB (t s) = true := fun q => lB_dB q a1
        have hk : kdT t n s e = 2 := kd_2.mpr ⟨hs, nl, a1, g, a2⟩
        exact opd_d h (Int32.le_trans (by decide) (num_0 hk he))
      · rw [if_neg a2] at hy; cases hy
    · rw [if_neg a1] at hy
      by_cases a3 : lB (t s) = true
      · rw [if_pos a3] at hy
        by_cases a4 : e - s = 1 ∧ ¬ ixV nm (t s) < 0
        · rw [if_pos a4] at hy
          cases hy
          exact opd_d h (ix_in a4.2)
        · rw [if_neg a4] at hy; cases hy
      · rw [if_neg a3] at hy
        by_cases a5 : t s = nI 33 ∨ t s = nI 40
        · rw [if_pos a5] at hy
          unfold opn at hy
          by_cases a6 : (t s :: O).count (nI 33) ≤ 8 ∧ (t s :: O).count (nI 40) ≤ 8
          · rw [if_pos a6] at hy
            cases hy
            refine ⟨h.1, ?_⟩
            have e0 : bnO (t s :: O) = bnO O := by
              show (if 1 ≤ lvl (t s) then _ else _) = _
              rw [if_neg (by rcases a5 with q | q <;> (rw [q]; decide))]
            show dpL C = bnO (t s :: O) + (if true = true then 0 else 1)
            rw [e0]
            exact h.2
          · rw [if_neg a6] at hy; cases hy
        · rw [if_neg a5] at hy; cases hy
  | false =>
    rw [if_neg Bool.false_ne_true] at hy
    have hh := hz2 Bool.false_ne_true
    unfold lnkS at hy
    by_cases a1 : t s = nI 41
    · rw [if_pos a1] at hy
      by_cases a2 : O.count (nI 40) = 0
      · rw [if_pos a2] at hy; cases hy
      · rw [if_neg a2] at hy
        cases hy
        obtain ⟨t', e1, -⟩ := par_top (C := C) hz1 hh a2
        have hd := clo_d (l := 1) (Nat.le_refl 1) O C h
        refine enp_d _ _ ?_
        obtain ⟨d1, d2⟩ := hd
        rw [e1] at d2 ⊢
        exact ⟨d1, d2⟩
    · rw [if_neg a1] at hy
      by_cases a2 : lvl (t s) = 0
      · rw [if_pos a2] at hy; cases hy
      · rw [if_neg a2] at hy
        by_cases a3 : lvl (t s) = 3 ∧ (clo (lvl (t s) + 1) O C).1.head?.map lvl = some 3
        · rw [if_pos a3] at hy; cases hy
        · rw [if_neg a3] at hy
          cases hy
          have hd := clo_d (l := lvl (t s)) (by omega) _ _ (clo_d (l := lvl (t s) + 1) (by omega) O C h)
          refine ⟨hd.1, ?_⟩
          show dpL _ = bnO (t s :: _) + (if true = true then 0 else 1)
          have e0 : ∀ X, bnO (t s :: X) = bnO X + 1 := fun X => by
            show (if 1 ≤ lvl (t s) then _ else _) = _
            rw [if_pos (by omega)]
          rw [e0, if_pos rfl, hd.2, if_neg Bool.false_ne_true]
theorem tk_snd {t : Nat → Int32} {n nm s e w : Nat} {z y : rST} (hz : rSnd z w) (hy : tkS t n nm s e z = some y) : rSnd y (w + 1) := by
  obtain ⟨O, C, k, b⟩ := z
  obtain ⟨hz1, hz2, hz3⟩ := hz
  unfold tkS at hy
  by_cases g : glP t n s
  · rw [if_pos g] at hy; cases hy
  rw [if_neg g] at hy
  cases b with
  | true => rw [if_pos rfl] at hy; exact pce_snd hy hz1 hz3
  | false => rw [if_neg Bool.false_ne_true] at hy; exact lnk_snd hy hz1 (hz2 Bool.false_ne_true) hz3
theorem rd_d {t : Nat → Int32} {n nm : Nat} : ∀ f s e w z, e = ndp t n s → s ≤ n → rSnd z w → dIn z.1 z.2.1 z.2.2.2 → (∃ w', rSnd (rdS t n nm f s e z).2.1 w') ∧ dIn (rdS t n nm f s e z).2.1.1 (rdS t n nm f s e z).2.1.2.1 (rdS t n nm f s e z).2.1.2.2.2
  | 0, s, e, w, z, _, _, hz, h => ⟨⟨w, hz⟩, h⟩
  | f + 1, s, e, w, z, he, hsn, hz, h => by
    by_cases c : s < n
    · cases q : tkS t n nm s e z with
      | none => rw [rdS_no c q]; exact ⟨⟨w, hz⟩, h⟩
      | some y =>
        rw [rdS_go c q]
        have h1 := (ndp_le (t := t) (n := n) (s := s) hsn)
        have h2 := skp_le (t := t) (n := n) (e := e) (by rw [he]; exact h1.1)
        exact rd_d f _ _ (w + 1) y rfl h2.2 (tk_snd hz q) (tk_d he c hz h q)
    · rw [rdS_end c]; exact ⟨⟨w, hz⟩, h⟩
theorem clo_nil {O C : List Int32} (h : okO O) (hh : O.head? ≠ some (nI 33)) (h0 : O.count (nI 40) = 0) : (clo 1 O C).1 = [] := by
  obtain ⟨k1, k2⟩ := clo_ok (l := 1) (Nat.le_refl 1) O C h hh
  have hc := clo_cnt (l := 1) (Nat.le_refl 1) (v := nI 40) (by decide) O C
  cases e : (clo 1 O C).1 with
  | nil => rfl
  | cons u X =>
    have hl := clo_head e
    rw [e] at k1 k2 hc
    rcases k1.1 with z | z | z
    · omega
    · exact absurd (by rw [z]; rfl) k2
    · rw [z, List.count_cons_self, h0] at hc; omega
theorem rd_pos {t : Nat → Int32} {n nm : Nat} : ∀ f s e z, e = ndp t n s → s ≤ n → (rdS t n nm f s e z).1 ≤ n
  | 0, s, e, z, _, hsn => hsn
  | f + 1, s, e, z, he, hsn => by
    by_cases c : s < n
    · cases q : tkS t n nm s e z with
      | none => rw [rdS_no c q]; exact hsn
      | some y =>
        rw [rdS_go c q]
        have h1 := (ndp_le (t := t) (n := n) (s := s) hsn)
        exact rd_pos f _ _ y rfl (skp_le (t := t) (n := n) (e := e) (by rw [he]; exact h1.1)).2
    · rw [rdS_end c]; exact hsn
theorem all_snd {t : Nat → Int32} {n w : Nat} {C : List Int32} {g : Int32} (h96 : n ≤ 96) (h : rdAll t n = (-1, C, w, g)) : okL C ∧ dpL C = 1 := by
  unfold rdAll at h
  by_cases c : (hdS t n).1 = true
  · rw [if_pos c] at h
    have hin := hd_in (t := t) (n := n)
    have hs := skp_le (t := t) (n := n) (e := (hdS t n).2.2.1) hin.2.1
    have hR1 := rd_pos (nm := (hdS t n).2.2.2.1) n (skp t n (hdS t n).2.2.1) (ndp t n (skp t n (hdS t n).2.2.1)) (([], [], 0, true) : rST) rfl hs.2
    obtain ⟨⟨w', k1, k2, k3⟩, kd⟩ := rd_d (nm := (hdS t n).2.2.2.1) n (skp t n (hdS t n).2.2.1) (ndp t n (skp t n (hdS t n).2.2.1)) 0 (([], [], 0, true) : rST) rfl hs.2 ⟨trivial, fun z => absurd rfl z, Nat.le_refl 0⟩ ⟨trivial, rfl⟩
    generalize rdS t n (hdS t n).2.2.2.1 n (skp t n (hdS t n).2.2.1) (ndp t n (skp t n (hdS t n).2.2.1)) ([], [], 0, true) = R at h k1 k2 k3 kd hR1
    unfold rdV at h
    by_cases a : R.2.2 = true
    · rw [if_pos a] at h
      exact absurd (congrArg Prod.fst h) (by
        intro z
        have : nI R.1 = -1 := z
        exact nI_nm1 (by omega) this)
    · rw [if_neg a] at h
      by_cases b : R.2.1.2.2.2 = true ∨ 0 < R.2.1.1.count (nI 40)
      · rw [if_pos b] at h
        exact absurd (congrArg Prod.fst h) (by
          intro z
          have : nI n = -1 := z
          exact nI_nm1 (by omega) this)
      · rw [if_neg b] at h
        have hb1 : ¬ R.2.1.2.2.2 = true := fun z => b (Or.inl z)
        have hf : R.2.1.2.2.2 = false := by cases y : R.2.1.2.2.2 with
          | true => exact absurd y hb1
          | false => rfl
        have h0 : R.2.1.1.count (nI 40) = 0 := by
          rcases Nat.eq_zero_or_pos (R.2.1.1.count (nI 40)) with y | y
          · exact y
          · exact absurd (Or.inr y) b
        rw [hf] at kd
        have hd := clo_d (l := 1) (Nat.le_refl 1) R.2.1.1 R.2.1.2.1 kd
        have hn := clo_nil (C := R.2.1.2.1) k1 (k2 hb1) h0
        have hC : (clo 1 R.2.1.1 R.2.1.2.1).2 = C := congrArg (fun z => z.2.1) h
        obtain ⟨d1, d2⟩ := hd
        rw [hn] at d2
        rw [hC] at d1 d2
        exact ⟨d1, d2⟩
  · rw [if_neg c] at h
    exact absurd (congrArg Prod.fst h) (by
      intro z
      have : nI (hdS t n).2.1 = -1 := z
      exact nI_nm1 (by have := hd_in (t := t) (n := n); omega) this)
/-- a tape read by both -/
theorem Rel_tx {m M : jm} {k P T T' L W : Nat} (hS : rS m m 1 141 P) (hC : rC m m 1 141 T L W) (hL : rL m m 141 L) (hW : rW m m 141 W) (hX : rX m m) (hQ : rQ m m) (hH : rH m k) (hK : rK m m T L W) (hF : fdOK M P T')
    (h1 : ∀ i, kA i = true → i ≠ 1 → i ≠ 70 → ¬ (75 ≤ i ∧ i ≤ 78) → ¬ (80 ≤ i ∧ i ≤ 93) → M i = m i) (h1j : ∀ j, j ≠ 14 → M 1 j = m 1 j) (hx : ∀ i, i = 75 ∨ i = 76 ∨ i = 77 ∨ i = 78 → ∀ t, t < T → M i t = m i t) (hc : ∀ t, t < T → M (80 + t) = m (80 + t))
    (h2 : ∀ i, i = 142 ∨ i = 144 ∨ i = 145 ∨ i = 146 ∨ i = 157 → M i = m i) (h3 : ∀ j, j = 3 ∨ j = 35 → M 140 j = m 140 j) (h4 : ∀ j, j < 440 → j ≠ 6 → M 141 j = m 141 j) (h70 : M 70 1 = nI 0) (h11 : M 140 11 = nI 0)
    (hTT : T ≤ T' ∧ T' ≤ 14 ∧ M 1 14 = nI T' ∧ M 141 6 = nI T') (hT : rT M M 141 T') : RelA M M (k + 1) := by
  have A : ∀ i, (i = 0 ∨ (2 ≤ i ∧ i ≤ 26) ∨ i = 41 ∨ i = 42 ∨ (44 ≤ i ∧ i ≤ 67) ∨ i = 71 ∨ i = 102 ∨ i = 120 ∨ i = 124 ∨ i = 125 ∨ i = 127 ∨ (129 ≤ i ∧ i ≤ 137) ∨ i = 139) → M i = m i := fun i hi => h1 i (kA_iff.mpr (by omega)) (by omega) (by omega) (by omega) (by omega)
  have hS' : rS M M 1 141 P := by
    have h0 := hS
    obtain ⟨s1, s2, s3, s4, s5, s6, s7, s8, s9, s10, s11, s12, s13, s14, s15⟩ := hS
    exact rS_up h0 (fun i hi => A i (by omega)) (h1j 0 (by decide)) (fun j hj => h4 j (by omega) (by omega)) (fun p hp => by rw [A (1 + 1) (by omega), h4 _ (by omega) (by omega)]; exact ⟨(s5 p hp).1, (s6 p hp).1⟩) (fun p hp => by rw [A (1 + 6) (by omega), h4 _ (by omega) (by omega)]; exact (s5 p hp).2.2.2.2.2) (by rw [h1j 13 (by decide), h4 1 (by omega) (by omega)]; exact s4) (fun j hj => by rw [A (1 + 8) (by omega), h4 _ (by omega) (by omega)]; exact s7 j hj) (fun j hj => by rw [A (1 + 9) (by omega), A (1 + 10) (by omega), h4 _ (by omega) (by omega), h4 _ (by omega) (by omega)]; exact ⟨(s8 j hj).1, (s8 j hj).2, s13.2 j hj⟩) (fun j hj => by rw [A (1 + 11) (by omega), h4 _ (by omega) (by omega)]; exact s9 j hj) (fun j hj => by rw [A (1 + 12) (by omega), h4 _ (by omega) (by omega)]; exact s10 j hj) (by rw [h4 4 (by omega) (by omega)]; exact s15.1) ⟨fun p hp => by rw [h4 _ (by omega) (by omega), h4 _ (by omega) (by omega)]; exact s15.2.1 p hp, fun j hj => by rw [h4 _ (by omega) (by omega)]; exact s15.2.2.1 j hj, fun j hj => by rw [h4 _ (by omega) (by omega)]; exact s15.2.2.2 j hj⟩
  obtain ⟨c1, c2, c3, c4, c5, c6, c7, c8, c9⟩ := hC
  exact ⟨P, T', L, W, hS', ⟨hTT.2.1, hTT.2.2.1, hTT.2.2.2, c4, (h1j 15 (by decide)).trans c5, (h4 7 (by omega) (by omega)).trans c6, c7, (h1j 16 (by decide)).trans c8, (h4 8 (by omega) (by omega)).trans c9⟩, hT, rL_c c4 hL (fun i hi => A i (by omega)) (fun j _ _ => h4 j (by omega) (by omega)), rW_c c7 hW (A 137 (by omega)) (fun j _ _ => h4 j (by omega) (by omega)),
    rX_c hX (fun i hi => A i (by omega)) (h2 144 (by omega)) (h2 145 (by omega)) (h2 146 (by omega)), ⟨0, by decide, h70, h11, fun i hi => absurd hi (Nat.not_lt_zero i)⟩, rQ_c hQ (by rw [A 0 (by omega)]) (A 139 (by omega)) (h3 35 (by omega)) (h2 157 (by omega)), rH_c hH (Nat.le_succ k) (A 124 (by omega)) (A 120 (by omega)) (by rw [A 102 (by omega)]) (A 125 (by omega)),
    rK_c hK hTT.1 (Nat.le_refl _) (Nat.le_refl _) (by rw [A 0 (by omega)]) (h3 3 (by omega)) (fun i h1 h2 => A i (by omega)) hx hc (fun i hi => ⟨by rw [A 127 (by omega)], A (129 + i) (by omega)⟩) (fun i hi => by rw [A 137 (by omega)]) (h2 142 (by omega)), hF⟩
theorem fd_t {b b' : jm} {P T : Nat} (h48 : P ≤ 48) (hw : wfR b 141) (hT14 : T ≤ 14) (hs : ∀ t, t < T → sndT b t) (h : fdOK b P T) (hj : ∀ j, j < 440 + 200 * T → b' 141 j = b 141 j) (h4 : ∀ i, i = 144 ∨ i = 145 ∨ i = 146 → b' i = b i) (h140 : ∀ j, 28 ≤ j → j ≤ 33 → b' 140 j = b 140 j) : fdOK b' P T := by
  rcases h with z | ⟨g, G, z, f1, f2, f3, f4, f5, f6, f7, f8⟩
  · exact Or.inl (by rw [h140 33 (by omega) (by omega)]; exact z)
  · have ec : ∀ n, n ≤ T → cntR b' (nI 6) n = cntR b (nI 6) n := fun n => by
      induction n with
      | zero => exact fun _ => rfl
      | succ n ih =>
        intro hn
        have ih := ih (by omega)
        rw [cntR, cntR, ih, hj _ (by omega), hj _ (by omega), hj 1 (by omega)]
        rcases cntR_in b (nI 6) n (by omega) with y | ⟨t, ht, y, -⟩
        · rw [y]
          by_cases q : (b 141 (440 + 200 * n) = nI 6 ∧ b 141 (440 + 200 * n + 1) ≤ b 141 1)
          · rw [if_pos ⟨q, Or.inl (by decide)⟩, if_pos ⟨q, Or.inl (by decide)⟩]
          · rw [if_neg (fun x => q x.1), if_neg (fun x => q x.1)]
        · rw [y, tN_n (by omega), hj (440 + 200 * t + 1) (by omega)]
    have e : fdF b' z g G P T = fdF b z g G P T := by
      funext r
      have e1 : ∀ k, LR b' G P r k = LR b G P r k := fun k => LR_e f2 hw h48 (fun j h1 h2 h3 => hj j (by omega))
      have e2 : shdR b' g = shdR b g := funext fun k => shdR_c (h4 144 (by omega)) (h4 145 (by omega)) (h4 146 (by omega)) g k
      unfold fdF
      by_cases c : z = 1
      · rw [if_pos c, if_pos c]
        unfold hidF
        rw [show LR b' G P r = LR b G P r from funext e1, e2, hj 4 (by omega), ec T (Nat.le_refl _)]
        refine cnt_c 48 fun p _ => ?_
        unfold stlF sawF
        rcases cntR_in b (nI 6) T hT14 with y | ⟨t, ht, y, -⟩
        · rw [y, if_pos (show (-1 : Int32) < 0 by decide), if_pos (show (-1 : Int32) < 0 by decide)]
        · rw [y, if_neg (nI_n0 (by omega)), if_neg (nI_n0 (by omega))]
          have et : ∀ a1 a2 a3 a4, txV b' (nI t) a1 a2 a3 a4 = txV b (nI t) a1 a2 a3 a4 := fun a1 a2 a3 a4 => by
            obtain ⟨n, hn, en, -, -⟩ := hs t ht
            unfold txV worthV
            rw [tN_n (by omega), hj _ (by omega), en, tN_n (by omega), wrun_n a1 a2 a3 a4 n (fun k hk => by unfold cdR wdR wvR; rw [hj _ (by omega), hj _ (by omega)])]
            rfl
          rw [et]
      · rw [if_neg c, if_neg c]
        unfold misF
        rw [show LR b' G P r = LR b G P r from funext e1, e2]
    refine Or.inr ⟨g, G, z, f1, f2, f3, by rw [h140 28 (by omega) (by omega)]; exact f4, by rw [h140 29 (by omega) (by omega)]; exact f5, by rw [h140 30 (by omega) (by omega)]; exact f6, ?_, ?_⟩
    · rw [h140 31 (by omega) (by omega), e]; exact f7
    · rw [h140 32 (by omega) (by omega), e]; exact f8
theorem tx_hi {m m1 : jm} {n T : Nat} {k v : Int32} (h : m1 70 1 = nI 0 ∧ if ¬ (nI 0 ≤ k ∧ k ≤ nI 9999) then (v = -1000000001 ∧ txN m m1) else if ¬ (rdAll (m 71) n).1 < 0 then (v = -100 - (rdAll (m 71) n).1 ∧ txN m m1) else if 14 ≤ T then (v = -1000000003 ∧ txN m m1) else (v = nI T ∧ txP m T k (rdAll (m 71) n) m1)) (i : Nat) (hi : 140 ≤ i) : m1 i = m i := by
  obtain ⟨-, h⟩ := h
  have hn : txN m m1 → m1 i = m i := fun z => z i (by omega) (by omega) (by omega)
  by_cases a : nI 0 ≤ k ∧ k ≤ nI 9999
  · rw [if_neg (Classical.not_not.mpr a)] at h
    by_cases b : (rdAll (m 71) n).1 < 0
    · rw [if_neg (Classical.not_not.mpr b)] at h
      by_cases c : 14 ≤ T
      · rw [if_pos c] at h; exact hn h.2
      · rw [if_neg c] at h
        exact h.2.2.2.2.2.2.2.2 i (by omega) (by omega) (by omega) (by omega) (by omega) (by omega)
    · rw [if_pos b] at h; exact hn h.2
  · rw [if_pos a] at h; exact hn h.2
theorem all_c {t : Nat → Int32} {n : Nat} (h96 : n ≤ 96) : (rdAll t n).1 = -1 ∨ ∃ q, q ≤ n ∧ (rdAll t n).1 = nI q := by
  have hin := hd_in (t := t) (n := n)
  unfold rdAll
  by_cases c : (hdS t n).1 = true
  · rw [if_pos c]
    have hs := skp_le (t := t) (n := n) (e := (hdS t n).2.2.1) hin.2.1
    have hR1 := rd_pos (nm := (hdS t n).2.2.2.1) n (skp t n (hdS t n).2.2.1) (ndp t n (skp t n (hdS t n).2.2.1)) (([], [], 0, true) : rST) rfl hs.2
    generalize rdS t n (hdS t n).2.2.2.1 n (skp t n (hdS t n).2.2.1) (ndp t n (skp t n (hdS t n).2.2.1)) ([], [], 0, true) = R at hR1
    unfold rdV
    by_cases a : R.2.2 = true
    · rw [if_pos a]; exact Or.inr ⟨R.1, hR1, rfl⟩
    · rw [if_neg a]
      by_cases b : R.2.1.2.2.2 = true ∨ 0 < R.2.1.1.count (nI 40)
      · rw [if_pos b]; exact Or.inr ⟨n, Nat.le_refl n, rfl⟩
      · rw [if_neg b]; exact Or.inl rfl
  · rw [if_neg c]
    exact Or.inr ⟨(hdS t n).2.1, by omega, rfl⟩
theorem q_text {x : jX} {m : jm} {d k : Nat} (h : RelA m m k) (k0 : Int32) : PrC x (d + 120) k eX7_text eX8_text [.int k0] m := by
  have hR := h
  obtain ⟨P, T, L, W, hS, hC, hT, hL, hW, hX, hP, hQ, hH, hK, hF⟩ := h
  have hS0 := hS
  have hC0 := hC
  obtain ⟨s1, s2, s3, s4, s5, s6, s7, s8, s9, s10, s11, s12, s13, s14, s15⟩ := hS
  obtain ⟨c1, c2, c3, c4, c5, c6, c7, c8, c9⟩ := hC
  obtain ⟨n, n1, n2, n3, n4⟩ := hP
  refine pr_mk (Q8 := fun _ m1 v' m2 => tdP (m 71) n T k0 m1 m2 v') (p_text (d := d + 113) k0 n2 n1 c2 c1) (fun v m1 hq => ?_) (fun v m1 v' m2 hq hq' => ?_)
  · have hi : ∀ i, 140 ≤ i → m1 i = m i := fun i hi => tx_hi hq i hi
    exact m_text (d := d + 13) (t := m 71) k0 (by rw [hi 140 (by decide)]; exact n3) n1 (fun j hj => by rw [hi 150 (by decide)]; exact n4 j hj) (by rw [hi 141 (by decide)]; exact c3) c1
  · obtain ⟨h70, hq⟩ := hq
    have hi : ∀ i, 140 ≤ i → m1 i = m i := fun i hi => tx_hi ⟨h70, hq⟩ i hi
    obtain ⟨mp, vp, ⟨p1, p2, p3, p4, p5⟩, hcase⟩ := hq'
    have hlA := lA_le T
    have q141 : ∀ j, j < 440 → mp 141 j = m 141 j := fun j hj => by rw [p4 j (by omega), hi 141 (by decide)]
    have lAT : 440 + 200 * T ≤ lA T := by
      show 440 + 200 * T ≤ (if T < 14 then 440 + 200 * T + 4 else 3250)
      by_cases c : T < 14
      · rw [if_pos c]; omega
      · rw [if_neg c]; omega
    have q141t : ∀ j, j < 440 + 200 * T → mp 141 j = m 141 j := fun j hj => by rw [p4 j (by omega), hi 141 (by decide)]
    have qi : ∀ i, i ≠ 140 → i ≠ 141 → mp i = m1 i := p1
    have snd := fun t ht => snd_eq (t := t) hT ht
    have verd : (vp < 0 ↔ ¬ (rdAll (m 71) n).1 < 0) ∧ (vp < 0 → mp 140 12 = (rdAll (m 71) n).1) := by
      rcases p5 with ⟨y1, p, y2, y3⟩ | ⟨y1, C, w, y2, -⟩
      · have hnn : ¬ (rdAll (m 71) n).1 < 0 := by
          rcases all_c (t := m 71) n1 with z | ⟨q, hq1, z⟩
          · rw [y2] at z
            have y2' : rdAll (m 71) n = (-1, [], 0, 0) := by rw [y2, show nI p = -1 from z]
            exact absurd (all_snd n1 y2').2 (by decide)
          · rw [z]; exact nI_n0 (by omega)
        exact ⟨⟨fun _ => hnn, fun _ => y1⟩, fun _ => by rw [y3, y2]⟩
      · rw [y2]
        exact ⟨⟨fun z => absurd z (Int32.not_lt.mpr y1), fun z => absurd (show (-1 : Int32) < 0 by decide) z⟩, fun z => absurd z (Int32.not_lt.mpr y1)⟩
    -- nothing kept
    have plain : txN m m1 → m2 = mp → RelA m2 m2 (k + 1) := fun hn e => by
      subst e
      refine Rel_tx (T' := T) hS0 hC0 hL hW hX hQ hH hK (fd_t s1 s13 c1 snd hF q141t (fun i hi2 => by rw [qi i (by omega) (by omega), hi i (by omega)]) (fun j a1 a2 => by rw [p2 j (by omega), hi 140 (by decide)])) (fun i hk a1 a2 a3 a4 => by have := kA_iff.mp hk; rw [qi i (by omega) (by omega)]; exact hn i (by omega) (by omega) (by omega)) (fun j _ => by rw [qi 1 (by decide) (by decide), hn 1 (by decide) (by decide) (by decide)]) (fun i hi2 t _ => by rw [qi i (by omega) (by omega), hn i (by omega) (by omega) (by omega)]) (fun t _ => by rw [qi _ (by omega) (by omega), hn _ (by omega) (by omega) (by omega)]) (fun i hi2 => by rw [qi i (by omega) (by omega), hi i (by omega)]) (fun j hj => by rw [p2 j (by omega), hi 140 (by decide)]) (fun j hj _ => q141 j hj) (by rw [qi 70 (by decide) (by decide)]; exact h70) p3 ⟨Nat.le_refl _, c1, by rw [qi 1 (by decide) (by decide), hn 1 (by decide) (by decide) (by decide)]; exact c2, by rw [q141 6 (by omega)]; exact c3⟩ (rT_c c1 hT (fun i hi2 => by rw [qi i (by omega) (by omega), hn i (by omega) (by omega) (by omega)]) (fun j a1 a2 => q141t j (by omega)))
    rcases hcase with ⟨y, rfl, e⟩ | ⟨y, y2, rfl, e⟩ | ⟨y, y2, y3, rfl, e⟩ | ⟨y, y2, y3, rfl, e⟩
    · rw [if_pos y] at hq
      exact ⟨hq.1.symm, plain hq.2 e⟩
    · rw [if_neg (Classical.not_not.mpr y), if_pos (verd.1.mp y2)] at hq
      refine ⟨?_, plain hq.2 e⟩
      rw [hq.1, verd.2 y2]
    · rw [if_neg (Classical.not_not.mpr y), if_neg (fun z => absurd (verd.1.mpr z) (Int32.not_lt.mpr y2)), if_pos (by omega)] at hq
      exact ⟨hq.1.symm, plain hq.2 e⟩
    · rw [if_neg (Classical.not_not.mpr y), if_neg (fun z => absurd (verd.1.mpr z) (Int32.not_lt.mpr y2)), if_neg (by omega)] at hq
      obtain ⟨rfl, x1, x2, x3, x4, x5, x6, x7, x8⟩ := hq
      refine ⟨rfl, ?_⟩
      rcases p5 with ⟨y4, -⟩ | ⟨-, C, w, y4, y5, y6, y7, y8⟩
      · exact absurd y4 (Int32.not_lt.mpr y2)
      rw [y4] at x2 x4 x5 x6 x7
      dsimp only at x2 x4 x5 x6 x7
      obtain ⟨okc, dpc⟩ := all_snd n1 y4
      have lAe : lA T = 440 + 200 * T + 4 := if_pos y3
      subst e
      have r0 : ∀ i, i ≠ 140 → i ≠ 141 → txR mp T vp k0 i = m1 i := fun i a1 a2 => by
        unfold txR
        rw [mup_i' a1, mup_i' a2, mup_i' a2, mup_i' a2, mup_i' a2, mup_i' a2, qi i a1 a2]
      have r33 : txR mp T vp k0 140 33 = 0 := mup_s
      have r140 : ∀ j, j ≠ 33 → txR mp T vp k0 140 j = mp 140 j := fun j hj => by
        unfold txR
        rw [mup_j hj, mup_i (by decide), mup_i (by decide), mup_i (by decide), mup_i (by decide), mup_i (by decide)]
      have r6 : txR mp T vp k0 141 6 = nI (T + 1) := (mup_i (by decide)).trans mup_s
      have ra : txR mp T vp k0 141 (440 + 200 * T) = vp := by
        unfold txR
        rw [mup_i (by decide), mup_j (by omega), mup_j (by omega), mup_j (by omega), mup_j (by omega)]; exact mup_s
      have rb : txR mp T vp k0 141 (440 + 200 * T + 1) = k0 := by
        unfold txR
        rw [mup_i (by decide), mup_j (by omega), mup_j (by omega), mup_j (by omega)]; exact mup_s
      have rc : txR mp T vp k0 141 (440 + 200 * T + 2) = mp 140 21 := by
        unfold txR
        rw [mup_i (by decide), mup_j (by omega), mup_j (by omega)]; exact mup_s
      have rd : txR mp T vp k0 141 (440 + 200 * T + 3) = mp 140 19 := by
        unfold txR
        rw [mup_i (by decide), mup_j (by omega)]; exact mup_s
      have ro : ∀ j, j ≠ 6 → (j < 440 + 200 * T ∨ 440 + 200 * T + 4 ≤ j) → txR mp T vp k0 141 j = mp 141 j := fun j h6 hj => by
        unfold txR
        rw [mup_i (by decide), mup_j h6, mup_j (by omega), mup_j (by omega), mup_j (by omega), mup_j (by omega)]
      generalize txR mp T vp k0 = M at r0 r33 r140 r6 ra rb rc rd ro ⊢
      have a1 : ∀ j, j ≠ 14 → M 1 j = m 1 j := fun j hj => by rw [r0 1 (by decide) (by decide), x1]; exact fset_n hj
      refine Rel_tx (T' := T + 1) hS0 hC0 hL hW hX hQ hH hK (Or.inl r33) (fun i hk b1 b2 b3 b4 => by have := kA_iff.mp hk; rw [r0 i (by omega) (by omega)]; exact x8 i b1 b2 (by omega) (by omega) (by omega) (by omega)) a1 (fun i hi2 t ht => ?_) (fun t ht => by rw [r0 _ (by omega) (by omega)]; exact x8 _ (by omega) (by omega) (by omega) (by omega) (by omega) (by omega)) (fun i hi2 => by rw [r0 i (by omega) (by omega), hi i (by omega)]) (fun j hj => by rw [r140 j (by omega), p2 j (by omega), hi 140 (by decide)]) (fun j hj h6 => by rw [ro j h6 (by omega)]; exact q141 j hj) (by rw [r0 70 (by decide) (by decide)]; exact h70) (by rw [r140 11 (by decide)]; exact p3) ⟨by omega, by omega, by rw [r0 1 (by decide) (by decide), x1]; exact fset_s, r6⟩ (fun t ht => ?_)
      · rcases hi2 with rfl | rfl | rfl | rfl
        · rw [r0 75 (by decide) (by decide), x2]; exact fset_n (by omega)
        · rw [r0 76 (by decide) (by decide), x3]; exact fset_n (by omega)
        · rw [r0 77 (by decide) (by decide), x4]; exact fset_n (by omega)
        · rw [r0 78 (by decide) (by decide), x5]; exact fset_n (by omega)
      · by_cases et : t = T
        · subst et
          have hcode : ∀ j, j < C.length → m1 (80 + t) j = cdW (mp 141 (lA t + 2 * j)) (mp 141 (lA t + 2 * j + 1)) ∧ okS vp (mp 141 (lA t + 2 * j)) (mp 141 (lA t + 2 * j + 1)) := fun j hj => by
            have z1 := x7 j hj
            have z2 := y5.2 j hj
            rw [z1] at z2
            exact ⟨Option.some.inj z2.1, z2.2⟩
          refine ⟨by rw [r0 75 (by decide) (by decide), x2, ra]; exact fset_s, by rw [r0 76 (by decide) (by decide), x3, rb]; exact fset_s, by rw [r0 77 (by decide) (by decide), x4, rc, y6]; exact fset_s, C.length, y7, by rw [r0 78 (by decide) (by decide), x5]; exact fset_s, by rw [rd]; exact y5.1, fun j hj => ?_, ?_⟩
          · rw [r0 (80 + t) (by omega) (by omega), ra, ro _ (by omega) (by omega), ro _ (by omega) (by omega), ← lAe]
            exact hcode j hj
          · refine wf_L (f := fun j => cdW (M 141 (440 + 200 * t + 4 + 2 * j)) (M 141 (440 + 200 * t + 4 + 2 * j + 1))) (fun j hj => ?_) okc dpc
            show _ = some (cdW _ _)
            rw [ro _ (by omega) (by omega), ro _ (by omega) (by omega), ← lAe]
            exact (y5.2 j hj).1
        · have hm : ∀ i, (80 ≤ i ∧ i ≤ 93) → i ≠ 80 + T → M i = m i := fun i b1 b2 => by rw [r0 i (by omega) (by omega)]; exact x8 i (by omega) (by omega) (by omega) (by omega) (by omega) b2
          exact rT1_c (hT t (by omega)) (by rw [r0 75 (by decide) (by decide), x2]; exact fset_n et) (by rw [r0 76 (by decide) (by decide), x3]; exact fset_n et) (by rw [r0 77 (by decide) (by decide), x4]; exact fset_n et) (by rw [r0 78 (by decide) (by decide), x5]; exact fset_n et) (fun j _ => by rw [hm (80 + t) (by omega) (by omega)]) (fun j b1 b2 => by rw [ro j (by omega) (by omega)]; exact q141t j (by omega))
