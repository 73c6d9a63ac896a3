/-- numbers of a state that stay small -/
def rG (b : jm) (r P : Nat) : Prop := (∀ p, p < P → vp_in (b r (90 + 6 * p + 3)) 10 ∧ vp_in (b r (90 + 6 * p + 5)) 10) ∧ (∀ j, j < 6 → vp_in (b r (30 + j)) 10) ∧ ∀ j, j < 10 → vp_in (b r (10 + 2 * j + 1)) 10
theorem rG_c {b b' : jm} {r P : Nat} (h1 : P ≤ 48) (h : rG b r P) (hb : ∀ j, j < 380 → b' r j = b r j) : rG b' r P := ⟨fun p hp => by rw [hb _ (by omega), hb _ (by omega)]; exact h.1 p hp, fun j hj => by rw [hb _ (by omega)]; exact h.2.1 j hj, fun j hj => by rw [hb _ (by omega)]; exact h.2.2 j hj⟩
/-- the class's cells in a, the reference's in b -/
def rS (a b : jm) (o r P : Nat) : Prop :=
  P ≤ 48 ∧ a o 0 = nI P ∧ b r 0 = nI P ∧ a o 13 = b r 1 ∧
  (∀ p, p < P → a (o + 1) p = b r (90 + 6 * p) ∧ a (o + 2) p = b r (90 + 6 * p + 1) ∧ a (o + 3) p = b r (90 + 6 * p + 2) ∧ a (o + 4) p = b r (90 + 6 * p + 3) ∧ a (o + 5) p = b r (90 + 6 * p + 4) ∧ a (o + 6) p = b r (90 + 6 * p + 5)) ∧
  (∀ p, p < P → vp_in (b r (90 + 6 * p)) 6 ∧ vp_in (b r (90 + 6 * p + 1)) 48) ∧
  (∀ k, k < 48 → a (o + 8) k = b r (40 + k)) ∧ (∀ j, j < 10 → a (o + 9) j = b r (10 + 2 * j) ∧ a (o + 10) j = b r (10 + 2 * j + 1)) ∧
  (∀ j, j < 6 → a (o + 11) j = b r (30 + j)) ∧ (∀ j, j < 4 → a (o + 12) j = b r (2 + j)) ∧
  (∀ q, q < 48 → a (o + 7) q = orN (onP b r (nI q) P)) ∧ wfPt a o ∧ wfR b r ∧
  (∀ p q, p < P → q < P → b r (90 + 6 * p + 1) = b r (90 + 6 * q + 1) → p = q) ∧ nI 1 ≤ b r 4 ∧ rG b r P
def rC (a b : jm) (o r T L W : Nat) : Prop := T ≤ 14 ∧ a o 14 = nI T ∧ b r 6 = nI T ∧ L ≤ 8 ∧ a o 15 = nI L ∧ b r 7 = nI L ∧ W ≤ 12 ∧ a o 16 = nI W ∧ b r 8 = nI W
def rT1 (a b : jm) (r t : Nat) : Prop := a 75 t = b r (440 + 200 * t) ∧ a 76 t = b r (440 + 200 * t + 1) ∧ a 77 t = b r (440 + 200 * t + 2) ∧
  ∃ n, n ≤ 96 ∧ a 78 t = nI n ∧ b r (440 + 200 * t + 3) = nI n ∧
    (∀ k, k < n → a (80 + t) k = cdW (b r (440 + 200 * t + 4 + 2 * k)) (b r (440 + 200 * t + 4 + 2 * k + 1)) ∧ okS (b r (440 + 200 * t)) (b r (440 + 200 * t + 4 + 2 * k)) (b r (440 + 200 * t + 4 + 2 * k + 1))) ∧
    wfC (fun k => cdW (b r (440 + 200 * t + 4 + 2 * k)) (b r (440 + 200 * t + 4 + 2 * k + 1))) n
def rT (a b : jm) (r T : Nat) : Prop := ∀ t, t < T → rT1 a b r t
def rL (a b : jm) (r L : Nat) : Prop := ∀ i, i < L → a 127 i = b r (380 + 5 * i + 4) ∧ ∀ q, q < 4 → a (129 + i) q = b r (380 + 5 * i + q)
def rW (a b : jm) (r W : Nat) : Prop := ∀ i, i < W → a 137 i = b r (420 + i)
def rX (a b : jm) : Prop := ∀ l, l < 24 → a 41 l = b 144 l ∧ (a 41 l = -1 ∨ a 41 l = nI 0 ∨ a 41 l = nI 1) ∧ a 42 l = b 145 l ∧ (∃ n, n ≤ 24 ∧ b 145 l = nI n) ∧ ∀ j, j < 24 → a (44 + l) j = b 146 (24 * l + j)
def rP (a b : jm) : Prop := ∃ n, n ≤ 96 ∧ a 70 1 = nI n ∧ b 140 11 = nI n ∧ ∀ i, i < n → bR (b 150 i) (a 71 i)
def rQ (a b : jm) : Prop := ∃ w, w ≤ 60 ∧ a 0 10 = nI w ∧ b 140 35 = nI w ∧ ∀ i, i < w → a 139 i = b 157 i
def rH (a : jm) (k : Nat) : Prop := (∀ i, i < 3 → a 124 (i * 10) = 0) ∧ (∀ p, p < 48 → a 120 p = 0)
/-- an image -/
def rK (a b : jm) (T L W : Nat) : Prop := a 0 11 = b 140 3 ∧ (¬ a 0 11 = 0 → ∃ P' T' L' W', rS a b 14 142 P' ∧ rC a b 14 142 T' L' W' ∧ rT a b 142 T' ∧ rL a b 142 L' ∧ rW a b 142 W' ∧ T' ≤ T ∧ L' ≤ L ∧ W' ≤ W)
/-- the class and the reference stand alike -/
def RelA (a b : jm) (k : Nat) : Prop := ∃ P T L W, rS a b 1 141 P ∧ rC a b 1 141 T L W ∧ rT a b 141 T ∧ rL a b 141 L ∧ rW a b 141 W ∧ rX a b ∧ rP a b ∧ rQ a b ∧ rH a k ∧ rK a b T L W ∧ fdOK b P T
-- what each reads
theorem onP_row {m m' : jm} {r P : Nat} (h : ∀ p, p < P → m' r (90 + 6 * p + 1) = m r (90 + 6 * p + 1)) (q : Int32) : onP m' r q P = onP m r q P := by
  induction P with
  | zero => rfl
  | succ P ih => unfold onP; rw [h P (by omega), ih (fun p hp => h p (by omega))]
theorem rS_c {a b a' b' : jm} {o r P : Nat} (h : rS a b o r P) (ha : ∀ i, o ≤ i → i ≤ o + 12 → a' i = a i) (hb : ∀ j, j < 380 → b' r j = b r j) : rS a' b' o r P := by
  obtain ⟨h1, h2, h3, h4, h5, h6, h7, h8, h9, h10, h11, h12, h13, h14, h15⟩ := h
  refine ⟨h1, by rw [ha o (by omega) (by omega)]; exact h2, by rw [hb 0 (by omega)]; exact h3, by rw [ha o (by omega) (by omega), hb 1 (by omega)]; exact h4, fun p hp => ?_, fun p hp => ?_, fun k hk => ?_, fun j hj => ?_, fun j hj => ?_, fun j hj => ?_, fun q hq => ?_, ⟨fun p hp => ?_, fun j hj => ?_⟩, ⟨fun p hp => ?_, fun j hj => ?_⟩, fun p q hp hq e => ?_, ⟨by rw [hb 4 (by omega)]; exact h15.1, rG_c h1 h15.2 hb⟩⟩
  · rw [ha (o + 1) (by omega) (by omega), ha (o + 2) (by omega) (by omega), ha (o + 3) (by omega) (by omega), ha (o + 4) (by omega) (by omega), ha (o + 5) (by omega) (by omega), ha (o + 6) (by omega) (by omega), hb _ (by omega), hb _ (by omega), hb _ (by omega), hb _ (by omega), hb _ (by omega), hb _ (by omega)]
    exact h5 p hp
  · rw [hb _ (by omega), hb _ (by omega)]; exact h6 p hp
  · rw [ha (o + 8) (by omega) (by omega), hb _ (by omega)]; exact h7 k hk
  · rw [ha (o + 9) (by omega) (by omega), ha (o + 10) (by omega) (by omega), hb _ (by omega), hb _ (by omega)]; exact h8 j hj
  · rw [ha (o + 11) (by omega) (by omega), hb _ (by omega)]; exact h9 j hj
  · rw [ha (o + 12) (by omega) (by omega), hb _ (by omega)]; exact h10 j hj
  · rw [ha (o + 7) (by omega) (by omega), onP_row (fun p hp => hb _ (by omega))]; exact h11 q hq
  · rw [ha (o + 5) (by omega) (by omega)]; exact h12.1 p hp
  · rw [ha (o + 9) (by omega) (by omega)]; exact h12.2 j hj
  · rw [hb _ (by omega)]; exact h13.1 p hp
  · rw [hb _ (by omega)]; exact h13.2 j hj
  · rw [hb _ (by omega), hb _ (by omega)] at e; exact h14 p q hp hq e
theorem rC_c {a b a' b' : jm} {o r T L W : Nat} (h : rC a b o r T L W) (ha : a' o = a o) (hb : ∀ j, 6 ≤ j → j ≤ 8 → b' r j = b r j) : rC a' b' o r T L W := by
  unfold rC
  rw [ha, hb 6 (by omega) (by omega), hb 7 (by omega) (by omega), hb 8 (by omega) (by omega)]
  exact h
theorem dep_n {f g : Nat → Int32} : ∀ n, (∀ k, k < n → g k = f k) → dep g n = dep f n
  | 0, _ => rfl
  | n + 1, h => by
    unfold dep
    rw [dep_n n (fun k hk => h k (by omega)), h n (by omega)]
theorem wfC_n {f g : Nat → Int32} {n : Nat} (h : ∀ k, k < n → g k = f k) (hw : wfC f n) : wfC g n := ⟨fun i hi => by
  rw [h i hi, dep_n i (fun k hk => h k (by omega))]
  exact hw.1 i hi, by rw [dep_n n h]; exact hw.2⟩
theorem rT1_c {a b a' b' : jm} {r t : Nat} (h : rT1 a b r t) (h5 : a' 75 t = a 75 t) (h6 : a' 76 t = a 76 t) (h7 : a' 77 t = a 77 t) (h8 : a' 78 t = a 78 t) (hc : ∀ k, k < 96 → a' (80 + t) k = a (80 + t) k) (hb : ∀ j, 440 + 200 * t ≤ j → j < 440 + 200 * t + 196 → b' r j = b r j) : rT1 a' b' r t := by
  obtain ⟨q1, q2, q3, n, hn, q4, q5, q6, q7⟩ := h
  refine ⟨by rw [h5, hb _ (by omega) (by omega)]; exact q1, by rw [h6, hb _ (by omega) (by omega)]; exact q2, by rw [h7, hb _ (by omega) (by omega)]; exact q3, n, hn, by rw [h8]; exact q4, by rw [hb _ (by omega) (by omega)]; exact q5, fun k hk => ?_, ?_⟩
  · rw [hc k (by omega), hb _ (by omega) (by omega), hb _ (by omega) (by omega), hb _ (by omega) (by omega)]; exact q6 k hk
  · refine wfC_n (fun k hk => ?_) q7
    rw [hb _ (by omega) (by omega), hb _ (by omega) (by omega)]
theorem rT_c {a b a' b' : jm} {r T : Nat} (hT : T ≤ 14) (h : rT a b r T) (ha : ∀ i, i = 75 ∨ i = 76 ∨ i = 77 ∨ i = 78 ∨ (80 ≤ i ∧ i ≤ 93) → a' i = a i) (hb : ∀ j, 440 ≤ j → j < 440 + 200 * T → b' r j = b r j) : rT a' b' r T := fun t ht =>
  rT1_c (h t ht) (by rw [ha 75 (by omega)]) (by rw [ha 76 (by omega)]) (by rw [ha 77 (by omega)]) (by rw [ha 78 (by omega)]) (fun k _ => by rw [ha (80 + t) (by omega)]) (fun j h1 h2 => hb j (by omega) (by omega))
theorem rL_c {a b a' b' : jm} {r L : Nat} (hL : L ≤ 8) (h : rL a b r L) (ha : ∀ i, i = 127 ∨ (129 ≤ i ∧ i ≤ 136) → a' i = a i) (hb : ∀ j, 380 ≤ j → j < 380 + 5 * L → b' r j = b r j) : rL a' b' r L := fun i hi => by
  rw [ha 127 (by omega), hb _ (by omega) (by omega)]
  refine ⟨(h i hi).1, fun q hq => ?_⟩
  rw [ha (129 + i) (by omega), hb _ (by omega) (by omega)]
  exact (h i hi).2 q hq
theorem rW_c {a b a' b' : jm} {r W : Nat} (hW : W ≤ 12) (h : rW a b r W) (ha : a' 137 = a 137) (hb : ∀ j, 420 ≤ j → j < 420 + W → b' r j = b r j) : rW a' b' r W := fun i hi => by
  rw [ha, hb _ (by omega) (by omega)]
  exact h i hi
theorem rX_c {a b a' b' : jm} (h : rX a b) (ha : ∀ i, i = 41 ∨ i = 42 ∨ (44 ≤ i ∧ i ≤ 67) → a' i = a i) (h4 : b' 144 = b 144) (h5 : b' 145 = b 145) (h6 : b' 146 = b 146) : rX a' b' := fun l hl => by
  rw [ha 41 (by omega), ha 42 (by omega), ha (44 + l) (by omega), h4, h5, h6]
  exact h l hl
theorem rP_c {a b a' b' : jm} (h : rP a b) (h1 : a' 70 1 = a 70 1) (h2 : a' 71 = a 71) (h3 : b' 140 11 = b 140 11) (h4 : b' 150 = b 150) : rP a' b' := by
  unfold rP
  rw [h1, h2, h3, h4]
  exact h
theorem rQ_c {a b a' b' : jm} (h : rQ a b) (h1 : a' 0 10 = a 0 10) (h2 : a' 139 = a 139) (h3 : b' 140 35 = b 140 35) (h4 : b' 157 = b 157) : rQ a' b' := by
  unfold rQ
  rw [h1, h2, h3, h4]
  exact h
theorem rH_c {a a' : jm} {k k' : Nat} (h : rH a k) (hk : k ≤ k') (h1 : a' 124 = a 124) (h2 : a' 120 = a 120) (h3 : a' 102 6 = a 102 6) (h4 : a' 125 = a 125) : rH a' k' := by
  obtain ⟨q1, q2⟩ := h
  exact ⟨fun i hi => by rw [h1]; exact q1 i hi, fun p hp => by rw [h2]; exact q2 p hp⟩
theorem rK_c {a b a' b' : jm} {T L W T2 L2 W2 : Nat} (h : rK a b T L W) (hT : T ≤ T2) (hL : L ≤ L2) (hW : W ≤ W2) (h0 : a' 0 11 = a 0 11) (hc : b' 140 3 = b 140 3) (ha : ∀ i, 14 ≤ i → i ≤ 26 → a' i = a i)
    (hx : ∀ i, i = 75 ∨ i = 76 ∨ i = 77 ∨ i = 78 → ∀ t, t < T → a' i t = a i t) (hx2 : ∀ t, t < T → a' (80 + t) = a (80 + t)) (hl : ∀ i, i < L → a' 127 i = a 127 i ∧ a' (129 + i) = a (129 + i)) (hw : ∀ i, i < W → a' 137 i = a 137 i) (hb : b' 142 = b 142) : rK a' b' T2 L2 W2 := by
  obtain ⟨q1, q2⟩ := h
  refine ⟨by rw [h0, hc]; exact q1, fun z => ?_⟩
  rw [h0] at z
  obtain ⟨P', T', L', W', r1, r2, r3, r4, r5, r6, r7, r8⟩ := q2 z
  refine ⟨P', T', L', W', rS_c r1 (fun i h1 h2 => ha i (by omega) (by omega)) (fun j _ => by rw [hb]), rC_c r2 (ha 14 (by omega) (by omega)) (fun j _ _ => by rw [hb]), fun t ht => ?_, fun i hi => ?_, fun i hi => ?_, by omega, by omega, by omega⟩
  · exact rT1_c (r3 t ht) (hx 75 (by omega) t (by omega)) (hx 76 (by omega) t (by omega)) (hx 77 (by omega) t (by omega)) (hx 78 (by omega) t (by omega)) (fun k _ => by rw [hx2 t (by omega)]) (fun j _ _ => by rw [hb])
  · rw [(hl i (by omega)).1, (hl i (by omega)).2, hb]; exact r4 i hi
  · rw [hw i (by omega), hb]; exact r5 i hi
theorem aim_eq {a b : jm} {o P p : Nat} (h : rS a b o 141 P) (hp : p < P) : aimS a o p = aimR b 141 p := by
  obtain ⟨h1, h2, h3, h4, h5, h6, h7, h8, h9, h10, h11, h12, h13, h14, h15⟩ := h
  obtain ⟨e1, e2, e3, e4, e5, e6⟩ := h5 p hp
  have hn := nrv_10 h13 (p := p) (by omega)
  have hg := grp_6 h13 (p := p) (by omega)
  unfold aimS aimR drwR
  rw [e1, e4, e5, e6]
  rw [(h8 (tN (b 141 (90 + 6 * p + 4))) hn).1, (h8 (tN (b 141 (90 + 6 * p + 4))) hn).2, h9 (tN (b 141 (10 + 2 * tN (b 141 (90 + 6 * p + 4))))) hg]
  rfl
theorem drw_in {b : jm} {P p : Nat} (h1 : P ≤ 48) (hw : wfR b 141) (h : rG b 141 P) (hp : p < P) : vp_in (drwR b 141 p) 10 := by
  have hn := nrv_10 hw (p := p) (by omega)
  have hg := grp_6 hw (p := p) (by omega)
  obtain ⟨s, hs, es⟩ := vp_in_of (h.1 p hp).1 (by decide)
  obtain ⟨u, hu, eu⟩ := vp_in_of (h.2.1 _ hg) (by decide)
  obtain ⟨w, hw2, ew⟩ := vp_in_of (h.2.2 _ hn) (by decide)
  have hm : u * w ≤ 9 * 9 := Nat.mul_le_mul (by omega) (by omega)
  unfold drwR drawnV
  rw [es, eu, ew, pk_mul, pk_div (by omega) (by omega) (by omega), minV_n (by omega) (by omega)]
  exact vp_in_nI (by omega) (by decide)
theorem aim_in {b : jm} {P p : Nat} (h1 : P ≤ 48) (hw : wfR b 141) (h : rG b 141 P) (hp : p < P) : vp_in (aimR b 141 p) 10 := by
  have hd := drw_in h1 hw h hp
  obtain ⟨s, hs, es⟩ := vp_in_of (h.1 p hp).1 (by decide)
  obtain ⟨u, hu, eu⟩ := vp_in_of hd (by decide)
  have hle : u ≤ s := by
    have e : drwR b 141 p = minV (nI s) (b 141 (30 + grp b 141 p) * b 141 (10 + 2 * nrv b 141 p + 1) / nI 5) := by unfold drwR drawnV; rw [es]
    have : minV (nI s) (b 141 (30 + grp b 141 p) * b 141 (10 + 2 * nrv b 141 p + 1) / nI 5) = nI u := e.symm.trans eu
    unfold minV at this
    by_cases c : b 141 (30 + grp b 141 p) * b 141 (10 + 2 * nrv b 141 p + 1) / nI 5 < nI s
    · rw [if_pos c] at this
      rw [this, Int32.lt_iff_toInt_lt, nI_toInt (by omega), nI_toInt (by omega)] at c
      omega
    · rw [if_neg c] at this
      have := (nI_eq (by omega) (by omega)).mp this
      omega
  unfold aimR aimV
  rw [es, eu]
  by_cases a2 : b 141 (90 + 6 * p) = nI 2
  · rw [if_pos a2, pk_sub hle]; exact vp_in_nI (by omega) (by decide)
  rw [if_neg a2]
  by_cases a3 : b 141 (90 + 6 * p) = nI 3
  · rw [if_pos a3]; exact vp_in_nI (by omega) (by decide)
  rw [if_neg a3]
  by_cases a4 : b 141 (90 + 6 * p) = nI 4
  · rw [if_pos a4, pk_div (by omega) (by omega) (by omega)]; exact vp_in_nI (by omega) (by decide)
  rw [if_neg a4]
  by_cases a5 : b 141 (90 + 6 * p) = nI 5
  · rw [if_pos a5]; exact (h.1 p hp).2
  rw [if_neg a5]; exact vp_in_nI (by omega) (by decide)
theorem pac_eq {a b : jm} {o P p : Nat} (h : rS a b o 141 P) (hp : p < P) : paceS a o p = pacR b 141 p := by
  obtain ⟨e1, e2, e3, e4, e5, e6⟩ := h.2.2.2.2.1 p hp
  unfold paceS pacR
  rw [e1, e3]
theorem giv_eq {a b : jm} {o P p : Nat} (h : rS a b o 141 P) (hp : p < P) : givenS a o p = givR b 141 p := by
  obtain ⟨e1, e2, e3, e4, e5, e6⟩ := h.2.2.2.2.1 p hp
  unfold givenS givR
  rw [e1, e3, e6]
theorem onP_lt {m : jm} {r : Nat} {q : Int32} : ∀ P, onP m r q P < 0 ∨ ∃ p, p < P ∧ onP m r q P = nI p ∧ m r (90 + 6 * p + 1) = q
  | 0 => Or.inl (show (-1 : Int32) < 0 by decide)
  | P + 1 => by
    unfold onP
    by_cases h : m r (90 + 6 * P + 1) = q
    · rw [if_pos h]; exact Or.inr ⟨P, by omega, rfl, h⟩
    · rw [if_neg h]
      rcases onP_lt (m := m) (r := r) (q := q) P with z | ⟨p, hp, z⟩
      · exact Or.inl z
      · exact Or.inr ⟨p, by omega, z⟩
theorem onP_no {m : jm} {r : Nat} {q : Int32} : ∀ P, (∀ p, p < P → ¬ m r (90 + 6 * p + 1) = q) → onP m r q P = -1
  | 0, _ => rfl
  | P + 1, h => by
    unfold onP
    rw [if_neg (h P (by omega))]
    exact onP_no P (fun p hp => h p (by omega))
/-- what a place gets -/
def gvR (m : jm) (k P : Nat) : Int32 := if onP m 141 (nI k) P < 0 then nI 0 else givR m 141 (tN (onP m 141 (nI k) P))
def htR (m : jm) (k P : Nat) : Int32 := if onP m 141 (nI k) P < 0 then nI 0 else if m 141 (90 + 6 * tN (onP m 141 (nI k) P)) = nI 4 then m 141 (90 + 6 * tN (onP m 141 (nI k) P) + 5) else nI 0
theorem plc_k {m : jm} {p k : Nat} (hv : vp_in (m 141 (90 + 6 * p + 1)) 48) (hk : k < 48) : plR m p = k ↔ m 141 (90 + 6 * p + 1) = nI k := by
  unfold plR
  constructor
  · intro e; rw [tN_eq hv (by decide), e]
  · intro e; rw [e]; exact tN_n (by omega)
theorem lgt_eq {m : jm} {k : Nat} (hk : k < 48) : ∀ P, P ≤ 48 → (∀ p, p < P → vp_in (m 141 (90 + 6 * p + 1)) 48) → (∀ p q, p < P → q < P → m 141 (90 + 6 * p + 1) = m 141 (90 + 6 * q + 1) → p = q) → lgtR m P k = m 141 2 + gvR m k P ∧ hgtR m P k = htR m k P
  | 0, _, _, _ => by
    have e : onP m 141 (nI k) 0 < 0 := show (-1 : Int32) < 0 by decide
    unfold gvR htR
    rw [if_pos e, if_pos e]
    exact ⟨(Int32.add_zero _).symm, rfl⟩
  | P + 1, h48, hv, hd => by
    obtain ⟨i1, i2⟩ := lgt_eq hk P (by omega) (fun p hp => hv p (by omega)) (fun p q hp hq => hd p q (by omega) (by omega))
    have hvP := hv P (by omega)
    by_cases c : m 141 (90 + 6 * P + 1) = nI k
    · have ec : plR m P = k := (plc_k hvP hk).mpr c
      have eo : onP m 141 (nI k) (P + 1) = nI P := by unfold onP; rw [if_pos c]
      have en : ¬ nI P < 0 := nI_n0 (by omega)
      have e0 : onP m 141 (nI k) P = -1 := onP_no P (fun p hp z => by have := hd p P (by omega) (by omega) (z.trans c.symm); omega)
      have eg : gvR m k P = nI 0 := by unfold gvR; rw [e0]; exact if_pos (by decide)
      unfold lgtR hgtR gvR htR
      rw [eo, if_neg en, if_neg en, ec, fset_s, fset_s, tN_n (by omega), i1, eg]
      exact ⟨by rw [show m 141 2 + nI 0 = m 141 2 from Int32.add_zero _], rfl⟩
    · have ec : k ≠ plR m P := fun z => c ((plc_k hvP hk).mp z.symm)
      have eo : onP m 141 (nI k) (P + 1) = onP m 141 (nI k) P := by rw [onP, if_neg c]
      unfold lgtR hgtR gvR htR
      rw [eo, fset_n ec, fset_n ec]
      exact ⟨i1, i2⟩
theorem hgt_eq {a b : jm} {o P q : Nat} (h : rS a b o 141 P) (hq : q < 48) : hgtS a o q = htR b q P ∧ gvnS a o q = gvR b q P := by
  have h' := h
  obtain ⟨h1, h2, h3, h4, h5, h6, h7, h8, h9, h10, h11, h12, h13, h14, h15⟩ := h
  unfold hgtS htR gvnS gvR
  rw [h11 q hq]
  rcases onP_lt (m := b) (r := 141) (q := nI q) P with z | ⟨p, hp, z, -⟩
  · have e : orN (onP b 141 (nI q) P) = NONEv := if_pos z
    rw [e, if_pos rfl, if_pos rfl, if_pos z, if_pos z]
    exact ⟨rfl, rfl⟩
  · have e : orN (onP b 141 (nI q) P) = nI p := by rw [z]; exact if_neg (nI_n0 (by omega))
    have ep := (h5 p hp)
    rw [e, if_neg (nI_NONE (by omega)), if_neg (nI_NONE (by omega)), z, if_neg (nI_n0 (by omega)), if_neg (nI_n0 (by omega)), tN_n (by omega), giv_eq h' hp, ep.1, ep.2.2.2.2.2]
    exact ⟨rfl, rfl⟩
theorem lit_eq {a b : jm} {o P q : Nat} (h : rS a b o 141 P) (hq : q < 48) : lightS a o q = finR b P q := by
  have h' := h
  obtain ⟨h1, h2, h3, h4, h5, h6, h7, h8, h9, h10, h11, h12, h13, h14, h15⟩ := h
  have hl := fun k (hk : k < 48) => lgt_eq (m := b) hk P h1 (fun p hp => (h6 p hp).2) h14
  have e0 := h10 0 (by decide)
  have e1 := h10 1 (by decide)
  unfold lightS finR hupS
  rw [hld_held (by decide), e0, e1, (hl q hq).1, (hl q hq).2, (hgt_eq h' hq).1, (hgt_eq h' hq).2]
  by_cases c : q < 8
  · rw [if_pos c, if_pos c]
  · rw [if_neg c, if_neg c, (hl (q - 8) (by omega)).2, (hgt_eq h' (q := q - 8) (by omega)).1]
theorem shd_eq {a b : jm} {g p : Nat} (h : rX a b) (hg : g < 4) (hp : p < 48) : shadeS a g p = shdR b g p := by
  obtain ⟨q1, q2, q3, q4, q5⟩ := h (6 * g + p / 8) (by omega)
  unfold shadeS shdR
  rw [hld_held (by decide), ← q1, q3, q5 (p % 8) (by omega)]
  rcases q2 with e | e | e <;> rw [e]
  · rw [if_pos rfl, if_pos (by decide)]
  · rw [if_neg (c := nI 0 = -1) (by decide), if_neg (c := nI 0 < 0) (by decide)]
  · rw [if_neg (c := nI 1 = -1) (by decide), if_neg (c := nI 1 < 0) (by decide)]
theorem sz_eq {a b : jm} {o P : Nat} (h : rS a b o 141 P) : sumV (a (o + 6)) P = sumV (szR b) P := sumV_c P fun p hp => (h.2.2.2.2.1 p hp).2.2.2.2.2
