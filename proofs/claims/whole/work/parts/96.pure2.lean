theorem F_ask_2 {m : jm} {g w : Int32} (i : Nat) (h : i ≠ 68) (h2 : i ≠ 69) : (F_ask m g w).2 i = m i := by
  unfold F_ask
  by_cases c : nI 0 ≤ g ∧ g ≤ nI 3
  · rw [if_neg (Classical.not_not.mpr c)]
    by_cases c2 : nI 0 ≤ w ∧ w ≤ nI 3
    · rw [if_neg (Classical.not_not.mpr c2)]; exact askM_i h h2
    · rw [if_pos c2]
  · rw [if_pos c]
theorem F_half_2 {m : jm} {P : Nat} {g w : Int32} (i : Nat) (h : i ≠ 68) (h2 : i ≠ 69) : (F_half m P g w).2 i = m i := by
  unfold F_half
  by_cases c : nI 0 ≤ g ∧ g ≤ nI 3
  · rw [if_neg (Classical.not_not.mpr c)]
    by_cases c2 : nI 0 ≤ w ∧ w ≤ nI 5
    · rw [if_neg (Classical.not_not.mpr c2)]; exact askM_i h h2
    · rw [if_pos c2]
  · rw [if_pos c]
theorem show_eq {m : jm} {P : Nat} (hS : rS m m 1 141 P) (p w : Int32) : (R_show m p w).1 = (F_show m p w).1 ∧ ((R_show m p w).2 = m ∨ (R_show m p w).2 = litM m P) := by
  have hS0 := hS
  obtain ⟨s1, s2, s3, s4, s5, s6, s7, s8, s9, s10, s11, s12, s13, s14, s15⟩ := hS
  unfold R_show F_show
  rw [s3, tN_n (by omega)]
  by_cases c : nI 0 ≤ p ∧ p ≤ nI 47
  · obtain ⟨q, hq, hqe⟩ := w_of c (by decide)
    have htq : tN p = q := by rw [hqe]; exact tN_n (by omega)
    rw [if_neg (Classical.not_not.mpr c), if_neg (Classical.not_not.mpr c), htq]
    by_cases c2 : nI 0 ≤ w ∧ w ≤ nI 3
    · rw [if_neg (Classical.not_not.mpr c2)]
      by_cases w0 : w = nI 0
      · rw [if_pos w0, if_pos (show w = 0 from w0)]; exact ⟨(lit_eq hS0 (by omega)).symm, Or.inr rfl⟩
      rw [if_neg w0, if_neg (show ¬ w = 0 from w0)]
      by_cases w1 : w = nI 1
      · rw [if_pos w1, if_pos w1]; exact ⟨(s7 q (by omega)).symm, Or.inr rfl⟩
      rw [if_neg w1, if_neg w1]
      by_cases w2 : w = nI 2
      · rw [if_pos w2, if_pos w2, hqe]; exact ⟨(s11 q (by omega)).symm, Or.inr rfl⟩
      rw [if_neg w2, if_neg w2]
      have w3 : w = nI 3 := by
        obtain ⟨r, hr, hre⟩ := w_of c2 (by decide)
        rcases (show r = 0 ∨ r = 1 ∨ r = 2 ∨ r = 3 by omega) with rfl | rfl | rfl | rfl
        · exact absurd hre w0
        · exact absurd hre w1
        · exact absurd hre w2
        · exact hre
      rw [if_pos w3]
      refine ⟨?_, Or.inr rfl⟩
      rw [(hgt_eq hS0 (q := q) (by omega)).1]
      exact (lgt_eq (m := m) (k := q) (by omega) P s1 (fun p hp => (s6 p hp).2) s14).2
    · rw [if_pos c2, if_neg (fun z => c2 (by rw [z]; decide)), if_neg (fun z => c2 (by rw [z]; decide)), if_neg (fun z => c2 (by rw [z]; decide)), if_neg (fun z => c2 (by rw [z]; decide))]
      exact ⟨rfl, Or.inl rfl⟩
  · rw [if_pos c, if_pos c]
    exact ⟨rfl, Or.inl rfl⟩
theorem pac_0 (kd a : Int32) : ¬ paceV kd a ≤ 0 ∨ (paceV kd a = 0 ∧ kd = nI 5) := by
  unfold paceV
  by_cases a1 : kd = nI 1
  · rw [if_pos a1]
    by_cases b : nI 4 < a
    · rw [if_pos b]; exact Or.inl (by decide)
    · rw [if_neg b]; exact Or.inl (by decide)
  rw [if_neg a1]
  by_cases a2 : kd = nI 2
  · rw [if_pos a2]; exact Or.inl (by decide)
  rw [if_neg a2]
  by_cases a3 : kd = nI 3
  · rw [if_pos a3]; exact Or.inl (by decide)
  rw [if_neg a3]
  by_cases a4 : kd = nI 4
  · rw [if_pos a4]; exact Or.inl (by decide)
  rw [if_neg a4]
  by_cases a5 : kd = nI 5
  · rw [if_pos a5]; exact Or.inr ⟨rfl, a5⟩
  rw [if_neg a5]; exact Or.inl (by decide)
theorem pac_1 (kd a : Int32) : paceV kd a = nI 0 ∨ paceV kd a = nI 1 ∨ paceV kd a = nI 2 ∨ paceV kd a = nI 9 := by
  unfold paceV
  by_cases a1 : kd = nI 1
  · rw [if_pos a1]
    by_cases b : nI 4 < a
    · rw [if_pos b]; exact Or.inr (Or.inr (Or.inl rfl))
    · rw [if_neg b]; exact Or.inr (Or.inl rfl)
  rw [if_neg a1]
  by_cases a2 : kd = nI 2
  · rw [if_pos a2]; exact Or.inr (Or.inr (Or.inl rfl))
  rw [if_neg a2]
  by_cases a3 : kd = nI 3
  · rw [if_pos a3]; exact Or.inr (Or.inr (Or.inr rfl))
  rw [if_neg a3]
  by_cases a4 : kd = nI 4
  · rw [if_pos a4]; exact Or.inr (Or.inl rfl)
  rw [if_neg a4]
  by_cases a5 : kd = nI 5
  · rw [if_pos a5]; exact Or.inl rfl
  rw [if_neg a5]; exact Or.inr (Or.inl rfl)
theorem rst_0 {b : jm} : ∀ P, 0 ≤ rstR b P
  | 0 => Int32.le_refl _
  | p + 1 => by
    have ih := rst_0 (b := b) p
    rw [rstR]
    by_cases c : rstR b p < stepsR b p
    · rw [if_pos c]
      rw [Int32.lt_iff_toInt_lt] at c
      rw [Int32.le_iff_toInt_le] at *
      omega
    · rw [if_neg c]; exact ih
theorem rst_eq {a b : jm} {o P0 : Nat} (h : rS a b o 141 P0) : ∀ P, P ≤ P0 → restS a o P = rstR b P
  | 0, _ => rfl
  | p + 1, hp => by
    have ih := rst_eq h p (by omega)
    have e1 := aim_eq h (p := p) (by omega)
    have e2 := pac_eq h (p := p) (by omega)
    have e3 := (h.2.2.2.2.1 p (by omega)).2.2.2.2.2
    have r0 := rst_0 (b := b) p
    rw [restS, rstR, ih, e1, e2, e3]
    have eb : absV (aimR b 141 p - b 141 (90 + 6 * p + 5)) = farR b p := (siz_abs _).symm
    rw [eb]
    by_cases c : farR b p = 0
    · have es : stepsR b p = nI 0 := if_pos c
      have r1 : ¬ rstR b p < nI 0 := Int32.not_lt.mpr r0
      rw [es, if_neg r1]
      by_cases z : pacR b 141 p ≤ 0
      · rw [if_pos z]
      · rw [if_neg z]
        have : (farR b p + pacR b 141 p - nI 1) / pacR b 141 p = nI 0 := by
          rw [c]
          rcases pac_1 (b 141 (90 + 6 * p)) (b 141 (90 + 6 * p + 2)) with y | y | y | y
          · exact absurd (show pacR b 141 p ≤ 0 by unfold pacR; rw [y]; decide) z
          · unfold pacR; rw [y]; decide
          · unfold pacR; rw [y]; decide
          · unfold pacR; rw [y]; decide
        rw [this]
        exact if_neg r1
    · have es : stepsR b p = (farR b p + pacR b 141 p - nI 1) / pacR b 141 p := if_neg c
      have z : ¬ pacR b 141 p ≤ 0 := by
        rcases pac_0 (b 141 (90 + 6 * p)) (b 141 (90 + 6 * p + 2)) with y | y
        · exact y
        · exact absurd y.1 (pac_nz c)
      rw [if_neg z, es]
      rfl
theorem hlf_eq {a b a0 : jm} {P0 g : Nat} {gr me : Int32} (h : rS a b 1 141 P0) (hX : rX a b) (hg : g < 4) : ∀ P, P ≤ P0 → hlfV a g gr me P = hlfR b g gr me P
  | 0, _ => rfl
  | p + 1, hp => by
    have ih := hlf_eq (a0 := a0) (gr := gr) (me := me) h hX hg p (by omega)
    obtain ⟨s1, s2, s3, s4, s5, s6, s7, s8, s9, s10, s11, s12, s13, s14, s15⟩ := h
    obtain ⟨e1, e2, e3, e4, e5, e6⟩ := s5 p (by omega)
    have hn := nrv_10 s13 (p := p) (by omega)
    have eg : a 10 (tN (a 6 p)) = nI (grp b 141 p) := by
      rw [show a 6 p = _ from e5]
      exact (s8 _ hn).1.trans (tN_eq (s13.2 _ hn) (by decide))
    have el : tN (a 3 p) = plR b p := by rw [show a 3 p = _ from e2]; rfl
    have hpl : plR b p < 48 := tN_lt (s6 p (by omega)).2 (by decide)
    rw [hlfV, hlfR, ih, eg, el, shd_eq hX hg hpl]
    by_cases c : nI (grp b 141 p) = gr
    · rw [if_pos c, if_neg (Classical.not_not.mpr c)]
    · rw [if_neg c, if_pos c, x0]
theorem df_iff {m : jm} {w : Int32} {i j : Nat} : ∀ n, dfR m w i j n = true ↔ (m 141 (380 + 5 * i + 4) = m 141 (380 + 5 * j + 4) ∨ ∃ q, q < n ∧ bitP w q ∧ ¬ m 141 (380 + 5 * i + q) = m 141 (380 + 5 * j + q))
  | 0 => by
    unfold dfR
    rw [decide_eq_true_iff]
    exact ⟨Or.inl, fun z => z.elim id (fun ⟨q, h, _⟩ => absurd h (Nat.not_lt_zero q))⟩
  | n + 1 => by
    unfold dfR
    rw [Bool.or_eq_true, df_iff n, Bool.and_eq_true, decide_eq_true_iff, decide_eq_true_iff]
    constructor
    · intro z
      rcases z with (z | ⟨q, h1, h2⟩) | ⟨h1, h2⟩
      · exact Or.inl z
      · exact Or.inr ⟨q, by omega, h2⟩
      · exact Or.inr ⟨n, by omega, h1, h2⟩
    · intro z
      rcases z with z | ⟨q, h1, h2, h3⟩
      · exact Or.inl (Or.inl z)
      · by_cases e : q = n
        · subst e; exact Or.inr ⟨h2, h3⟩
        · exact Or.inl (Or.inr ⟨q, by omega, h2, h3⟩)
theorem pa_iff {a b : jm} {L : Nat} (h : rL a b 141 L) (w : Int32) : paP b w L ↔ ∀ i, i < L → ∀ j, j < i → apaP a w i j := by
  have key : ∀ i, i < L → ∀ j, j < i → (dfR b w i j 4 = true ↔ apaP a w i j) := fun i hi j hj => by
    rw [df_iff]
    unfold apaP difP
    rw [(h i hi).1, (h j (by omega)).1]
    constructor
    · intro z
      rcases z with z | ⟨q, h1, h2, h3⟩
      · exact Or.inl z
      · exact Or.inr ⟨q, h1, h2, by rw [(h i hi).2 q h1, (h j (by omega)).2 q h1]; exact h3⟩
    · intro z
      rcases z with z | ⟨q, h1, h2, h3⟩
      · exact Or.inl z
      · exact Or.inr ⟨q, h1, h2, by rw [(h i hi).2 q h1, (h j (by omega)).2 q h1] at h3; exact h3⟩
  exact ⟨fun z i hi j hj => (key i hi j hj).mp (z i hi j hj), fun z i hi j hj => (key i hi j hj).mpr (z i hi j hj)⟩
theorem apart_eq {m : jm} {L : Nat} (h1 : m 1 15 = nI L) (h2 : m 141 7 = nI L) (h8 : L ≤ 8) (hL : rL m m 141 L) (w : Int32) : F_apart m w = R_apart m w := by
  unfold F_apart R_apart
  rw [h1, h2, tN_n (by omega)]
  by_cases c : nI 0 ≤ w ∧ w ≤ nI 15
  · rw [if_neg (Classical.not_not.mpr c), if_neg (Classical.not_not.mpr c)]
    by_cases y : paP m w L
    · rw [if_pos y, if_pos ((pa_iff hL w).mp y)]
    · rw [if_neg y, if_neg (fun z => y ((pa_iff hL w).mpr z))]
  · rw [if_pos c, if_pos c]
theorem on_on : ∀ s, s < 16 → onV (nI s) = nI (onS s) := by unfold onV; decide +kernel
theorem few_eq {m : jm} {L : Nat} (hL : rL m m 141 L) : ∀ s, s ≤ 16 → opV (fewS m L s) = orN (fwR m L s) ∧ (fwR m L s < 0 ↔ fewS m L s = none) ∧ ∀ b, fewS m L s = some b → fwR m L s = nI b
  | 0, _ => ⟨rfl, ⟨fun _ => rfl, fun _ => (show (-1 : Int32) < 0 by decide)⟩, fun b h => by cases h⟩
  | s + 1, hs => by
    obtain ⟨i1, i2, i3⟩ := few_eq hL s (by omega)
    have key : (fwP s (fewS m L s) ∧ tapP m L s) ↔ (paP m (nI s) L ∧ (fwR m L s < 0 ∨ onV (nI s) < onV (fwR m L s))) := by
      have hp := pa_iff hL (nI s)
      have hq : fwP s (fewS m L s) ↔ (fwR m L s < 0 ∨ onV (nI s) < onV (fwR m L s)) := by
        cases e : fewS m L s with
        | none => exact ⟨fun _ => Or.inl (i2.mpr e), fun _ => trivial⟩
        | some b =>
          have hb := fewS_lt s b e
          rw [i3 b e, on_on s (by omega), on_on b (by omega)]
          have o1 := onS_4 s
          have o2 := onS_4 b
          constructor
          · intro z
            exact Or.inr (nI_lt z (by omega))
          · intro z
            rcases z with z | z
            · exact absurd z (nI_n0 (by omega))
            · rw [Int32.lt_iff_toInt_lt, nI_toInt (by omega), nI_toInt (by omega)] at z
              show onS s < onS b
              omega
      rw [hq, ← show tapP m L s ↔ paP m (nI s) L from hp.symm]
      exact And.comm
    by_cases c : paP m (nI s) L ∧ (fwR m L s < 0 ∨ onV (nI s) < onV (fwR m L s))
    · have e1 := fewS_y (key.mpr c).1 (key.mpr c).2
      have e2 : fwR m L (s + 1) = nI s := by rw [fwR]; exact if_pos c
      rw [e1, e2]
      exact ⟨(if_neg (nI_n0 (by omega))).symm, ⟨fun z => absurd z (nI_n0 (by omega)), fun z => by cases z⟩, fun b h => by cases h; rfl⟩
    · have e1 := fewS_n (fun z => c (key.mp z))
      have e2 : fwR m L (s + 1) = fwR m L s := by rw [fwR]; exact if_neg c
      rw [e1, e2]
      exact ⟨i1, i2, i3⟩
theorem count_eq {m : jm} {P T L W n w : Nat} (hS : rS m m 1 141 P) (hC : rC m m 1 141 T L W) (hX : rX m m) (hn : m 70 1 = m 140 11) (hw : m 0 10 = m 140 35) (v : Int32) : F_count m P v = R_count m v := by
  have hS0 := hS
  obtain ⟨s1, s2, s3, s4, s5, s6, s7, s8, s9, s10, s11, s12, s13, s14, s15⟩ := hS
  obtain ⟨c1, c2, c3, c4, c5, c6, c7, c8, c9⟩ := hC
  unfold F_count R_count
  have k1 : cnt (fun p => decide (m 2 p = v)) P = cnt (kdR m v) P := cnt_c P fun p hp => by unfold kdR; rw [show m 2 p = _ from (s5 p hp).1]
  have k2 : cnt (fun l => decide (¬ m 41 l = -1)) 24 = cnt (lnR m) 24 := cnt_c 24 fun l hl => by
    obtain ⟨q1, q2, -⟩ := hX l hl
    unfold lnR
    rw [← q1]
    rcases q2 with e | e | e <;> rw [e] <;> decide
  rw [s2, s3, tN_n (by omega), k1, show sumV (m 7) P = _ from sz_eq hS0, c2, c3, c5, c6, c8, c9, k2, hw, hn, show m 1 13 = _ from s4]
theorem q_show {x : jX} {m : jm} {d k : Nat} (h : RelA m m k) (p w : Int32) : PrC x (d + 120) k eX7_show eX8_show [.int p, .int w] m := by
  have hR := h
  obtain ⟨P, T, L, W, hS, hC, hT, hL, hW, hX, hP, hQ, hH, hK, hF⟩ := h
  have hS0 := hS
  have hC0 := hC
  obtain ⟨s1, s2, s3, s4, s5, s6, s7, s8, s9, s10, s11, s12, s13, s14, s15⟩ := hS
  obtain ⟨c1, c2, c3, c4, c5, c6, c7, c8, c9⟩ := hC
  obtain ⟨e1, e2⟩ := show_eq hS0 p w
  refine pr_FR (R := R_show m p w) (p_show (d := d + 117) p w (at_ok hS0).2) (by rw [F_show_2]; exact m_show (d := d + 117) p w s3 s1 (fun p hp => (s6 p hp).2)) e1 ?_
  rcases e2 with e2 | e2
  · rw [e2]; exact Rel_s hR
  · rw [e2]
    exact Rel_cc hR (Nat.le_succ k) (cA_hi (fun i hi => lit_141 (by omega) (by omega))) (cB_exs (S := [147, 148]) (fun i hi => lit_141 (fun z => hi (by rw [z]; decide)) (fun z => hi (by rw [z]; decide))) (by decide))
theorem q_still {x : jX} {m : jm} {d k : Nat} (h : RelA m m k) : PrC x (d + 120) k eX7_still eX8_still [] m := by
  have hR := h
  obtain ⟨P, T, L, W, hS, hC, hT, hL, hW, hX, hP, hQ, hH, hK, hF⟩ := h
  have hS0 := hS
  have hC0 := hC
  obtain ⟨s1, s2, s3, s4, s5, s6, s7, s8, s9, s10, s11, s12, s13, s14, s15⟩ := hS
  obtain ⟨c1, c2, c3, c4, c5, c6, c7, c8, c9⟩ := hC
  exact pr_mk (Q8 := fun _ m1 v' m2 => v' = rstR m1 P ∧ m2 = m1) (p_still (d := d + 117) s2 s1 s12) (fun v m1 hq => by rw [show m1 = m from congrArg Prod.snd hq]; exact m_still (d := d + 117) s3 s1 s13) (fun v m1 v' m2 hq hq' => by
    obtain ⟨rfl, rfl⟩ := hq'
    have e1 : m2 = m := congrArg Prod.snd hq
    have e2 : v = restS m 1 P := congrArg Prod.fst hq
    rw [e1, e2]
    exact ⟨(rst_eq hS0 P (Nat.le_refl _)).symm, Rel_s hR⟩)
theorem q_ask {x : jX} {m : jm} {d k : Nat} (h : RelA m m k) (g w : Int32) : PrC x (d + 120) k eX7_ask eX8_ask [.int g, .int w] m := by
  have hR := h
  obtain ⟨P, T, L, W, hS, hC, hT, hL, hW, hX, hP, hQ, hH, hK, hF⟩ := h
  have hS0 := hS
  have hC0 := hC
  obtain ⟨s1, s2, s3, s4, s5, s6, s7, s8, s9, s10, s11, s12, s13, s14, s15⟩ := hS
  obtain ⟨c1, c2, c3, c4, c5, c6, c7, c8, c9⟩ := hC
  have e4 : (F_ask m g w).2 141 = m 141 := F_ask_2 141 (by decide) (by decide)
  have e5 : m 13 2 = m 141 4 := s10 2 (by decide)
  have er : (R_ask (F_ask m g w).2 g w).2 = (F_ask m g w).2 := by unfold R_ask; (repeat' split) <;> rfl
  refine pr_FR (R := R_ask (F_ask m g w).2 g w) (p_ask (d := d + 116) g w) (m_ask (d := d + 117) g w) ?_ ?_
  · have eq : ∀ r q, qstR (F_ask m g w).2 r q = qstR m r q := fun r q => qstR_c (F_ask_2 144 (by decide) (by decide)) (F_ask_2 145 (by decide) (by decide)) (F_ask_2 146 (by decide) (by decide)) (by rw [e4]) r q
    unfold R_ask
    rw [eq]
    unfold F_ask
    by_cases c : nI 0 ≤ g ∧ g ≤ nI 3
    · rw [if_neg (Classical.not_not.mpr c), if_neg (Classical.not_not.mpr c)]
      by_cases c2 : nI 0 ≤ w ∧ w ≤ nI 3
      · rw [if_neg (Classical.not_not.mpr c2), if_neg (Classical.not_not.mpr c2)]
        obtain ⟨q, hq, hqe⟩ := w_of c (by decide)
        obtain ⟨r, hr, hre⟩ := w_of c2 (by decide)
        show qstR m (tN g) w = askM m (tN g) (m 13 2) 69 (tN w)
        rw [hqe, hre, tN_n (by omega), tN_n (by omega), e5]
        exact (ask_v hX s15.1 (by omega) (by omega)).symm
      · rw [if_pos c2, if_pos c2]
    · rw [if_pos c, if_pos c]
  · rw [er]
    exact Rel_cc hR (Nat.le_succ k) (cA_exs (S := [68, 69]) (fun i hi => F_ask_2 i (fun z => hi (by rw [z]; decide)) (fun z => hi (by rw [z]; decide))) (by decide)) (cB_exs (S := [68, 69]) (fun i hi => F_ask_2 i (fun z => hi (by rw [z]; decide)) (fun z => hi (by rw [z]; decide))) (by decide))
theorem q_half {x : jX} {m : jm} {d k : Nat} (h : RelA m m k) (g w : Int32) : PrC x (d + 120) k eX7_half eX8_half [.int g, .int w] m := by
  have hR := h
  obtain ⟨P, T, L, W, hS, hC, hT, hL, hW, hX, hP, hQ, hH, hK, hF⟩ := h
  have hS0 := hS
  have hC0 := hC
  obtain ⟨s1, s2, s3, s4, s5, s6, s7, s8, s9, s10, s11, s12, s13, s14, s15⟩ := hS
  obtain ⟨c1, c2, c3, c4, c5, c6, c7, c8, c9⟩ := hC
  have e4 : (F_half m P g w).2 141 = m 141 := F_half_2 141 (by decide) (by decide)
  have hc : cA m (F_half m P g w).2 := cA_exs (S := [68, 69]) (fun i hi => F_half_2 i (fun z => hi (by rw [z]; decide)) (fun z => hi (by rw [z]; decide))) (by decide)
  have hc2 : cB m (F_half m P g w).2 := cB_exs (S := [68, 69]) (fun i hi => F_half_2 i (fun z => hi (by rw [z]; decide)) (fun z => hi (by rw [z]; decide))) (by decide)
  have er : (R_half (F_half m P g w).2 g w).2 = (F_half m P g w).2 := by unfold R_half; (repeat' split) <;> rfl
  refine pr_FR (R := R_half (F_half m P g w).2 g w) (p_half (d := d + 116) g w s2 s1 s12 (fun p hp => by rw [show m 3 p = _ from (s5 p hp).2.1]; exact (s6 p hp).2)) (m_half (d := d + 117) g w (by rw [e4]; exact s3) s1 ⟨fun p hp => by rw [e4]; exact s13.1 p hp, fun j hj => by rw [e4]; exact s13.2 j hj⟩ (fun p hp => by rw [e4]; exact (s6 p hp).2)) ?_ ?_
  · have eq : ∀ r q, qstR (F_half m P g w).2 r q = qstR m r q := fun r q => qstR_c (F_half_2 144 (by decide) (by decide)) (F_half_2 145 (by decide) (by decide)) (F_half_2 146 (by decide) (by decide)) (by rw [e4]) r q
    have hS1 : rS m (F_half m P g w).2 1 141 P := rS_c hS0 (fun _ _ _ => rfl) (fun j _ => by rw [e4])
    have hX1 : rX m (F_half m P g w).2 := rX_c hX (fun _ _ => rfl) (F_half_2 144 (by decide) (by decide)) (F_half_2 145 (by decide) (by decide)) (F_half_2 146 (by decide) (by decide))
    unfold R_half
    rw [eq, e4, s3, tN_n (by omega)]
    by_cases c : nI 0 ≤ g ∧ g ≤ nI 3
    · by_cases c2 : nI 0 ≤ w ∧ w ≤ nI 5
      · obtain ⟨q, hq, hqe⟩ := w_of c (by decide)
        rw [if_neg (Classical.not_not.mpr c), if_neg (Classical.not_not.mpr c2)]
        have ef : (F_half m P g w).1 = hlfV m (tN g) w (q0V (shadeS m (tN g))) P := by unfold F_half; rw [if_neg (Classical.not_not.mpr c), if_neg (Classical.not_not.mpr c2)]
        rw [ef]
        show hlfR _ (tN g) w (qstR m (tN g) (nI 0)) P = _
        rw [hqe, tN_n (by omega), (qst_eq hX s15.1 (g := q) (by omega)).1]
        rw [← hqe]
        exact (hlf_eq (a0 := m) hS1 hX1 (by omega) P (Nat.le_refl _)).symm
      · rw [if_neg (Classical.not_not.mpr c), if_pos c2]
        unfold F_half
        rw [if_neg (Classical.not_not.mpr c), if_pos c2]
    · rw [if_pos c]
      unfold F_half
      rw [if_pos c]
  · rw [er]
    exact Rel_cc hR (Nat.le_succ k) hc hc2
theorem q_apart {x : jX} {m : jm} {d k : Nat} (h : RelA m m k) (w : Int32) : PrC x (d + 120) k eX7_apart eX8_apart [.int w] m := by
  have hR := h
  obtain ⟨P, T, L, W, hS, hC, hT, hL, hW, hX, hP, hQ, hH, hK, hF⟩ := h
  have hS0 := hS
  have hC0 := hC
  obtain ⟨s1, s2, s3, s4, s5, s6, s7, s8, s9, s10, s11, s12, s13, s14, s15⟩ := hS
  obtain ⟨c1, c2, c3, c4, c5, c6, c7, c8, c9⟩ := hC
  exact pr_same hR (p_apart (d := d + 118) w c5 c4) (apart_eq c5 c6 c4 hL w) (F_apart_2 m w) (m_apart (d := d + 119) w c6 c4)
theorem q_fewest {x : jX} {m : jm} {d k : Nat} (h : RelA m m k) : PrC x (d + 120) k eX7_fewest eX8_fewest [] m := by
  have hR := h
  obtain ⟨P, T, L, W, hS, hC, hT, hL, hW, hX, hP, hQ, hH, hK, hF⟩ := h
  have hS0 := hS
  have hC0 := hC
  obtain ⟨s1, s2, s3, s4, s5, s6, s7, s8, s9, s10, s11, s12, s13, s14, s15⟩ := hS
  obtain ⟨c1, c2, c3, c4, c5, c6, c7, c8, c9⟩ := hC
  exact pr_mk (Q8 := fun _ m1 v' m2 => v' = orN (fwR m1 L 16) ∧ m2 = m1) (p_fewest (d := d + 118) c5 c4) (fun v m1 hq => by rw [hq.2]; exact m_fewest (d := d + 119) c6 c4) (fun v m1 v' m2 hq hq' => by
    obtain ⟨rfl, rfl⟩ := hq'
    obtain ⟨rfl, e⟩ := hq
    rw [e]
    exact ⟨(few_eq hL 16 (Nat.le_refl _)).1.symm, Rel_s hR⟩)
theorem q_count {x : jX} {m : jm} {d k : Nat} (h : RelA m m k) (w : Int32) : PrC x (d + 120) k eX7_count eX8_count [.int w] m := by
  have hR := h
  obtain ⟨P, T, L, W, hS, hC, hT, hL, hW, hX, hP, hQ, hH, hK, hF⟩ := h
  have hS0 := hS
  have hC0 := hC
  obtain ⟨s1, s2, s3, s4, s5, s6, s7, s8, s9, s10, s11, s12, s13, s14, s15⟩ := hS
  obtain ⟨c1, c2, c3, c4, c5, c6, c7, c8, c9⟩ := hC
  obtain ⟨n, n1, n2, n3, -⟩ := hP
  obtain ⟨y, y1, y2, y3, -⟩ := hQ
  have e := count_eq (n := n) (w := y) hS0 hC0 hX (n2.trans n3.symm) (y2.trans y3.symm) w
  exact pr_same hR (p_count (d := d + 119) w s2 s1) e (F_count_2 m P w) (m_count (d := d + 118) w s3 s1)
theorem q_gives {x : jX} {m : jm} {d k : Nat} (h : RelA m m k) (g a b c e : Int32) : PrC x (d + 120) k eX7_gives eX8_gives [.int g, .int a, .int b, .int c, .int e] m := by
  have hR := h
  obtain ⟨P, T, L, W, hS, hC, hT, hL, hW, hX, hP, hQ, hH, hK, hF⟩ := h
  have hS0 := hS
  have hC0 := hC
  obtain ⟨s1, s2, s3, s4, s5, s6, s7, s8, s9, s10, s11, s12, s13, s14, s15⟩ := hS
  obtain ⟨c1, c2, c3, c4, c5, c6, c7, c8, c9⟩ := hC
  have ht : m 1 13 = m 141 1 := s4
  have hwf : wfX m (bestV m 1 g T) := wfX_best ht c1 hT
  refine pr_mk (Q8 := fun v m1 v' m2 => exs [151, 152] m1 m2 ∧ v' = if ¬ (nI 0 ≤ g ∧ g ≤ nI 6) then -1000000001 else if cntR m1 g T < 0 then -1000000005 else txV m1 (cntR m1 g T) a b c e) (p_gives (d := d + 118) g a b c e c2 c1 hwf) (fun v m1 hq => ?_) (fun v m1 v' m2 hq hq' => ?_)
  · have e1 : m1 141 = m 141 := hq.1 141 (by decide)
    exact m_gives (d := d + 118) g a b c e (by rw [e1]; exact c3) c1 (fun t ht => sndT_c (fun j _ => by rw [e1]) (snd_eq hT ht))
  · obtain ⟨hx, rfl⟩ := hq
    obtain ⟨hx2, rfl⟩ := hq'
    have e1 : m1 141 = m 141 := hx 141 (by decide)
    have ec : cntR m1 g T = cntR m g T := cntR_c (by rw [e1]) (fun j _ => by rw [e1]) T
    refine ⟨?_, Rel_cc hR (Nat.le_succ k) (cA_tr (cA_exs hx (by decide)) (cA_exs hx2 (by decide))) (cB_tr (cB_exs hx (by decide)) (cB_exs hx2 (by decide)))⟩
    rw [ec, best_eq ht T c1 hT]
    by_cases y : nI 0 ≤ g ∧ g ≤ nI 6
    · rw [if_neg (Classical.not_not.mpr y), if_neg (Classical.not_not.mpr y)]
      rcases cntR_in m g T c1 with z | ⟨t, h1, z, -⟩
      · rw [z, if_pos (show (-1 : Int32) < 0 by decide), if_pos (show orN (-1) = -1000000005 from rfl)]
      · rw [z, show orN (nI t) = nI t from if_neg (nI_n0 (by omega)), if_neg (nI_n0 (by omega)), if_neg (show ¬ nI t = -1000000005 from nI_NONE (by omega)), txV_c (fun j _ => by rw [e1]), txV_eq hT c1 h1]
    · rw [if_pos y, if_pos y]
theorem q_seen {x : jX} {m : jm} {d k : Nat} (h : RelA m m k) (g p : Int32) : PrC x (d + 120) k eX7_seen eX8_seen [.int g, .int p] m := by
  have hR := h
  obtain ⟨P, T, L, W, hS, hC, hT, hL, hW, hX, hP, hQ, hH, hK, hF⟩ := h
  have hS0 := hS
  have hC0 := hC
  obtain ⟨s1, s2, s3, s4, s5, s6, s7, s8, s9, s10, s11, s12, s13, s14, s15⟩ := hS
  obtain ⟨c1, c2, c3, c4, c5, c6, c7, c8, c9⟩ := hC
  have ht : m 1 13 = m 141 1 := s4
  have hwf : wfX m (bestV m 1 (nI 6) T) := wfX_best ht c1 hT
  refine pr_mk (Q8 := fun v m1 v' m2 => exs [147, 148, 151, 152, 153, 154] m1 m2 ∧ v' = if ¬ (nI 0 ≤ g ∧ g ≤ nI 3) then -1000000001 else if ¬ (nI 0 ≤ p ∧ p ≤ nI 47) then -1000000001 else jb (seR m1 (tN g) P (cntR m1 (nI 6) T) (tN p) = true)) (p_seen (d := d + 115) g p (at_ok hS0).2 c2 c1 hwf) (fun v m1 hq => ?_) (fun v m1 v' m2 hq hq' => ?_)
  · have e1 : m1 141 = m 141 := hq.1 141 (by decide)
    exact m_seen (d := d + 115) g p (by rw [e1]; exact s3) s1 (fun p hp => by rw [e1]; exact (s6 p hp).2) (by rw [e1]; exact c3) c1 (fun t ht => sndT_c (fun j _ => by rw [e1]) (snd_eq hT ht))
  · obtain ⟨hx, rfl⟩ := hq
    obtain ⟨hx2, rfl⟩ := hq'
    have e1 : m1 141 = m 141 := hx 141 (by decide)
    have ec : cntR m1 (nI 6) T = cntR m (nI 6) T := cntR_c (by rw [e1]) (fun j _ => by rw [e1]) T
    refine ⟨?_, Rel_cc hR (Nat.le_succ k) (cA_tr (cA_exs hx (by decide)) (cA_exs hx2 (by decide))) (cB_tr (cB_exs hx (by decide)) (cB_exs hx2 (by decide)))⟩
    rw [ec, seR_r e1 (hx 144 (by decide)) (hx 145 (by decide)) (hx 146 (by decide))]
    by_cases y : nI 0 ≤ g ∧ g ≤ nI 3
    · rw [if_neg (Classical.not_not.mpr y), if_neg (Classical.not_not.mpr y)]
      by_cases z : nI 0 ≤ p ∧ p ≤ nI 47
      · rw [if_neg (Classical.not_not.mpr z), if_neg (Classical.not_not.mpr z)]
        obtain ⟨q, hq, hqe⟩ := w_of y (by decide)
        obtain ⟨r, hr, hre⟩ := w_of z (by decide)
        rw [hqe, hre, tN_n (by omega), tN_n (by omega), see_eq hS0 hX c1 hT (by omega) (by omega)]
      · rw [if_pos z, if_pos z]
    · rw [if_pos y, if_pos y]
theorem q_beast {x : jX} {m : jm} {d k : Nat} (h : RelA m m k) (g w : Int32) : PrC x (d + 120) k eX7_beast eX8_beast [.int g, .int w] m := by
  have hR := h
  obtain ⟨P, T, L, W, hS, hC, hT, hL, hW, hX, hP, hQ, hH, hK, hF⟩ := h
  have hS0 := hS
  have hC0 := hC
  obtain ⟨s1, s2, s3, s4, s5, s6, s7, s8, s9, s10, s11, s12, s13, s14, s15⟩ := hS
  obtain ⟨c1, c2, c3, c4, c5, c6, c7, c8, c9⟩ := hC
  have ht : m 1 13 = m 141 1 := s4
  have hwf : wfX m (bestV m 1 (nI 6) T) := wfX_best ht c1 hT
  refine pr_mk (Q8 := fun v m1 v' m2 => exs [147, 148, 151, 152, 153, 154, 156] m1 m2 ∧ v' = if ¬ (nI 0 ≤ g ∧ g ≤ nI 3) then -1000000001 else if ¬ (nI 0 ≤ w ∧ w ≤ nI 4) then -1000000001 else beaR m1 (tN g) P (cntR m1 (nI 6) T) w) (p_beast (d := d + 114) g w (at_ok hS0).2 c2 c1 hwf) (fun v m1 hq => ?_) (fun v m1 v' m2 hq hq' => ?_)
  · have e1 : m1 141 = m 141 := hq.1 141 (by decide)
    exact m_beast (d := d + 115) g w (by rw [e1]; exact s3) s1 (fun p hp => by rw [e1]; exact (s6 p hp).2) (by rw [e1]; exact c3) c1 (fun t ht => sndT_c (fun j _ => by rw [e1]) (snd_eq hT ht))
  · obtain ⟨hx, rfl⟩ := hq
    obtain ⟨hx2, rfl⟩ := hq'
    have e1 : m1 141 = m 141 := hx 141 (by decide)
    have ec : cntR m1 (nI 6) T = cntR m (nI 6) T := cntR_c (by rw [e1]) (fun j _ => by rw [e1]) T
    refine ⟨?_, Rel_cc hR (Nat.le_succ k) (cA_tr (cA_exs hx (by decide)) (cA_exs hx2 (by decide))) (cB_tr (cB_exs hx (by decide)) (cB_exs hx2 (by decide)))⟩
    rw [ec]
    by_cases y : nI 0 ≤ g ∧ g ≤ nI 3
    · rw [if_neg (Classical.not_not.mpr y), if_neg (Classical.not_not.mpr y)]
      by_cases z : nI 0 ≤ w ∧ w ≤ nI 4
      · rw [if_neg (Classical.not_not.mpr z), if_neg (Classical.not_not.mpr z)]
        obtain ⟨q, hq, hqe⟩ := w_of y (by decide)
        rw [hqe, tN_n (by omega)]
        have es : ∀ p, p < 48 → seeG m 1 q (bestV m 1 (nI 6) T) p = seR m q P (cntR m (nI 6) T) p := fun p hp => see_eq hS0 hX c1 hT (by omega) hp
        have ef : ∀ p, p < 48 → spG m 1 q (bestV m 1 (nI 6) T) p = spR m q P (cntR m (nI 6) T) p := fun p hp => by unfold spG spR; rw [es p hp]
        unfold beaR beaV
        rw [show spR m1 q P (cntR m (nI 6) T) = spR m q P (cntR m (nI 6) T) from funext fun p => by unfold spR; rw [seR_r e1 (hx 144 (by decide)) (hx 145 (by decide)) (hx 146 (by decide))], seR_r e1 (hx 144 (by decide)) (hx 145 (by decide)) (hx 146 (by decide)), cnt_c 48 (fun p hp => es p hp), mst_c (f := spR m q P (cntR m (nI 6) T)) ef 48 (Nat.le_refl _), bea_c (f := spR m q P (cntR m (nI 6) T)) ef 48 (Nat.le_refl _), e1, show m 13 3 = m 141 5 from s10 3 (by decide)]
      · rw [if_pos z, if_pos z]
    · rw [if_pos y, if_pos y]
