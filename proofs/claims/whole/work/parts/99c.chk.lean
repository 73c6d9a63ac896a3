theorem hld9 {v : Int32} : vp_in (hldV v (nI 9)) 10 := by
  have z9 : (nI 9).toInt = 9 := rfl
  have z0 : (0 : Int32).toInt = 0 := rfl
  unfold hldV
  by_cases a : v < 0
  · rw [if_pos a]; exact vp_in_nI (by decide) (by decide)
  · rw [if_neg a]
    by_cases b : nI 9 < v
    · rw [if_pos b]; exact vp_in_nI (by decide) (by decide)
    · rw [if_neg b, vp_in_iff]
      rw [Int32.lt_iff_toInt_lt] at a b
      omega
theorem hb_eq {a b : jm} {P T g j : Nat} (hS : rS a b 1 141 P) (hX : rX a b) (hT14 : T ≤ 14) (hT : rT a b 141 T) (hg : g < 4) (hj : j < 6) : hbV a T g j = hbW b g T j := by
  have ht := hS.2.2.2.1
  have h9 := hS.2.2.2.2.2.2.2.2.1 j hj
  have he := hS.2.2.2.2.2.2.2.2.2.1 2 (by decide)
  have h15 := hS.2.2.2.2.2.2.2.2.2.2.2.2.2.2
  obtain ⟨q0, q1, q2, q3⟩ := qst_eq hX h15.1 hg
  unfold hbV hbW hbT
  rw [best_eq ht T hT14 hT, show a 13 2 = b 141 4 from he, q0, q1, q2, q3, show a 12 j = _ from h9, ← hld_held (by decide)]
  rcases cntR_in b (nI j) T hT14 with z | ⟨t, h1, z, -⟩
  · rw [z, if_pos (show orN (-1) = -1000000005 from rfl), if_pos (show (-1 : Int32) < 0 by decide)]
  · rw [z, show orN (nI t) = nI t from if_neg (nI_n0 (by omega)), if_neg (show ¬ nI t = -1000000005 from nI_NONE (by omega)), if_neg (nI_n0 (by omega)), txV_eq hT hT14 h1]
theorem hbW_in {b : jm} {P T g j : Nat} (hG : rG b 141 P) (hj : j < 6) : vp_in (hbW b g T j) 10 := by
  unfold hbW
  by_cases c : cntR b (nI j) T < 0
  · rw [if_pos c]; exact hG.2.1 j hj
  · rw [if_neg c]; exact hld9
theorem q_habit {x : jX} {m : jm} {d k : Nat} (h : RelA m m k) (g : Int32) : PrC x (d + 120) k eX7_habit eX8_habit [.int g] m := by
  have hR := h
  obtain ⟨P, T, L, W, hS, hC, hT, hL, hW, hX, hP, hQ, hH, hK, hF⟩ := h
  have hS0 := hS
  have hC0 := hC
  obtain ⟨s1, s2, s3, s4, s5, s6, s7, s8, s9, s10, s11, s12, s13, s14, s15⟩ := hS
  obtain ⟨c1, c2, c3, c4, c5, c6, c7, c8, c9⟩ := hC
  refine pr_mk (Q8 := fun _ m1 v' m2 => (¬ (nI 0 ≤ g ∧ g ≤ nI 3) ∧ v' = -1000000001 ∧ m2 = m1) ∨ ((nI 0 ≤ g ∧ g ≤ nI 3) ∧ v' = nI (cnt (hbD m1 (tN g) T) 6) ∧ hbP m1 (tN g) T 6 m2)) (p_habit (d := d + 116) g c2 c1 (fun j _ => wfX_best s4 c1 hT)) (fun v m1 hq => ?_) (fun v m1 v' m2 hq hq' => ?_)
  · have e1 : m1 141 = m 141 := hq.1 141 (by decide)
    exact m_habit (d := d + 117) g (by rw [e1]; exact c3) c1 (fun t ht => sndT_c (fun j _ => by rw [e1]) (snd_eq hT ht))
  · obtain ⟨hx, h1, h2, -, rfl⟩ := hq
    have e1 : m1 141 = m 141 := hx 141 (by decide)
    rcases hq' with ⟨y, rfl, rfl⟩ | ⟨y, rfl, hp⟩
    · rw [if_pos y]
      have e12 := h2 y
      refine ⟨rfl, Rel_cc hR (Nat.le_succ k) (fun i hi => ?_) (cB_exs hx (by decide))⟩
      by_cases z : i = 12
      · rw [z]; exact e12
      · have := kA_iff.mp hi
        exact hx i (by simp; omega)
    · obtain ⟨r, hr, hre⟩ := w_of y (by decide)
      have htr : tN g = r := by rw [hre]; exact tN_n (by omega)
      rw [htr] at hp h1 ⊢
      have eh : ∀ j, j < 6 → hbV m T r j = hbW m r T j := fun j hj => hb_eq hS0 hX c1 hT (by omega) hj
      have ew : ∀ j, hbW m1 r T j = hbW m r T j := fun j => by
        unfold hbW
        rw [cntR_c (by rw [e1]) (fun j _ => by rw [e1]), e1, qstR_c (hx 144 (by decide)) (hx 145 (by decide)) (hx 146 (by decide)) (by rw [e1]), qstR_c (hx 144 (by decide)) (hx 145 (by decide)) (hx 146 (by decide)) (by rw [e1]), qstR_c (hx 144 (by decide)) (hx 145 (by decide)) (hx 146 (by decide)) (by rw [e1]), qstR_c (hx 144 (by decide)) (hx 145 (by decide)) (hx 146 (by decide)) (by rw [e1]), txV_c (fun j _ => by rw [e1])]
      obtain ⟨p1, p2, p3, p4, p5⟩ := hp
      have r12 : ∀ j, j < 6 → m2 12 j = hbW m r T j := fun j hj => by rw [p1 12 (by decide), h1 y j hj, eh j hj]
      have r141 : ∀ j, ¬ (30 ≤ j ∧ j < 36) → m2 141 j = m 141 j := fun j hj => by rw [p4, hb_out (by omega), e1]
      have r141p : ∀ j, j < 6 → m2 141 (30 + j) = hbW m r T j := fun j hj => by
        rw [p4]
        show (if _ then _ else _) = _
        rw [if_pos ⟨by omega, by omega⟩, show 30 + j - 30 = j by omega, ew]
      have ri : ∀ i, i ≠ 12 → i ≠ 68 → i ≠ 69 → i ≠ 94 → i ≠ 140 → i ≠ 141 → i ≠ 151 → i ≠ 152 → m2 i = m i := fun i a1 a2 a3 a4 a5 a6 a7 a8 => (p1 i (by simp; omega)).trans (hx i (by simp; omega))
      refine ⟨?_, Rel_st (P' := P) hC0 hT hL hW hX hP hQ hH hK (fun i hi h => by have := kA_iff.mp hi; exact ri i (by omega) (by omega) (by omega) (by omega) (by omega) (by omega) (by omega) (by omega)) (fun j a1 a2 => by rw [ri 1 (by decide) (by decide) (by decide) (by decide) (by decide) (by decide) (by decide) (by decide)]) (fun i hi => ri i (by omega) (by omega) (by omega) (by omega) (by omega) (by omega) (by omega) (by omega)) (fun j hj => by rw [p2 j (by omega), hx 140 (by decide)]) (fun j hj => r141 j (by omega)) (Or.inl (p3 (by decide))) ?_⟩
      · rw [if_neg (Classical.not_not.mpr y)]
        refine congrArg nI (cnt_c 6 fun j hj => ?_)
        unfold hbD hbC
        rw [ew, ← eh j hj, e1, ← show m 12 j = m 141 (30 + j) from s9 j hj]
        exact decide_eq_decide.mpr ⟨fun y q => y q.symm, fun y q => y q.symm⟩
      · have rr : ∀ i, i ≤ 13 → i ≠ 12 → m2 i = m i := fun i a1 a2 => ri i a2 (by omega) (by omega) (by omega) (by omega) (by omega) (by omega) (by omega)
        exact rS_up hS0 (fun i hi => rr i (by omega) (by omega)) (by rw [rr 1 (by decide) (by decide)]) (fun j hj => r141 j (by omega)) (fun p hp => by rw [rr (1 + 1) (by decide) (by decide), r141 _ (by omega)]; exact ⟨(s5 p hp).1, (s6 p hp).1⟩) (fun p hp => by rw [rr (1 + 6) (by decide) (by decide), r141 _ (by omega)]; exact (s5 p hp).2.2.2.2.2) (by rw [rr 1 (by decide) (by decide), r141 1 (by omega)]; exact s4) (fun j hj => by rw [rr (1 + 8) (by decide) (by decide), r141 _ (by omega)]; exact s7 j hj) (fun j hj => by rw [rr (1 + 9) (by decide) (by decide), rr (1 + 10) (by decide) (by decide), r141 _ (by omega), r141 _ (by omega)]; exact ⟨(s8 j hj).1, (s8 j hj).2, s13.2 j hj⟩) (fun j hj => (r12 j hj).trans (r141p j hj).symm) (fun j hj => by rw [rr (1 + 12) (by decide) (by decide), r141 _ (by omega)]; exact s10 j hj) (by rw [r141 4 (by omega)]; exact s15.1) ⟨fun p hp => by rw [r141 _ (by omega), r141 _ (by omega)]; exact s15.2.1 p hp, fun j hj => by rw [r141p j hj]; exact hbW_in s15.2 hj, fun j hj => by rw [r141 _ (by omega)]; exact s15.2.2.2 j hj⟩
theorem cM_r {m : jm} {P : Nat} : ∀ i, cM m P i 141 = tckN m P i 141
  | 0 => rfl
  | i + 1 => (lit_141 (by decide) (by decide)).trans (tck_r (cM_r i) P)
theorem mx_eq {f g : Nat → Int32} {a : Int32} : ∀ n, (∀ p, p < n → f p = g p) → mxV f a n = mxR g a n
  | 0, _ => rfl
  | n + 1, h => by
    rw [mxV, mxR, mx_eq n (fun p hp => h p (by omega)), h n (by omega)]
    rfl
theorem chg_eq {t b : jm} {P : Nat} (h : rS t b 27 141 P) : ∀ i, chgV t P i = cgR b P i
  | 0 => rfl
  | i + 1 => by
    have hi := rS_ticks (by decide) h (i + 1)
    have e1 : tckR (cM b P i) P 141 = tckN b P (i + 1) 141 := tck_r (cM_r i) P
    rw [chgV, cgR, chg_eq h i]
    refine mx_eq 48 fun p hp => ?_
    unfold chF
    rw [finR_c e1, e1, siz_abs, lit_eq hi hp, show goN t 27 P (i + 1) 35 p = _ from hi.2.2.2.2.2.2.1 p hp]
theorem q_change {x : jX} {m : jm} {d k : Nat} (h : RelA m m k) : PrC x (d + 120) k eX7_change eX8_change [] m := by
  have hR := h
  obtain ⟨P, T, L, W, hS, hC, hT, hL, hW, hX, hP, hQ, hH, hK, hF⟩ := h
  have hS0 := hS
  have hC0 := hC
  obtain ⟨s1, s2, s3, s4, s5, s6, s7, s8, s9, s10, s11, s12, s13, s14, s15⟩ := hS
  obtain ⟨c1, c2, c3, c4, c5, c6, c7, c8, c9⟩ := hC
  refine pr_mk (Q8 := fun _ m1 v' m2 => v' = cgR (mfill m1 143 3450 (m1 141)) P (tN (rstR m1 P)) ∧ exs [140, 141, 143, 147, 148] m1 m2 ∧ (∀ j, j ≠ 33 → m2 140 j = m1 140 j) ∧ (m2 140 33 = nI 0 ∨ m2 140 33 = m1 140 33) ∧ m2 141 = m1 141) (p_change (d := d + 114) s2 s1 (at_ok hS0).2 s12) (fun v m1 hq => ?_) (fun v m1 v' m2 hq hq' => ?_)
  · have e1 : m1 141 = m 141 := hq.2 141 (by decide)
    exact m_change (d := d + 114) (by rw [e1]; exact s3) s1 (fun p hp => by rw [e1]; exact (s6 p hp).2) ⟨fun p hp => by rw [e1]; exact s13.1 p hp, fun j hj => by rw [e1]; exact s13.2 j hj⟩
  · obtain ⟨rfl, hx⟩ := hq
    obtain ⟨rfl, h1, h2, h3, h4⟩ := hq'
    have e1 : m1 141 = m 141 := hx 141 (by decide)
    have eb : (mfill m1 143 3450 (m1 141)) 141 = m 141 := (mfill_i' (by decide)).trans e1
    have hS1 : rS (becM m 27 1) (mfill m1 143 3450 (m1 141)) 27 141 P := rS_bec (Or.inr (by decide)) hS0 (fun j _ => by rw [eb])
    refine ⟨?_, ?_⟩
    · rw [chg_eq hS1, rst_eq hS1 P (Nat.le_refl _), rstR_c (e1.trans eb.symm)]
    · refine Rel_cc hR (Nat.le_succ k) (fun i hi => ?_) ⟨fun i hi => ?_, fun j hj => ?_, ?_⟩
      · have := kA_iff.mp hi
        rw [h1 i (by simp; omega), hx i (by omega)]
      · by_cases z : i = 141
        · rw [z, h4, e1]
        · rw [h1 i (by simp; omega), hx i (by omega)]
      · rw [h2 j (by omega), hx 140 (by decide)]
      · rcases h3 with z | z
        · exact Or.inl z
        · refine Or.inr fun j a1 a2 => ?_
          by_cases y : j = 33
          · rw [y, z, hx 140 (by decide)]
          · rw [h2 j y, hx 140 (by decide)]
theorem mch_c {r r' w w' : Nat → Int32} {many : Nat} : ∀ n, (∀ j, j < n → r' j = r j) → (∀ j, j < many → w' j = w j) → mch r' w' many n = mch r w many n
  | 0, _, _ => rfl
  | n + 1, h1, h2 => by
    unfold mch
    rw [mch_c n (fun j hj => h1 j (by omega)) h2, h1 n (by omega)]
    by_cases c : n < many
    · rw [h2 n c]
    · rw [if_neg (fun z => c z.2.1), if_neg (fun z => c z.2.1)]
/-- a check's picture of both -/
theorem ck_rel {m m1 : jm} {P T L W : Nat} (hS : rS m m 14 142 P) (hC : rC m m 14 142 T L W) (hT : rT m m 142 T) (hX : rX m m) (h1 : ∀ i, 140 ≤ i → m1 i = m i) (i : Nat) :
    rS (tkC m P i) (tckN (ckM m1) P i) 27 141 P ∧ rX (tkC m P i) (tckN (ckM m1) P i) ∧ rT (tkC m P i) (tckN (ckM m1) P i) 141 T := by
  have h48 := hS.1
  have c141 : ∀ j, j < 3450 → ckM m1 141 j = m 142 j := fun j hj => by rw [ckM_141, mfill_lt hj, h1 142 (by decide)]
  have hS' : rS (mup m 0 10 (nI 0)) m 14 142 P := rS_c hS (fun i h1 h2 => mup_i' (by omega)) (fun _ _ => rfl)
  have h0 : rS (becM (mup m 0 10 (nI 0)) 27 14) (ckM m1) 27 141 P := rS_bec (Or.inr (by decide)) hS' (fun j hj => c141 j (by omega))
  have ti : ∀ c, c < 27 ∨ 39 < c → c ≠ 0 → tkC m P i c = m c := fun c hc h0 => by
    unfold tkC
    rw [goN_i2 (by omega) (by omega) (by omega) i, bec_i (by omega), mup_i' h0]
  refine ⟨rS_ticks (by decide) h0 i, rX_c hX (fun c hc => ti c (by omega) (by omega)) ?_ ?_ ?_, fun t ht => ?_⟩
  · rw [tckN_i (by decide) (by decide) (by decide) (by decide) i, ckM_i (by decide) (by decide) (by decide), h1 144 (by decide)]
  · rw [tckN_i (by decide) (by decide) (by decide) (by decide) i, ckM_i (by decide) (by decide) (by decide), h1 145 (by decide)]
  · rw [tckN_i (by decide) (by decide) (by decide) (by decide) i, ckM_i (by decide) (by decide) (by decide), h1 146 (by decide)]
  · have hT14 := hC.1
    exact rT1_mv (hT t ht) (by rw [ti 75 (by omega) (by omega)]) (by rw [ti 76 (by omega) (by omega)]) (by rw [ti 77 (by omega) (by omega)]) (by rw [ti 78 (by omega) (by omega)]) (fun k _ => by rw [ti (80 + t) (by omega) (by omega)]) (fun j _ _ => by rw [tckN_j (by omega) (by omega) (fun q hq => by omega) i, c141 j (by omega)])
theorem rw_eq {m m1 : jm} {P T L W : Nat} (hS : rS m m 14 142 P) (hC : rC m m 14 142 T L W) (hT : rT m m 142 T) (hX : rX m m) (h1 : ∀ i, 140 ≤ i → m1 i = m i) (j : Nat) : rwC m P T j = rwK (ckM m1) P T j := by
  obtain ⟨k1, k2, k3⟩ := ck_rel hS hC hT hX h1 (j / 2 + 1)
  unfold rwC rwK
  by_cases c : j % 2 = 0
  · rw [if_pos c, if_pos c]
    exact sz_eq k1
  · rw [if_neg c, if_neg c]
    exact congrArg nI (cnt_c 48 fun p hp => see_eq k1 k2 hC.1 k3 (by decide) hp)
theorem sndT_img {m m1 : jm} {T : Nat} (hT14 : T ≤ 14) (hT : rT m m 142 T) (h1 : ∀ i, 140 ≤ i → m1 i = m i) : ∀ t, t < T → sndT (mfill m1 141 3450 (m1 142)) t := fun t ht => by
  have : rT1 m (mfill m1 141 3450 (m1 142)) 141 t := rT1_mv (hT t ht) rfl rfl rfl rfl (fun _ _ => rfl) (fun j _ _ => by rw [mfill_lt (by omega), h1 142 (by decide)])
  obtain ⟨-, -, -, n, hn, e1, e2, e3, e4⟩ := this
  exact ⟨n, hn, e2, fun k hk => (e3 k hk).2, e4⟩
theorem Rel_w {m M : jm} {k P T L W : Nat} (hS : rS m m 1 141 P) (hC : rC m m 1 141 T L W) (hT : rT m m 141 T) (hL : rL m m 141 L) (hW : rW m m 141 W) (hX : rX m m) (hP : rP m m) (hH : rH m k) (hK : rK m m T L W) (hF : fdOK m P T)
    (h1 : ∀ i, kA i = true → i ≠ 0 → M i = m i) (h11 : M 0 11 = m 0 11) (h2 : ∀ i, i = 141 ∨ i = 142 ∨ i = 144 ∨ i = 145 ∨ i = 146 ∨ i = 150 → M i = m i) (h3 : ∀ j, j ≠ 33 → j ≠ 35 → M 140 j = m 140 j) (h33 : M 140 33 = nI 0 ∨ M 140 33 = m 140 33) (hQ : rQ M M) : RelA M M (k + 1) := by
  have A : ∀ i, ((1 ≤ i ∧ i ≤ 26) ∨ i = 41 ∨ i = 42 ∨ (44 ≤ i ∧ i ≤ 67) ∨ i = 70 ∨ i = 71 ∨ (75 ≤ i ∧ i ≤ 78) ∨ (80 ≤ i ∧ i ≤ 93) ∨ i = 102 ∨ i = 120 ∨ i = 124 ∨ i = 125 ∨ i = 127 ∨ (129 ≤ i ∧ i ≤ 137)) → M i = m i := fun i hi => h1 i (kA_iff.mpr (by omega)) (by omega)
  refine ⟨P, T, L, W, rS_c hS (fun i h1 h2 => A i (by omega)) (fun j _ => by rw [h2 141 (by omega)]), rC_c hC (A 1 (by omega)) (fun j _ _ => by rw [h2 141 (by omega)]), rT_c hC.1 hT (fun i hi => A i (by omega)) (fun j _ _ => by rw [h2 141 (by omega)]), rL_c hC.2.2.2.1 hL (fun i hi => A i (by omega)) (fun j _ _ => by rw [h2 141 (by omega)]), rW_c hC.2.2.2.2.2.2.1 hW (A 137 (by omega)) (fun j _ _ => by rw [h2 141 (by omega)]),
    rX_c hX (fun i hi => A i (by omega)) (h2 144 (by omega)) (h2 145 (by omega)) (h2 146 (by omega)), rP_c hP (by rw [A 70 (by omega)]) (A 71 (by omega)) (h3 11 (by omega) (by omega)) (h2 150 (by omega)), hQ, rH_c hH (Nat.le_succ k) (A 124 (by omega)) (A 120 (by omega)) (by rw [A 102 (by omega)]) (A 125 (by omega)),
    rK_c hK (Nat.le_refl _) (Nat.le_refl _) (Nat.le_refl _) h11 (h3 3 (by omega) (by omega)) (fun i h1 h2 => A i (by omega)) (fun i hi t _ => by rw [A i (by omega)]) (fun t ht => A (80 + t) (by have := hC.1; omega)) (fun i hi => ⟨by rw [A 127 (by omega)], A (129 + i) (by have := hC.2.2.2.1; omega)⟩) (fun i hi => by rw [A 137 (by omega)]) (h2 142 (by omega)), ?_⟩
  rcases h33 with z | z
  · exact Or.inl z
  · exact fd_e hS.1 hS.2.2.2.2.2.2.2.2.2.2.2.2.1 hF (fun j _ => by rw [h2 141 (by omega)]) (fun i hi => h2 i (by omega)) (fun j a1 a2 => by
      by_cases y : j = 33
      · rw [y]; exact z
      · exact h3 j y (by omega))
theorem at_14 {m : jm} {P : Nat} (h : rS m m 14 142 P) : wfAt m 14 := fun q hq => by
  rw [h.2.2.2.2.2.2.2.2.2.2.1 q hq]
  rcases onP_lt (m := m) (r := 142) (q := nI q) P with z | ⟨p, hp, z, -⟩
  · exact Or.inl (if_pos z)
  · right
    have h1 := h.1
    rw [z, show orN (nI p) = nI p from if_neg (nI_n0 (by omega))]
    exact vp_in_nI (by omega) (by decide)
theorem q_check {x : jX} {m : jm} {d k : Nat} (h : RelA m m k) (n : Int32) : PrC x (d + 120) k eX7_check eX8_check [.int n] m := by
  have hR := h
  obtain ⟨P, T, L, W, hS, hC, hT, hL, hW, hX, hP, hQ, hH, hK, hF⟩ := h
  have hS0 := hS
  have hC0 := hC
  obtain ⟨s1, s2, s3, s4, s5, s6, s7, s8, s9, s10, s11, s12, s13, s14, s15⟩ := hS
  obtain ⟨c1, c2, c3, c4, c5, c6, c7, c8, c9⟩ := hC
  obtain ⟨w, w1, w2, w3, w4⟩ := hQ
  have hQ : rQ m m := ⟨w, w1, w2, w3, w4⟩
  have hko : ∃ P2 T2 : Nat, P2 ≤ 48 ∧ T2 ≤ 14 ∧ (¬ m 0 11 = 0 → ∃ L2 W2, rS m m 14 142 P2 ∧ rC m m 14 142 T2 L2 W2 ∧ rT m m 142 T2) ∧ ∀ i, wfX m (bestV (tkC m P2 i) 27 (nI 6) T2) := by
    by_cases c : m 0 11 = 0
    · exact ⟨0, 0, by decide, by decide, fun z => absurd c z, fun i => Or.inl rfl⟩
    · obtain ⟨P2, T2, L2, W2, t1, t2, t3, t4, t5, t6, t7, t8⟩ := hK.2 c
      refine ⟨P2, T2, t1.1, t2.1, fun _ => ⟨L2, W2, t1, t2, t3⟩, fun i => ?_⟩
      obtain ⟨k1, k2, k3⟩ := ck_rel t1 t2 t3 hX (m1 := m) (fun _ _ => rfl) i
      refine wfX_c ?_ (fun t ht => ?_) (wfX_best k1.2.2.2.1 t2.1 k3)
      · unfold tkC
        rw [goN_i2 (by omega) (by omega) (by omega) i, bec_i (by omega), mup_i' (by decide)]
      · unfold tkC
        rw [goN_i2 (by omega) (by omega) (by omega) i, bec_i (by omega), mup_i' (by omega)]
  obtain ⟨P2, T2, hP2, hT2, hko, hwf⟩ := hko
  refine pr_mk (Q8 := fun _ m1 v' m2 => m2 140 35 = nI 0 ∧ (∀ j, j ≠ 33 → j ≠ 35 → m2 140 j = m1 140 j) ∧ (m2 140 33 = nI 0 ∨ m2 140 33 = m1 140 33) ∧ exs [140, 141, 143, 147, 148, 151, 152, 153, 154, 158] m1 m2 ∧ m2 141 = m1 141 ∧ v' = if ¬ (nI 1 ≤ n ∧ n ≤ nI 30) then -1000000001 else if m1 140 3 = 0 then -1000000002 else if mch (rwK (ckM m1) P2 T2) (m1 157) w (2 * tN n) = 2 * tN n ∧ w = 2 * tN n then nI 0 else nI 1 + nI (mch (rwK (ckM m1) P2 T2) (m1 157) w (2 * tN n))) (p_check (d := d + 114) n w2 w1 (fun z => by obtain ⟨_, _, t1, _⟩ := hko z; exact t1.2.1) hP2 (fun z => by obtain ⟨_, _, t1, _⟩ := hko z; exact at_14 t1) (fun z => by obtain ⟨_, _, t1, _⟩ := hko z; exact t1.2.2.2.2.2.2.2.2.2.2.2.1) (fun z => by obtain ⟨_, _, _, t2, _⟩ := hko z; exact t2.2.1) hT2 hwf) (fun v m1 hq => ?_) (fun v m1 v' m2 hq hq' => ?_)
  · have hi : ∀ i, 140 ≤ i → m1 i = m i := fun i hi => hq.2.2.1 i (by omega) (by omega) (by simp; omega)
    have e3 : m1 140 3 = m 0 11 := by rw [hi 140 (by decide)]; exact hK.1.symm
    exact m_check (d := d + 115) n (by rw [hi 140 (by decide)]; exact w3) w1 (fun z => by obtain ⟨_, _, t1, _⟩ := hko (e3 ▸ z); rw [hi 142 (by decide)]; exact t1.2.2.1) hP2 (fun z p hp => by obtain ⟨_, _, t1, _⟩ := hko (e3 ▸ z); rw [hi 142 (by decide)]; exact (t1.2.2.2.2.2.1 p hp).2) (fun z => by obtain ⟨_, _, t1, _⟩ := hko (e3 ▸ z); have := t1.2.2.2.2.2.2.2.2.2.2.2.2.1; exact ⟨fun p hp => by rw [hi 142 (by decide)]; exact this.1 p hp, fun j hj => by rw [hi 142 (by decide)]; exact this.2 j hj⟩) (fun z => by obtain ⟨_, _, _, t2, _⟩ := hko (e3 ▸ z); rw [hi 142 (by decide)]; exact t2.2.2.1) hT2 (fun z => by obtain ⟨_, _, _, _, t3⟩ := hko (e3 ▸ z); exact sndT_img hT2 t3 hi)
  · obtain ⟨a1, a2, a3, rfl⟩ := hq
    obtain ⟨b1, b2, b3, b4, b5, rfl⟩ := hq'
    have hi : ∀ i, 140 ≤ i → m1 i = m i := fun i hi => a3 i (by omega) (by omega) (by simp; omega)
    have e3 : m1 140 3 = m 0 11 := by rw [hi 140 (by decide)]; exact hK.1.symm
    have ri : ∀ i, kA i = true → i ≠ 0 → m2 i = m i := fun i hk h0 => by
      have := kA_iff.mp hk
      rw [b4 i (by simp; omega), a3 i h0 (by omega) (by simp; omega)]
    have r0 : ∀ j, m2 0 j = m1 0 j := fun j => by rw [b4 0 (by decide)]
    refine ⟨?_, Rel_w hS0 hC0 hT hL hW hX hP hH hK hF ri (by rw [r0, a2 11 (by decide)]) (fun i hi2 => ?_) (fun j z1 z2 => by rw [b2 j z1 z2, hi 140 (by decide)]) (by rw [hi 140 (by decide)] at b3; exact b3) ⟨0, by decide, by rw [r0]; exact a1, b1, fun i hi => absurd hi (Nat.not_lt_zero i)⟩⟩
    · rw [e3]
      by_cases y1 : nI 1 ≤ n ∧ n ≤ nI 30
      · rw [if_neg (Classical.not_not.mpr y1), if_neg (Classical.not_not.mpr y1)]
        by_cases y2 : m 0 11 = 0
        · rw [if_pos y2, if_pos y2]
        · rw [if_neg y2, if_neg y2]
          obtain ⟨L2, W2, t1, t2, t3⟩ := hko y2
          rw [mch_c (r := rwC m P2 T2) (w := m 139) (2 * tN n) (fun j _ => (rw_eq t1 t2 t3 hX hi j).symm) (fun j hj => by rw [hi 157 (by decide)]; exact (w4 j hj).symm)]
      · rw [if_pos y1, if_pos y1]
    · by_cases z : i = 141
      · rw [z, b5, hi 141 (by decide)]
      · rw [b4 i (by simp; omega), hi i (by omega)]
