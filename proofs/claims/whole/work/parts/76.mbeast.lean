theorem plR_c {m m' : jm} (h : m' 141 = m 141) (p : Nat) : plR m' p = plR m p := by unfold plR; rw [h]
theorem lgtR_c {m m' : jm} (h : m' 141 = m 141) : ∀ p, lgtR m' p = lgtR m p
  | 0 => by unfold lgtR; rw [h]
  | p + 1 => by unfold lgtR; rw [lgtR_c h p, plR_c h]; unfold givR; rw [h]
theorem hgtR_c {m m' : jm} (h : m' 141 = m 141) : ∀ p, hgtR m' p = hgtR m p
  | 0 => rfl
  | p + 1 => by unfold hgtR; rw [hgtR_c h p, plR_c h, h]
theorem finR_c {m m' : jm} (h : m' 141 = m 141) (P k : Nat) : finR m' P k = finR m P k := by
  unfold finR
  rw [lgtR_c h, hgtR_c h, h]
def seR (m : jm) (g P : Nat) (tx : Int32) (p : Nat) : Bool := seeF m tx (finR m P) (shdR m g) (fun j => m 141 (40 + j)) (m 141 4) p
set_option maxRecDepth 100000 in
set_option maxHeartbeats 400000 in
theorem m_see {x : jX} {m : jm} {d : Nat} {P T g : Nat} (hg : g < 4) (hP : m 141 0 = nI P) (h48 : P ≤ 48) (hplc : ∀ p, p < P → vp_in (m 141 (90 + 6 * p + 1)) 48) (hT : m 141 6 = nI T) (hT14 : T ≤ 14) (hS : ∀ t, t < T → sndT m t) : Ct x (d + 4) eX8_see [.ref (jxb x + 140), .int (nI g)] m (ji fun v m' => v = nI (cnt (seR m g P (cntR m (nI 6) T)) 48) ∧ exs [147, 148, 151, 152, 153, 154] m m' ∧ ∀ p, p < 48 → m' 153 p = jb ((seR m g P (cntR m (nI 6) T)) p = true)) := by
  refine J_start (by decide +kernel) (Nat.le_of_ble_eq_true rfl) (ls := [some (.ref (jxb x + 140)), some (.int (nI g))]) rfl rfl ?_
  refine J_aload_n (pc := 0) dX8_see_0 rfl ?_
  refine J_iload_n (pc := 1) dX8_see_1 rfl ?_
  refine K_callVv (pc := 2) (id := 140) (As := [_]) dX8_see_2 kl_X8_301 rfl job_140 rfl rfl (Nat.le_of_ble_eq_true rfl) (m_findGround (m := m) (g := g) hg) (fun m2 h2 => ?_)
  subst h2
  refine J_aload_n (pc := 5) dX8_see_5 rfl ?_
  refine K_callVv (pc := 6) (id := 140) (As := []) dX8_see_6 kl_X8_130 rfl job_140 rfl rfl (Nat.le_of_ble_eq_true rfl) (m_findLight (m := (mfill m 154 48 (shdR m g))) (P := P) ((mfill_i (by decide)).trans hP) h48 (fun p hp => by rw [mfill_i (by decide)]; exact hplc p hp)) (fun m6 h6 => ?_)
  subst h6
  have e141 : (litM (mfill m 154 48 (shdR m g)) P) 141 = m 141 := (lit_141 (by decide) (by decide)).trans (mfill_i' (by decide))
  refine J_aload_n (pc := 9) dX8_see_9 rfl ?_
  refine J_iconst (pc := 10) dX8_see_10 kni_0 ?_
  refine K_callVi (pc := 11) (id := 140) (As := [_]) dX8_see_11 kl_X8_305 rfl job_140 rfl rfl (Nat.le_of_ble_eq_true rfl) (m_findSeen0 (m := (litM (mfill m 154 48 (shdR m g)) P)) (T := T) ((congrFun e141 6).trans hT) hT14 (fun t ht => sndT_c (fun j _ => congrFun e141 j) (hS t ht))) (fun v11 m11 h11 => ?_)
  obtain ⟨rfl, x11, s11⟩ := h11
  refine K_iret (pc := 14) dX8_see_14 rfl ⟨_, rfl, ?_⟩
  have ec : cntR (litM (mfill m 154 48 (shdR m g)) P) (nI 6) T = cntR m (nI 6) T := cntR_c (congrFun e141 1) (fun j _ => congrFun e141 j) T
  have el : ∀ p, p < 48 → (litM (mfill m 154 48 (shdR m g)) P) 147 p = finR m P p := fun p hp => (mfill_lt hp).trans (finR_c (mfill_i' (by decide)) P p)
  have eg : ∀ p, p < 48 → (litM (mfill m 154 48 (shdR m g)) P) 154 p = shdR m g p := fun p hp => (congrFun (lit_141 (by decide) (by decide)) p).trans (mfill_lt hp)
  have es : ∀ p, p < 48 → seeF' false (litM (mfill m 154 48 (shdR m g)) P) (cntR (litM (mfill m 154 48 (shdR m g)) P) (nI 6) T) p = (seR m g P (cntR m (nI 6) T)) p := fun p hp => by
    unfold seeF' seR seeF
    rw [ec, el p hp, eg p hp, sawF_c (fun j _ => congrFun e141 j), e141, edcF_c hp el]
    rfl
  refine ⟨congrArg nI (cnt_c 48 es), fun i hi => ?_, fun p hp => by rw [s11 p hp, es p hp]⟩
  have i1 : i ≠ 147 := fun z => hi (by rw [z]; decide)
  have i2 : i ≠ 148 := fun z => hi (by rw [z]; decide)
  have i3 : i ≠ 154 := fun z => hi (by rw [z]; decide)
  exact (x11 i (fun z => hi (by simp at z ⊢; omega))).trans ((lit_141 i1 i2).trans (mfill_i' i3))
set_option maxRecDepth 100000 in
set_option maxHeartbeats 400000 in
theorem m_seen {x : jX} {m : jm} {d : Nat} (g p : Int32) {P T : Nat} (hP : m 141 0 = nI P) (h48 : P ≤ 48) (hplc : ∀ p, p < P → vp_in (m 141 (90 + 6 * p + 1)) 48) (hT : m 141 6 = nI T) (hT14 : T ≤ 14) (hS : ∀ t, t < T → sndT m t) : Ct x (d + 5) eX8_seen [.ref (jxb x + 140), .int g, .int p] m (ji fun rv m' => exs [147, 148, 151, 152, 153, 154] m m' ∧ rv = if ¬ (nI 0 ≤ g ∧ g ≤ nI 3) then -1000000001 else if ¬ (nI 0 ≤ p ∧ p ≤ nI 47) then -1000000001 else jb ((seR m (tN g) P (cntR m (nI 6) T)) (tN p) = true)) := by
  refine J_start (by decide +kernel) (Nat.le_of_ble_eq_true rfl) (ls := [some (.ref (jxb x + 140)), some (.int g), some (.int p), none]) rfl rfl ?_
  refine J_iload_n (pc := 0) dX8_seen_0 rfl ?_
  refine K_callSp (pc := 1) (As := [_]) dX8_seen_1 kl_X8_168 rfl rfl (Nat.le_of_ble_eq_true rfl) (m_isGround g) ?_
  refine Jb_eq (pc := 4) (tgt := 14) dX8_seen_4 (by decide) (fun h4 => ?_) (fun h4 => ?_)
  · 
    refine J_ldc (pc := 14) dX8_seen_14 kc_X8_91 ?_
    refine K_iret (pc := 16) dX8_seen_16 rfl ⟨_, rfl, ?_⟩
    exact ⟨exs_rf _ _, (if_pos h4).symm⟩
  · 
    refine J_iload_n (pc := 7) dX8_seen_7 rfl ?_
    refine K_callSp (pc := 8) (As := [_]) dX8_seen_8 kl_X8_85 rfl rfl (Nat.le_of_ble_eq_true rfl) (m_isPlace p) ?_
    refine Jb_ne (pc := 11) (tgt := 17) dX8_seen_11 (by decide) (fun h11 => ?_) (fun h11 => ?_)
    · 
      obtain ⟨q, hq, hqe⟩ := w_of h4 (by decide)
      have htq : tN g = q := by rw [hqe]; exact tN_n (by omega)
      subst hqe
      obtain ⟨r, hr, hre⟩ := w_of h11 (by decide)
      have htr : tN p = r := by rw [hre]; exact tN_n (by omega)
      subst hre
      refine J_aload_n (pc := 17) dX8_seen_17 rfl ?_
      refine J_iload_n (pc := 18) dX8_seen_18 rfl ?_
      refine K_callVi (pc := 19) (id := 140) (As := [_]) dX8_seen_19 kl_X8_309 rfl job_140 rfl rfl (Nat.le_of_ble_eq_true rfl) (m_see (m := m) (g := q) (by omega) hP h48 hplc hT hT14 hS) (fun v19 m19 h19 => ?_)
      obtain ⟨rfl, x19, s19⟩ := h19
      refine J_istore_n (pc := 22) (ls' := [some _, some _, some _, some _]) dX8_seen_22 rfl (Nat.le_of_ble_eq_true rfl) rfl ?_
      refine J_aload_n (pc := 23) dX8_seen_23 rfl ?_
      refine K_getR (pc := 24) dX8_seen_24 kf_X8_46 job_140 jrf_140_24 ?_
      refine J_iload_n (pc := 27) dX8_seen_27 rfl ?_
      refine K_zaldn (pc := 28) (id := 153) dX8_seen_28 jar_153 (by omega) (by decide) ?_
      refine J_top (b := (jb ((seR m (q) P (cntR m (nI 6) T)) r = true))) (s19 r (by omega)) ?_
      refine Jb_eq (pc := 29) (tgt := 36) dX8_seen_29 (by decide) (fun h29 => ?_) (fun h29 => ?_)
      · 
        refine J_iconst (pc := 36) dX8_seen_36 kni_0 ?_
        refine K_iret (pc := 37) dX8_seen_37 rfl ⟨_, rfl, ?_⟩
        refine ⟨x19, ?_⟩
        rw [if_neg (Classical.not_not.mpr h4), if_neg (Classical.not_not.mpr h11), htq, htr]
        exact (if_neg h29).symm
      · 
        refine J_iconst (pc := 32) dX8_seen_32 kni_1 ?_
        refine J_goto (pc := 33) (tgt := 37) dX8_seen_33 (by decide) ?_
        refine K_iret (pc := 37) dX8_seen_37 rfl ⟨_, rfl, ?_⟩
        refine ⟨x19, ?_⟩
        rw [if_neg (Classical.not_not.mpr h4), if_neg (Classical.not_not.mpr h11), htq, htr]
        exact (if_pos h29).symm
    · 
      refine J_ldc (pc := 14) dX8_seen_14 kc_X8_91 ?_
      refine K_iret (pc := 16) dX8_seen_16 rfl ⟨_, rfl, ?_⟩
      exact ⟨exs_rf _ _, ((if_neg (Classical.not_not.mpr h4)).trans (if_pos h11)).symm⟩
/-- the greatest beast, as the reference keeps it -/
noncomputable def mstR (f : Nat → Int32) : Nat → Int32
  | 0 => -1
  | n + 1 => if (mst f n).1 < gN f n then nI n else mstR f n
theorem mstR_o (f : Nat → Int32) : ∀ n, n ≤ 48 → orN (mstR f n) = (mst f n).2
  | 0, _ => rfl
  | n + 1, hn => by
    rw [mstR, mst]
    by_cases h : (mst f n).1 < gN f n
    · rw [if_pos h, if_pos h]
      exact if_neg (nI_n0 (by omega))
    · rw [if_neg h, if_neg h]
      exact mstR_o f n (by omega)
def spR (m : jm) (g P : Nat) (tx : Int32) : Nat → Int32 := fun p => jb (seR m g P tx p = true)
noncomputable def beaR (m : jm) (g P : Nat) (tx w : Int32) : Int32 :=
  if w = nI 0 then nI (cnt (seR m g P tx) 48) else if w = nI 1 then nI (mst (spR m g P tx) 48).1 else if w = nI 2 then (mst (spR m g P tx) 48).2 else if w = nI 3 then jb (m 141 5 ≤ nI (mst (spR m g P tx) 48).1) else nI (bea (spR m g P tx) 48)
set_option maxRecDepth 100000 in
set_option maxHeartbeats 400000 in
theorem m_beast {x : jX} {m : jm} {d : Nat} (g w : Int32) {P T : Nat} (hP : m 141 0 = nI P) (h48 : P ≤ 48) (hplc : ∀ p, p < P → vp_in (m 141 (90 + 6 * p + 1)) 48) (hT : m 141 6 = nI T) (hT14 : T ≤ 14) (hS : ∀ t, t < T → sndT m t) : Ct x (d + 5) eX8_beast [.ref (jxb x + 140), .int g, .int w] m (ji fun rv m' => exs [147, 148, 151, 152, 153, 154, 156] m m' ∧ rv = if ¬ (nI 0 ≤ g ∧ g ≤ nI 3) then -1000000001 else if ¬ (nI 0 ≤ w ∧ w ≤ nI 4) then -1000000001 else beaR m (tN g) P (cntR m (nI 6) T) w) := by
  refine J_start (by decide +kernel) (Nat.le_of_ble_eq_true rfl) (ls := [some (.ref (jxb x + 140)), some (.int g), some (.int w), none, none, none, none, none, none]) rfl rfl ?_
  refine J_iload_n (pc := 0) dX8_beast_0 rfl ?_
  refine K_callSp (pc := 1) (As := [_]) dX8_beast_1 kl_X8_168 rfl rfl (Nat.le_of_ble_eq_true rfl) (m_isGround g) ?_
  refine Jb_eq (pc := 4) (tgt := 19) dX8_beast_4 (by decide) (fun h4 => ?_) (fun h4 => ?_)
  · 
    refine J_ldc (pc := 19) dX8_beast_19 kc_X8_91 ?_
    refine K_iret (pc := 21) dX8_beast_21 rfl ⟨_, rfl, ?_⟩
    exact ⟨exs_rf _ _, (if_pos h4).symm⟩
  · 
    refine J_iload_n (pc := 7) dX8_beast_7 rfl ?_
    refine J_i2l (pc := 8) dX8_beast_8 ?_
    refine J_lconst (pc := 9) (v := 0) dX8_beast_9 rfl ?_
    refine J_ldc2 (pc := 10) dX8_beast_10 kg_X8_312 ?_
    refine K_callSp (pc := 13) (As := [_, _, _]) dX8_beast_13 kl_X8_71 rfl rfl (Nat.le_of_ble_eq_true rfl) (m_in32 (v := w) (a := nI 0) (b := nI 4) (by decide) (by decide)) ?_
    refine Jb_ne (pc := 16) (tgt := 22) dX8_beast_16 (by decide) (fun h16 => ?_) (fun h16 => ?_)
    · 
      obtain ⟨q, hq, hqe⟩ := w_of h4 (by decide)
      have htq : tN g = q := by rw [hqe]; exact tN_n (by omega)
      subst hqe
      refine J_aload_n (pc := 22) dX8_beast_22 rfl ?_
      refine J_iload_n (pc := 23) dX8_beast_23 rfl ?_
      refine K_callVi (pc := 24) (id := 140) (As := [_]) dX8_beast_24 kl_X8_309 rfl job_140 rfl rfl (Nat.le_of_ble_eq_true rfl) (m_see (m := m) (g := q) (by omega) hP h48 hplc hT hT14 hS) (fun v24 m24 h24 => ?_)
      obtain ⟨rfl, x24, s24⟩ := h24
      refine J_istore_n (pc := 27) (ls' := [some _, some _, some _, some _, none, none, none, none, none]) dX8_beast_27 rfl (Nat.le_of_ble_eq_true rfl) rfl ?_
      refine J_iconst (pc := 28) dX8_beast_28 kni_0 ?_
      refine J_istore (pc := 29) (ls' := [some _, some _, some _, some _, some _, none, none, none, none]) dX8_beast_29 rfl (Nat.le_of_ble_eq_true rfl) rfl ?_
      refine J_iconst (pc := 31) dX8_beast_31 kni_m1 ?_
      refine J_istore (pc := 32) (ls' := [some _, some _, some _, some _, some _, some _, none, none, none]) dX8_beast_32 rfl (Nat.le_of_ble_eq_true rfl) rfl ?_
      refine J_iconst (pc := 34) dX8_beast_34 kni_0 ?_
      refine J_istore (pc := 35) (ls' := [some _, some _, some _, some _, some _, some _, some _, none, none]) dX8_beast_35 rfl (Nat.le_of_ble_eq_true rfl) rfl ?_
      refine J_iconst (pc := 37) dX8_beast_37 kni_0 ?_
      refine J_istore (pc := 38) (ls' := [some _, some _, some _, some _, some _, some _, some _, some _, none]) dX8_beast_38 rfl (Nat.le_of_ble_eq_true rfl) rfl ?_
      refine K_inv (pc := 40) 48 (fun i lsq mq => lsq = [some (.ref (jxb x + 140)), some (.int (nI q)), some (.int w), some (.int ((nI (cnt (seR m q P (cntR m (nI 6) T)) 48)))), some (.int (nI ((mst (spR m q P (cntR m (nI 6) T)) i).1))), some (.int ((mstR (spR m q P (cntR m (nI 6) T)) i))), some (.int (nI (bea (spR m q P (cntR m (nI 6) T)) i))), some (.int (nI i)), none] ∧ (exs [147, 148, 151, 152, 153, 154, 156] m mq) ∧ (∀ p, p < 48 → mq 153 p = gS (spR m q P (cntR m (nI 6) T)) i p)) (fun i hi lsq mm hI40 ih40 => ?_) (fun lsq mm hI40 => ?_) 0 (Nat.zero_le _) _ _ (⟨rfl, fun i hi => x24 i (fun z => hi (by simp at z ⊢; omega)), fun p hp => s24 p hp⟩)
      ·
        obtain ⟨rfl, hx, hS⟩ := hI40
        have hb48 := bea_le (spR m q P (cntR m (nI 6) T)) i
        have hm48 := mst_le (spR m q P (cntR m (nI 6) T)) i
        refine J_iload (pc := 40) dX8_beast_40 rfl ?_
        refine J_bipush (pc := 42) dX8_beast_42 knb_48 ?_
        refine Jn_ge (pc := 44) (tgt := 109) dX8_beast_44 (by decide) (by omega) (by omega) (fun h44 => absurd h44 (by omega)) (fun h44 => ?_)
        refine J_aload_n (pc := 47) dX8_beast_47 rfl ?_
        refine K_getR (pc := 48) dX8_beast_48 kf_X8_46 job_140 jrf_140_24 ?_
        refine J_iload (pc := 51) dX8_beast_51 rfl ?_
        refine K_zaldn (pc := 53) (id := 153) dX8_beast_53 jar_153 (by omega) (by decide) ?_
        refine J_if_ne (pc := 54) (tgt := 60) dX8_beast_54 (by decide) (fun h54 => ?_) (fun h54 => ?_)
        · 
          refine J_aload_n (pc := 60) dX8_beast_60 rfl ?_
          refine J_iload (pc := 61) dX8_beast_61 rfl ?_
          refine K_callVi (pc := 63) (id := 140) (As := [_]) dX8_beast_63 kl_X8_314 rfl job_140 rfl rfl (Nat.le_of_ble_eq_true rfl) (m_fill (m := mm) (k := i) hi h54) (fun v63 m63 h63 => ?_)
          obtain ⟨rfl, hx63, hS63⟩ := h63
          have hx66 : exs [147, 148, 151, 152, 153, 154, 156] m m63 := fun q hq => (hx63 q (fun z => hq (by simp at z ⊢; omega))).trans (hx q hq)
          have hnz : ¬ gS (spR m q P (cntR m (nI 6) T)) i i = 0 := by rw [← hS i hi]; exact h54
          have hg : gN (spR m q P (cntR m (nI 6) T)) i = cnt (rB (mm 153) i) 48 := by
            rw [(gth_1 hnz).2]
            exact cnt_c 48 fun q _ => (rB_c hS i q).symm
          have hg48 := cnt_le (rB (mm 153) i) 48
          have hpos : 0 < cnt (rB (mm 153) i) 48 := by
            have hrb : rB (mm 153) i i = true := rB_iff.mpr (fun T t1 _ => t1)
            rcases Nat.eq_zero_or_pos (cnt (rB (mm 153) i) 48) with z | z
            · exact absurd hrb (cnt_0 48 z i hi)
            · exact z
          have hS66 : ∀ q_1, q_1 < 48 → m63 153 q_1 = gS (spR m q P (cntR m (nI 6) T)) (i + 1) q_1 := fun q hq => by
            rw [(gth_1 hnz).1, hS63 q hq, rB_c hS i q, hS q hq]
          refine J_istore (pc := 66) (ls' := [some _, some _, some _, some _, some _, some _, some _, some _, some _]) dX8_beast_66 rfl (Nat.le_of_ble_eq_true rfl) rfl ?_
          refine Jn_iinc (pc := 68) (ls' := [some _, some _, some _, some _, some _, some _, some _, some _, some _]) dX8_beast_68 rfl knz_1 rfl rfl ?_
          refine J_iload (pc := 71) dX8_beast_71 rfl ?_
          refine J_iload (pc := 73) dX8_beast_73 rfl ?_
          refine Jn_le (pc := 75) (tgt := 83) dX8_beast_75 (by decide) (by omega) (by omega) (fun h75 => ?_) (fun h75 => ?_)
          · 
            refine J_iload (pc := 83) dX8_beast_83 rfl ?_
            refine J_istore (pc := 85) (ls' := [some _, some _, some _, some _, some _, some _, some _, some _, some _]) dX8_beast_85 rfl (Nat.le_of_ble_eq_true rfl) rfl ?_
            refine J_iload (pc := 87) dX8_beast_87 rfl ?_
            refine J_iload (pc := 89) dX8_beast_89 rfl ?_
            refine Jn_le (pc := 91) (tgt := 99) dX8_beast_91 (by decide) (by omega) (by omega) (fun h91 => ?_) (fun h91 => absurd h91 (by omega))
            refine J_iload (pc := 99) dX8_beast_99 rfl ?_
            refine J_istore (pc := 101) (ls' := [some _, some _, some _, some _, some _, some _, some _, some _, some _]) dX8_beast_101 rfl (Nat.le_of_ble_eq_true rfl) rfl ?_
            refine Jn_iinc (pc := 103) (ls' := [some _, some _, some _, some _, some _, some _, some _, some _, some _]) dX8_beast_103 rfl knz_1 rfl rfl ?_
            refine J_goto (pc := 106) (tgt := 40) dX8_beast_106 (by decide) ?_
            have z2 : bea (spR m q P (cntR m (nI 6) T)) (i + 1) = bea (spR m q P (cntR m (nI 6) T)) i + 1 := by rw [bea, hg, if_pos hpos]
            have z3 : mst (spR m q P (cntR m (nI 6) T)) (i + 1) = mst (spR m q P (cntR m (nI 6) T)) i := by rw [mst, hg]; exact if_neg (by omega)
            have z4 : mstR (spR m q P (cntR m (nI 6) T)) (i + 1) = mstR (spR m q P (cntR m (nI 6) T)) i := by rw [mstR, hg]; exact if_neg (by omega)
            refine J_wk' (ih40 [some (.ref (jxb x + 140)), some (.int (nI q)), some (.int w), some (.int ((nI (cnt (seR m q P (cntR m (nI 6) T)) 48)))), some (.int (nI ((mst (spR m q P (cntR m (nI 6) T)) i).1))), some (.int ((mstR (spR m q P (cntR m (nI 6) T)) i))), some (.int (nI (bea (spR m q P (cntR m (nI 6) T)) i + 1))), some (.int (nI (i + 1))), none] _ ⟨by rw [z2, z3, z4], hx66, hS66⟩) rfl ?_
            rintro (_ | _ | _ | _ | _ | _ | _ | _ | _ | k) v hv <;> first | exact hv | cases hv
          · 
            refine J_iload (pc := 78) dX8_beast_78 rfl ?_
            refine J_goto (pc := 80) (tgt := 85) dX8_beast_80 (by decide) ?_
            refine J_istore (pc := 85) (ls' := [some _, some _, some _, some _, some _, some _, some _, some _, some _]) dX8_beast_85 rfl (Nat.le_of_ble_eq_true rfl) rfl ?_
            refine J_iload (pc := 87) dX8_beast_87 rfl ?_
            refine J_iload (pc := 89) dX8_beast_89 rfl ?_
            refine Jn_le (pc := 91) (tgt := 99) dX8_beast_91 (by decide) (by omega) (by omega) (fun h91 => absurd h91 (by omega)) (fun h91 => ?_)
            refine J_iload (pc := 94) dX8_beast_94 rfl ?_
            refine J_goto (pc := 96) (tgt := 101) dX8_beast_96 (by decide) ?_
            refine J_istore (pc := 101) (ls' := [some _, some _, some _, some _, some _, some _, some _, some _, some _]) dX8_beast_101 rfl (Nat.le_of_ble_eq_true rfl) rfl ?_
            refine Jn_iinc (pc := 103) (ls' := [some _, some _, some _, some _, some _, some _, some _, some _, some _]) dX8_beast_103 rfl knz_1 rfl rfl ?_
            refine J_goto (pc := 106) (tgt := 40) dX8_beast_106 (by decide) ?_
            have z2 : bea (spR m q P (cntR m (nI 6) T)) (i + 1) = bea (spR m q P (cntR m (nI 6) T)) i + 1 := by rw [bea, hg, if_pos hpos]
            have z3 : mst (spR m q P (cntR m (nI 6) T)) (i + 1) = (cnt (rB (mm 153) i) 48, nI i) := by rw [mst, hg]; exact if_pos h75
            have z4 : mstR (spR m q P (cntR m (nI 6) T)) (i + 1) = nI i := by rw [mstR, hg]; exact if_pos h75
            refine J_wk' (ih40 [some (.ref (jxb x + 140)), some (.int (nI q)), some (.int w), some (.int ((nI (cnt (seR m q P (cntR m (nI 6) T)) 48)))), some (.int (nI (cnt (rB (mm 153) i) 48))), some (.int (nI i)), some (.int (nI (bea (spR m q P (cntR m (nI 6) T)) i + 1))), some (.int (nI (i + 1))), none] _ ⟨by rw [z2, z3, z4], hx66, hS66⟩) rfl ?_
            rintro (_ | _ | _ | _ | _ | _ | _ | _ | _ | k) v hv <;> first | exact hv | cases hv
        · 
          refine J_goto (pc := 57) (tgt := 103) dX8_beast_57 (by decide) ?_
          refine Jn_iinc (pc := 103) (ls' := [some _, some _, some _, some _, some _, some _, some _, some _, none]) dX8_beast_103 rfl knz_1 rfl rfl ?_
          refine J_goto (pc := 106) (tgt := 40) dX8_beast_106 (by decide) ?_
          have hz : gS (spR m q P (cntR m (nI 6) T)) i i = 0 := by rw [← hS i hi]; exact h54
          obtain ⟨z1, z2, z3⟩ := gth_0 hz
          have z4 : mstR (spR m q P (cntR m (nI 6) T)) (i + 1) = mstR (spR m q P (cntR m (nI 6) T)) i := if_neg (by rw [show gN (spR m q P (cntR m (nI 6) T)) i = 0 from if_pos hz]; exact Nat.not_lt_zero _)
          refine J_wk' (ih40 [some (.ref (jxb x + 140)), some (.int (nI q)), some (.int w), some (.int ((nI (cnt (seR m q P (cntR m (nI 6) T)) 48)))), some (.int (nI ((mst (spR m q P (cntR m (nI 6) T)) i).1))), some (.int ((mstR (spR m q P (cntR m (nI 6) T)) i))), some (.int (nI (bea (spR m q P (cntR m (nI 6) T)) i))), some (.int (nI (i + 1))), none] _ ⟨by rw [z2, z3, z4], hx, fun q hq => by rw [z1]; exact hS q hq⟩) rfl ?_
          rintro (_ | _ | _ | _ | _ | _ | _ | _ | _ | k) v hv <;> first | exact hv | cases hv
      ·
        obtain ⟨rfl, hx, hS⟩ := hI40
        have hb48 := bea_le (spR m q P (cntR m (nI 6) T)) 48
        have hm48 := mst_le (spR m q P (cntR m (nI 6) T)) 48
        refine J_iload (pc := 40) dX8_beast_40 rfl ?_
        refine J_bipush (pc := 42) dX8_beast_42 knb_48 ?_
        refine Jn_ge (pc := 44) (tgt := 109) dX8_beast_44 (by decide) (by omega) (by omega) (fun h44 => ?_) (fun h44 => absurd h44 (by omega))
        refine J_iload_n (pc := 109) dX8_beast_109 rfl ?_
        by_cases c110_0 : w = nI 0
        ·
          refine J_tsIn (pc := 110) (tgt := 140) (off := 30) dX8_beast_110 (by rw [c110_0]; decide) (by rw [c110_0]; decide) (by rw [c110_0]; rfl) (by decide) ?_
          refine J_iload_n (pc := 140) dX8_beast_140 rfl ?_
          refine K_iret (pc := 141) dX8_beast_141 rfl ⟨_, rfl, ?_⟩
          refine ⟨hx, ?_⟩
          rw [if_neg (Classical.not_not.mpr h4), if_neg (Classical.not_not.mpr h16), htq]
          unfold beaR
          rw [if_pos c110_0]
        by_cases c110_1 : w = nI 1
        ·
          refine J_tsIn (pc := 110) (tgt := 142) (off := 32) dX8_beast_110 (by rw [c110_1]; decide) (by rw [c110_1]; decide) (by rw [c110_1]; rfl) (by decide) ?_
          refine J_iload (pc := 142) dX8_beast_142 rfl ?_
          refine K_iret (pc := 144) dX8_beast_144 rfl ⟨_, rfl, ?_⟩
          refine ⟨hx, ?_⟩
          rw [if_neg (Classical.not_not.mpr h4), if_neg (Classical.not_not.mpr h16), htq]
          unfold beaR
          rw [if_neg c110_0, if_pos c110_1]
        by_cases c110_2 : w = nI 2
        ·
          refine J_tsIn (pc := 110) (tgt := 145) (off := 35) dX8_beast_110 (by rw [c110_2]; decide) (by rw [c110_2]; decide) (by rw [c110_2]; rfl) (by decide) ?_
          refine J_iload (pc := 145) dX8_beast_145 rfl ?_
          refine K_callSp (pc := 147) (As := [_]) dX8_beast_147 kl_X8_133 rfl rfl (Nat.le_of_ble_eq_true rfl) (m_orNone _) ?_
          refine J_top (b := (mst (spR m q P (cntR m (nI 6) T)) 48).2) (mstR_o _ 48 (by decide)) ?_
          refine K_iret (pc := 150) dX8_beast_150 rfl ⟨_, rfl, ?_⟩
          refine ⟨hx, ?_⟩
          rw [if_neg (Classical.not_not.mpr h4), if_neg (Classical.not_not.mpr h16), htq]
          unfold beaR
          rw [if_neg c110_0, if_neg c110_1, if_pos c110_2]
        by_cases c110_3 : w = nI 3
        ·
          refine J_tsIn (pc := 110) (tgt := 151) (off := 41) dX8_beast_110 (by rw [c110_3]; decide) (by rw [c110_3]; decide) (by rw [c110_3]; rfl) (by decide) ?_
          refine J_iload (pc := 151) dX8_beast_151 rfl ?_
          refine J_aload_n (pc := 153) dX8_beast_153 rfl ?_
          refine K_getR (pc := 154) dX8_beast_154 kf_X8_7 job_140 jrf_140_0 ?_
          refine J_iconst (pc := 157) dX8_beast_157 kni_5 ?_
          refine K_ialdn (pc := 158) (id := 141) dX8_beast_158 jar_141 (by decide) (by decide) ?_
          refine J_top (b := (m 141 5)) (congrFun (hx 141 (by decide)) 5) ?_
          refine J_icmp_lt (pc := 159) (tgt := 166) dX8_beast_159 (by decide) (fun h159 => ?_) (fun h159 => ?_)
          · 
            refine J_iconst (pc := 166) dX8_beast_166 kni_0 ?_
            refine K_iret (pc := 167) dX8_beast_167 rfl ⟨_, rfl, ?_⟩
            refine ⟨hx, ?_⟩
            rw [if_neg (Classical.not_not.mpr h4), if_neg (Classical.not_not.mpr h16), htq]
            unfold beaR
            rw [if_neg c110_0, if_neg c110_1, if_neg c110_2, if_pos c110_3]
            exact (if_neg (Int32.not_le.mpr h159)).symm
          · 
            refine J_iconst (pc := 162) dX8_beast_162 kni_1 ?_
            refine J_goto (pc := 163) (tgt := 167) dX8_beast_163 (by decide) ?_
            refine K_iret (pc := 167) dX8_beast_167 rfl ⟨_, rfl, ?_⟩
            refine ⟨hx, ?_⟩
            rw [if_neg (Classical.not_not.mpr h4), if_neg (Classical.not_not.mpr h16), htq]
            unfold beaR
            rw [if_neg c110_0, if_neg c110_1, if_neg c110_2, if_pos c110_3]
            exact (if_pos (Int32.not_lt.mp h159)).symm
        refine J_tsOut (pc := 110) (tgt := 168) dX8_beast_110 (by have qc110_0 := jsw_ne c110_0 (by decide); have qc110_1 := jsw_ne c110_1 (by decide); have qc110_2 := jsw_ne c110_2 (by decide); have qc110_3 := jsw_ne c110_3 (by decide); omega) (by decide) ?_
        refine J_iload (pc := 168) dX8_beast_168 rfl ?_
        refine K_iret (pc := 170) dX8_beast_170 rfl ⟨_, rfl, ?_⟩
        refine ⟨hx, ?_⟩
        rw [if_neg (Classical.not_not.mpr h4), if_neg (Classical.not_not.mpr h16), htq]
        unfold beaR
        rw [if_neg c110_0, if_neg c110_1, if_neg c110_2, if_neg c110_3]
    · 
      refine J_ldc (pc := 19) dX8_beast_19 kc_X8_91 ?_
      refine K_iret (pc := 21) dX8_beast_21 rfl ⟨_, rfl, ?_⟩
      exact ⟨exs_rf _ _, ((if_neg (Classical.not_not.mpr h4)).trans (if_pos h16)).symm⟩
