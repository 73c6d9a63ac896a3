/-- what an eye sees of a state on a ground -/
def movL (m : jm) (o p : Nat) : Int32 := absV (lightS m o p - m (o + 8) p)
def seeG (m : jm) (o g : Nat) (tx : Int32) (p : Nat) : Bool := if tx = NONEv then decide (nI 9 < absV (lightS m o p - shadeS m g p)) else decide (¬ textV m tx (absV (lightS m o p - shadeS m g p)) (shadeS m g p) (movL m o p) (nI (edgN (lightS m o) (m (o + 12) 2) p)) = 0)
def lookP (m : jm) (o g : Nat) (m' : jm) : Prop := exs [96, 97, 98, 99] m m' ∧ ∀ p, p < 48 → m' 96 p = shadeS m g p ∧ m' 97 p = lightS m o p ∧ m' 99 p = movL m o p ∧ m' 98 p = nI (edgN (lightS m o) (m (o + 12) 2) p)
theorem lightS_i {m m' : jm} {o q : Nat} (h : ∀ k, k = o + 1 ∨ k = o + 3 ∨ k = o + 6 ∨ k = o + 7 ∨ k = o + 12 → m' k = m k) : lightS m' o q = lightS m o q := by
  unfold lightS gvnS hupS hgtS givenS
  rw [h (o + 1) (by omega), h (o + 3) (by omega), h (o + 6) (by omega), h (o + 7) (by omega), h (o + 12) (by omega)]
theorem jSt_n {o : Nat} (h : jSt o) : o + 12 < 40 ∨ o = 103 := by rcases h with rfl | rfl | rfl | rfl <;> decide
set_option maxRecDepth 100000 in
set_option maxHeartbeats 400000 in
theorem p_lookAt {x : jX} {m : jm} {d : Nat} {o g : Nat} (ho : jSt o) (hat : wfAt m o) (hg : g < 4) : Ct x (d + 4) eX7_lookAt [.ref (jxb x + 0), .ref (jxb x + o), .int (nI g)] m (jv fun m' => lookP m o g m') := by
  refine J_start (by decide +kernel) (Nat.le_of_ble_eq_true rfl) (ls := [some (.ref (jxb x + 0)), some (.ref (jxb x + o)), some (.int (nI g))]) rfl rfl ?_
  refine J_aload_n (pc := 0) dX7_lookAt_0 rfl ?_
  refine K_getR (pc := 1) dX7_lookAt_1 kf_X7_46 job_0 jrf_0_6 ?_
  refine J_aload_n (pc := 4) dX7_lookAt_4 rfl ?_
  refine K_getR (pc := 5) dX7_lookAt_5 kf_X7_25 job_0 jrf_0_3 ?_
  refine J_iload_n (pc := 8) dX7_lookAt_8 rfl ?_
  refine K_callVv (pc := 9) (id := 95) (As := [_, _]) dX7_lookAt_9 kl_X7_339 rfl job_95 rfl rfl (Nat.le_of_ble_eq_true rfl) (c_face (m := m) (e := 95) (Or.inl rfl) hg) (fun m9 h9 => ?_)
  have hon := jSt_n ho
  subst h9
  refine J_aload_n (pc := 12) dX7_lookAt_12 rfl ?_
  refine K_getR (pc := 13) dX7_lookAt_13 kf_X7_46 job_0 jrf_0_6 ?_
  refine J_aload_n (pc := 16) dX7_lookAt_16 rfl ?_
  refine K_callVv (pc := 17) (id := 95) (As := [_]) dX7_lookAt_17 kl_X7_343 rfl job_95 rfl rfl (Nat.le_of_ble_eq_true rfl) (c_look (m := (mfill m 96 48 (shadeS m g))) (e := 95) (o := o) (Or.inl rfl) ho (fun q hq => by rw [show (mfill m 96 48 (shadeS m g)) (o + 7) q = m (o + 7) q from mfill_i (by omega)]; exact hat q hq)) (fun m17 h17 => ?_)
  subst h17
  refine J_aload_n (pc := 20) dX7_lookAt_20 rfl ?_
  refine K_getR (pc := 21) dX7_lookAt_21 kf_X7_46 job_0 jrf_0_6 ?_
  refine J_aload_n (pc := 24) dX7_lookAt_24 rfl ?_
  refine K_callVv (pc := 25) (id := 95) (As := [_]) dX7_lookAt_25 kl_X7_346 rfl job_95 rfl rfl (Nat.le_of_ble_eq_true rfl) (c_findMoves (m := (mfill (mfill m 96 48 (shadeS m g)) 97 48 (lightS (mfill m 96 48 (shadeS m g)) o))) (e := 95) (o := o) (Or.inl rfl) ho) (fun m25 h25 => ?_)
  subst h25
  refine J_aload_n (pc := 28) dX7_lookAt_28 rfl ?_
  refine K_getR (pc := 29) dX7_lookAt_29 kf_X7_46 job_0 jrf_0_6 ?_
  refine J_aload_n (pc := 32) dX7_lookAt_32 rfl ?_
  refine K_getR (pc := 33) (t := o + 12) dX7_lookAt_33 kf_X7_146 (jSt_obj ho) (jSt_ref ho 11 (by decide)) ?_
  refine J_iconst (pc := 36) dX7_lookAt_36 kni_2 ?_
  refine K_ialdn (pc := 37) (id := (o + 12)) dX7_lookAt_37 (jSt_rules ho) (by decide) (by decide) ?_
  refine K_callVv (pc := 38) (id := 95) (As := [_]) dX7_lookAt_38 kl_X7_349 rfl job_95 rfl rfl (Nat.le_of_ble_eq_true rfl) (c_findEdges (m := (mfill (mfill (mfill m 96 48 (shadeS m g)) 97 48 (lightS (mfill m 96 48 (shadeS m g)) o)) 99 48 (moveS (mfill (mfill m 96 48 (shadeS m g)) 97 48 (lightS (mfill m 96 48 (shadeS m g)) o)) 95 o))) (e := 95) (Or.inl rfl) ((mfill (mfill (mfill m 96 48 (shadeS m g)) 97 48 (lightS (mfill m 96 48 (shadeS m g)) o)) 99 48 (moveS (mfill (mfill m 96 48 (shadeS m g)) 97 48 (lightS (mfill m 96 48 (shadeS m g)) o)) 95 o)) (o + 12) 2)) (fun m38 h38 => ?_)
  obtain ⟨he1, he2⟩ := h38
  refine K_vret (pc := 41) dX7_lookAt_41 rfl ⟨rfl, ?_⟩
  have hl : ∀ p, lightS (mfill m 96 48 (shadeS m g)) o p = lightS m o p := fun p => lightS_i (fun k hk => mfill_i' (by omega))
  have e12 : (mfill (mfill (mfill m 96 48 (shadeS m g)) 97 48 (lightS (mfill m 96 48 (shadeS m g)) o)) 99 48 (moveS (mfill (mfill m 96 48 (shadeS m g)) 97 48 (lightS (mfill m 96 48 (shadeS m g)) o)) 95 o)) (o + 12) = m (o + 12) := (mfill_i' (by omega)).trans ((mfill_i' (by omega)).trans (mfill_i' (by omega)))
  refine ⟨fun k hk => ?_, fun p hp => ⟨?_, ?_, ?_, ?_⟩⟩
  · simp only [List.mem_cons, List.not_mem_nil, or_false, not_or] at hk
    exact (he2 k (by omega)).trans ((mfill_i' (by omega)).trans ((mfill_i' (by omega)).trans (mfill_i' (by omega))))
  · rw [he2 96 (by decide), mfill_i (by decide), mfill_i (by decide), mfill_lt hp]
  · rw [he2 97 (by decide), mfill_i (by decide), mfill_lt hp, hl]
  · rw [he2 99 (by decide), mfill_lt hp]
    show absV ((mfill (mfill m 96 48 (shadeS m g)) 97 48 (lightS (mfill m 96 48 (shadeS m g)) o)) 97 p - (mfill (mfill m 96 48 (shadeS m g)) 97 48 (lightS (mfill m 96 48 (shadeS m g)) o)) (o + 8) p) = _
    rw [mfill_lt hp, hl, mfill_i (by omega), mfill_i (by omega)]
    rfl
  · rw [he1 p hp]
    show nI (edgN ((mfill (mfill (mfill m 96 48 (shadeS m g)) 97 48 (lightS (mfill m 96 48 (shadeS m g)) o)) 99 48 (moveS (mfill (mfill m 96 48 (shadeS m g)) 97 48 (lightS (mfill m 96 48 (shadeS m g)) o)) 95 o)) 97) _ p) = _
    rw [e12]
    refine congrArg nI (edgN_c (fun q hq => ?_) hp)
    rw [mfill_i (by decide), mfill_lt hq, hl]
theorem seeG_P {m m' : jm} {o g : Nat} {tx : Int32} (h : lookP m o g m') (hX : wfX m tx) {p : Nat} (hp : p < 48) : seeP m' 95 tx p = seeG m o g tx p := by
  obtain ⟨h1, h2⟩ := h
  obtain ⟨a, b, c, e⟩ := h2 p hp
  unfold seeP difS seeG
  rw [show m' (95 + 1) p = _ from a, show m' (95 + 2) p = _ from b, show m' (95 + 3) p = _ from e, show m' (95 + 4) p = _ from c]
  by_cases n : tx = NONEv
  · rw [if_pos n, if_pos n]
  · rw [if_neg n, if_neg n]
    have := (wfX_80 hX).resolve_left n
    rw [textV_c (m := m) (m' := m') (h1 _ (by simp; omega)) (h1 _ (by simp))]
theorem wfX_i {m m' : jm} {tx : Int32} (h : wfX m tx) (h1 : exs [94, 96, 97, 98, 99, 100] m m') : wfX m' tx := wfX_c (h1 78 (by decide)) (fun t ht => h1 _ (by simp; omega)) h
theorem bestV_c {m m' : jm} {o : Nat} {w : Int32} (h1 : m' 75 = m 75) (h2 : m' 76 = m 76) (h3 : m' o 13 = m o 13) : ∀ n, bestV m' o w n = bestV m o w n
  | 0 => rfl
  | n + 1 => by
    unfold bestV
    rw [bestV_c h1 h2 h3 n, h1, h2, h3]
set_option maxRecDepth 100000 in
set_option maxHeartbeats 400000 in
theorem p_spotAll {x : jX} {m : jm} {d : Nat} {o g T : Nat} (ho : jSt o) (hat : wfAt m o) (hg : g < 4) (hT : m o 14 = nI T) (hT14 : T ≤ 14) (hX : wfX m (bestV m o (nI 6) T)) : Ct x (d + 5) eX7_spotAll [.ref (jxb x + 0), .ref (jxb x + o), .int (nI g)] m (ji fun v m' => v = nI (cnt (seeG m o g (bestV m o (nI 6) T)) 48) ∧ exs [94, 96, 97, 98, 99, 100] m m' ∧ ∀ p, p < 48 → m' 100 p = jb (seeG m o g (bestV m o (nI 6) T) p = true)) := by
  refine J_start (by decide +kernel) (Nat.le_of_ble_eq_true rfl) (ls := [some (.ref (jxb x + 0)), some (.ref (jxb x + o)), some (.int (nI g))]) rfl rfl ?_
  refine J_aload_n (pc := 0) dX7_spotAll_0 rfl ?_
  refine J_aload_n (pc := 1) dX7_spotAll_1 rfl ?_
  refine J_iload_n (pc := 2) dX7_spotAll_2 rfl ?_
  refine K_callVv (pc := 3) (id := 0) (As := [_, _]) dX7_spotAll_3 kl_X7_256 rfl job_0 rfl rfl (Nat.le_of_ble_eq_true rfl) (p_lookAt (m := m) ho hat hg) (fun m3 h3 => ?_)
  have hon := jSt_n ho
  have e3 : ∀ k, k ≤ 95 ∨ 100 ≤ k → m3 k = m k := fun k hk => h3.1 k (by simp; omega)
  have hb : bestV m3 o (nI 6) T = (bestV m o (nI 6) T) := bestV_c (e3 75 (by decide)) (e3 76 (by decide)) (by rw [e3 o (by omega)]) T
  refine J_aload_n (pc := 6) dX7_spotAll_6 rfl ?_
  refine K_getR (pc := 7) dX7_spotAll_7 kf_X7_46 job_0 jrf_0_6 ?_
  refine J_aload_n (pc := 10) dX7_spotAll_10 rfl ?_
  refine K_getR (pc := 11) dX7_spotAll_11 kf_X7_39 job_0 jrf_0_5 ?_
  refine J_aload_n (pc := 14) dX7_spotAll_14 rfl ?_
  refine K_getR (pc := 15) dX7_spotAll_15 kf_X7_39 job_0 jrf_0_5 ?_
  refine J_bipush (pc := 18) dX7_spotAll_18 knb_6 ?_
  refine J_aload_n (pc := 20) dX7_spotAll_20 rfl ?_
  refine K_callVp (pc := 21) (id := 74) (As := [_, _]) dX7_spotAll_21 kl_X7_246 rfl job_74 rfl rfl (Nat.le_of_ble_eq_true rfl) (c_counting (m := m3) (o := o) (T := T) ho (by rw [e3 o (by omega)]; exact hT) hT14 (nI 6)) ?_
  refine J_top (b := (bestV m o (nI 6) T)) (hb) ?_
  refine K_callVi (pc := 24) (id := 95) (As := [_, _]) dX7_spotAll_24 kl_X7_352 rfl job_95 rfl rfl (Nat.le_of_ble_eq_true rfl) (c_spotAll (m := m3) (e := 95) (Or.inl rfl) (wfX_c (e3 78 (by decide)) (fun t ht => e3 _ (by omega)) hX)) (fun v24 m24 h24 => ?_)
  obtain ⟨rfl, x24, s24⟩ := h24
  refine K_iret (pc := 27) dX7_spotAll_27 rfl ⟨_, rfl, ?_⟩
  refine ⟨congrArg nI (cnt_c 48 fun p hp => seeG_P h3 hX hp), fun k hk => ?_, fun p hp => ?_⟩
  · exact (x24 k (fun z => hk (by simp at z ⊢; omega))).trans (h3.1 k (fun z => hk (by simp at z ⊢; omega)))
  · rw [← seeG_P h3 hX hp]; exact s24 p hp
set_option maxRecDepth 100000 in
set_option maxHeartbeats 400000 in
theorem p_seen {x : jX} {m : jm} {d : Nat} (g p : Int32) {T : Nat} (hat : wfAt m 1) (hT : m 1 14 = nI T) (hT14 : T ≤ 14) (hX : wfX m (bestV m 1 (nI 6) T)) : Ct x (d + 5) eX7_seen [.ref (jxb x + 0), .int g, .int p] m (ji fun rv m' => exs [94, 96, 97, 98, 99, 100] m m' ∧ rv = if ¬ (nI 0 ≤ g ∧ g ≤ nI 3) then -1000000001 else if ¬ (nI 0 ≤ p ∧ p ≤ nI 47) then -1000000001 else jb (seeG m 1 (tN g) (bestV m 1 (nI 6) T) (tN p) = true)) := by
  refine J_start (by decide +kernel) (Nat.le_of_ble_eq_true rfl) (ls := [some (.ref (jxb x + 0)), some (.int g), some (.int p)]) rfl rfl ?_
  refine J_iload_n (pc := 0) dX7_seen_0 rfl ?_
  refine K_callSp (pc := 1) (As := [_]) dX7_seen_1 kl_X7_213 rfl rfl (Nat.le_of_ble_eq_true rfl) (c_isGround g) ?_
  refine Jb_eq (pc := 4) (tgt := 17) dX7_seen_4 (by decide) (fun h4 => ?_) (fun h4 => ?_)
  · 
    refine J_ldc (pc := 17) dX7_seen_17 kc_X7_80 ?_
    refine K_iret (pc := 19) dX7_seen_19 rfl ⟨_, rfl, ?_⟩
    exact ⟨exs_rf _ _, (if_pos h4).symm⟩
  · 
    refine J_iload_n (pc := 7) dX7_seen_7 rfl ?_
    refine J_iconst (pc := 8) dX7_seen_8 kni_0 ?_
    refine J_bipush (pc := 9) dX7_seen_9 knb_47 ?_
    refine K_callSp (pc := 11) (As := [_, _, _]) dX7_seen_11 kl_X7_76 rfl rfl (Nat.le_of_ble_eq_true rfl) (c_within _ _ _) ?_
    refine Jb_ne (pc := 14) (tgt := 20) dX7_seen_14 (by decide) (fun h14 => ?_) (fun h14 => ?_)
    · 
      obtain ⟨q, hq, hqe⟩ := w_of h4 (by decide)
      have htq : tN g = q := by rw [hqe]; exact tN_n (by omega)
      subst hqe
      obtain ⟨r, hr, hre⟩ := w_of h14 (by decide)
      have htr : tN p = r := by rw [hre]; exact tN_n (by omega)
      subst hre
      refine J_aload_n (pc := 20) dX7_seen_20 rfl ?_
      refine J_aload_n (pc := 21) dX7_seen_21 rfl ?_
      refine K_getR (pc := 22) dX7_seen_22 kf_X7_10 job_0 jrf_0_0 ?_
      refine J_iload_n (pc := 25) dX7_seen_25 rfl ?_
      refine K_callVv (pc := 26) (id := 0) (As := [_, _]) dX7_seen_26 kl_X7_256 rfl job_0 rfl rfl (Nat.le_of_ble_eq_true rfl) (p_lookAt (m := m) (o := 1) (g := q) (Or.inl rfl) hat (by omega)) (fun m26 h26 => ?_)
      have e3 : ∀ k, k ≤ 95 ∨ 100 ≤ k → m26 k = m k := fun k hk => h26.1 k (by simp; omega)
      have hb : bestV m26 1 (nI 6) T = (bestV m 1 (nI 6) T) := bestV_c (e3 75 (by decide)) (e3 76 (by decide)) (by rw [e3 1 (by decide)]) T
      refine J_aload_n (pc := 29) dX7_seen_29 rfl ?_
      refine K_getR (pc := 30) dX7_seen_30 kf_X7_46 job_0 jrf_0_6 ?_
      refine J_iload_n (pc := 33) dX7_seen_33 rfl ?_
      refine J_aload_n (pc := 34) dX7_seen_34 rfl ?_
      refine K_getR (pc := 35) dX7_seen_35 kf_X7_39 job_0 jrf_0_5 ?_
      refine J_aload_n (pc := 38) dX7_seen_38 rfl ?_
      refine K_getR (pc := 39) dX7_seen_39 kf_X7_39 job_0 jrf_0_5 ?_
      refine J_bipush (pc := 42) dX7_seen_42 knb_6 ?_
      refine J_aload_n (pc := 44) dX7_seen_44 rfl ?_
      refine K_getR (pc := 45) dX7_seen_45 kf_X7_10 job_0 jrf_0_0 ?_
      refine K_callVp (pc := 48) (id := 74) (As := [_, _]) dX7_seen_48 kl_X7_246 rfl job_74 rfl rfl (Nat.le_of_ble_eq_true rfl) (c_counting (m := m26) (o := 1) (T := T) (Or.inl rfl) (by rw [e3 1 (by decide)]; exact hT) hT14 (nI 6)) ?_
      refine J_top (b := (bestV m 1 (nI 6) T)) (hb) ?_
      refine K_callVi (pc := 51) (id := 95) (As := [_, _, _]) dX7_seen_51 kl_X7_260 rfl job_95 rfl rfl (Nat.le_of_ble_eq_true rfl) (c_sees (m := m26) (e := 95) (p := r) (Or.inl rfl) (by omega) (wfX_c (e3 78 (by decide)) (fun t ht => e3 _ (by omega)) hX)) (fun v51 m51 h51 => ?_)
      obtain ⟨rfl, x51⟩ := h51
      rw [seeG_P h26 hX (by omega)]
      refine Jb_eq (pc := 54) (tgt := 61) dX7_seen_54 (by decide) (fun h54 => ?_) (fun h54 => ?_)
      · 
        refine J_iconst (pc := 61) dX7_seen_61 kni_0 ?_
        refine K_iret (pc := 62) dX7_seen_62 rfl ⟨_, rfl, ?_⟩
        refine ⟨fun k hk => (x51 k (fun z => hk (by simp at z ⊢; omega))).trans (h26.1 k (fun z => hk (by simp at z ⊢; omega))), ?_⟩
        rw [if_neg (Classical.not_not.mpr h4), if_neg (Classical.not_not.mpr h14), htq, htr]
        exact (if_neg h54).symm
      · 
        refine J_iconst (pc := 57) dX7_seen_57 kni_1 ?_
        refine J_goto (pc := 58) (tgt := 62) dX7_seen_58 (by decide) ?_
        refine K_iret (pc := 62) dX7_seen_62 rfl ⟨_, rfl, ?_⟩
        refine ⟨fun k hk => (x51 k (fun z => hk (by simp at z ⊢; omega))).trans (h26.1 k (fun z => hk (by simp at z ⊢; omega))), ?_⟩
        rw [if_neg (Classical.not_not.mpr h4), if_neg (Classical.not_not.mpr h14), htq, htr]
        exact (if_pos h54).symm
    · 
      refine J_ldc (pc := 17) dX7_seen_17 kc_X7_80 ?_
      refine K_iret (pc := 19) dX7_seen_19 rfl ⟨_, rfl, ?_⟩
      exact ⟨exs_rf _ _, ((if_neg (Classical.not_not.mpr h4)).trans (if_pos h14)).symm⟩
theorem cnt_rB {f g : Nat → Int32} (h : ∀ q, q < 48 → g q = f q) (k n : Nat) : cnt (rB g k) n = cnt (rB f k) n := cnt_c n fun q _ => rB_c h k q
theorem gS_c {f g : Nat → Int32} (h : ∀ q, q < 48 → g q = f q) : ∀ n, n ≤ 48 → ∀ q, q < 48 → gS g n q = gS f n q
  | 0, _, q, hq => h q hq
  | n + 1, hn, q, hq => by
    have ih := gS_c h n (by omega)
    unfold gS
    rw [ih n (by omega)]
    by_cases z : gS f n n = 0
    · rw [if_pos z, if_pos z]; exact ih q hq
    · rw [if_neg z, if_neg z]
      show (if rB (gS g n) n q = true then 0 else gS g n q) = _
      rw [rB_c ih, ih q hq]
theorem gN_c {f g : Nat → Int32} (h : ∀ q, q < 48 → g q = f q) {n : Nat} (hn : n < 48) : gN g n = gN f n := by
  have ih := gS_c h n (by omega)
  unfold gN
  rw [ih n hn, cnt_rB ih]
theorem bea_c {f g : Nat → Int32} (h : ∀ q, q < 48 → g q = f q) : ∀ n, n ≤ 48 → bea g n = bea f n
  | 0, _ => rfl
  | n + 1, hn => by rw [bea, bea, bea_c h n (by omega), gN_c h (by omega)]
theorem mst_c {f g : Nat → Int32} (h : ∀ q, q < 48 → g q = f q) : ∀ n, n ≤ 48 → mst g n = mst f n
  | 0, _ => rfl
  | n + 1, hn => by rw [mst, mst, mst_c h n (by omega), gN_c h (by omega)]
/-- the places seen, as spots -/
def spG (m : jm) (o g : Nat) (tx : Int32) : Nat → Int32 := fun p => jb (seeG m o g tx p = true)
noncomputable def beaV (m : jm) (g : Nat) (tx w : Int32) : Int32 :=
  if w = nI 0 then nI (cnt (seeG m 1 g tx) 48) else if w = nI 1 then nI (mst (spG m 1 g tx) 48).1 else if w = nI 2 then (mst (spG m 1 g tx) 48).2 else if w = nI 3 then jb (m 13 3 ≤ nI (mst (spG m 1 g tx) 48).1) else nI (bea (spG m 1 g tx) 48)
set_option maxRecDepth 100000 in
set_option maxHeartbeats 400000 in
theorem p_beast {x : jX} {m : jm} {d : Nat} (g w : Int32) {T : Nat} (hat : wfAt m 1) (hT : m 1 14 = nI T) (hT14 : T ≤ 14) (hX : wfX m (bestV m 1 (nI 6) T)) : Ct x (d + 6) eX7_beast [.ref (jxb x + 0), .int g, .int w] m (ji fun rv m' => exs [94, 95, 96, 97, 98, 99, 100, 101] m m' ∧ rv = if ¬ (nI 0 ≤ g ∧ g ≤ nI 3) then -1000000001 else if ¬ (nI 0 ≤ w ∧ w ≤ nI 4) then -1000000001 else beaV m (tN g) (bestV m 1 (nI 6) T) w) := by
  refine J_start (by decide +kernel) (Nat.le_of_ble_eq_true rfl) (ls := [some (.ref (jxb x + 0)), some (.int g), some (.int w), none]) rfl rfl ?_
  refine J_iload_n (pc := 0) dX7_beast_0 rfl ?_
  refine K_callSp (pc := 1) (As := [_]) dX7_beast_1 kl_X7_213 rfl rfl (Nat.le_of_ble_eq_true rfl) (c_isGround g) ?_
  refine Jb_eq (pc := 4) (tgt := 16) dX7_beast_4 (by decide) (fun h4 => ?_) (fun h4 => ?_)
  · 
    refine J_ldc (pc := 16) dX7_beast_16 kc_X7_80 ?_
    refine K_iret (pc := 18) dX7_beast_18 rfl ⟨_, rfl, ?_⟩
    exact ⟨exs_rf _ _, (if_pos h4).symm⟩
  · 
    refine J_iload_n (pc := 7) dX7_beast_7 rfl ?_
    refine J_iconst (pc := 8) dX7_beast_8 kni_0 ?_
    refine J_iconst (pc := 9) dX7_beast_9 kni_4 ?_
    refine K_callSp (pc := 10) (As := [_, _, _]) dX7_beast_10 kl_X7_76 rfl rfl (Nat.le_of_ble_eq_true rfl) (c_within _ _ _) ?_
    refine Jb_ne (pc := 13) (tgt := 19) dX7_beast_13 (by decide) (fun h13 => ?_) (fun h13 => ?_)
    · 
      obtain ⟨q, hq, hqe⟩ := w_of h4 (by decide)
      have htq : tN g = q := by rw [hqe]; exact tN_n (by omega)
      subst hqe
      refine J_aload_n (pc := 19) dX7_beast_19 rfl ?_
      refine J_aload_n (pc := 20) dX7_beast_20 rfl ?_
      refine K_getR (pc := 21) dX7_beast_21 kf_X7_10 job_0 jrf_0_0 ?_
      refine J_iload_n (pc := 24) dX7_beast_24 rfl ?_
      refine K_callVi (pc := 25) (id := 0) (As := [_, _]) dX7_beast_25 kl_X7_264 rfl job_0 rfl rfl (Nat.le_of_ble_eq_true rfl) (p_spotAll (m := m) (o := 1) (g := q) (T := T) (Or.inl rfl) hat (by omega) hT hT14 hX) (fun v25 m25 h25 => ?_)
      obtain ⟨rfl, x25, s25⟩ := h25
      refine J_istore_n (pc := 28) (ls' := [some _, some _, some _, some _]) dX7_beast_28 rfl (Nat.le_of_ble_eq_true rfl) rfl ?_
      refine J_aload_n (pc := 29) dX7_beast_29 rfl ?_
      refine K_getR (pc := 30) dX7_beast_30 kf_X7_46 job_0 jrf_0_6 ?_
      refine K_callVv (pc := 33) (id := 95) (As := []) dX7_beast_33 kl_X7_268 rfl job_95 rfl rfl (Nat.le_of_ble_eq_true rfl) (c_gather (m := m25)) (fun m33 h33 => ?_)
      obtain ⟨x33, b1, b2, b3⟩ := h33
      rw [bea_c (f := (spG m 1 q (bestV m 1 (nI 6) T))) s25 48 (by decide)] at b1
      rw [mst_c (f := (spG m 1 q (bestV m 1 (nI 6) T))) s25 48 (by decide)] at b2 b3
      have hex : exs [94, 95, 96, 97, 98, 99, 100, 101] m m33 := fun k hk => (x33 k (fun z => hk (by simp at z ⊢; omega))).trans (x25 k (fun z => hk (by simp at z ⊢; omega)))
      refine J_iload_n (pc := 36) dX7_beast_36 rfl ?_
      by_cases c37_0 : w = nI 0
      ·
        refine J_tsIn (pc := 37) (tgt := 68) (off := 31) dX7_beast_37 (by rw [c37_0]; decide) (by rw [c37_0]; decide) (by rw [c37_0]; rfl) (by decide) ?_
        refine J_iload_n (pc := 68) dX7_beast_68 rfl ?_
        refine K_iret (pc := 69) dX7_beast_69 rfl ⟨_, rfl, ?_⟩
        refine ⟨hex, ?_⟩
        rw [if_neg (Classical.not_not.mpr h4), if_neg (Classical.not_not.mpr h13), htq]
        unfold beaV
        rw [if_pos c37_0]
      by_cases c37_1 : w = nI 1
      ·
        refine J_tsIn (pc := 37) (tgt := 70) (off := 33) dX7_beast_37 (by rw [c37_1]; decide) (by rw [c37_1]; decide) (by rw [c37_1]; rfl) (by decide) ?_
        refine J_aload_n (pc := 70) dX7_beast_70 rfl ?_
        refine K_getR (pc := 71) dX7_beast_71 kf_X7_46 job_0 jrf_0_6 ?_
        refine K_getI (pc := 74) dX7_beast_74 kf_X7_271 job_95 jrf_95_7 ?_
        refine J_top (b := (nI (mst (spG m 1 q (bestV m 1 (nI 6) T)) 48).1)) (b2) ?_
        refine K_iret (pc := 77) dX7_beast_77 rfl ⟨_, rfl, ?_⟩
        refine ⟨hex, ?_⟩
        rw [if_neg (Classical.not_not.mpr h4), if_neg (Classical.not_not.mpr h13), htq]
        unfold beaV
        rw [if_neg c37_0, if_pos c37_1]
      by_cases c37_2 : w = nI 2
      ·
        refine J_tsIn (pc := 37) (tgt := 78) (off := 41) dX7_beast_37 (by rw [c37_2]; decide) (by rw [c37_2]; decide) (by rw [c37_2]; rfl) (by decide) ?_
        refine J_aload_n (pc := 78) dX7_beast_78 rfl ?_
        refine K_getR (pc := 79) dX7_beast_79 kf_X7_46 job_0 jrf_0_6 ?_
        refine K_getI (pc := 82) dX7_beast_82 kf_X7_274 job_95 jrf_95_8 ?_
        refine J_top (b := (mst (spG m 1 q (bestV m 1 (nI 6) T)) 48).2) (b3) ?_
        refine K_iret (pc := 85) dX7_beast_85 rfl ⟨_, rfl, ?_⟩
        refine ⟨hex, ?_⟩
        rw [if_neg (Classical.not_not.mpr h4), if_neg (Classical.not_not.mpr h13), htq]
        unfold beaV
        rw [if_neg c37_0, if_neg c37_1, if_pos c37_2]
      by_cases c37_3 : w = nI 3
      ·
        refine J_tsIn (pc := 37) (tgt := 86) (off := 49) dX7_beast_37 (by rw [c37_3]; decide) (by rw [c37_3]; decide) (by rw [c37_3]; rfl) (by decide) ?_
        refine J_aload_n (pc := 86) dX7_beast_86 rfl ?_
        refine K_getR (pc := 87) dX7_beast_87 kf_X7_46 job_0 jrf_0_6 ?_
        refine K_getI (pc := 90) dX7_beast_90 kf_X7_271 job_95 jrf_95_7 ?_
        refine J_top (b := (nI (mst (spG m 1 q (bestV m 1 (nI 6) T)) 48).1)) (b2) ?_
        refine J_aload_n (pc := 93) dX7_beast_93 rfl ?_
        refine K_getR (pc := 94) dX7_beast_94 kf_X7_10 job_0 jrf_0_0 ?_
        refine K_getR (pc := 97) dX7_beast_97 kf_X7_146 job_1 jrf_1_12 ?_
        refine J_iconst (pc := 100) dX7_beast_100 kni_3 ?_
        refine K_ialdn (pc := 101) (id := 13) dX7_beast_101 jar_13 (by decide) (by decide) ?_
        refine J_top (b := (m 13 3)) (hex 13 (by decide) ▸ rfl) ?_
        refine J_icmp_lt (pc := 102) (tgt := 109) dX7_beast_102 (by decide) (fun h102 => ?_) (fun h102 => ?_)
        · 
          refine J_iconst (pc := 109) dX7_beast_109 kni_0 ?_
          refine K_iret (pc := 110) dX7_beast_110 rfl ⟨_, rfl, ?_⟩
          refine ⟨hex, ?_⟩
          rw [if_neg (Classical.not_not.mpr h4), if_neg (Classical.not_not.mpr h13), htq]
          unfold beaV
          rw [if_neg c37_0, if_neg c37_1, if_neg c37_2, if_pos c37_3]
          exact (if_neg (Int32.not_le.mpr h102)).symm
        · 
          refine J_iconst (pc := 105) dX7_beast_105 kni_1 ?_
          refine J_goto (pc := 106) (tgt := 110) dX7_beast_106 (by decide) ?_
          refine K_iret (pc := 110) dX7_beast_110 rfl ⟨_, rfl, ?_⟩
          refine ⟨hex, ?_⟩
          rw [if_neg (Classical.not_not.mpr h4), if_neg (Classical.not_not.mpr h13), htq]
          unfold beaV
          rw [if_neg c37_0, if_neg c37_1, if_neg c37_2, if_pos c37_3]
          exact (if_pos (Int32.not_lt.mp h102)).symm
      refine J_tsOut (pc := 37) (tgt := 111) dX7_beast_37 (by have qc37_0 := jsw_ne c37_0 (by decide); have qc37_1 := jsw_ne c37_1 (by decide); have qc37_2 := jsw_ne c37_2 (by decide); have qc37_3 := jsw_ne c37_3 (by decide); omega) (by decide) ?_
      refine J_aload_n (pc := 111) dX7_beast_111 rfl ?_
      refine K_getR (pc := 112) dX7_beast_112 kf_X7_46 job_0 jrf_0_6 ?_
      refine K_getI (pc := 115) dX7_beast_115 kf_X7_277 job_95 jrf_95_6 ?_
      refine J_top (b := (nI (bea (spG m 1 q (bestV m 1 (nI 6) T)) 48))) (b1) ?_
      refine K_iret (pc := 118) dX7_beast_118 rfl ⟨_, rfl, ?_⟩
      refine ⟨hex, ?_⟩
      rw [if_neg (Classical.not_not.mpr h4), if_neg (Classical.not_not.mpr h13), htq]
      unfold beaV
      rw [if_neg c37_0, if_neg c37_1, if_neg c37_2, if_neg c37_3]
    · 
      refine J_ldc (pc := 16) dX7_beast_16 kc_X7_80 ?_
      refine K_iret (pc := 18) dX7_beast_18 rfl ⟨_, rfl, ?_⟩
      exact ⟨exs_rf _ _, ((if_neg (Classical.not_not.mpr h4)).trans (if_pos h13)).symm⟩
