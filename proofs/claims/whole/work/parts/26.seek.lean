theorem jbp_1 {c : Prop} (h : nI 1 = jbp c) : c := Classical.byContradiction fun q => by
  have := h.trans (jbpF q).symm
  exact absurd this (by decide)
theorem jbp_0 {c : Prop} (h : nI 0 = jbp c) : ¬ c := fun q => by
  have := h.trans (jbpT q).symm
  exact absurd this (by decide)
theorem lookM_i {m : jm} {G P r i : Nat} (h1 : i ≠ 114) (h2 : i ≠ 109) (h3 : i ≠ 118) : lookM m G P r i = m i := by
  unfold lookM settleM
  rw [mfill_i' h3, mfill_i' h2, ptM_i h1]
/-- the memory that a search may leave: as B, but for its own cells -/
def sFr (B mm : jm) : Prop := (∀ k, k ∉ [94, 102, 109, 114, 118, 119, 125] → mm k = B k) ∧ ∀ j, j ≠ 6 → j ≠ 7 → mm 102 j = B 102 j
theorem sFr_rf (B : jm) : sFr B B := ⟨fun _ _ => rfl, fun _ _ _ => rfl⟩
theorem sFr_m {B a b : jm} (h : sFr B a) (hk : ∀ k, k ∉ [94, 102, 109, 114, 118, 119, 125] → b k = a k) (h2 : ∀ j, j ≠ 6 → j ≠ 7 → b 102 j = a 102 j) : sFr B b := ⟨fun k q => (hk k q).trans (h.1 k q), fun j p q => (h2 j p q).trans (h.2 j p q)⟩
theorem weighM_i {m : jm} {r k l i : Nat} (h : i ≠ 102) : weighM m r k l i = m i := by
  unfold weighM
  split
  · rw [mup_i' h, mup_i' h]
  · rfl
theorem weighM_j {m : jm} {r k l j : Nat} (h : j ≠ 6) (h2 : j ≠ 7) : weighM m r k l 102 j = m 102 j := by
  unfold weighM
  split
  · rw [mup_j h2, mup_j h]
  · rfl
theorem weighM_7 {m : jm} {r k l : Nat} (h : m 102 6 = nI l) : weighM m r k l 102 6 = nI (if k < l then k else l) := by
  unfold weighM
  by_cases c : k < l
  · rw [if_pos c, if_pos c, mup_j (by decide), mup_s]
  · rw [if_neg c, if_neg c, h]
theorem weighM_8 {m : jm} {r k l w : Nat} (h : m 102 7 = nI w) : weighM m r k l 102 7 = nI (if k < l then r else w) := by
  unfold weighM
  by_cases c : k < l
  · rw [if_pos c, if_pos c, mup_s]
  · rw [if_neg c, if_neg c, h]
theorem bst_7 {f : Nat → Nat} {r : Nat} : (bst f (r + 1)).1 = if f r < (bst f r).1 then f r else (bst f r).1 := by
  show (if f r < (bst f r).1 then (f r, r) else bst f r).1 = _
  split <;> rfl
theorem bst_8 {f : Nat → Nat} {r : Nat} : (bst f (r + 1)).2 = if f r < (bst f r).1 then r else (bst f r).2 := by
  show (if f r < (bst f r).1 then (f r, r) else bst f r).2 = _
  split <;> rfl
theorem skI_124 {B a b : jm} {G : Nat} (h : skI B a G) (hk : ∀ k, 103 ≤ k → k ≤ 115 → b k = a k) : skI B b G :=
  ⟨fun k h1 h2 h3 => (hk _ (by omega) (by omega)).trans (h.1 k h1 h2 h3), fun p h1 h2 => by rw [hk 109 (by decide) (by decide)]; exact h.2.1 p h1 h2, fun g h1 h2 => by rw [hk 114 (by decide) (by decide)]; exact h.2.2 g h1 h2⟩
/-- how things stand when rows below r were tried -/
def sI (f : Nat → Nat) (B : jm) (G r : Nat) (mm : jm) : Prop := skI B mm G ∧ sFr B mm ∧ mm 102 6 = nI (bst f r).1 ∧ mm 102 7 = nI (bst f r).2
theorem sI_idle {f : Nat → Nat} {B mm : jm} {G P r t : Nat} (h : sI f B G r mm) (hok : okG G) (hid : idleI B B G P) (hw : wfPt B 103) (hat : wfAtP B 103 P) (h48 : P ≤ 48) (ht : t < nG G) (hi : ¬ mm 124 ((nG G - 1 - t) * 10 + lf r t % 10) = 0)
    (hf : ∀ a b, (∀ q, q < 48 → rowL B G P a q = rowL B G P b q) → f a = f b) : sI f B G (r + 1) (ptM mm G r t) := by
  obtain ⟨h1, h2, h3, h4⟩ := h
  rw [h2.1 124 (by decide)] at hi
  obtain ⟨h5, h6⟩ := hid.2 (nG G - 1 - t) (by omega) (lf r t % 10) (Nat.mod_lt _ (by decide)) hi
  have h7 := lf_dec (r := r) (t := t) (s := 0) (by have := nG_3 G; omega) (by decide) h5
  have ht1 : 1 ≤ ten t := by
    have := nG_3 G
    rcases (show t = 0 ∨ t = 1 ∨ t = 2 by omega) with rfl | rfl | rfl <;> decide
  have e := hf (r - ten t) r (fun q hq => idle_row hok hw hat h48 ht h5 h6 hq)
  rw [sI, bst_skip (by omega) e]
  exact ⟨ptM_sk h1 t (by omega), sFr_m h2 (fun k hk => ptM_i (by simp at hk; omega) t) (fun j _ _ => congrFun (ptM_i (by decide) t) j), by rw [ptM_i (by decide)]; exact h3, by rw [ptM_i (by decide)]; exact h4⟩
theorem sI_look {f : Nat → Nat} {B mm : jm} {G P r r' : Nat} (h : sI f B G r' mm) : sI f B G r' (lookM mm G P r) := by
  obtain ⟨h1, h2, h3, h4⟩ := h
  have e : ∀ j, lookM mm G P r 102 j = mm 102 j := fun j => by rw [lookM_i (by decide) (by decide) (by decide)]
  have hs := skI_settle (P := P) (ptM_sk (r := r) h1 (nG G) (Nat.le_refl _))
  exact ⟨skI_124 hs (fun k _ _ => mfill_i' (by omega)), sFr_m h2 (fun k hk => lookM_i (by simp at hk; omega) (by simp at hk; omega) (by simp at hk; omega)) (fun j _ _ => e j), by rw [e]; exact h3, by rw [e]; exact h4⟩
theorem sI_ex {f : Nat → Nat} {B a b : jm} {G r : Nat} (h : sI f B G r a) (hx : exs [94, 119, 125] a b) : sI f B G r b := by
  obtain ⟨h1, h2, h3, h4⟩ := h
  have e := hx 102 (by decide)
  exact ⟨skI_124 h1 (fun k _ _ => hx k (by simp; omega)), sFr_m h2 (fun k hk => hx k (fun q => hk (by simp at q ⊢; omega))) (fun j _ _ => by rw [e]), by rw [e]; exact h3, by rw [e]; exact h4⟩
theorem sI_weigh {f : Nat → Nat} {B a : jm} {G r : Nat} (h : sI f B G r a) : sI f B G (r + 1) (weighM a r (f r) (bst f r).1) := by
  obtain ⟨h1, h2, h3, h4⟩ := h
  exact ⟨skI_124 h1 (fun k _ _ => weighM_i (by omega)), sFr_m h2 (fun k hk => weighM_i (by simp at hk; omega)) (fun j q1 q2 => weighM_j q1 q2), by rw [weighM_7 h3, bst_7], by rw [weighM_8 h4, bst_8]⟩
theorem sI_z {f : Nat → Nat} {B a : jm} {G r n : Nat} (h : sI f B G r a) (hr : r ≤ n) (h0 : (bst f r).1 = 0) : sI f B G n a := by
  obtain ⟨k, rfl⟩ : ∃ k, n = r + k := ⟨n - r, by omega⟩
  unfold sI
  rw [bst_z h0 k]
  exact h
theorem jdI_0 {sq : Nat → Int32 → Int32 → Bool} {m : jm} : jdI sq (mfill m 125 4800 (fun _ => nI 0)) := fun p l e hp hl he => by
  rw [mfill_lt (show p * 100 + l < 4800 by omega)]
  show (0 : Int32) &&& sB e = if (0 : Int32) &&& kB e = 0 then 0 else _
  rw [Int32.zero_and, Int32.zero_and, if_pos rfl]
theorem tot_le (G : Nat) : tot G ≤ 1000 := by unfold tot; (repeat' split) <;> omega
theorem c_putsB {x : jX} {B mm : jm} {d r G P : Nat} {f : Nat → Nat} (hr : r < 1000) (hI : sI f B G r mm) (hc : chosenG B G) (hok : okG G) (hw : wfPt B 103) (hat : wfAtP B 103 P) (hP : B 103 0 = nI P) (h48 : P ≤ 48) (hid : idleI B B G P)
    (hf : ∀ a b, (∀ q, q < 48 → rowL B G P a q = rowL B G P b q) → f a = f b) : Ct x (d + 4) eX3_puts [.ref (jxb x + 102), .int (nI r)] mm (ji fun v m' => ∃ c : Prop, v = jbp c ∧ (¬ c → sI f B G (r + 1) m') ∧ (c → m' = lookM mm G P r) ∧ ∀ k, k ≠ 114 → k ≠ 109 → k ≠ 118 → m' k = mm k) := by
  have e := hI.1.1
  have e0 : mm 103 = B 103 := e 0 (by decide) (by decide) (by decide)
  have e7 : mm (103 + 7) = B (103 + 7) := e 7 (by decide) (by decide) (by decide)
  refine Ct_mono (fun v m' q => ?_) (c_puts (x := x) (m := mm) (d := d) (P := P) hr ⟨by rw [hI.2.1.2 3 (by decide) (by decide)]; exact hc.1, fun i hi => by rw [hI.2.1.1 123 (by decide)]; exact hc.2 i hi⟩ hok
    (wfPt_c (e 5 (by decide) (by decide) (by decide)) (e 9 (by decide) (by decide) (by decide)) hw)
    (fun q hq => by rw [e7]; exact hat.at h48 q hq) (by rw [e0]; exact hP) h48)
  obtain ⟨v, rfl, q⟩ := q
  rcases q with ⟨rfl, t, ht, hi, rfl⟩ | ⟨rfl, rfl⟩
  · exact ⟨_, rfl, False, jbpF id, fun _ => sI_idle hI hok hid hw hat h48 ht hi hf, False.elim, fun k h1 _ _ => ptM_i h1 t⟩
  · exact ⟨_, rfl, True, jbpT trivial, fun q => absurd trivial q, fun _ => rfl, fun k h1 h2 h3 => lookM_i h1 h2 h3⟩
set_option maxRecDepth 100000 in
set_option maxHeartbeats 400000 in
theorem c_match {x : jX} {m : jm} {d : Nat} {B : jm} {G P : Nat} (hI0 : sI (fM B G P) B G 0 m) (hc : chosenG B G) (hok : okG G) (hw : wfPt B 103) (hat : wfAtP B 103 P) (hP : B 103 0 = nI P) (h48 : P ≤ 48) (hid : idleI B B G P) (hsh : ∀ q, q < 48 → vp_in (B 117 q) 100) : Ct x (d + 5) eX3_match [.ref (jxb x + 102)] m (jv fun m' => sI (fM B G P) B G (tot G) m' ∧ m' 125 = m 125) := by
  refine J_start (by decide +kernel) (Nat.le_of_ble_eq_true rfl) (ls := [some (.ref (jxb x + 102)), none, none]) rfl rfl ?_
  refine J_aload_n (pc := 0) dX3_match_0 rfl ?_
  refine K_callVp (pc := 1) (id := 102) (As := []) dX3_match_1 kl_X3_61 rfl job_102 rfl rfl (Nat.le_of_ble_eq_true rfl) (c_allTries (m := m) (G := G) ⟨by rw [hI0.2.1.2 3 (by decide) (by decide)]; exact hc.1, fun i hi => by rw [hI0.2.1.1 123 (by decide)]; exact hc.2 i hi⟩) ?_
  refine J_istore_n (pc := 4) (ls' := [some _, some _, none]) dX3_match_4 rfl (Nat.le_of_ble_eq_true rfl) rfl ?_
  refine J_iconst (pc := 5) dX3_match_5 kni_0 ?_
  refine J_istore_n (pc := 6) (ls' := [some _, some _, some _]) dX3_match_6 rfl (Nat.le_of_ble_eq_true rfl) rfl ?_
  refine K_inv (pc := 7) (tot G) (fun r lsq mq => lsq = [some (.ref (jxb x + 102)), some (.int (nI (tot G))), some (.int (nI r))] ∧ (sI (fM B G P) B G r mq) ∧ (mq 125 = m 125)) (fun r hr lsq mm hI7 ih7 => ?_) (fun lsq mm hI7 => ?_) 0 (Nat.zero_le _) _ _ (⟨rfl, hI0, rfl⟩)
  ·
    obtain ⟨rfl, hI, hjd⟩ := hI7
    have hr3 := tot_le G
    have hb := bst_b (f := (fM B G P)) r
    refine J_iload_n (pc := 7) dX3_match_7 rfl ?_
    refine J_iload_n (pc := 8) dX3_match_8 rfl ?_
    refine Jn_ge (pc := 9) (tgt := 45) dX3_match_9 (by decide) (by have := tot_le G; omega) (by have := tot_le G; omega) (fun h9 => absurd h9 (by omega)) (fun h9 => ?_)
    refine J_aload_n (pc := 12) dX3_match_12 rfl ?_
    refine K_getI (pc := 13) dX3_match_13 kf_X3_40 job_102 jrf_102_6 ?_
    refine J_top (b := nI ((bst (fM B G P) r).1)) (hI.2.2.1) ?_
    refine Jn_if_le (pc := 16) (tgt := 45) dX3_match_16 (by decide) (by omega) (fun h16 => ?_) (fun h16 => ?_)
    · 
      refine K_vret (pc := 45) dX3_match_45 rfl ⟨rfl, ?_⟩
      exact ⟨sI_z hI (by omega) h16, hjd⟩
    · 
      refine J_aload_n (pc := 19) dX3_match_19 rfl ?_
      refine J_iload_n (pc := 20) dX3_match_20 rfl ?_
      refine K_callVi (pc := 21) (id := 102) (As := [_]) dX3_match_21 kl_X3_68 rfl job_102 rfl rfl (Nat.le_of_ble_eq_true rfl) (c_putsB (x := x) (d := d) (B := B) (mm := mm) (r := r) (f := (fM B G P)) (by omega) hI hc hok hw hat hP h48 hid (fun a b h => congrArg tN (fM_c h))) (fun v24 m24 h24 => ?_)
      obtain ⟨cc, rfl, hno, hyes, hnf⟩ := h24
      refine Jp_eq (pc := 24) (tgt := 39) dX3_match_24 (by decide) (fun h24 => ?_) (fun h24 => ?_)
      · 
        refine Jn_iinc (pc := 39) (ls' := [some _, some _, some _]) dX3_match_39 rfl knz_1 rfl rfl ?_
        refine J_goto (pc := 42) (tgt := 7) dX3_match_42 (by decide) ?_
        exact ih7 _ _ ⟨rfl, hno h24, (hnf 125 (by decide) (by decide) (by decide)).trans hjd⟩
      · 
        have hlk := hyes h24
        subst hlk
        have hL := sI_look (P := P) (r := r) hI
        have hrow : ∀ q, q < 48 → (lookM mm G P r) 118 q = rowL B G P r q := fun q hq => row_eq hok hI.1 hw hat h48 hq
        refine J_aload_n (pc := 27) dX3_match_27 rfl ?_
        refine J_iload_n (pc := 28) dX3_match_28 rfl ?_
        refine J_aload_n (pc := 29) dX3_match_29 rfl ?_
        refine K_getR (pc := 30) dX3_match_30 kf_X3_21 job_102 jrf_102_1 ?_
        refine K_callVp (pc := 33) (id := 116) (As := []) dX3_match_33 kl_X3_80 rfl job_116 rfl rfl (Nat.le_of_ble_eq_true rfl) (c_allDiffering (m := (lookM mm G P r)) (e := 116) (Or.inr rfl)) ?_
        refine J_top (b := nI (fM B G P r)) (by
          have e1 : sumV (difS (lookM mm G P r) 116) 48 = sumV (dfF (rowL B G P r) (B 117)) 48 := by
            refine sumV_c 48 fun q hq => ?_
            show absV ((lookM mm G P r) 118 q - (lookM mm G P r) 117 q) = _
            rw [hrow q hq, lookM_i (by decide) (by decide) (by decide), hI.2.1.1 117 (by decide)]
            rfl
          obtain ⟨k, ek, hk⟩ := sum_in 48 (fun q hq => abs_in (rowL_in (B := B) (G := G) (P := P) (r := r) hq) (hsh q hq))
          have e2 : sumV (dfF (rowL B G P r) (B 117)) 48 = nI k := ek
          rw [e1]
          unfold fM
          rw [e2, tN_n (by omega)]) ?_
        have hfb : fM B G P r < 2 ^ 31 := by
          obtain ⟨k, ek, hk⟩ := sum_in 48 (fun q hq => abs_in (rowL_in (B := B) (G := G) (P := P) (r := r) hq) (hsh q hq))
          have e2 : sumV (dfF (rowL B G P r) (B 117)) 48 = nI k := ek
          unfold fM
          rw [e2, tN_n (by omega)]
          omega
        refine K_callVv (pc := 36) (id := 102) (As := [_, _]) dX3_match_36 kl_X3_76 rfl job_102 rfl rfl (Nat.le_of_ble_eq_true rfl) (c_weigh (m := (lookM mm G P r)) (r := r) (k := fM B G P r) (l := (bst (fM B G P) r).1) hL.2.2.1 hfb (by omega)) (fun m39 h39 => ?_)
        subst h39
        have hA := hL
        refine Jn_iinc (pc := 39) (ls' := [some _, some _, some _]) dX3_match_39 rfl knz_1 rfl rfl ?_
        refine J_goto (pc := 42) (tgt := 7) dX3_match_42 (by decide) ?_
        exact ih7 _ _ ⟨rfl, sI_weigh hA, (weighM_i (by decide)).trans ((lookM_i (by decide) (by decide) (by decide)).trans hjd)⟩
  ·
    obtain ⟨rfl, hI, hjd⟩ := hI7
    refine J_iload_n (pc := 7) dX3_match_7 rfl ?_
    refine J_iload_n (pc := 8) dX3_match_8 rfl ?_
    refine Jn_ge (pc := 9) (tgt := 45) dX3_match_9 (by decide) (by have := tot_le G; omega) (by have := tot_le G; omega) (fun h9 => ?_) (fun h9 => absurd h9 (by omega))
    refine K_vret (pc := 45) dX3_match_45 rfl ⟨rfl, ?_⟩
    exact ⟨hI, hjd⟩
set_option maxRecDepth 100000 in
set_option maxHeartbeats 400000 in
theorem c_seek {x : jX} {m : jm} {d : Nat} {B : jm} {G P : Nat} {tx : Int32} {sq : Nat → Int32 → Int32 → Bool} (hI0 : sI (fS sq B G P) B G 0 m) (hc : chosenG B G) (hok : okG G) (hw : wfPt B 103) (hat : wfAtP B 103 P) (hP : B 103 0 = nI P) (h48 : P ≤ 48) (hid : idleI B B G P) (hX : wfX B tx) (hsq : ∀ p, p < 48 → ∀ l e, seeQ B tx p l e = sq p l e) : Ct x (d + 5) eX3_seek [.ref (jxb x + 102), .ref (jxb x + 74), .int tx] m (jv fun m' => sI (fS sq B G P) B G (tot G) m' ∧ jdI sq m') := by
  refine J_start (by decide +kernel) (Nat.le_of_ble_eq_true rfl) (ls := [some (.ref (jxb x + 102)), some (.ref (jxb x + 74)), some (.int tx), none, none]) rfl rfl ?_
  refine J_aload_n (pc := 0) dX3_seek_0 rfl ?_
  refine K_callVp (pc := 1) (id := 102) (As := []) dX3_seek_1 kl_X3_61 rfl job_102 rfl rfl (Nat.le_of_ble_eq_true rfl) (c_allTries (m := m) (G := G) ⟨by rw [hI0.2.1.2 3 (by decide) (by decide)]; exact hc.1, fun i hi => by rw [hI0.2.1.1 123 (by decide)]; exact hc.2 i hi⟩) ?_
  refine J_istore_n (pc := 4) (ls' := [some _, some _, some _, some _, none]) dX3_seek_4 rfl (Nat.le_of_ble_eq_true rfl) rfl ?_
  refine J_aload_n (pc := 5) dX3_seek_5 rfl ?_
  refine K_callVv (pc := 6) (id := 102) (As := []) dX3_seek_6 kl_X3_65 rfl job_102 rfl rfl (Nat.le_of_ble_eq_true rfl) (c_forgetJudged (m := m)) (fun m6 h6 => ?_)
  subst h6
  replace hI0 := sI_ex hI0 (b := mfill m 125 4800 (fun _ => nI 0)) (fun k hk => mfill_i' (fun q => hk (by rw [q]; decide)))
  refine J_iconst (pc := 9) dX3_seek_9 kni_0 ?_
  refine J_istore (pc := 10) (ls' := [some _, some _, some _, some _, some _]) dX3_seek_10 rfl (Nat.le_of_ble_eq_true rfl) rfl ?_
  refine K_inv (pc := 12) (tot G) (fun r lsq mq => lsq = [some (.ref (jxb x + 102)), some (.ref (jxb x + 74)), some (.int tx), some (.int (nI (tot G))), some (.int (nI r))] ∧ (sI (fS sq B G P) B G r mq) ∧ (jdI sq mq)) (fun r hr lsq mm hI12 ih12 => ?_) (fun lsq mm hI12 => ?_) 0 (Nat.zero_le _) _ _ (⟨rfl, hI0, jdI_0⟩)
  ·
    obtain ⟨rfl, hI, hjd⟩ := hI12
    have hr3 := tot_le G
    have hb := bst_b (f := (fS sq B G P)) r
    refine J_iload (pc := 12) dX3_seek_12 rfl ?_
    refine J_iload_n (pc := 14) dX3_seek_14 rfl ?_
    refine Jn_ge (pc := 15) (tgt := 52) dX3_seek_15 (by decide) (by have := tot_le G; omega) (by have := tot_le G; omega) (fun h15 => absurd h15 (by omega)) (fun h15 => ?_)
    refine J_aload_n (pc := 18) dX3_seek_18 rfl ?_
    refine K_getI (pc := 19) dX3_seek_19 kf_X3_40 job_102 jrf_102_6 ?_
    refine J_top (b := nI ((bst (fS sq B G P) r).1)) (hI.2.2.1) ?_
    refine Jn_if_le (pc := 22) (tgt := 52) dX3_seek_22 (by decide) (by omega) (fun h22 => ?_) (fun h22 => ?_)
    · 
      refine K_vret (pc := 52) dX3_seek_52 rfl ⟨rfl, ?_⟩
      exact ⟨sI_z hI (by omega) h22, hjd⟩
    · 
      refine J_aload_n (pc := 25) dX3_seek_25 rfl ?_
      refine J_iload (pc := 26) dX3_seek_26 rfl ?_
      refine K_callVi (pc := 28) (id := 102) (As := [_]) dX3_seek_28 kl_X3_68 rfl job_102 rfl rfl (Nat.le_of_ble_eq_true rfl) (c_putsB (x := x) (d := d) (B := B) (mm := mm) (r := r) (f := (fS sq B G P)) (by omega) hI hc hok hw hat hP h48 hid (fun a b h => fS_c h)) (fun v24 m24 h24 => ?_)
      obtain ⟨cc, rfl, hno, hyes, hnf⟩ := h24
      refine Jp_eq (pc := 31) (tgt := 46) dX3_seek_31 (by decide) (fun h31 => ?_) (fun h31 => ?_)
      · 
        refine Jn_iinc (pc := 46) (ls' := [some _, some _, some _, some _, some _]) dX3_seek_46 rfl knz_1 rfl rfl ?_
        refine J_goto (pc := 49) (tgt := 12) dX3_seek_49 (by decide) ?_
        exact ih12 _ _ ⟨rfl, hno h31, jdI_c hjd (hnf 125 (by decide) (by decide) (by decide))⟩
      · 
        have hlk := hyes h31
        subst hlk
        have hL := sI_look (P := P) (r := r) hI
        have hrow : ∀ q, q < 48 → (lookM mm G P r) 118 q = rowL B G P r q := fun q hq => row_eq hok hI.1 hw hat h48 hq
        refine J_aload_n (pc := 34) dX3_seek_34 rfl ?_
        refine J_iload (pc := 35) dX3_seek_35 rfl ?_
        refine J_aload_n (pc := 37) dX3_seek_37 rfl ?_
        refine J_aload_n (pc := 38) dX3_seek_38 rfl ?_
        refine J_iload_n (pc := 39) dX3_seek_39 rfl ?_
        have hB : ∀ k, k ∉ [94, 102, 109, 114, 118, 119, 125] → (lookM mm G P r) k = B k := fun k hk => (lookM_i (by simp at hk; omega) (by simp at hk; omega) (by simp at hk; omega)).trans (hI.2.1.1 k hk)
        refine K_callVi (pc := 40) (id := 102) (As := [_, _]) dX3_seek_40 kl_X3_72 rfl job_102 rfl rfl (Nat.le_of_ble_eq_true rfl) (c_allSeen (x := x) (d := d) (m := (lookM mm G P r)) (tx := tx) (sq := sq) (fun q hq => by rw [hrow q hq]; exact rowL_in hq) (jdI_c hjd (lookM_i (by decide) (by decide) (by decide))) (wfX_c (hB 78 (by decide)) (fun t ht => hB _ (by simp; omega)) hX) (fun q hq l e => (seeQ_c (wfX_80 hX) (fun k hk => hB k (by simp; omega)) q l e).trans (hsq q hq l e))) (fun v36 m36 h36 => ?_)
        obtain ⟨rfl, hxA, hjdA⟩ := h36
        have hA := sI_ex hL hxA
        have eA : cnt (allQ sq ((lookM mm G P r) 118) ((lookM mm G P r) 115 2)) 48 = fS sq B G P r := by
          rw [hB 115 (by decide)]
          exact fS_c hrow
        rw [eA]
        have hA7 := cnt_le (allQ sq (rowL B G P r) (B 115 2)) 48
        refine K_callVv (pc := 43) (id := 102) (As := [_, _]) dX3_seek_43 kl_X3_76 rfl job_102 rfl rfl (Nat.le_of_ble_eq_true rfl) (c_weigh (m := m36) (r := r) (k := fS sq B G P r) (l := (bst (fS sq B G P) r).1) hA.2.2.1 (by unfold fS; omega) (by omega)) (fun m39 h39 => ?_)
        subst h39
        have hjdA : jdI sq (weighM m36 r (fS sq B G P r) (bst (fS sq B G P) r).1) := jdI_c hjdA (weighM_i (by decide))
        refine Jn_iinc (pc := 46) (ls' := [some _, some _, some _, some _, some _]) dX3_seek_46 rfl knz_1 rfl rfl ?_
        refine J_goto (pc := 49) (tgt := 12) dX3_seek_49 (by decide) ?_
        exact ih12 _ _ ⟨rfl, sI_weigh hA, hjdA⟩
  ·
    obtain ⟨rfl, hI, hjd⟩ := hI12
    refine J_iload (pc := 12) dX3_seek_12 rfl ?_
    refine J_iload_n (pc := 14) dX3_seek_14 rfl ?_
    refine Jn_ge (pc := 15) (tgt := 52) dX3_seek_15 (by decide) (by have := tot_le G; omega) (by have := tot_le G; omega) (fun h15 => ?_) (fun h15 => absurd h15 (by omega))
    refine K_vret (pc := 52) dX3_seek_52 rfl ⟨rfl, ?_⟩
    exact ⟨hI, hjd⟩
