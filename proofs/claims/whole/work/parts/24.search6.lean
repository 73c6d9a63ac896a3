theorem cnt_s (c : Nat → Bool) (n : Nat) : cnt c (n + 1) = cnt c n + (if c n = true then 1 else 0) := by
  by_cases h : c n = true
  · rw [cnt_t h, if_pos h]
  · rw [cnt_f h, if_neg h]
def allQ (sq : Nat → Int32 → Int32 → Bool) (F : Nat → Int32) (w : Int32) : Nat → Bool := fun p => sq p (F p) (nI (edgN F w p))
set_option maxRecDepth 100000 in
set_option maxHeartbeats 400000 in
theorem c_allSeen {x : jX} {m : jm} {d : Nat} {tx : Int32} {sq : Nat → Int32 → Int32 → Bool} (hl : ∀ p, p < 48 → vp_in (m 118 p) 100) (hjd0 : jdI sq m) (hw : wfX m tx) (hsq : ∀ p, p < 48 → ∀ l e, seeQ m tx p l e = sq p l e) : Ct x (d + 4) eX3_allSeen [.ref (jxb x + 102), .ref (jxb x + 74), .int tx] m (ji fun v m' => v = nI (cnt (allQ sq (m 118) (m 115 2)) 48) ∧ exs [94, 119, 125] m m' ∧ jdI sq m') := by
  refine J_start (by decide +kernel) (Nat.le_of_ble_eq_true rfl) (ls := [some (.ref (jxb x + 102)), some (.ref (jxb x + 74)), some (.int tx), none, none]) rfl rfl ?_
  refine J_aload_n (pc := 0) dX3_allSeen_0 rfl ?_
  refine K_getR (pc := 1) dX3_allSeen_1 kf_X3_21 job_102 jrf_102_1 ?_
  refine J_aload_n (pc := 4) dX3_allSeen_4 rfl ?_
  refine K_getR (pc := 5) dX3_allSeen_5 kf_X3_14 job_102 jrf_102_0 ?_
  refine K_getR (pc := 8) dX3_allSeen_8 kf_X3_92 job_103 jrf_103_12 ?_
  refine J_iconst (pc := 11) dX3_allSeen_11 kni_2 ?_
  refine K_ialdn (pc := 12) (id := 115) dX3_allSeen_12 jar_115 (by decide) (by decide) ?_
  refine K_callVv (pc := 13) (id := 116) (As := [_]) dX3_allSeen_13 kl_X3_95 rfl job_116 rfl rfl (Nat.le_of_ble_eq_true rfl) (c_findEdges (m := m) (e := 116) (Or.inr rfl) (m 115 2)) (fun m13 h13 => ?_)
  obtain ⟨h13e, h13f⟩ := h13
  refine J_iconst (pc := 16) dX3_allSeen_16 kni_0 ?_
  refine J_istore_n (pc := 17) (ls' := [some _, some _, some _, some _, none]) dX3_allSeen_17 rfl (Nat.le_of_ble_eq_true rfl) rfl ?_
  refine J_iconst (pc := 18) dX3_allSeen_18 kni_0 ?_
  refine J_istore (pc := 19) (ls' := [some _, some _, some _, some _, some _]) dX3_allSeen_19 rfl (Nat.le_of_ble_eq_true rfl) rfl ?_
  refine K_inv (pc := 21) 48 (fun i lsq mq => lsq = [some (.ref (jxb x + 102)), some (.ref (jxb x + 74)), some (.int tx), some (.int (nI (cnt (allQ sq (m 118) (m 115 2)) i))), some (.int (nI i))] ∧ (exs [94, 125] m13 mq) ∧ (jdI sq mq)) (fun i hi lsq mm hI21 ih21 => ?_) (fun lsq mm hI21 => ?_) 0 (Nat.zero_le _) _ _ (⟨rfl, fun _ _ => rfl, jdI_c hjd0 (h13f 125 (by decide))⟩)
  ·
    obtain ⟨rfl, hx, hjd⟩ := hI21
    have el : m 118 i = nI (tN (m 118 i)) := tN_eq (hl i hi) (by decide)
    have hc48 := cnt_le (allQ sq (m 118) (m 115 2)) i
    have hX : ∀ k, k ≠ 94 → k ≠ 125 → k ≠ 119 → mm k = m k := fun k h1 h2 h3 => (hx k (by simp; omega)).trans (h13f k (by omega))
    have h34 := c_seenOnce (x := x) (d := d) (m := mm) (p := i) (l := (tN (m 118 i))) (e := (edgN (m 118) (m 115 2) i)) (tx := tx) (sq := sq) hi (tN_lt (hl i hi) (by decide)) (by have := edgI_le (m 118) (m 115 2) 48 i; unfold edgN; omega) (by rw [hX 118 (by decide) (by decide) (by decide)]; exact el) (by rw [hx 119 (by decide)]; exact h13e i hi) hjd (wfX_c (hX 78 (by decide) (by decide) (by decide)) (fun t ht => hX _ (by omega) (by omega) (by omega)) hw) (by
      rw [seeP_Q, hX 118 (by decide) (by decide) (by decide), ← el, hx 119 (by decide), h13e i hi, seeQ_c (wfX_80 hw) (fun k hk => hX k (by omega) (by omega) (by omega)), hsq i hi]
      rfl)
    refine J_iload (pc := 21) dX3_allSeen_21 rfl ?_
    refine J_bipush (pc := 23) dX3_allSeen_23 knb_48 ?_
    refine Jn_ge (pc := 25) (tgt := 45) dX3_allSeen_25 (by decide) (by omega) (by omega) (fun h25 => absurd h25 (by omega)) (fun h25 => ?_)
    refine J_iload_n (pc := 28) dX3_allSeen_28 rfl ?_
    refine J_aload_n (pc := 29) dX3_allSeen_29 rfl ?_
    refine J_iload (pc := 30) dX3_allSeen_30 rfl ?_
    refine J_aload_n (pc := 32) dX3_allSeen_32 rfl ?_
    refine J_iload_n (pc := 33) dX3_allSeen_33 rfl ?_
    refine K_callVi (pc := 34) (id := 102) (As := [_, _, _]) dX3_allSeen_34 kl_X3_99 rfl job_102 rfl rfl (Nat.le_of_ble_eq_true rfl) (h34) (fun v34 m34 q34 => ?_)
    obtain ⟨rfl, hx34, hjd34⟩ := q34
    refine J_iaddv (pc := 37) dX3_allSeen_37 (nI_add _ _) ?_
    refine J_istore_n (pc := 38) (ls' := [some _, some _, some _, some _, some _]) dX3_allSeen_38 rfl (Nat.le_of_ble_eq_true rfl) rfl ?_
    refine Jn_iinc (pc := 39) (ls' := [some _, some _, some _, some _, some _]) dX3_allSeen_39 rfl knz_1 rfl rfl ?_
    refine J_goto (pc := 42) (tgt := 21) dX3_allSeen_42 (by decide) ?_
    have ec : cnt (allQ sq (m 118) (m 115 2)) i + (if sq i (nI (tN (m 118 i))) (nI (edgN (m 118) (m 115 2) i)) = true then 1 else 0) = cnt (allQ sq (m 118) (m 115 2)) (i + 1) := by
      rw [cnt_s, allQ, ← el]
    exact ih21 _ _ ⟨by rw [ec], fun k hk => (hx34 k hk).trans (hx k hk), hjd34⟩
  ·
    obtain ⟨rfl, hx, hjd⟩ := hI21
    refine J_iload (pc := 21) dX3_allSeen_21 rfl ?_
    refine J_bipush (pc := 23) dX3_allSeen_23 knb_48 ?_
    refine Jn_ge (pc := 25) (tgt := 45) dX3_allSeen_25 (by decide) (by omega) (by omega) (fun h25 => ?_) (fun h25 => absurd h25 (by omega))
    refine J_iload_n (pc := 45) dX3_allSeen_45 rfl ?_
    refine K_iret (pc := 46) dX3_allSeen_46 rfl ⟨_, rfl, ?_⟩
    exact ⟨rfl, fun k hk => (hx k (fun q => hk (by simp at q ⊢; omega))).trans (h13f k (fun q => hk (by simp; omega))), hjd⟩
