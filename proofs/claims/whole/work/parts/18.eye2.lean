/-- a text that counts is sound, or there is none -/
def wfX (m : jm) (tx : Int32) : Prop := tx = NONEv ∨ (vp_in tx 14 ∧ ∃ n, n ≤ 96 ∧ m 78 (tN tx) = nI n ∧ wfC (m (80 + tN tx)) n)
/-- what a text gives -/
def textV (m : jm) (tx a b c d : Int32) : Int32 := worthV (m (80 + tN tx)) (tN (m 78 (tN tx))) a b c d
theorem c_worthV {x : jX} {m : jm} {d : Nat} {tx : Int32} (hn : ¬ tx = NONEv) (hw : wfX m tx) (a b c dd : Int32) : Ct x (d + 1) eX6_worth [.ref (jxb x + 74), .int tx, .int a, .int b, .int c, .int dd] m (ji fun v m' => v = textV m tx a b c dd ∧ exs [94] m m') := by
  obtain ⟨h1, n, h2, h3, h4⟩ := hw.resolve_left hn
  have h := c_worth (x := x) (m := m) (d := d) (tN_lt h1 (by decide)) h3 h2 h4 a b c dd
  rw [← tN_eq h1 (by decide)] at h
  refine Ct_mono (fun r m' q => ?_) h
  obtain ⟨v, rfl, q1, q2⟩ := q
  refine ⟨v, rfl, ?_, q2⟩
  rw [q1]
  unfold textV
  rw [h3, tN_n (by omega)]
def difS (m : jm) (e p : Nat) : Int32 := absV (m (e + 2) p - m (e + 1) p)
def seeP (m : jm) (e : Nat) (tx : Int32) (p : Nat) : Bool := if tx = NONEv then decide (nI 9 < difS m e p) else decide (¬ textV m tx (difS m e p) (m (e + 1) p) (m (e + 4) p) (m (e + 3) p) = 0)
set_option maxRecDepth 100000 in
set_option maxHeartbeats 400000 in
theorem c_sees {x : jX} {m : jm} {d : Nat} {e p : Nat} (he : jEy e) (hp : p < 48) {tx : Int32} (hw : wfX m tx) : Ct x (d + 2) eX0_sees [.ref (jxb x + e), .int (nI p), .ref (jxb x + 74), .int tx] m (ji fun v m' => v = jb (seeP m e tx p = true) ∧ exs [94] m m') := by
  refine J_start (by decide +kernel) (Nat.le_of_ble_eq_true rfl) (ls := [some (.ref (jxb x + e)), some (.int (nI p)), some (.ref (jxb x + 74)), some (.int tx), none]) rfl rfl ?_
  have he9 := jEy_c he
  refine J_aload_n (pc := 0) dX0_sees_0 rfl ?_
  refine K_getR (pc := 1) (t := e + 2) dX0_sees_1 kf_X0_15 (jEy_obj he) (jEy_ref he 1 (by decide)) ?_
  refine J_iload_n (pc := 4) dX0_sees_4 rfl ?_
  refine K_ialdn (pc := 5) (id := (e + 2)) dX0_sees_5 (jEy_arr he 1 (by decide) (by decide)) (by omega) (by decide) ?_
  refine J_aload_n (pc := 6) dX0_sees_6 rfl ?_
  refine K_getR (pc := 7) (t := e + 1) dX0_sees_7 kf_X0_9 (jEy_obj he) (jEy_ref he 0 (by decide)) ?_
  refine J_iload_n (pc := 10) dX0_sees_10 rfl ?_
  refine K_ialdn (pc := 11) (id := (e + 1)) dX0_sees_11 (jEy_arr he 0 (by decide) (by decide)) (by omega) (by decide) ?_
  refine J_isub (pc := 12) dX0_sees_12 ?_
  refine K_absV (pc := 13) dX0_sees_13 kx_X0_57 (Nat.le_of_ble_eq_true rfl) ?_
  refine J_istore (pc := 16) (ls' := [some _, some _, some _, some _, some _]) dX0_sees_16 rfl (Nat.le_of_ble_eq_true rfl) rfl ?_
  refine J_iload_n (pc := 18) dX0_sees_18 rfl ?_
  refine J_ldc (pc := 19) dX0_sees_19 kc_X0_38 ?_
  refine J_icmp_ne (pc := 21) (tgt := 37) dX0_sees_21 (by decide) (fun h21 => ?_) (fun h21 => ?_)
  · 
    refine J_aload_n (pc := 37) dX0_sees_37 rfl ?_
    refine J_iload_n (pc := 38) dX0_sees_38 rfl ?_
    refine J_iload (pc := 39) dX0_sees_39 rfl ?_
    refine J_aload_n (pc := 41) dX0_sees_41 rfl ?_
    refine K_getR (pc := 42) (t := e + 1) dX0_sees_42 kf_X0_9 (jEy_obj he) (jEy_ref he 0 (by decide)) ?_
    refine J_iload_n (pc := 45) dX0_sees_45 rfl ?_
    refine K_ialdn (pc := 46) (id := (e + 1)) dX0_sees_46 (jEy_arr he 0 (by decide) (by decide)) (by omega) (by decide) ?_
    refine J_aload_n (pc := 47) dX0_sees_47 rfl ?_
    refine K_getR (pc := 48) (t := e + 4) dX0_sees_48 kf_X0_21 (jEy_obj he) (jEy_ref he 3 (by decide)) ?_
    refine J_iload_n (pc := 51) dX0_sees_51 rfl ?_
    refine K_ialdn (pc := 52) (id := (e + 4)) dX0_sees_52 (jEy_arr he 3 (by decide) (by decide)) (by omega) (by decide) ?_
    refine J_aload_n (pc := 53) dX0_sees_53 rfl ?_
    refine K_getR (pc := 54) (t := e + 3) dX0_sees_54 kf_X0_18 (jEy_obj he) (jEy_ref he 2 (by decide)) ?_
    refine J_iload_n (pc := 57) dX0_sees_57 rfl ?_
    refine K_ialdn (pc := 58) (id := (e + 3)) dX0_sees_58 (jEy_arr he 2 (by decide) (by decide)) (by omega) (by decide) ?_
    refine K_callVi (pc := 59) (id := 74) (As := [_, _, _, _, _]) dX0_sees_59 kl_X0_66 rfl job_74 rfl rfl (Nat.le_of_ble_eq_true rfl) (c_worthV h21 hw _ _ _ _) (fun v59 m59 h59 => ?_)
    obtain ⟨hv59, hx59⟩ := h59
    refine J_if_eq (pc := 62) (tgt := 69) dX0_sees_62 (by decide) (fun h62 => ?_) (fun h62 => ?_)
    · 
      refine J_iconst (pc := 69) dX0_sees_69 kni_0 ?_
      refine K_zret (pc := 70) dX0_sees_70 rfl rfl ⟨_, rfl, ?_⟩
      refine ⟨?_, hx59⟩
      unfold seeP
      rw [if_neg h21]
      exact jbF (by rw [decide_eq_true_eq]; exact fun q => q (hv59.symm.trans h62))
    · 
      refine J_iconst (pc := 65) dX0_sees_65 kni_1 ?_
      refine J_goto (pc := 66) (tgt := 70) dX0_sees_66 (by decide) ?_
      refine K_zret (pc := 70) dX0_sees_70 rfl rfl ⟨_, rfl, ?_⟩
      refine ⟨?_, hx59⟩
      unfold seeP
      rw [if_neg h21]
      exact jbT (by rw [decide_eq_true_eq]; exact fun q => h62 (hv59.trans q))
  · 
    refine J_iload (pc := 24) dX0_sees_24 rfl ?_
    refine J_bipush (pc := 26) dX0_sees_26 knb_9 ?_
    refine J_icmp_le (pc := 28) (tgt := 35) dX0_sees_28 (by decide) (fun h28 => ?_) (fun h28 => ?_)
    · 
      refine J_iconst (pc := 35) dX0_sees_35 kni_0 ?_
      refine K_zret (pc := 36) dX0_sees_36 rfl rfl ⟨_, rfl, ?_⟩
      refine ⟨?_, exs_rf _ _⟩
      unfold seeP
      rw [if_pos h21]
      exact jbF (by rw [decide_eq_true_eq]; exact Int32.not_lt.mpr h28)
    · 
      refine J_iconst (pc := 31) dX0_sees_31 kni_1 ?_
      refine J_goto (pc := 32) (tgt := 36) dX0_sees_32 (by decide) ?_
      refine K_zret (pc := 36) dX0_sees_36 rfl rfl ⟨_, rfl, ?_⟩
      refine ⟨?_, exs_rf _ _⟩
      unfold seeP
      rw [if_pos h21]
      exact jbT (by rw [decide_eq_true_eq]; exact Int32.not_le.mp h28)
theorem seeP_c {m m' : jm} {e : Nat} {tx : Int32} (h : ∀ i, i ≠ 94 → i ≠ e + 5 → m' i = m i) (h14 : wfX m tx) (he : jEy e) (p : Nat) : seeP m' e tx p = seeP m e tx p := by
  have he9 := jEy_c he
  unfold seeP difS textV
  rw [h (e + 2) (by omega) (by omega), h (e + 1) (by omega) (by omega), h (e + 4) (by omega) (by omega), h (e + 3) (by omega) (by omega), h 78 (by omega) (by omega)]
  by_cases hn : tx = NONEv
  · rw [if_pos hn, if_pos hn]
  · have := tN_lt (h14.resolve_left hn).1 (by decide)
    rw [if_neg hn, if_neg hn, h (80 + tN tx) (by omega) (by omega)]
theorem wfX_c {m m' : jm} {tx : Int32} (h7 : m' 78 = m 78) (h8 : ∀ t, t < 14 → m' (80 + t) = m (80 + t)) (h : wfX m tx) : wfX m' tx := by
  rcases h with h | ⟨h1, n, h2, h3, h4⟩
  · exact Or.inl h
  · exact Or.inr ⟨h1, n, h2, by rw [h7]; exact h3, by rw [h8 _ (tN_lt h1 (by decide))]; exact h4⟩
set_option maxRecDepth 100000 in
set_option maxHeartbeats 400000 in
theorem c_spotAll {x : jX} {m : jm} {d : Nat} {e : Nat} (he : jEy e) {tx : Int32} (hw : wfX m tx) : Ct x (d + 3) eX0_spotAll [.ref (jxb x + e), .ref (jxb x + 74), .int tx] m (ji fun v m' => v = nI (cnt (seeP m e tx) 48) ∧ exs [94, e + 5] m m' ∧ ∀ p, p < 48 → m' (e + 5) p = jb (seeP m e tx p = true)) := by
  refine J_start (by decide +kernel) (Nat.le_of_ble_eq_true rfl) (ls := [some (.ref (jxb x + e)), some (.ref (jxb x + 74)), some (.int tx), none, none]) rfl rfl ?_
  have he9 := jEy_c he
  refine J_iconst (pc := 0) dX0_spotAll_0 kni_0 ?_
  refine J_istore_n (pc := 1) (ls' := [some _, some _, some _, some _, none]) dX0_spotAll_1 rfl (Nat.le_of_ble_eq_true rfl) rfl ?_
  refine J_iconst (pc := 2) dX0_spotAll_2 kni_0 ?_
  refine J_istore (pc := 3) (ls' := [some _, some _, some _, some _, some _]) dX0_spotAll_3 rfl (Nat.le_of_ble_eq_true rfl) rfl ?_
  refine K_inv (pc := 5) 48 (fun i lsq mq => lsq = [some (.ref (jxb x + e)), some (.ref (jxb x + 74)), some (.int tx), some (.int (nI (cnt (seeP m e tx) i))), some (.int (nI i))] ∧ (exs [94, e + 5] m mq) ∧ (∀ p, p < i → mq (e + 5) p = jb (seeP m e tx p = true))) (fun i hi lsq mm hI5 ih5 => ?_) (fun lsq mm hI5 => ?_) 0 (Nat.zero_le _) _ _ (⟨rfl, exs_rf _ _, fun p hp => absurd hp (Nat.not_lt_zero _)⟩)
  ·
    obtain ⟨rfl, hx, hs⟩ := hI5
    refine J_iload (pc := 5) dX0_spotAll_5 rfl ?_
    refine J_bipush (pc := 7) dX0_spotAll_7 knb_48 ?_
    refine Jn_ge (pc := 9) (tgt := 51) dX0_spotAll_9 (by decide) (by omega) (by omega) (fun h9 => absurd h9 (by omega)) (fun h9 => ?_)
    refine J_aload_n (pc := 12) dX0_spotAll_12 rfl ?_
    refine K_getR (pc := 13) (t := e + 5) dX0_spotAll_13 kf_X0_24 (jEy_obj he) (jEy_ref he 4 (by decide)) ?_
    refine J_iload (pc := 16) dX0_spotAll_16 rfl ?_
    refine J_aload_n (pc := 18) dX0_spotAll_18 rfl ?_
    refine J_iload (pc := 19) dX0_spotAll_19 rfl ?_
    refine J_aload_n (pc := 21) dX0_spotAll_21 rfl ?_
    refine J_iload_n (pc := 22) dX0_spotAll_22 rfl ?_
    refine K_callVi (pc := 23) (id := e) (As := [_, _, _]) dX0_spotAll_23 kl_X0_72 rfl (jEy_obj he) rfl rfl (Nat.le_of_ble_eq_true rfl) (c_sees (m := mm) he hi (wfX_c (hx 78 (by simp; omega)) (fun t ht => hx (80 + t) (by simp; omega)) hw)) (fun v23 m23 h23 => ?_)
    obtain ⟨rfl, h23⟩ := h23
    refine K_zastn (pc := 26) (id := (e + 5)) (w := jb (seeP mm e tx i = true)) dX0_spotAll_26 (jEy_spots he) (by omega) (by decide) (jb_nar _) ?_
    refine J_iload_n (pc := 27) dX0_spotAll_27 rfl ?_
    refine J_aload_n (pc := 28) dX0_spotAll_28 rfl ?_
    refine K_getR (pc := 29) (t := e + 5) dX0_spotAll_29 kf_X0_24 (jEy_obj he) (jEy_ref he 4 (by decide)) ?_
    refine J_iload (pc := 32) dX0_spotAll_32 rfl ?_
    refine K_zaldn (pc := 34) (id := (e + 5)) dX0_spotAll_34 (jEy_spots he) (by omega) (by decide) ?_
    refine J_if_eq (pc := 35) (tgt := 42) dX0_spotAll_35 (by decide) (fun h35 => ?_) (fun h35 => ?_)
    · 
      refine J_iconst (pc := 42) dX0_spotAll_42 kni_0 ?_
      refine J_iaddv (pc := 43) dX0_spotAll_43 (nI_add _ _) ?_
      refine J_istore_n (pc := 44) (ls' := [some _, some _, some _, some _, some _]) dX0_spotAll_44 rfl (Nat.le_of_ble_eq_true rfl) rfl ?_
      refine Jn_iinc (pc := 45) (ls' := [some _, some _, some _, some _, some _]) dX0_spotAll_45 rfl knz_1 rfl rfl ?_
      refine J_goto (pc := 48) (tgt := 5) dX0_spotAll_48 (by decide) ?_
      have hsee := seeP_c (m := m) (m' := mm) (e := e) (tx := tx) (fun k k1 k2 => hx k (by simp only [List.mem_cons, List.not_mem_nil, or_false, not_or]; exact ⟨k1, k2⟩)) hw he i
      have ex2 : exs [94, e + 5] m (mup m23 (e + 5) i (jb (seeP mm e tx i = true))) := exs_up (exs_tr hx (exs_w h23 (by intro i hi; rw [List.mem_singleton.mp hi]; simp))) (by simp)
      have hs2 : ∀ p, p < i + 1 → (mup m23 (e + 5) i (jb (seeP mm e tx i = true))) (e + 5) p = jb (seeP m e tx p = true) := fun p hp => by
        by_cases ep : p = i
        · rw [ep, mup_s, hsee]
        · rw [mup_j ep, h23 (e + 5) (by simp; omega)]
          exact hs p (by omega)
      have hc : cnt (seeP m e tx) (i + 1) = cnt (seeP m e tx) i + 0 := cnt_f (by rw [mup_s] at h35; rw [← hsee]; exact fun q => absurd h35 (by rw [jb, if_pos q]; decide))
      rw [← hc]
      exact ih5 _ _ ⟨rfl, ex2, hs2⟩
    · 
      refine J_iconst (pc := 38) dX0_spotAll_38 kni_1 ?_
      refine J_goto (pc := 39) (tgt := 43) dX0_spotAll_39 (by decide) ?_
      refine J_iaddv (pc := 43) dX0_spotAll_43 (nI_add _ _) ?_
      refine J_istore_n (pc := 44) (ls' := [some _, some _, some _, some _, some _]) dX0_spotAll_44 rfl (Nat.le_of_ble_eq_true rfl) rfl ?_
      refine Jn_iinc (pc := 45) (ls' := [some _, some _, some _, some _, some _]) dX0_spotAll_45 rfl knz_1 rfl rfl ?_
      refine J_goto (pc := 48) (tgt := 5) dX0_spotAll_48 (by decide) ?_
      have hsee := seeP_c (m := m) (m' := mm) (e := e) (tx := tx) (fun k k1 k2 => hx k (by simp only [List.mem_cons, List.not_mem_nil, or_false, not_or]; exact ⟨k1, k2⟩)) hw he i
      have ex2 : exs [94, e + 5] m (mup m23 (e + 5) i (jb (seeP mm e tx i = true))) := exs_up (exs_tr hx (exs_w h23 (by intro i hi; rw [List.mem_singleton.mp hi]; simp))) (by simp)
      have hs2 : ∀ p, p < i + 1 → (mup m23 (e + 5) i (jb (seeP mm e tx i = true))) (e + 5) p = jb (seeP m e tx p = true) := fun p hp => by
        by_cases ep : p = i
        · rw [ep, mup_s, hsee]
        · rw [mup_j ep, h23 (e + 5) (by simp; omega)]
          exact hs p (by omega)
      have hc : cnt (seeP m e tx) (i + 1) = cnt (seeP m e tx) i + 1 := cnt_t (by rw [mup_s] at h35; rw [← hsee]; by_cases q : seeP mm e tx i = true; exact q; exact absurd (by rw [jb, if_neg q]) h35)
      rw [← hc]
      exact ih5 _ _ ⟨rfl, ex2, hs2⟩
  ·
    obtain ⟨rfl, hx, hs⟩ := hI5
    refine J_iload (pc := 5) dX0_spotAll_5 rfl ?_
    refine J_bipush (pc := 7) dX0_spotAll_7 knb_48 ?_
    refine Jn_ge (pc := 9) (tgt := 51) dX0_spotAll_9 (by decide) (by omega) (by omega) (fun h9 => ?_) (fun h9 => absurd h9 (by omega))
    refine J_iload_n (pc := 51) dX0_spotAll_51 rfl ?_
    refine K_iret (pc := 52) dX0_spotAll_52 rfl ⟨_, rfl, ?_⟩
    exact ⟨rfl, hx, hs⟩
set_option maxRecDepth 100000 in
set_option maxHeartbeats 400000 in
theorem c_allDiffering {x : jX} {m : jm} {d : Nat} {e : Nat} (he : jEy e) : Ct x (d + 1) eX0_allDiffering [.ref (jxb x + e)] m (jp (sumV (difS m e) 48) m) := by
  refine J_start (by decide +kernel) (Nat.le_of_ble_eq_true rfl) (ls := [some (.ref (jxb x + e)), none, none]) rfl rfl ?_
  refine J_iconst (pc := 0) dX0_allDiffering_0 kni_0 ?_
  refine J_istore_n (pc := 1) (ls' := [some _, some _, none]) dX0_allDiffering_1 rfl (Nat.le_of_ble_eq_true rfl) rfl ?_
  refine J_iconst (pc := 2) dX0_allDiffering_2 kni_0 ?_
  refine J_istore_n (pc := 3) (ls' := [some _, some _, some _]) dX0_allDiffering_3 rfl (Nat.le_of_ble_eq_true rfl) rfl ?_
  refine K_for' (pc := 4) 48 (fun i => [some (.ref (jxb x + e)), some (.int ((sumV (difS m e) i))), some (.int (nI i))]) (fun i => m) (by rfl) (by rfl) (fun i hi ih4 => ?_) ?_
  ·
    show K x _ _ 4 [some (.ref (jxb x + e)), some (.int ((sumV (difS m e) i))), some (.int (nI i))] _ m _
    refine J_iload_n (pc := 4) dX0_allDiffering_4 rfl ?_
    refine J_bipush (pc := 5) dX0_allDiffering_5 knb_48 ?_
    refine Jn_ge (pc := 7) (tgt := 35) dX0_allDiffering_7 (by decide) (by omega) (by omega) (fun h7 => absurd h7 (by omega)) (fun h7 => ?_)
    refine J_iload_n (pc := 10) dX0_allDiffering_10 rfl ?_
    refine J_aload_n (pc := 11) dX0_allDiffering_11 rfl ?_
    refine K_getR (pc := 12) (t := e + 2) dX0_allDiffering_12 kf_X0_15 (jEy_obj he) (jEy_ref he 1 (by decide)) ?_
    refine J_iload_n (pc := 15) dX0_allDiffering_15 rfl ?_
    refine K_ialdn (pc := 16) (id := (e + 2)) dX0_allDiffering_16 (jEy_arr he 1 (by decide) (by decide)) (by omega) (by decide) ?_
    refine J_aload_n (pc := 17) dX0_allDiffering_17 rfl ?_
    refine K_getR (pc := 18) (t := e + 1) dX0_allDiffering_18 kf_X0_9 (jEy_obj he) (jEy_ref he 0 (by decide)) ?_
    refine J_iload_n (pc := 21) dX0_allDiffering_21 rfl ?_
    refine K_ialdn (pc := 22) (id := (e + 1)) dX0_allDiffering_22 (jEy_arr he 0 (by decide) (by decide)) (by omega) (by decide) ?_
    refine J_isub (pc := 23) dX0_allDiffering_23 ?_
    refine K_absV (pc := 24) dX0_allDiffering_24 kx_X0_57 (Nat.le_of_ble_eq_true rfl) ?_
    refine J_iadd (pc := 27) dX0_allDiffering_27 ?_
    refine J_istore_n (pc := 28) (ls' := [some _, some _, some _]) dX0_allDiffering_28 rfl (Nat.le_of_ble_eq_true rfl) rfl ?_
    refine Jn_iinc (pc := 29) (ls' := [some _, some _, some _]) dX0_allDiffering_29 rfl knz_1 rfl rfl ?_
    refine J_goto (pc := 32) (tgt := 4) dX0_allDiffering_32 (by decide) ?_
    exact ih4
  ·
    show K x _ _ 4 [some (.ref (jxb x + e)), some (.int ((sumV (difS m e) 48))), some (.int (nI 48))] _ m _
    refine J_iload_n (pc := 4) dX0_allDiffering_4 rfl ?_
    refine J_bipush (pc := 5) dX0_allDiffering_5 knb_48 ?_
    refine Jn_ge (pc := 7) (tgt := 35) dX0_allDiffering_7 (by decide) (by omega) (by omega) (fun h7_2 => ?_) (fun h7_2 => absurd h7_2 (by omega))
    refine J_iload_n (pc := 35) dX0_allDiffering_35 rfl ?_
    refine K_iret (pc := 36) dX0_allDiffering_36 rfl ⟨_, rfl, ?_⟩
    exact ⟨rfl, rfl⟩

-- what is learnt
abbrev bitP (s : Int32) (q : Nat) : Prop := (s >>> (nI q &&& 31)) &&& nI 1 = nI 1
def difP (m : jm) (s : Int32) (i j q : Nat) : Prop := bitP s q ∧ ¬ m (129 + i) q = m (129 + j) q
set_option maxRecDepth 100000 in
set_option maxHeartbeats 400000 in
theorem c_differ {x : jX} {m : jm} {d : Nat} {a b : Nat} (ha : a < 8) (hb : b < 8) (w : Int32) : Ct x d eX2_differ [.ref (jxb x + 126), .int (nI a), .int (nI b), .int w] m (jp (jbp (∃ q, q < 4 ∧ difP m w a b q)) m) := by
  refine J_start (by decide +kernel) (Nat.le_of_ble_eq_true rfl) (ls := [some (.ref (jxb x + 126)), some (.int (nI a)), some (.int (nI b)), some (.int w), none, none]) rfl rfl ?_
  refine J_iconst (pc := 0) dX2_differ_0 kni_0 ?_
  refine J_istore (pc := 1) (ls' := [some _, some _, some _, some _, some _, none]) dX2_differ_1 rfl (Nat.le_of_ble_eq_true rfl) rfl ?_
  refine K_inv (pc := 3) 4 (fun i lsq mq => lsq = [some (.ref (jxb x + 126)), some (.int (nI a)), some (.int (nI b)), some (.int w), some (.int (nI i)), none] ∧ (m = mq) ∧ (∀ q, q < i → ¬ difP m w a b q)) (fun i hi lsq mm hI3 ih3 => ?_) (fun lsq mm hI3 => ?_) 0 (Nat.zero_le _) _ _ (⟨rfl, rfl, fun q hq => absurd hq (Nat.not_lt_zero _)⟩)
  ·
    obtain ⟨rfl, hm, hn⟩ := hI3
    subst hm
    refine J_iload (pc := 3) dX2_differ_3 rfl ?_
    refine J_iconst (pc := 5) dX2_differ_5 kni_4 ?_
    refine Jn_ge (pc := 6) (tgt := 60) dX2_differ_6 (by decide) (by omega) (by omega) (fun h6 => absurd h6 (by omega)) (fun h6 => ?_)
    refine J_iload_n (pc := 9) dX2_differ_9 rfl ?_
    refine J_iload (pc := 10) dX2_differ_10 rfl ?_
    refine J_ishr (pc := 12) dX2_differ_12 ?_
    refine J_iconst (pc := 13) dX2_differ_13 kni_1 ?_
    refine J_iand (pc := 14) dX2_differ_14 ?_
    refine J_iconst (pc := 15) dX2_differ_15 kni_1 ?_
    refine K_merge (jc := 24) (ls' := [some (.ref (jxb x + 126)), some (.int (nI a)), some (.int (nI b)), some (.int w), some (.int (nI i)), none]) (st' := [.int (jb (bitP w i))]) (m' := m) ?_ (fun hj24 => ?_)
    ·
      refine J_istore (pc := 24) (ls' := [some _, some _, some _, some _, some _, some _]) dX2_differ_24 rfl (Nat.le_of_ble_eq_true rfl) rfl ?_
      refine J_iload (pc := 26) dX2_differ_26 rfl ?_
      refine Jb_eq (pc := 28) (tgt := 54) dX2_differ_28 (by decide) (fun h28 => ?_) (fun h28 => ?_)
      · 
        refine Jn_iinc (pc := 54) (ls' := [some _, some _, some _, some _, some _, some _]) dX2_differ_54 rfl knz_1 rfl rfl ?_
        refine J_goto (pc := 57) (tgt := 3) dX2_differ_57 (by decide) ?_
        refine J_wk' (ih3 [some (.ref (jxb x + 126)), some (.int (nI a)), some (.int (nI b)), some (.int w), some (.int (nI (i + 1))), none] _ ⟨rfl, rfl, fun q hq => by
            by_cases eq : q = i
            · rw [eq]; exact fun r => h28 r.1
            · exact hn q (by omega)⟩) rfl ?_
        rintro (_ | _ | _ | _ | _ | _ | _ | _ | _ | _ | k) v hv <;> first | exact hv | cases hv
      · 
        refine J_aload_n (pc := 31) dX2_differ_31 rfl ?_
        refine K_getR (pc := 32) dX2_differ_32 kf_X2_17 job_126 jrf_126_1 ?_
        refine J_iload_n (pc := 35) dX2_differ_35 rfl ?_
        refine K_aaldn (pc := 36) (t := 129 + a) dX2_differ_36 job_128 (by omega) (by decide) (jgr_asked (by omega)) ?_
        refine J_iload (pc := 37) dX2_differ_37 rfl ?_
        refine K_ialdn (pc := 39) (id := (129 + a)) dX2_differ_39 (jar_asked (j := a) (by omega)) (by omega) (by decide) ?_
        refine J_aload_n (pc := 40) dX2_differ_40 rfl ?_
        refine K_getR (pc := 41) dX2_differ_41 kf_X2_17 job_126 jrf_126_1 ?_
        refine J_iload_n (pc := 44) dX2_differ_44 rfl ?_
        refine K_aaldn (pc := 45) (t := 129 + b) dX2_differ_45 job_128 (by omega) (by decide) (jgr_asked (by omega)) ?_
        refine J_iload (pc := 46) dX2_differ_46 rfl ?_
        refine K_ialdn (pc := 48) (id := (129 + b)) dX2_differ_48 (jar_asked (j := b) (by omega)) (by omega) (by decide) ?_
        refine J_icmp_eq (pc := 49) (tgt := 54) dX2_differ_49 (by decide) (fun h49 => ?_) (fun h49 => ?_)
        · 
          refine Jn_iinc (pc := 54) (ls' := [some _, some _, some _, some _, some _, some _]) dX2_differ_54 rfl knz_1 rfl rfl ?_
          refine J_goto (pc := 57) (tgt := 3) dX2_differ_57 (by decide) ?_
          refine J_wk' (ih3 [some (.ref (jxb x + 126)), some (.int (nI a)), some (.int (nI b)), some (.int w), some (.int (nI (i + 1))), none] _ ⟨rfl, rfl, fun q hq => by
              by_cases eq : q = i
              · rw [eq]; exact fun r => r.2 h49
              · exact hn q (by omega)⟩) rfl ?_
          rintro (_ | _ | _ | _ | _ | _ | _ | _ | _ | _ | k) v hv <;> first | exact hv | cases hv
        · 
          refine J_iconst (pc := 52) dX2_differ_52 kni_1 ?_
          refine K_zret (pc := 53) dX2_differ_53 rfl rfl ⟨_, rfl, ?_⟩
          exact ⟨jbpT ⟨i, hi, h28, h49⟩, rfl⟩
    ·
      refine J_icmp_ne (pc := 16) (tgt := 23) dX2_differ_16 (by decide) (fun h16 => ?_) (fun h16 => ?_)
      · 
        refine J_iconst (pc := 23) dX2_differ_23 kni_0 ?_
        have e24 : jb (bitP w i) = nI 0 := if_neg h16
        rw [e24] at hj24
        exact hj24
      · 
        refine J_iconst (pc := 19) dX2_differ_19 kni_1 ?_
        refine J_goto (pc := 20) (tgt := 24) dX2_differ_20 (by decide) ?_
        have e24 : jb (bitP w i) = nI 1 := if_pos h16
        rw [e24] at hj24
        exact hj24
  ·
    obtain ⟨rfl, hm, hn⟩ := hI3
    subst hm
    refine J_iload (pc := 3) dX2_differ_3 rfl ?_
    refine J_iconst (pc := 5) dX2_differ_5 kni_4 ?_
    refine Jn_ge (pc := 6) (tgt := 60) dX2_differ_6 (by decide) (by omega) (by omega) (fun h6 => ?_) (fun h6 => absurd h6 (by omega))
    refine J_iconst (pc := 60) dX2_differ_60 kni_0 ?_
    refine K_zret (pc := 61) dX2_differ_61 rfl rfl ⟨_, rfl, ?_⟩
    exact ⟨jbpF (fun ⟨q, hq, r⟩ => hn q hq r), rfl⟩

def apaP (m : jm) (w : Int32) (i j : Nat) : Prop := m 127 i = m 127 j ∨ ∃ q, q < 4 ∧ difP m w i j q
theorem Jp_ne {x : jX} {d k n : Nat} {me : jMe} {pc : Nat} {ls : List (Option Value)} {st : List Value} {L : jL} {M : jM} {P : jP} {c : Prop} {off : Int} {tgt : Nat} (hd : decode me.2.1 pc = .ok (.ifCond .ne off, 3)) (ht : (pc : Int) + off = (tgt : Int)) (kt : c → J x d k n me tgt ls st L M P) (kf : ¬ c → J x d k n me (pc + 3) ls st L M P) : J x d k n me pc ls (.int (jbp c) :: st) L M P := by
  refine J_if_ne hd ht (fun h => kt ?_) (fun h => kf fun q => ?_)
  · by_cases q : c
    · exact q
    · rw [← jbpF q] at h
      exact absurd nI_0 h
  · rw [← jbpT q] at h
    exact absurd h (by decide)
theorem Jp_eq {x : jX} {d k n : Nat} {me : jMe} {pc : Nat} {ls : List (Option Value)} {st : List Value} {L : jL} {M : jM} {P : jP} {c : Prop} {off : Int} {tgt : Nat} (hd : decode me.2.1 pc = .ok (.ifCond .eq off, 3)) (ht : (pc : Int) + off = (tgt : Int)) (kt : ¬ c → J x d k n me tgt ls st L M P) (kf : c → J x d k n me (pc + 3) ls st L M P) : J x d k n me pc ls (.int (jbp c) :: st) L M P := by
  refine J_if_eq hd ht (fun h => kt fun q => ?_) (fun h => kf ?_)
  · rw [← jbpT q] at h
    exact absurd h (by decide)
  · by_cases q : c
    · exact q
    · rw [← jbpF q] at h
      exact absurd nI_0 h
theorem jbp_nar (c : Prop) : narrow .boolean (.int (jbp c)) = .int (jbp c) := by
  by_cases h : c
  · rw [← jbpT h]; rfl
  · rw [← jbpF h]; rfl
set_option maxRecDepth 100000 in
set_option maxHeartbeats 400000 in
theorem c_tellsApart {x : jX} {m : jm} {d : Nat} {n : Nat} (hn : n ≤ 8) (w : Int32) : Ct x (d + 1) eX2_tellsApart [.ref (jxb x + 126), .int w, .int (nI n)] m (jp (jbp (∀ i, i < n → ∀ j, j < i → apaP m w i j)) m) := by
  refine J_start (by decide +kernel) (Nat.le_of_ble_eq_true rfl) (ls := [some (.ref (jxb x + 126)), some (.int w), some (.int (nI n)), none, none]) rfl rfl ?_
  refine J_iconst (pc := 0) dX2_tellsApart_0 kni_0 ?_
  refine J_istore_n (pc := 1) (ls' := [some _, some _, some _, some _, none]) dX2_tellsApart_1 rfl (Nat.le_of_ble_eq_true rfl) rfl ?_
  refine K_inv (pc := 2) n (fun i lsq mq => lsq = [some (.ref (jxb x + 126)), some (.int w), some (.int (nI n)), some (.int (nI i)), none] ∧ (m = mq) ∧ (∀ q, q < i → ∀ r, r < q → apaP m w q r)) (fun i hi lsq mm hI2 ih2 => ?_) (fun lsq mm hI2 => ?_) 0 (Nat.zero_le _) _ _ (⟨rfl, rfl, fun q hq => absurd hq (Nat.not_lt_zero _)⟩)
  ·
    obtain ⟨rfl, hm, ha⟩ := hI2
    subst hm
    refine J_iload_n (pc := 2) dX2_tellsApart_2 rfl ?_
    refine J_iload_n (pc := 3) dX2_tellsApart_3 rfl ?_
    refine Jn_ge (pc := 4) (tgt := 57) dX2_tellsApart_4 (by decide) (by omega) (by omega) (fun h4 => absurd h4 (by omega)) (fun h4 => ?_)
    refine J_iconst (pc := 7) dX2_tellsApart_7 kni_0 ?_
    refine J_istore (pc := 8) (ls' := [some _, some _, some _, some _, some _]) dX2_tellsApart_8 rfl (Nat.le_of_ble_eq_true rfl) rfl ?_
    refine K_inv (pc := 10) i (fun j lsq mq => lsq = [some (.ref (jxb x + 126)), some (.int w), some (.int (nI n)), some (.int (nI i)), some (.int (nI j))] ∧ (m = mq) ∧ (∀ r, r < j → apaP m w i r)) (fun j hj lsq mn hI10 ih10 => ?_) (fun lsq mn hI10 => ?_) 0 (Nat.zero_le _) _ _ (⟨rfl, rfl, fun q hq => absurd hq (Nat.not_lt_zero _)⟩)
    ·
      obtain ⟨rfl, hm, hb⟩ := hI10
      subst hm
      refine J_iload (pc := 10) dX2_tellsApart_10 rfl ?_
      refine J_iload_n (pc := 12) dX2_tellsApart_12 rfl ?_
      refine Jn_ge (pc := 13) (tgt := 51) dX2_tellsApart_13 (by decide) (by omega) (by omega) (fun h13 => absurd h13 (by omega)) (fun h13 => ?_)
      refine J_aload_n (pc := 16) dX2_tellsApart_16 rfl ?_
      refine K_getR (pc := 17) dX2_tellsApart_17 kf_X2_9 job_126 jrf_126_0 ?_
      refine J_iload_n (pc := 20) dX2_tellsApart_20 rfl ?_
      refine K_ialdn (pc := 21) (id := 127) dX2_tellsApart_21 jar_127 (by omega) (by decide) ?_
      refine J_aload_n (pc := 22) dX2_tellsApart_22 rfl ?_
      refine K_getR (pc := 23) dX2_tellsApart_23 kf_X2_9 job_126 jrf_126_0 ?_
      refine J_iload (pc := 26) dX2_tellsApart_26 rfl ?_
      refine K_ialdn (pc := 28) (id := 127) dX2_tellsApart_28 jar_127 (by omega) (by decide) ?_
      refine J_icmp_eq (pc := 29) (tgt := 45) dX2_tellsApart_29 (by decide) (fun h29 => ?_) (fun h29 => ?_)
      · 
        refine Jn_iinc (pc := 45) (ls' := [some _, some _, some _, some _, some _]) dX2_tellsApart_45 rfl knz_1 rfl rfl ?_
        refine J_goto (pc := 48) (tgt := 10) dX2_tellsApart_48 (by decide) ?_
        exact ih10 _ _ ⟨rfl, rfl, fun q hq => by
            by_cases eq : q = j
            · rw [eq]; exact Or.inl h29
            · exact hb q (by omega)⟩
      · 
        refine J_aload_n (pc := 32) dX2_tellsApart_32 rfl ?_
        refine J_iload_n (pc := 33) dX2_tellsApart_33 rfl ?_
        refine J_iload (pc := 34) dX2_tellsApart_34 rfl ?_
        refine J_iload_n (pc := 36) dX2_tellsApart_36 rfl ?_
        refine K_callVp (pc := 37) (id := 126) (As := [_, _, _]) dX2_tellsApart_37 kl_X2_26 rfl job_126 rfl rfl (Nat.le_of_ble_eq_true rfl) (c_differ (by omega) (by omega) w) ?_
        refine Jp_ne (pc := 40) (tgt := 45) dX2_tellsApart_40 (by decide) (fun h40 => ?_) (fun h40 => ?_)
        · 
          refine Jn_iinc (pc := 45) (ls' := [some _, some _, some _, some _, some _]) dX2_tellsApart_45 rfl knz_1 rfl rfl ?_
          refine J_goto (pc := 48) (tgt := 10) dX2_tellsApart_48 (by decide) ?_
          exact ih10 _ _ ⟨rfl, rfl, fun q hq => by
              by_cases eq : q = j
              · rw [eq]; exact Or.inr h40
              · exact hb q (by omega)⟩
        · 
          refine J_iconst (pc := 43) dX2_tellsApart_43 kni_0 ?_
          refine K_zret (pc := 44) dX2_tellsApart_44 rfl rfl ⟨_, rfl, ?_⟩
          exact ⟨jbpF (fun q => (q i hi j hj).elim h29 h40), rfl⟩
    ·
      obtain ⟨rfl, hm, hb⟩ := hI10
      subst hm
      refine J_iload (pc := 10) dX2_tellsApart_10 rfl ?_
      refine J_iload_n (pc := 12) dX2_tellsApart_12 rfl ?_
      refine Jn_ge (pc := 13) (tgt := 51) dX2_tellsApart_13 (by decide) (by omega) (by omega) (fun h13 => ?_) (fun h13 => absurd h13 (by omega))
      refine Jn_iinc (pc := 51) (ls' := [some _, some _, some _, some _, some _]) dX2_tellsApart_51 rfl knz_1 rfl rfl ?_
      refine J_goto (pc := 54) (tgt := 2) dX2_tellsApart_54 (by decide) ?_
      refine J_wk' (ih2 [some (.ref (jxb x + 126)), some (.int w), some (.int (nI n)), some (.int (nI (i + 1))), none] _ ⟨rfl, rfl, fun q hq r hr => by
          by_cases eq : q = i
          · rw [eq] at hr ⊢; exact hb r hr
          · exact ha q (by omega) r hr⟩) rfl ?_
      rintro (_ | _ | _ | _ | _ | _ | _ | _ | _ | _ | k) v hv <;> first | exact hv | cases hv
  ·
    obtain ⟨rfl, hm, ha⟩ := hI2
    subst hm
    refine J_iload_n (pc := 2) dX2_tellsApart_2 rfl ?_
    refine J_iload_n (pc := 3) dX2_tellsApart_3 rfl ?_
    refine Jn_ge (pc := 4) (tgt := 57) dX2_tellsApart_4 (by decide) (by omega) (by omega) (fun h4 => ?_) (fun h4 => absurd h4 (by omega))
    refine J_iconst (pc := 57) dX2_tellsApart_57 kni_1 ?_
    refine K_zret (pc := 58) dX2_tellsApart_58 rfl rfl ⟨_, rfl, ?_⟩
    exact ⟨jbpT ha, rfl⟩

def mkV (m : jm) (p : Nat) (wo : Int32) : Nat → Int32
  | 0 => nI 0
  | n + 1 => if nI n = wo then mkV m p wo n else mkV m p wo n ||| (((m 137 n >>> (nI p &&& 31)) &&& nI 1) <<< (nI n &&& 31))
theorem mkV_c {m m' : jm} (h : m' 137 = m 137) (p : Nat) (wo : Int32) : ∀ n, mkV m' p wo n = mkV m p wo n
  | 0 => rfl
  | n + 1 => by rw [mkV, mkV, mkV_c h p wo n, h]
set_option maxRecDepth 100000 in
set_option maxHeartbeats 400000 in
theorem c_marksOf {x : jX} {m : jm} {d : Nat} {p n : Nat} (hn : n ≤ 12) (wo : Int32) : Ct x d eX2_marksOf [.ref (jxb x + 126), .int (nI p), .int (nI n), .int wo] m (jp (mkV m p wo n) m) := by
  refine J_start (by decide +kernel) (Nat.le_of_ble_eq_true rfl) (ls := [some (.ref (jxb x + 126)), some (.int (nI p)), some (.int (nI n)), some (.int wo), none, none]) rfl rfl ?_
  refine J_iconst (pc := 0) dX2_marksOf_0 kni_0 ?_
  refine J_istore (pc := 1) (ls' := [some _, some _, some _, some _, some _, none]) dX2_marksOf_1 rfl (Nat.le_of_ble_eq_true rfl) rfl ?_
  refine J_iconst (pc := 3) dX2_marksOf_3 kni_0 ?_
  refine J_istore (pc := 4) (ls' := [some _, some _, some _, some _, some _, some _]) dX2_marksOf_4 rfl (Nat.le_of_ble_eq_true rfl) rfl ?_
  refine K_for' (pc := 6) n (fun i => [some (.ref (jxb x + 126)), some (.int (nI p)), some (.int (nI n)), some (.int wo), some (.int ((mkV m p wo i))), some (.int (nI i))]) (fun i => m) (by rfl) (by rfl) (fun i hi ih6 => ?_) ?_
  ·
    show K x _ _ 6 [some (.ref (jxb x + 126)), some (.int (nI p)), some (.int (nI n)), some (.int wo), some (.int ((mkV m p wo i))), some (.int (nI i))] _ m _
    refine J_iload (pc := 6) dX2_marksOf_6 rfl ?_
    refine J_iload_n (pc := 8) dX2_marksOf_8 rfl ?_
    refine Jn_ge (pc := 9) (tgt := 43) dX2_marksOf_9 (by decide) (by omega) (by omega) (fun h9 => absurd h9 (by omega)) (fun h9 => ?_)
    refine J_iload (pc := 12) dX2_marksOf_12 rfl ?_
    refine J_iload_n (pc := 14) dX2_marksOf_14 rfl ?_
    refine J_icmp_eq (pc := 15) (tgt := 37) dX2_marksOf_15 (by decide) (fun h15 => ?_) (fun h15 => ?_)
    · 
      refine Jn_iinc (pc := 37) (ls' := [some _, some _, some _, some _, some _, some _]) dX2_marksOf_37 rfl knz_1 rfl rfl ?_
      refine J_goto (pc := 40) (tgt := 6) dX2_marksOf_40 (by decide) ?_
      have ev := show mkV m p wo (i + 1) = _ from if_pos h15
      rw [ev] at ih6
      exact ih6
    · 
      refine J_iload (pc := 18) dX2_marksOf_18 rfl ?_
      refine J_aload_n (pc := 20) dX2_marksOf_20 rfl ?_
      refine K_getR (pc := 21) dX2_marksOf_21 kf_X2_20 job_126 jrf_126_2 ?_
      refine J_iload (pc := 24) dX2_marksOf_24 rfl ?_
      refine K_ialdn (pc := 26) (id := 137) dX2_marksOf_26 jar_137 (by omega) (by decide) ?_
      refine J_iload_n (pc := 27) dX2_marksOf_27 rfl ?_
      refine J_ishr (pc := 28) dX2_marksOf_28 ?_
      refine J_iconst (pc := 29) dX2_marksOf_29 kni_1 ?_
      refine J_iand (pc := 30) dX2_marksOf_30 ?_
      refine J_iload (pc := 31) dX2_marksOf_31 rfl ?_
      refine J_ishl (pc := 33) dX2_marksOf_33 ?_
      refine J_ior (pc := 34) dX2_marksOf_34 ?_
      refine J_istore (pc := 35) (ls' := [some _, some _, some _, some _, some _, some _]) dX2_marksOf_35 rfl (Nat.le_of_ble_eq_true rfl) rfl ?_
      refine Jn_iinc (pc := 37) (ls' := [some _, some _, some _, some _, some _, some _]) dX2_marksOf_37 rfl knz_1 rfl rfl ?_
      refine J_goto (pc := 40) (tgt := 6) dX2_marksOf_40 (by decide) ?_
      have ev := show mkV m p wo (i + 1) = _ from if_neg h15
      rw [ev] at ih6
      exact ih6
  ·
    show K x _ _ 6 [some (.ref (jxb x + 126)), some (.int (nI p)), some (.int (nI n)), some (.int wo), some (.int ((mkV m p wo n))), some (.int (nI n))] _ m _
    refine J_iload (pc := 6) dX2_marksOf_6 rfl ?_
    refine J_iload_n (pc := 8) dX2_marksOf_8 rfl ?_
    refine Jn_ge (pc := 9) (tgt := 43) dX2_marksOf_9 (by decide) (by omega) (by omega) (fun h9_2 => ?_) (fun h9_2 => absurd h9_2 (by omega))
    refine J_iload (pc := 43) dX2_marksOf_43 rfl ?_
    refine K_iret (pc := 45) dX2_marksOf_45 rfl ⟨_, rfl, ?_⟩
    exact ⟨rfl, rfl⟩

def frB (m : jm) (wo : Int32) (w p q : Nat) : Bool := decide (¬ mkV m q wo w = mkV m p wo w)
def unlV (m : jm) (wo : Int32) (w n : Nat) : Nat := cnt (fun p => allB (frB m wo w p) p) n
theorem minV_n {a b : Nat} (ha : a < 2 ^ 31) (hb : b < 2 ^ 31) : minV (nI a) (nI b) = nI (min a b) := by
  unfold minV
  by_cases h : b < a
  · rw [if_pos (nI_lt h ha), Nat.min_eq_right (by omega)]
  · rw [if_neg (nI_nlt (by omega) hb), Nat.min_eq_left (by omega)]
set_option maxRecDepth 100000 in
set_option maxHeartbeats 400000 in
theorem c_unlike {x : jX} {m : jm} {d : Nat} {o P w : Nat} (ho : jSt o) (hP : m o 0 = nI P) (h48 : P ≤ 48) (hw : m o 16 = nI w) (hw12 : w ≤ 12) (wo : Int32) : Ct x (d + 1) eX2_unlike [.ref (jxb x + 126), .ref (jxb x + o), .int wo] m (ji fun v m' => v = nI (unlV m wo w (min P 29)) ∧ m' = mfill m 138 (min P 29) (fun p => mkV m p wo w)) := by
  refine J_start (by decide +kernel) (Nat.le_of_ble_eq_true rfl) (ls := [some (.ref (jxb x + 126)), some (.ref (jxb x + o)), some (.int wo), none, none, none, none, none]) rfl rfl ?_
  have ho9 := jSt_c ho
  refine J_aload_n (pc := 0) dX2_unlike_0 rfl ?_
  refine K_getI (pc := 1) dX2_unlike_1 kf_X2_30 (jSt_obj ho) (jSt_int ho 0 (by decide)) ?_
  refine J_top (b := nI P) (hP) ?_
  refine J_bipush (pc := 4) dX2_unlike_4 knb_29 ?_
  refine K_minV (pc := 6) dX2_unlike_6 kx_X2_36 (Nat.le_of_ble_eq_true rfl) ?_
  refine J_top (b := nI (min P 29)) (minV_n (by omega) (by decide)) ?_
  refine J_istore_n (pc := 9) (ls' := [some _, some _, some _, some _, none, none, none, none]) dX2_unlike_9 rfl (Nat.le_of_ble_eq_true rfl) rfl ?_
  refine J_iconst (pc := 10) dX2_unlike_10 kni_0 ?_
  refine J_istore (pc := 11) (ls' := [some _, some _, some _, some _, some _, none, none, none]) dX2_unlike_11 rfl (Nat.le_of_ble_eq_true rfl) rfl ?_
  refine J_iconst (pc := 13) dX2_unlike_13 kni_0 ?_
  refine J_istore (pc := 14) (ls' := [some _, some _, some _, some _, some _, some _, none, none]) dX2_unlike_14 rfl (Nat.le_of_ble_eq_true rfl) rfl ?_
  refine K_for' (pc := 16) (min P 29) (fun i => [some (.ref (jxb x + 126)), some (.ref (jxb x + o)), some (.int wo), some (.int (nI (min P 29))), some (.int (nI (unlV m wo w i))), some (.int (nI i)), none, none]) (fun i => mfill m 138 i (fun p => mkV m p wo w)) (by rfl) (by exact (mfill_0 _ _ _).symm) (fun i hi ih16 => ?_) ?_
  ·
    show K x _ _ 16 [some (.ref (jxb x + 126)), some (.ref (jxb x + o)), some (.int wo), some (.int (nI (min P 29))), some (.int (nI (unlV m wo w i))), some (.int (nI i)), none, none] _ (mfill m 138 i (fun p => mkV m p wo w)) _
    have hi29 : i < 29 := by omega
    refine J_iload (pc := 16) dX2_unlike_16 rfl ?_
    refine J_iload_n (pc := 18) dX2_unlike_18 rfl ?_
    refine Jn_ge (pc := 19) (tgt := 109) dX2_unlike_19 (by decide) (by omega) (by omega) (fun h19 => absurd h19 (by omega)) (fun h19 => ?_)
    refine J_aload_n (pc := 22) dX2_unlike_22 rfl ?_
    refine K_getR (pc := 23) dX2_unlike_23 kf_X2_23 job_126 jrf_126_3 ?_
    refine J_iload (pc := 26) dX2_unlike_26 rfl ?_
    refine J_aload_n (pc := 28) dX2_unlike_28 rfl ?_
    refine J_iload (pc := 29) dX2_unlike_29 rfl ?_
    refine J_aload_n (pc := 31) dX2_unlike_31 rfl ?_
    refine K_getI (pc := 32) dX2_unlike_32 kf_X2_42 (jSt_obj ho) (jSt_int ho 16 (by decide)) ?_
    refine J_top (b := nI w) (by rw [mfill_i (by omega)]; exact hw) ?_
    refine J_iload_n (pc := 35) dX2_unlike_35 rfl ?_
    refine K_callVp (pc := 36) (id := 126) (As := [_, _, _]) dX2_unlike_36 kl_X2_45 rfl job_126 rfl rfl (Nat.le_of_ble_eq_true rfl) (c_marksOf (m := mfill m 138 i (fun p => mkV m p wo w)) hw12 wo) ?_
    refine J_top (b := (mkV m i wo w)) (mkV_c (mfill_i' (by decide)) _ _ _) ?_
    refine K_iastn (pc := 39) (id := 138) dX2_unlike_39 jar_138 (by omega) (by decide) ?_
    refine J_iconst (pc := 40) dX2_unlike_40 kni_1 ?_
    refine J_istore (pc := 41) (ls' := [some _, some _, some _, some _, some _, some _, some _, none]) dX2_unlike_41 rfl (Nat.le_of_ble_eq_true rfl) rfl ?_
    refine J_iconst (pc := 43) dX2_unlike_43 kni_0 ?_
    refine J_istore (pc := 44) (ls' := [some _, some _, some _, some _, some _, some _, some _, some _]) dX2_unlike_44 rfl (Nat.le_of_ble_eq_true rfl) rfl ?_
    refine K_for' (pc := 46) i (fun j => [some (.ref (jxb x + 126)), some (.ref (jxb x + o)), some (.int wo), some (.int (nI (min P 29))), some (.int (nI (unlV m wo w i))), some (.int (nI i)), some (.int (jb (allB (frB m wo w i) j = true))), some (.int (nI j))]) (fun j => mfill m 138 (i + 1) (fun p => mkV m p wo w)) (by rfl) (by exact mfill_s _ _ _ _ rfl) (fun j hj ih46 => ?_) ?_
    ·
      show K x _ _ 46 [some (.ref (jxb x + 126)), some (.ref (jxb x + o)), some (.int wo), some (.int (nI (min P 29))), some (.int (nI (unlV m wo w i))), some (.int (nI i)), some (.int (jb (allB (frB m wo w i) j = true))), some (.int (nI j))] _ (mfill m 138 (i + 1) (fun p => mkV m p wo w)) _
      refine J_iload (pc := 46) dX2_unlike_46 rfl ?_
      refine J_iload (pc := 48) dX2_unlike_48 rfl ?_
      refine Jn_ge (pc := 50) (tgt := 88) dX2_unlike_50 (by decide) (by omega) (by omega) (fun h50 => absurd h50 (by omega)) (fun h50 => ?_)
      refine J_iload (pc := 53) dX2_unlike_53 rfl ?_
      refine Jb_eq (pc := 55) (tgt := 79) dX2_unlike_55 (by decide) (fun h55 => ?_) (fun h55 => ?_)
      · 
        refine J_iconst (pc := 79) dX2_unlike_79 kni_0 ?_
        refine J_istore (pc := 80) (ls' := [some _, some _, some _, some _, some _, some _, some _, some _]) dX2_unlike_80 rfl (Nat.le_of_ble_eq_true rfl) rfl ?_
        refine Jn_iinc (pc := 82) (ls' := [some _, some _, some _, some _, some _, some _, some _, some _]) dX2_unlike_82 rfl knz_1 rfl rfl ?_
        refine J_goto (pc := 85) (tgt := 46) dX2_unlike_85 (by decide) ?_
        rw [allB_f (fun q => h55 q.1)] at ih46
        exact ih46
      · 
        refine J_aload_n (pc := 58) dX2_unlike_58 rfl ?_
        refine K_getR (pc := 59) dX2_unlike_59 kf_X2_23 job_126 jrf_126_3 ?_
        refine J_iload (pc := 62) dX2_unlike_62 rfl ?_
        refine K_ialdn (pc := 64) (id := 138) dX2_unlike_64 jar_138 (by omega) (by decide) ?_
        refine J_aload_n (pc := 65) dX2_unlike_65 rfl ?_
        refine K_getR (pc := 66) dX2_unlike_66 kf_X2_23 job_126 jrf_126_3 ?_
        refine J_iload (pc := 69) dX2_unlike_69 rfl ?_
        refine K_ialdn (pc := 71) (id := 138) dX2_unlike_71 jar_138 (by omega) (by decide) ?_
        refine J_icmp_eq (pc := 72) (tgt := 79) dX2_unlike_72 (by decide) (fun h72 => ?_) (fun h72 => ?_)
        · 
          refine J_iconst (pc := 79) dX2_unlike_79 kni_0 ?_
          refine J_istore (pc := 80) (ls' := [some _, some _, some _, some _, some _, some _, some _, some _]) dX2_unlike_80 rfl (Nat.le_of_ble_eq_true rfl) rfl ?_
          refine Jn_iinc (pc := 82) (ls' := [some _, some _, some _, some _, some _, some _, some _, some _]) dX2_unlike_82 rfl knz_1 rfl rfl ?_
          refine J_goto (pc := 85) (tgt := 46) dX2_unlike_85 (by decide) ?_
          rw [allB_f (fun q => by have q2 := q.2; unfold frB at q2; rw [decide_eq_true_eq] at q2; rw [mfill_lt (by omega), mfill_lt (by omega)] at h72; exact q2 h72)] at ih46
          exact ih46
        · 
          refine J_iconst (pc := 75) dX2_unlike_75 kni_1 ?_
          refine J_goto (pc := 76) (tgt := 80) dX2_unlike_76 (by decide) ?_
          refine J_istore (pc := 80) (ls' := [some _, some _, some _, some _, some _, some _, some _, some _]) dX2_unlike_80 rfl (Nat.le_of_ble_eq_true rfl) rfl ?_
          refine Jn_iinc (pc := 82) (ls' := [some _, some _, some _, some _, some _, some _, some _, some _]) dX2_unlike_82 rfl knz_1 rfl rfl ?_
          refine J_goto (pc := 85) (tgt := 46) dX2_unlike_85 (by decide) ?_
          rw [allB_t h55 (by unfold frB; rw [decide_eq_true_eq]; rw [mfill_lt (by omega), mfill_lt (by omega)] at h72; exact h72)] at ih46
          exact ih46
    ·
      show K x _ _ 46 [some (.ref (jxb x + 126)), some (.ref (jxb x + o)), some (.int wo), some (.int (nI (min P 29))), some (.int (nI (unlV m wo w i))), some (.int (nI i)), some (.int (jb (allB (frB m wo w i) i = true))), some (.int (nI i))] _ (mfill m 138 (i + 1) (fun p => mkV m p wo w)) _
      refine J_iload (pc := 46) dX2_unlike_46 rfl ?_
      refine J_iload (pc := 48) dX2_unlike_48 rfl ?_
      refine Jn_ge (pc := 50) (tgt := 88) dX2_unlike_50 (by decide) (by omega) (by omega) (fun h50_2 => ?_) (fun h50_2 => absurd h50_2 (by omega))
      refine J_iload (pc := 88) dX2_unlike_88 rfl ?_
      refine J_iload (pc := 90) dX2_unlike_90 rfl ?_
      refine Jb_eq (pc := 92) (tgt := 99) dX2_unlike_92 (by decide) (fun h92 => ?_) (fun h92 => ?_)
      · 
        refine J_iconst (pc := 99) dX2_unlike_99 kni_0 ?_
        refine J_iaddv (pc := 100) dX2_unlike_100 (nI_add _ _) ?_
        refine J_istore (pc := 101) (ls' := [some _, some _, some _, some _, some _, some _, some _, some _]) dX2_unlike_101 rfl (Nat.le_of_ble_eq_true rfl) rfl ?_
        refine Jn_iinc (pc := 103) (ls' := [some _, some _, some _, some _, some _, some _, some _, some _]) dX2_unlike_103 rfl knz_1 rfl rfl ?_
        refine J_goto (pc := 106) (tgt := 16) dX2_unlike_106 (by decide) ?_
        have ev : unlV m wo w (i + 1) = unlV m wo w i + 0 := cnt_f (by exact h92)
        rw [ev] at ih16
        refine J_wk' ih16 rfl ?_
        rintro (_ | _ | _ | _ | _ | _ | _ | _ | _ | _ | k) v hv <;> first | exact hv | cases hv
      · 
        refine J_iconst (pc := 95) dX2_unlike_95 kni_1 ?_
        refine J_goto (pc := 96) (tgt := 100) dX2_unlike_96 (by decide) ?_
        refine J_iaddv (pc := 100) dX2_unlike_100 (nI_add _ _) ?_
        refine J_istore (pc := 101) (ls' := [some _, some _, some _, some _, some _, some _, some _, some _]) dX2_unlike_101 rfl (Nat.le_of_ble_eq_true rfl) rfl ?_
        refine Jn_iinc (pc := 103) (ls' := [some _, some _, some _, some _, some _, some _, some _, some _]) dX2_unlike_103 rfl knz_1 rfl rfl ?_
        refine J_goto (pc := 106) (tgt := 16) dX2_unlike_106 (by decide) ?_
        have ev : unlV m wo w (i + 1) = unlV m wo w i + 1 := cnt_t (by exact h92)
        rw [ev] at ih16
        refine J_wk' ih16 rfl ?_
        rintro (_ | _ | _ | _ | _ | _ | _ | _ | _ | _ | k) v hv <;> first | exact hv | cases hv
  ·
    show K x _ _ 16 [some (.ref (jxb x + 126)), some (.ref (jxb x + o)), some (.int wo), some (.int (nI (min P 29))), some (.int (nI (unlV m wo w (min P 29)))), some (.int (nI (min P 29))), none, none] _ (mfill m 138 ((min P 29)) (fun p => mkV m p wo w)) _
    refine J_iload (pc := 16) dX2_unlike_16 rfl ?_
    refine J_iload_n (pc := 18) dX2_unlike_18 rfl ?_
    refine Jn_ge (pc := 19) (tgt := 109) dX2_unlike_19 (by decide) (by omega) (by omega) (fun h19_2 => ?_) (fun h19_2 => absurd h19_2 (by omega))
    refine J_iload (pc := 109) dX2_unlike_109 rfl ?_
    refine K_iret (pc := 111) dX2_unlike_111 rfl ⟨_, rfl, ?_⟩
    exact ⟨rfl, rfl⟩
