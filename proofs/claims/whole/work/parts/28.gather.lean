theorem rch_c {f g : Nat → Int32} (h : ∀ q, q < 48 → g q = f q) (k q : Nat) : rch g k q ↔ rch f k q :=
  ⟨fun H T t1 t2 => H T t1 (fun a b ha hab hb hn => t2 a b ha hab hb (by rw [← h b hb]; exact hn)), fun H T t1 t2 => H T t1 (fun a b ha hab hb hn => t2 a b ha hab hb (by rw [h b hb]; exact hn))⟩
theorem rB_c {f g : Nat → Int32} (h : ∀ q, q < 48 → g q = f q) (k q : Nat) : rB g k q = rB f k q := Bool.eq_iff_iff.mpr (by rw [rB_iff, rB_iff]; exact rch_c h k q)
/-- spots left when the beasts below n are taken -/
noncomputable def gS (f : Nat → Int32) : Nat → Nat → Int32
  | 0 => f
  | n + 1 => if gS f n n = 0 then gS f n else fun q => if rB (gS f n) n q = true then 0 else gS f n q
noncomputable def gN (f : Nat → Int32) (n : Nat) : Nat := if gS f n n = 0 then 0 else cnt (rB (gS f n) n) 48
noncomputable def bea (f : Nat → Int32) : Nat → Nat
  | 0 => 0
  | n + 1 => bea f n + (if 0 < gN f n then 1 else 0)
noncomputable def mst (f : Nat → Int32) : Nat → Nat × Int32
  | 0 => (0, NONEv)
  | n + 1 => if (mst f n).1 < gN f n then (gN f n, nI n) else mst f n
theorem bea_le (f : Nat → Int32) : ∀ n, bea f n ≤ n
  | 0 => Nat.le_refl _
  | n + 1 => by have := bea_le f n; unfold bea; split <;> omega
theorem gN_le (f : Nat → Int32) (n : Nat) : gN f n ≤ 48 := by unfold gN; split; exact Nat.zero_le _; exact cnt_le _ 48
theorem mst_le (f : Nat → Int32) : ∀ n, (mst f n).1 ≤ 48
  | 0 => Nat.zero_le _
  | n + 1 => by
    have := mst_le f n
    have := gN_le f n
    unfold mst
    by_cases c : (mst f n).1 < gN f n
    · rw [if_pos c]; exact gN_le f n
    · rw [if_neg c]; exact mst_le f n
theorem gth_0 {f : Nat → Int32} {n : Nat} (h : gS f n n = 0) : gS f (n + 1) = gS f n ∧ bea f (n + 1) = bea f n ∧ mst f (n + 1) = mst f n := by
  have e : gN f n = 0 := if_pos h
  exact ⟨if_pos h, by rw [bea, e]; rfl, by rw [mst, e, if_neg (Nat.not_lt_zero _)]⟩
theorem gth_1 {f : Nat → Int32} {n : Nat} (h : ¬ gS f n n = 0) : gS f (n + 1) = (fun q => if rB (gS f n) n q = true then 0 else gS f n q) ∧ gN f n = cnt (rB (gS f n) n) 48 := ⟨if_neg h, if_neg h⟩
set_option maxRecDepth 100000 in
set_option maxHeartbeats 400000 in
theorem c_gather {x : jX} {m : jm} {d : Nat}  : Ct x (d + 2) eX0_gather [.ref (jxb x + 95)] m (jv fun m' => exs [95, 100, 101] m m' ∧ m' 95 6 = nI (bea (m 100) 48) ∧ m' 95 7 = nI (mst (m 100) 48).1 ∧ m' 95 8 = (mst (m 100) 48).2) := by
  refine J_start (by decide +kernel) (Nat.le_of_ble_eq_true rfl) (ls := [some (.ref (jxb x + 95)), none, none]) rfl rfl ?_
  refine J_aload_n (pc := 0) dX0_gather_0 rfl ?_
  refine J_iconst (pc := 1) dX0_gather_1 kni_0 ?_
  refine K_put (pc := 2) dX0_gather_2 kp_X0_31 job_95 jrf_95_6 rfl rfl ?_
  refine J_aload_n (pc := 5) dX0_gather_5 rfl ?_
  refine J_iconst (pc := 6) dX0_gather_6 kni_0 ?_
  refine K_put (pc := 7) dX0_gather_7 kp_X0_35 job_95 jrf_95_7 rfl rfl ?_
  refine J_aload_n (pc := 10) dX0_gather_10 rfl ?_
  refine J_ldc (pc := 11) dX0_gather_11 kc_X0_38 ?_
  refine K_put (pc := 13) dX0_gather_13 kp_X0_39 job_95 jrf_95_8 rfl rfl ?_
  refine J_iconst (pc := 16) dX0_gather_16 kni_0 ?_
  refine J_istore_n (pc := 17) (ls' := [some _, some _, none]) dX0_gather_17 rfl (Nat.le_of_ble_eq_true rfl) rfl ?_
  refine K_inv (pc := 18) 48 (fun i lsq mq => lsq = [some (.ref (jxb x + 95)), some (.int (nI i)), none] ∧ (exs [95, 100, 101] m mq) ∧ (∀ q, q < 48 → mq 100 q = gS (m 100) i q) ∧ (mq 95 6 = nI (bea (m 100) i)) ∧ (mq 95 7 = nI (mst (m 100) i).1) ∧ (mq 95 8 = (mst (m 100) i).2)) (fun i hi lsq mm hI18 ih18 => ?_) (fun lsq mm hI18 => ?_) 0 (Nat.zero_le _) _ _ (⟨rfl, exs_up (exs_up (exs_up (exs_rf _ _) (by decide)) (by decide)) (by decide), fun q hq => by rw [mup_i (by decide), mup_i (by decide), mup_i (by decide)]; rfl, by rw [mup_j (by decide), mup_j (by decide), mup_s]; rfl, by rw [mup_j (by decide), mup_s]; rfl, by rw [mup_s]; rfl⟩)
  ·
    obtain ⟨rfl, hx, hS, hb, hm, hf⟩ := hI18
    have hb48 := bea_le (m 100) i
    have hm48 := mst_le (m 100) i
    refine J_iload_n (pc := 18) dX0_gather_18 rfl ?_
    refine J_bipush (pc := 19) dX0_gather_19 knb_48 ?_
    refine Jn_ge (pc := 21) (tgt := 85) dX0_gather_21 (by decide) (by omega) (by omega) (fun h21 => absurd h21 (by omega)) (fun h21 => ?_)
    refine J_aload_n (pc := 24) dX0_gather_24 rfl ?_
    refine K_getR (pc := 25) dX0_gather_25 kf_X0_24 job_95 jrf_95_4 ?_
    refine J_iload_n (pc := 28) dX0_gather_28 rfl ?_
    refine K_zaldn (pc := 29) (id := 100) dX0_gather_29 jar_100 (by omega) (by decide) ?_
    refine J_if_eq (pc := 30) (tgt := 41) dX0_gather_30 (by decide) (fun h30 => ?_) (fun h30 => ?_)
    · 
      refine J_iconst (pc := 41) dX0_gather_41 kni_0 ?_
      refine J_istore_n (pc := 42) (ls' := [some _, some _, some _]) dX0_gather_42 rfl (Nat.le_of_ble_eq_true rfl) rfl ?_
      refine J_aload_n (pc := 43) dX0_gather_43 rfl ?_
      refine J_dup (pc := 44) dX0_gather_44 rfl ?_
      refine K_getI (pc := 45) dX0_gather_45 kf_X0_31 job_95 jrf_95_6 ?_
      refine J_top (b := nI (bea (m 100) i)) (hb) ?_
      refine J_iload_n (pc := 48) dX0_gather_48 rfl ?_
      refine Jn_if_le (pc := 49) (tgt := 56) dX0_gather_49 (by decide) (by omega) (fun h49 => ?_) (fun h49 => absurd h49 (by omega))
      refine J_iconst (pc := 56) dX0_gather_56 kni_0 ?_
      refine J_iaddv (pc := 57) dX0_gather_57 (nI_add _ _) ?_
      refine K_put (pc := 58) dX0_gather_58 kp_X0_31 job_95 jrf_95_6 rfl rfl ?_
      refine J_iload_n (pc := 61) dX0_gather_61 rfl ?_
      refine J_aload_n (pc := 62) dX0_gather_62 rfl ?_
      refine K_getI (pc := 63) dX0_gather_63 kf_X0_35 job_95 jrf_95_7 ?_
      refine J_top (b := nI ((mst (m 100) i).1)) (by rw [mup_j (by decide)]; exact hm) ?_
      refine Jn_le (pc := 66) (tgt := 79) dX0_gather_66 (by decide) (by omega) (by omega) (fun h66 => ?_) (fun h66 => ?_)
      · 
        refine Jn_iinc (pc := 79) (ls' := [some _, some _, some _]) dX0_gather_79 rfl knz_1 rfl rfl ?_
        refine J_goto (pc := 82) (tgt := 18) dX0_gather_82 (by decide) ?_
        have hz : gS (m 100) i i = 0 := by rw [← hS i hi]; exact h30
        obtain ⟨z1, z2, z3⟩ := gth_0 hz
        refine J_wk' (ih18 [some (.ref (jxb x + 95)), some (.int (nI (i + 1))), none] _ ⟨rfl, exs_up hx (by decide), fun q hq => by rw [z1, mup_i (by decide)]; exact hS q hq, by rw [z2, mup_s]; rfl, by rw [z3, mup_j (by decide)]; exact hm, by rw [z3, mup_j (by decide)]; exact hf⟩) rfl ?_
        · rintro (_ | _ | _ | _ | k) v hv <;> first | exact hv | cases hv
      · 
        refine J_aload_n (pc := 69) dX0_gather_69 rfl ?_
        refine J_iload_n (pc := 70) dX0_gather_70 rfl ?_
        refine K_put (pc := 71) dX0_gather_71 kp_X0_35 job_95 jrf_95_7 rfl rfl ?_
        refine J_aload_n (pc := 74) dX0_gather_74 rfl ?_
        refine J_iload_n (pc := 75) dX0_gather_75 rfl ?_
        refine K_put (pc := 76) dX0_gather_76 kp_X0_39 job_95 jrf_95_8 rfl rfl ?_
        refine Jn_iinc (pc := 79) (ls' := [some _, some _, some _]) dX0_gather_79 rfl knz_1 rfl rfl ?_
        refine J_goto (pc := 82) (tgt := 18) dX0_gather_82 (by decide) ?_
        exact absurd h66 (Nat.not_lt_zero _)
    · 
      refine J_aload_n (pc := 33) dX0_gather_33 rfl ?_
      refine J_iload_n (pc := 34) dX0_gather_34 rfl ?_
      refine K_callVi (pc := 35) (id := 95) (As := [_]) dX0_gather_35 kl_X0_76 rfl job_95 rfl rfl (Nat.le_of_ble_eq_true rfl) (c_follow (m := mm) (d := d) hi h30) (fun v35 m35 h35 => ?_)
      obtain ⟨rfl, hx35a, hS35a⟩ := h35
      have hx35 : exs [95, 100, 101] m m35 := fun q hq => (hx35a q (fun z => hq (by simp at z ⊢; omega))).trans (hx q hq)
      have e95 : m35 95 = mm 95 := hx35a 95 (by decide)
      have hnz : ¬ gS (m 100) i i = 0 := by rw [← hS i hi]; exact h30
      have hg : gN (m 100) i = cnt (rB (mm 100) i) 48 := by
        rw [(gth_1 hnz).2]
        exact cnt_c 48 fun q _ => (rB_c hS i q).symm
      have hg48 := cnt_le (rB (mm 100) i) 48
      have hS35 : ∀ q, q < 48 → m35 100 q = gS (m 100) (i + 1) q := fun q hq => by
        rw [(gth_1 hnz).1, hS35a q hq, rB_c hS i q, hS q hq]
      refine J_goto (pc := 38) (tgt := 42) dX0_gather_38 (by decide) ?_
      refine J_istore_n (pc := 42) (ls' := [some _, some _, some _]) dX0_gather_42 rfl (Nat.le_of_ble_eq_true rfl) rfl ?_
      refine J_aload_n (pc := 43) dX0_gather_43 rfl ?_
      refine J_dup (pc := 44) dX0_gather_44 rfl ?_
      refine K_getI (pc := 45) dX0_gather_45 kf_X0_31 job_95 jrf_95_6 ?_
      refine J_top (b := nI (bea (m 100) i)) (by rw [e95]; exact hb) ?_
      refine J_iload_n (pc := 48) dX0_gather_48 rfl ?_
      refine Jn_if_le (pc := 49) (tgt := 56) dX0_gather_49 (by decide) (by omega) (fun h49 => ?_) (fun h49 => ?_)
      · 
        refine J_iconst (pc := 56) dX0_gather_56 kni_0 ?_
        refine J_iaddv (pc := 57) dX0_gather_57 (nI_add _ _) ?_
        refine K_put (pc := 58) dX0_gather_58 kp_X0_31 job_95 jrf_95_6 rfl rfl ?_
        refine J_iload_n (pc := 61) dX0_gather_61 rfl ?_
        refine J_aload_n (pc := 62) dX0_gather_62 rfl ?_
        refine K_getI (pc := 63) dX0_gather_63 kf_X0_35 job_95 jrf_95_7 ?_
        refine J_top (b := nI ((mst (m 100) i).1)) (by rw [mup_j (by decide), e95]; exact hm) ?_
        refine Jn_le (pc := 66) (tgt := 79) dX0_gather_66 (by decide) (by omega) (by omega) (fun h66 => ?_) (fun h66 => ?_)
        · 
          refine Jn_iinc (pc := 79) (ls' := [some _, some _, some _]) dX0_gather_79 rfl knz_1 rfl rfl ?_
          refine J_goto (pc := 82) (tgt := 18) dX0_gather_82 (by decide) ?_
          have hms : mst (m 100) (i + 1) = mst (m 100) i := by rw [mst, hg]; exact if_neg (by omega)
          refine J_wk' (ih18 [some (.ref (jxb x + 95)), some (.int (nI (i + 1))), none] _ ⟨rfl, exs_up hx35 (by decide), fun q hq => by rw [mup_i (by decide)]; exact hS35 q hq, by rw [bea, if_neg (by rw [hg]; omega), mup_s], by rw [hms, mup_j (by decide), e95]; exact hm, by rw [hms, mup_j (by decide), e95]; exact hf⟩) rfl ?_
          · rintro (_ | _ | _ | _ | k) v hv <;> first | exact hv | cases hv
        · 
          refine J_aload_n (pc := 69) dX0_gather_69 rfl ?_
          refine J_iload_n (pc := 70) dX0_gather_70 rfl ?_
          refine K_put (pc := 71) dX0_gather_71 kp_X0_35 job_95 jrf_95_7 rfl rfl ?_
          refine J_aload_n (pc := 74) dX0_gather_74 rfl ?_
          refine J_iload_n (pc := 75) dX0_gather_75 rfl ?_
          refine K_put (pc := 76) dX0_gather_76 kp_X0_39 job_95 jrf_95_8 rfl rfl ?_
          refine Jn_iinc (pc := 79) (ls' := [some _, some _, some _]) dX0_gather_79 rfl knz_1 rfl rfl ?_
          refine J_goto (pc := 82) (tgt := 18) dX0_gather_82 (by decide) ?_
          have hms : mst (m 100) (i + 1) = (cnt (rB (mm 100) i) 48, nI i) := by rw [mst, hg]; exact if_pos h66
          refine J_wk' (ih18 [some (.ref (jxb x + 95)), some (.int (nI (i + 1))), none] _ ⟨rfl, exs_up (exs_up (exs_up hx35 (by decide)) (by decide)) (by decide), fun q hq => by rw [mup_i (by decide), mup_i (by decide), mup_i (by decide)]; exact hS35 q hq, by rw [bea, if_neg (by rw [hg]; omega), mup_j (by decide), mup_j (by decide), mup_s], by rw [hms, mup_j (by decide), mup_s], by rw [hms, mup_s]⟩) rfl ?_
          · rintro (_ | _ | _ | _ | k) v hv <;> first | exact hv | cases hv
      · 
        refine J_iconst (pc := 52) dX0_gather_52 kni_1 ?_
        refine J_goto (pc := 53) (tgt := 57) dX0_gather_53 (by decide) ?_
        refine J_iaddv (pc := 57) dX0_gather_57 (nI_add _ _) ?_
        refine K_put (pc := 58) dX0_gather_58 kp_X0_31 job_95 jrf_95_6 rfl rfl ?_
        refine J_iload_n (pc := 61) dX0_gather_61 rfl ?_
        refine J_aload_n (pc := 62) dX0_gather_62 rfl ?_
        refine K_getI (pc := 63) dX0_gather_63 kf_X0_35 job_95 jrf_95_7 ?_
        refine J_top (b := nI ((mst (m 100) i).1)) (by rw [mup_j (by decide), e95]; exact hm) ?_
        refine Jn_le (pc := 66) (tgt := 79) dX0_gather_66 (by decide) (by omega) (by omega) (fun h66 => ?_) (fun h66 => ?_)
        · 
          refine Jn_iinc (pc := 79) (ls' := [some _, some _, some _]) dX0_gather_79 rfl knz_1 rfl rfl ?_
          refine J_goto (pc := 82) (tgt := 18) dX0_gather_82 (by decide) ?_
          have hms : mst (m 100) (i + 1) = mst (m 100) i := by rw [mst, hg]; exact if_neg (by omega)
          refine J_wk' (ih18 [some (.ref (jxb x + 95)), some (.int (nI (i + 1))), none] _ ⟨rfl, exs_up hx35 (by decide), fun q hq => by rw [mup_i (by decide)]; exact hS35 q hq, by rw [bea, if_pos (by rw [hg]; exact h49), mup_s], by rw [hms, mup_j (by decide), e95]; exact hm, by rw [hms, mup_j (by decide), e95]; exact hf⟩) rfl ?_
          · rintro (_ | _ | _ | _ | k) v hv <;> first | exact hv | cases hv
        · 
          refine J_aload_n (pc := 69) dX0_gather_69 rfl ?_
          refine J_iload_n (pc := 70) dX0_gather_70 rfl ?_
          refine K_put (pc := 71) dX0_gather_71 kp_X0_35 job_95 jrf_95_7 rfl rfl ?_
          refine J_aload_n (pc := 74) dX0_gather_74 rfl ?_
          refine J_iload_n (pc := 75) dX0_gather_75 rfl ?_
          refine K_put (pc := 76) dX0_gather_76 kp_X0_39 job_95 jrf_95_8 rfl rfl ?_
          refine Jn_iinc (pc := 79) (ls' := [some _, some _, some _]) dX0_gather_79 rfl knz_1 rfl rfl ?_
          refine J_goto (pc := 82) (tgt := 18) dX0_gather_82 (by decide) ?_
          have hms : mst (m 100) (i + 1) = (cnt (rB (mm 100) i) 48, nI i) := by rw [mst, hg]; exact if_pos h66
          refine J_wk' (ih18 [some (.ref (jxb x + 95)), some (.int (nI (i + 1))), none] _ ⟨rfl, exs_up (exs_up (exs_up hx35 (by decide)) (by decide)) (by decide), fun q hq => by rw [mup_i (by decide), mup_i (by decide), mup_i (by decide)]; exact hS35 q hq, by rw [bea, if_pos (by rw [hg]; exact h49), mup_j (by decide), mup_j (by decide), mup_s], by rw [hms, mup_j (by decide), mup_s], by rw [hms, mup_s]⟩) rfl ?_
          · rintro (_ | _ | _ | _ | k) v hv <;> first | exact hv | cases hv
  ·
    obtain ⟨rfl, hx, hS, hb, hm, hf⟩ := hI18
    refine J_iload_n (pc := 18) dX0_gather_18 rfl ?_
    refine J_bipush (pc := 19) dX0_gather_19 knb_48 ?_
    refine Jn_ge (pc := 21) (tgt := 85) dX0_gather_21 (by decide) (by omega) (by omega) (fun h21 => ?_) (fun h21 => absurd h21 (by omega))
    refine K_vret (pc := 85) dX0_gather_85 rfl ⟨rfl, ?_⟩
    exact ⟨hx, hb, hm, hf⟩
