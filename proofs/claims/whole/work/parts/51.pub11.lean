/-- the habit's pull of a group -/
def hbT (m : jm) (T j : Nat) : Int32 := bestV m 1 (nI j) T
def hbV (m : jm) (T q j : Nat) : Int32 := if hbT m T j = -1000000005 then m 12 j else heldV (textV m (hbT m T j) (q0V (shadeS m q)) (q1V (shadeS m q)) (q2V (shadeS m q) (m 13 2)) (q3V (shadeS m q) (m 13 2))) (nI 9)
def hbC (m : jm) (T q : Nat) : Nat → Bool := fun j => decide (¬ m 12 j = hbV m T q j)
set_option maxRecDepth 100000 in
set_option maxHeartbeats 400000 in
theorem p_habit {x : jX} {m : jm} {d : Nat} (g : Int32) {T : Nat} (hT : m 1 14 = nI T) (hT14 : T ≤ 14) (hX : ∀ j, j < 6 → wfX m (bestV m 1 (nI j) T)) : Ct x (d + 4) eX7_habit [.ref (jxb x + 0), .int g] m (ji fun rv m' => exs [12, 68, 69, 94] m m' ∧ (nI 0 ≤ g ∧ g ≤ nI 3 → ∀ j, j < 6 → m' 12 j = hbV m T (tN g) j) ∧ (¬ (nI 0 ≤ g ∧ g ≤ nI 3) → m' 12 = m 12) ∧ (∀ j, 6 ≤ j → m' 12 j = m' 12 j) ∧ rv = if ¬ (nI 0 ≤ g ∧ g ≤ nI 3) then -1000000001 else nI (cnt (hbC m T (tN g)) 6)) := by
  refine J_start (by decide +kernel) (Nat.le_of_ble_eq_true rfl) (ls := [some (.ref (jxb x + 0)), some (.int g), none, none, none, none, none]) rfl rfl ?_
  refine J_iload_n (pc := 0) dX7_habit_0 rfl ?_
  refine K_callSp (pc := 1) (As := [_]) dX7_habit_1 kl_X7_213 rfl rfl (Nat.le_of_ble_eq_true rfl) (c_isGround g) ?_
  refine Jb_ne (pc := 4) (tgt := 10) dX7_habit_4 (by decide) (fun h4 => ?_) (fun h4 => ?_)
  · 
    obtain ⟨q, hq, hqe⟩ := w_of h4 (by decide)
    have htq : tN g = q := by rw [hqe]; exact tN_n (by omega)
    subst hqe
    refine J_aload_n (pc := 10) dX7_habit_10 rfl ?_
    refine K_getR (pc := 11) dX7_habit_11 kf_X7_25 job_0 jrf_0_3 ?_
    refine J_iload_n (pc := 14) dX7_habit_14 rfl ?_
    refine J_aload_n (pc := 15) dX7_habit_15 rfl ?_
    refine K_getR (pc := 16) dX7_habit_16 kf_X7_10 job_0 jrf_0_0 ?_
    refine K_getR (pc := 19) dX7_habit_19 kf_X7_146 job_1 jrf_1_12 ?_
    refine J_iconst (pc := 22) dX7_habit_22 kni_2 ?_
    refine K_ialdn (pc := 23) (id := 13) dX7_habit_23 jar_13 (by decide) (by decide) ?_
    refine K_callVr (pc := 24) (id := 40) (As := [_, _]) dX7_habit_24 kl_X7_220 rfl job_40 rfl rfl (Nat.le_of_ble_eq_true rfl) (c_askAll (g := q) (by omega) (m 13 2)) (fun m24 h24 => ?_)
    subst h24
    refine J_astore_n (pc := 27) (ls' := [some _, some _, some _, none, none, none, none]) dX7_habit_27 rfl (Nat.le_of_ble_eq_true rfl) rfl ?_
    refine J_iconst (pc := 28) dX7_habit_28 kni_0 ?_
    refine J_istore_n (pc := 29) (ls' := [some _, some _, some _, some _, none, none, none]) dX7_habit_29 rfl (Nat.le_of_ble_eq_true rfl) rfl ?_
    refine J_iconst (pc := 30) dX7_habit_30 kni_0 ?_
    refine J_istore (pc := 31) (ls' := [some _, some _, some _, some _, some _, none, none]) dX7_habit_31 rfl (Nat.le_of_ble_eq_true rfl) rfl ?_
    refine K_inv (pc := 33) 6 (fun i lsq mq => lsq = [some (.ref (jxb x + 0)), some (.int (nI q)), some (.ref (jxb x + 69)), some (.int (nI (cnt (hbC m T q) i))), some (.int (nI i)), none, none] ∧ (exs [12, 68, 69, 94] m mq) ∧ (∀ j, j < 6 → mq 12 j = if j < i then hbV m T q j else m 12 j) ∧ (mq 69 0 = (q0V (shadeS m q)) ∧ mq 69 1 = (q1V (shadeS m q)) ∧ mq 69 2 = (q2V (shadeS m q) (m 13 2)) ∧ mq 69 3 = (q3V (shadeS m q) (m 13 2)))) (fun i hi lsq mm hI33 ih33 => ?_) (fun lsq mm hI33 => ?_) 0 (Nat.zero_le _) _ _ (⟨rfl, fun k hk => by simp only [List.mem_cons, List.not_mem_nil, or_false, not_or] at hk; exact askM_i (by omega) (by omega), fun j hj => by rw [askM_i (by decide) (by decide), if_neg (Nat.not_lt_zero _)], ⟨rfl, rfl, rfl, rfl⟩⟩)
    ·
      obtain ⟨rfl, hx, hp, hq4⟩ := hI33
      have e1 : ∀ k, k ≠ 12 → k ≠ 68 → k ≠ 69 → k ≠ 94 → mm k = m k := fun k a b c e => hx k (by simp; omega)
      have hb : bestV mm 1 (nI i) T = hbT m T i := bestV_c (e1 75 (by decide) (by decide) (by decide) (by decide)) (e1 76 (by decide) (by decide) (by decide) (by decide)) (by rw [e1 1 (by decide) (by decide) (by decide) (by decide)]) T
      have hc6 := cnt_le (hbC m T q) i
      have hXi : wfX m (hbT m T i) := hX i hi
      refine J_iload (pc := 33) dX7_habit_33 rfl ?_
      refine J_bipush (pc := 35) dX7_habit_35 knb_6 ?_
      refine Jn_ge (pc := 37) (tgt := 123) dX7_habit_37 (by decide) (by omega) (by omega) (fun h37 => absurd h37 (by omega)) (fun h37 => ?_)
      refine J_aload_n (pc := 40) dX7_habit_40 rfl ?_
      refine K_getR (pc := 41) dX7_habit_41 kf_X7_39 job_0 jrf_0_5 ?_
      refine J_iload (pc := 44) dX7_habit_44 rfl ?_
      refine J_aload_n (pc := 46) dX7_habit_46 rfl ?_
      refine K_getR (pc := 47) dX7_habit_47 kf_X7_10 job_0 jrf_0_0 ?_
      refine K_callVp (pc := 50) (id := 74) (As := [_, _]) dX7_habit_50 kl_X7_246 rfl job_74 rfl rfl (Nat.le_of_ble_eq_true rfl) (c_counting (m := mm) (o := 1) (T := T) (Or.inl rfl) (by rw [e1 1 (by decide) (by decide) (by decide) (by decide)]; exact hT) hT14 (nI i)) ?_
      refine J_top (b := (hbT m T i)) (hb) ?_
      refine J_istore (pc := 53) (ls' := [some _, some _, some _, some _, some _, some _, none]) dX7_habit_53 rfl (Nat.le_of_ble_eq_true rfl) rfl ?_
      refine J_iload (pc := 55) dX7_habit_55 rfl ?_
      refine J_ldc (pc := 57) dX7_habit_57 kc_X7_84 ?_
      refine J_icmp_eq (pc := 59) (tgt := 117) dX7_habit_59 (by decide) (fun h59 => ?_) (fun h59 => ?_)
      · 
        refine Jn_iinc (pc := 117) (ls' := [some _, some _, some _, some _, some _, some _, none]) dX7_habit_117 rfl knz_1 rfl rfl ?_
        refine J_goto (pc := 120) (tgt := 33) dX7_habit_120 (by decide) ?_
        have eh : hbV m T q i = m 12 i := if_pos h59
        have ec : cnt (hbC m T q) (i + 1) = cnt (hbC m T q) i := (cnt_f (by unfold hbC; rw [eh]; simp)).trans rfl
        refine J_wk' (ih33 [some (.ref (jxb x + 0)), some (.int (nI q)), some (.ref (jxb x + 69)), some (.int (nI (cnt (hbC m T q) i))), some (.int (nI (i + 1))), none, none] _ ⟨by rw [ec], hx, fun j hj => ?_, hq4⟩) rfl ?_
        · rw [hp j hj]
          by_cases a : j < i
          · rw [if_pos a, if_pos (by omega)]
          · rw [if_neg a]
            by_cases b : j < i + 1
            · rw [if_pos b, show j = i by omega, eh]
            · rw [if_neg b]
        · rintro (_ | _ | _ | _ | _ | _ | _ | _ | k) v hv <;> first | exact hv | cases hv
      · 
        refine J_aload_n (pc := 62) dX7_habit_62 rfl ?_
        refine K_getR (pc := 63) dX7_habit_63 kf_X7_39 job_0 jrf_0_5 ?_
        refine J_iload (pc := 66) dX7_habit_66 rfl ?_
        refine J_aload_n (pc := 68) dX7_habit_68 rfl ?_
        refine J_iconst (pc := 69) dX7_habit_69 kni_0 ?_
        refine K_ialdn (pc := 70) (id := 69) dX7_habit_70 jar_69 (by decide) (by decide) ?_
        refine J_top (b := (q0V (shadeS m q))) (hq4.1) ?_
        refine J_aload_n (pc := 71) dX7_habit_71 rfl ?_
        refine J_iconst (pc := 72) dX7_habit_72 kni_1 ?_
        refine K_ialdn (pc := 73) (id := 69) dX7_habit_73 jar_69 (by decide) (by decide) ?_
        refine J_top (b := (q1V (shadeS m q))) (hq4.2.1) ?_
        refine J_aload_n (pc := 74) dX7_habit_74 rfl ?_
        refine J_iconst (pc := 75) dX7_habit_75 kni_2 ?_
        refine K_ialdn (pc := 76) (id := 69) dX7_habit_76 jar_69 (by decide) (by decide) ?_
        refine J_top (b := (q2V (shadeS m q) (m 13 2))) (hq4.2.2.1) ?_
        refine J_aload_n (pc := 77) dX7_habit_77 rfl ?_
        refine J_iconst (pc := 78) dX7_habit_78 kni_3 ?_
        refine K_ialdn (pc := 79) (id := 69) dX7_habit_79 jar_69 (by decide) (by decide) ?_
        refine J_top (b := (q3V (shadeS m q) (m 13 2))) (hq4.2.2.2) ?_
        refine K_callVi (pc := 80) (id := 74) (As := [_, _, _, _, _]) dX7_habit_80 kl_X7_250 rfl job_74 rfl rfl (Nat.le_of_ble_eq_true rfl) (c_worthV (m := mm) h59 (wfX_c (e1 78 (by decide) (by decide) (by decide) (by decide)) (fun t ht => e1 _ (by omega) (by omega) (by omega) (by omega)) hXi) _ _ _ _) (fun v80 m80 h80 => ?_)
        obtain ⟨rfl, x80⟩ := h80
        have h14 := (wfX_80 hXi).resolve_left h59
        rw [textV_c (e1 _ (by omega) (by omega) (by omega) (by omega)) (e1 78 (by decide) (by decide) (by decide) (by decide))]
        refine J_bipush (pc := 83) dX7_habit_83 knb_9 ?_
        refine K_callSp (pc := 85) (As := [_, _]) dX7_habit_85 kl_X7_253 rfl rfl (Nat.le_of_ble_eq_true rfl) (c_held _ _) ?_
        refine J_istore (pc := 88) (ls' := [some _, some _, some _, some _, some _, some _, some _]) dX7_habit_88 rfl (Nat.le_of_ble_eq_true rfl) rfl ?_
        refine J_iload_n (pc := 90) dX7_habit_90 rfl ?_
        refine J_aload_n (pc := 91) dX7_habit_91 rfl ?_
        refine K_getR (pc := 92) dX7_habit_92 kf_X7_10 job_0 jrf_0_0 ?_
        refine K_getR (pc := 95) dX7_habit_95 kf_X7_137 job_1 jrf_1_11 ?_
        refine J_iload (pc := 98) dX7_habit_98 rfl ?_
        refine J_iload (pc := 100) dX7_habit_100 rfl ?_
        refine K_callSi (pc := 102) (As := [_, _, _]) dX7_habit_102 kl_X7_130 rfl rfl (Nat.le_of_ble_eq_true rfl) (c_replaced (m := m80) (ar := 12) (nn := 6) (j := i) (jSt_pull (Or.inl rfl)) (by omega) (by decide) (heldV (textV m (hbT m T i) (q0V (shadeS m q)) (q1V (shadeS m q)) (q2V (shadeS m q) (m 13 2)) (q3V (shadeS m q) (m 13 2))) (nI 9))) (fun v102 m102 h102 => ?_)
        obtain ⟨rfl, rfl⟩ := h102
        refine J_top (b := (m 12 i)) (by rw [x80 12 (by decide), hp i (by omega), if_neg (by omega)]) ?_
        refine J_iload (pc := 105) dX7_habit_105 rfl ?_
        refine J_icmp_ne (pc := 107) (tgt := 114) dX7_habit_107 (by decide) (fun h107 => ?_) (fun h107 => ?_)
        · 
          refine J_iconst (pc := 114) dX7_habit_114 kni_1 ?_
          refine J_iaddv (pc := 115) dX7_habit_115 (nI_add _ _) ?_
          refine J_istore_n (pc := 116) (ls' := [some _, some _, some _, some _, some _, some _, some _]) dX7_habit_116 rfl (Nat.le_of_ble_eq_true rfl) rfl ?_
          refine Jn_iinc (pc := 117) (ls' := [some _, some _, some _, some _, some _, some _, some _]) dX7_habit_117 rfl knz_1 rfl rfl ?_
          refine J_goto (pc := 120) (tgt := 33) dX7_habit_120 (by decide) ?_
          have eh : hbV m T q i = (heldV (textV m (hbT m T i) (q0V (shadeS m q)) (q1V (shadeS m q)) (q2V (shadeS m q) (m 13 2)) (q3V (shadeS m q) (m 13 2))) (nI 9)) := if_neg h59
          have ec : cnt (hbC m T q) (i + 1) = cnt (hbC m T q) i + 1 := cnt_t (decide_eq_true (by rw [eh]; exact h107))
          refine J_wk' (ih33 [some (.ref (jxb x + 0)), some (.int (nI q)), some (.ref (jxb x + 69)), some (.int (nI (cnt (hbC m T q) i + 1))), some (.int (nI (i + 1))), none, none] _ ⟨by rw [ec], exs_up (exs_tr hx (exs_w x80 (by decide))) (by decide), fun j hj => ?_, ⟨(mup_i (by decide)).trans ((congrFun (x80 69 (by decide)) 0).trans hq4.1), (mup_i (by decide)).trans ((congrFun (x80 69 (by decide)) 1).trans hq4.2.1), (mup_i (by decide)).trans ((congrFun (x80 69 (by decide)) 2).trans hq4.2.2.1), (mup_i (by decide)).trans ((congrFun (x80 69 (by decide)) 3).trans hq4.2.2.2)⟩⟩) rfl ?_
          · by_cases b : j = i
            · subst b
              rw [mup_s, if_pos (by omega), eh]
            · rw [mup_j b, x80 12 (by decide), hp j hj]
              by_cases a : j < i
              · rw [if_pos a, if_pos (by omega)]
              · rw [if_neg a, if_neg (by omega)]
          · rintro (_ | _ | _ | _ | _ | _ | _ | _ | k) v hv <;> first | exact hv | cases hv
        · 
          refine J_iconst (pc := 110) dX7_habit_110 kni_0 ?_
          refine J_goto (pc := 111) (tgt := 115) dX7_habit_111 (by decide) ?_
          refine J_iaddv (pc := 115) dX7_habit_115 (nI_add _ _) ?_
          refine J_istore_n (pc := 116) (ls' := [some _, some _, some _, some _, some _, some _, some _]) dX7_habit_116 rfl (Nat.le_of_ble_eq_true rfl) rfl ?_
          refine Jn_iinc (pc := 117) (ls' := [some _, some _, some _, some _, some _, some _, some _]) dX7_habit_117 rfl knz_1 rfl rfl ?_
          refine J_goto (pc := 120) (tgt := 33) dX7_habit_120 (by decide) ?_
          have eh : hbV m T q i = (heldV (textV m (hbT m T i) (q0V (shadeS m q)) (q1V (shadeS m q)) (q2V (shadeS m q) (m 13 2)) (q3V (shadeS m q) (m 13 2))) (nI 9)) := if_neg h59
          have ec : cnt (hbC m T q) (i + 1) = cnt (hbC m T q) i + 0 := cnt_f (fun z => of_decide_eq_true z (by rw [eh]; exact h107))
          refine J_wk' (ih33 [some (.ref (jxb x + 0)), some (.int (nI q)), some (.ref (jxb x + 69)), some (.int (nI (cnt (hbC m T q) i + 0))), some (.int (nI (i + 1))), none, none] _ ⟨by rw [ec], exs_up (exs_tr hx (exs_w x80 (by decide))) (by decide), fun j hj => ?_, ⟨(mup_i (by decide)).trans ((congrFun (x80 69 (by decide)) 0).trans hq4.1), (mup_i (by decide)).trans ((congrFun (x80 69 (by decide)) 1).trans hq4.2.1), (mup_i (by decide)).trans ((congrFun (x80 69 (by decide)) 2).trans hq4.2.2.1), (mup_i (by decide)).trans ((congrFun (x80 69 (by decide)) 3).trans hq4.2.2.2)⟩⟩) rfl ?_
          · by_cases b : j = i
            · subst b
              rw [mup_s, if_pos (by omega), eh]
            · rw [mup_j b, x80 12 (by decide), hp j hj]
              by_cases a : j < i
              · rw [if_pos a, if_pos (by omega)]
              · rw [if_neg a, if_neg (by omega)]
          · rintro (_ | _ | _ | _ | _ | _ | _ | _ | k) v hv <;> first | exact hv | cases hv
    ·
      obtain ⟨rfl, hx, hp, hq4⟩ := hI33
      refine J_iload (pc := 33) dX7_habit_33 rfl ?_
      refine J_bipush (pc := 35) dX7_habit_35 knb_6 ?_
      refine Jn_ge (pc := 37) (tgt := 123) dX7_habit_37 (by decide) (by omega) (by omega) (fun h37 => ?_) (fun h37 => absurd h37 (by omega))
      refine J_iload_n (pc := 123) dX7_habit_123 rfl ?_
      refine K_iret (pc := 124) dX7_habit_124 rfl ⟨_, rfl, ?_⟩
      refine ⟨hx, fun _ j hj => ?_, fun z => absurd h4 z, fun _ _ => rfl, ?_⟩
      · rw [hp j hj, if_pos hj, htq]
      · rw [if_neg (Classical.not_not.mpr h4), htq]
  · 
    refine J_ldc (pc := 7) dX7_habit_7 kc_X7_80 ?_
    refine K_iret (pc := 9) dX7_habit_9 rfl ⟨_, rfl, ?_⟩
    exact ⟨exs_rf _ _, fun z => absurd z h4, fun _ => rfl, fun _ _ => rfl, (if_pos h4).symm⟩
