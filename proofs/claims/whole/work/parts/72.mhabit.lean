theorem cntR_c {m m' : jm} {w : Int32} (h1 : m' 141 1 = m 141 1) (h : ∀ j, 440 ≤ j → m' 141 j = m 141 j) : ∀ n, cntR m' w n = cntR m w n
  | 0 => rfl
  | n + 1 => by
    unfold cntR
    rw [cntR_c h1 h n, h1, h _ (by omega), h _ (by omega), h _ (by omega)]
theorem txV_c {m m' : jm} {tx a b c e : Int32} (h : ∀ j, 440 ≤ j → m' 141 j = m 141 j) : txV m' tx a b c e = txV m tx a b c e := by
  have e1 : cdR m' (tN tx) = cdR m (tN tx) := by
    funext k
    unfold cdR wdR wvR
    rw [h _ (by omega), h _ (by omega)]
  unfold txV
  rw [e1, h _ (by omega)]
/-- the pulls that a habit puts -/
def hbW (m : jm) (g T j : Nat) : Int32 := if cntR m (nI j) T < 0 then m 141 (30 + j) else hldV (txV m (cntR m (nI j) T) (qstR m g (nI 0)) (qstR m g (nI 1)) (qstR m g (nI 2)) (qstR m g (nI 3))) (nI 9)
def hbD (m : jm) (g T : Nat) : Nat → Bool := fun j => decide (¬ hbW m g T j = m 141 (30 + j))
def hb141 (m : jm) (g T n : Nat) : Nat → Int32 := fun k => if 30 ≤ k ∧ k < 30 + n then hbW m g T (k - 30) else m 141 k
def hbP (m : jm) (g T n : Nat) (m' : jm) : Prop := exs [140, 141, 151, 152] m m' ∧ (∀ k, k ≠ 33 → m' 140 k = m 140 k) ∧ (0 < n → m' 140 33 = nI 0) ∧ m' 141 = hb141 m g T n ∧ m' 151 = nmM m (nI 0) (qstR m g (nI 0)) (qstR m g (nI 1)) (qstR m g (nI 2)) (qstR m g (nI 3)) 151
theorem hb_0 (m : jm) (g T : Nat) : hb141 m g T 0 = m 141 := by
  funext k
  exact if_neg (by omega)
theorem hb_out {m : jm} {g T n k : Nat} (h : k < 30 ∨ 30 + n ≤ k) : hb141 m g T n k = m 141 k := if_neg (by omega)
theorem hb_up {m b : jm} {g T n : Nat} (h : b 141 = hb141 m g T n) : mup b 141 (30 + n) (hbW m g T n) 141 = hb141 m g T (n + 1) := by
  funext k
  by_cases e : k = 30 + n
  · subst e
    rw [mup_s]
    exact ((if_pos (by omega)).trans (congrArg (hbW m g T) (by omega))).symm
  · rw [mup_j e, h]
    unfold hb141
    by_cases q : 30 ≤ k ∧ k < 30 + n
    · rw [if_pos q, if_pos (by omega)]
    · rw [if_neg q, if_neg (by omega)]
theorem hbP_up {m b c : jm} {g T n : Nat} (h : hbP m g T n b) (hc : exs [152] b c) : hbP m g T (n + 1) (mup (mup c 141 (30 + n) (hbW m g T n)) 140 33 (nI 0)) := by
  obtain ⟨h1, h2, h3, h4, h5⟩ := h
  refine ⟨fun i hi => ?_, fun k hk => ?_, fun _ => mup_s, ?_, ?_⟩
  · rw [mup_i' (fun z => hi (by rw [z]; decide)), mup_i' (fun z => hi (by rw [z]; decide)), hc i (fun z => hi (by simp at z ⊢; omega))]
    exact h1 i hi
  · rw [mup_j hk, mup_i (by decide), hc 140 (by decide)]
    exact h2 k hk
  · rw [mup_i' (by decide)]
    exact hb_up (by rw [hc 141 (by decide)]; exact h4)
  · rw [mup_i' (by decide), mup_i' (by decide), hc 151 (by decide)]
    exact h5
set_option maxRecDepth 100000 in
set_option maxHeartbeats 400000 in
theorem m_habit {x : jX} {m : jm} {d : Nat} (g : Int32) {T : Nat} (hT : m 141 6 = nI T) (hT14 : T ≤ 14) (hS : ∀ t, t < T → sndT m t) : Ct x (d + 3) eX8_habit [.ref (jxb x + 140), .int g] m (ji fun rv m' => (¬ (nI 0 ≤ g ∧ g ≤ nI 3) ∧ rv = -1000000001 ∧ m' = m) ∨ ((nI 0 ≤ g ∧ g ≤ nI 3) ∧ rv = nI (cnt (hbD m (tN g) T) 6) ∧ hbP m (tN g) T 6 m')) := by
  refine J_start (by decide +kernel) (Nat.le_of_ble_eq_true rfl) (ls := [some (.ref (jxb x + 140)), some (.int g), none, none, none, none]) rfl rfl ?_
  refine J_iload_n (pc := 0) dX8_habit_0 rfl ?_
  refine K_callSp (pc := 1) (As := [_]) dX8_habit_1 kl_X8_168 rfl rfl (Nat.le_of_ble_eq_true rfl) (m_isGround g) ?_
  refine Jb_ne (pc := 4) (tgt := 10) dX8_habit_4 (by decide) (fun h4 => ?_) (fun h4 => ?_)
  · 
    obtain ⟨q, hq, hqe⟩ := w_of h4 (by decide)
    have htq : tN g = q := by rw [hqe]; exact tN_n (by omega)
    subst hqe
    refine J_aload_n (pc := 10) dX8_habit_10 rfl ?_
    refine J_iconst (pc := 11) dX8_habit_11 kni_0 ?_
    refine J_aload_n (pc := 12) dX8_habit_12 rfl ?_
    refine J_iload_n (pc := 13) dX8_habit_13 rfl ?_
    refine J_iconst (pc := 14) dX8_habit_14 kni_0 ?_
    refine K_callVp (pc := 15) (id := 140) (As := [_, _]) dX8_habit_15 kl_X8_177 rfl job_140 rfl rfl (Nat.le_of_ble_eq_true rfl) (m_questionOf (g := q) (by omega) (nI 0)) ?_
    refine J_aload_n (pc := 18) dX8_habit_18 rfl ?_
    refine J_iload_n (pc := 19) dX8_habit_19 rfl ?_
    refine J_iconst (pc := 20) dX8_habit_20 kni_1 ?_
    refine K_callVp (pc := 21) (id := 140) (As := [_, _]) dX8_habit_21 kl_X8_177 rfl job_140 rfl rfl (Nat.le_of_ble_eq_true rfl) (m_questionOf (g := q) (by omega) (nI 1)) ?_
    refine J_aload_n (pc := 24) dX8_habit_24 rfl ?_
    refine J_iload_n (pc := 25) dX8_habit_25 rfl ?_
    refine J_iconst (pc := 26) dX8_habit_26 kni_2 ?_
    refine K_callVp (pc := 27) (id := 140) (As := [_, _]) dX8_habit_27 kl_X8_177 rfl job_140 rfl rfl (Nat.le_of_ble_eq_true rfl) (m_questionOf (g := q) (by omega) (nI 2)) ?_
    refine J_aload_n (pc := 30) dX8_habit_30 rfl ?_
    refine J_iload_n (pc := 31) dX8_habit_31 rfl ?_
    refine J_iconst (pc := 32) dX8_habit_32 kni_3 ?_
    refine K_callVp (pc := 33) (id := 140) (As := [_, _]) dX8_habit_33 kl_X8_177 rfl job_140 rfl rfl (Nat.le_of_ble_eq_true rfl) (m_questionOf (g := q) (by omega) (nI 3)) ?_
    refine K_callVv (pc := 36) (id := 140) (As := [_, _, _, _, _]) dX8_habit_36 kl_X8_287 rfl job_140 rfl rfl (Nat.le_of_ble_eq_true rfl) (m_nameAll (nI 0) _ _ _ _) (fun m36 h36 => ?_)
    subst h36
    refine J_iconst (pc := 39) dX8_habit_39 kni_0 ?_
    refine J_istore_n (pc := 40) (ls' := [some _, some _, some _, none, none, none]) dX8_habit_40 rfl (Nat.le_of_ble_eq_true rfl) rfl ?_
    refine J_iconst (pc := 41) dX8_habit_41 kni_0 ?_
    refine J_istore_n (pc := 42) (ls' := [some _, some _, some _, some _, none, none]) dX8_habit_42 rfl (Nat.le_of_ble_eq_true rfl) rfl ?_
    refine K_inv (pc := 43) 6 (fun j lsq mq => lsq = [some (.ref (jxb x + 140)), some (.int (nI q)), some (.int (nI (cnt (hbD m q T) j))), some (.int (nI j)), none, none] ∧ (hbP m q T j mq)) (fun j hj lsq mm hI43 ih43 => ?_) (fun lsq mm hI43 => ?_) 0 (Nat.zero_le _) _ _ (⟨rfl, fun i hi => nmM_i (fun z => hi (by rw [z]; decide)), fun k hk => congrFun (nmM_i (by decide)) k, fun z => absurd z (by decide), (nmM_i (by decide)).trans (hb_0 m q T).symm, rfl⟩)
    ·
      obtain ⟨rfl, hp⟩ := hI43
      have hcl := cnt_le (hbD m q T) j
      have e141 : ∀ k, k < 30 ∨ 30 + j ≤ k → mm 141 k = m 141 k := fun k hk => (congrFun hp.2.2.2.1 k).trans (hb_out hk)
      have hcn : cntR mm (nI j) T = cntR m (nI j) T := cntR_c (e141 1 (by omega)) (fun k hk => e141 k (by omega)) T
      refine J_iload_n (pc := 43) dX8_habit_43 rfl ?_
      refine J_bipush (pc := 44) dX8_habit_44 knb_6 ?_
      refine Jn_ge (pc := 46) (tgt := 130) dX8_habit_46 (by decide) (by omega) (by omega) (fun h46 => absurd h46 (by omega)) (fun h46 => ?_)
      refine J_aload_n (pc := 49) dX8_habit_49 rfl ?_
      refine J_iload_n (pc := 50) dX8_habit_50 rfl ?_
      refine K_callVp (pc := 51) (id := 140) (As := [_]) dX8_habit_51 kl_X8_280 rfl job_140 rfl rfl (Nat.le_of_ble_eq_true rfl) (m_counts (m := mm) (T := T) ((e141 6 (by omega)).trans hT) hT14 (nI j)) ?_
      refine J_top (b := (cntR m (nI j) T)) (hcn) ?_
      refine J_istore (pc := 54) (ls' := [some _, some _, some _, some _, some _, none]) dX8_habit_54 rfl (Nat.le_of_ble_eq_true rfl) rfl ?_
      refine J_iload (pc := 56) dX8_habit_56 rfl ?_
      refine J_if_ge (pc := 58) (tgt := 73) dX8_habit_58 (by decide) (fun h58 => ?_) (fun h58 => ?_)
      · 
        have hlt := Int32.not_lt.mpr h58
        obtain ⟨t, ht, hte, htw⟩ := cntR_N hT14 hlt
        refine J_aload_n (pc := 73) dX8_habit_73 rfl ?_
        refine J_iload (pc := 74) dX8_habit_74 rfl ?_
        refine K_callVi (pc := 76) (id := 140) (As := [_]) dX8_habit_76 kl_X8_291 rfl job_140 rfl rfl (Nat.le_of_ble_eq_true rfl) (m_workedV (m := mm) (t := t) (by omega) hte (sndT_c (fun j _ => e141 j (by omega)) (hS t ht)) (qstR m q (nI 0)) (qstR m q (nI 1)) (qstR m q (nI 2)) (qstR m q (nI 3)) (fun v hv => by rw [hp.2.2.2.2]; exact nmM_n (Or.inr ⟨by decide, hv.elim (fun z => absurd ((nI_eq (by omega) (by decide)).mp (htw.symm.trans ((e141 _ (by omega)).symm.trans z.1))) (by omega)) (fun z => z.2)⟩))) (fun v76 m76 h76 => ?_)
        obtain ⟨rfl, h76⟩ := h76
        refine J_bipush (pc := 79) dX8_habit_79 knb_9 ?_
        refine K_callSp (pc := 81) (As := [_, _]) dX8_habit_81 kl_X8_127 rfl rfl (Nat.le_of_ble_eq_true rfl) (m_held _ _) ?_
        refine J_top (b := (hbW m q T j)) (((congrArg (fun z => hldV z (nI 9)) (txV_c (fun k hk => e141 k (by omega)))).trans (if_neg hlt).symm)) ?_
        refine J_istore (pc := 84) (ls' := [some _, some _, some _, some _, some _, some _]) dX8_habit_84 rfl (Nat.le_of_ble_eq_true rfl) rfl ?_
        refine J_iload_n (pc := 86) dX8_habit_86 rfl ?_
        refine J_iload (pc := 87) dX8_habit_87 rfl ?_
        refine J_aload_n (pc := 89) dX8_habit_89 rfl ?_
        refine K_getR (pc := 90) dX8_habit_90 kf_X8_7 job_140 jrf_140_0 ?_
        refine J_bipush (pc := 93) dX8_habit_93 knb_30 ?_
        refine J_iload_n (pc := 95) dX8_habit_95 rfl ?_
        refine J_iaddv (pc := 96) dX8_habit_96 (nI_add _ _) ?_
        refine K_ialdn (pc := 97) (id := 141) dX8_habit_97 jar_141 (by omega) (by decide) ?_
        refine J_top (b := (m 141 (30 + j))) ((congrFun (h76 141 (by decide)) _).trans (e141 _ (by omega))) ?_
        refine J_icmp_ne (pc := 98) (tgt := 105) dX8_habit_98 (by decide) (fun h98 => ?_) (fun h98 => ?_)
        · 
          refine J_iconst (pc := 105) dX8_habit_105 kni_1 ?_
          refine J_iaddv (pc := 106) dX8_habit_106 (nI_add _ _) ?_
          refine J_istore_n (pc := 107) (ls' := [some _, some _, some _, some _, some _, some _]) dX8_habit_107 rfl (Nat.le_of_ble_eq_true rfl) rfl ?_
          refine J_aload_n (pc := 108) dX8_habit_108 rfl ?_
          refine K_getR (pc := 109) dX8_habit_109 kf_X8_7 job_140 jrf_140_0 ?_
          refine J_bipush (pc := 112) dX8_habit_112 knb_30 ?_
          refine J_iload_n (pc := 114) dX8_habit_114 rfl ?_
          refine J_iaddv (pc := 115) dX8_habit_115 (nI_add _ _) ?_
          refine J_iload (pc := 116) dX8_habit_116 rfl ?_
          refine K_iastn (pc := 118) (id := 141) dX8_habit_118 jar_141 (by omega) (by decide) ?_
          refine J_aload_n (pc := 119) dX8_habit_119 rfl ?_
          refine J_iconst (pc := 120) dX8_habit_120 kni_0 ?_
          refine K_put (pc := 121) dX8_habit_121 kp_X8_67 job_140 jrf_140_33 rfl rfl ?_
          refine Jn_iinc (pc := 124) (ls' := [some _, some _, some _, some _, some _, some _]) dX8_habit_124 rfl knz_1 rfl rfl ?_
          refine J_goto (pc := 127) (tgt := 43) dX8_habit_127 (by decide) ?_
          have ec : cnt (hbD m q T) (j + 1) = cnt (hbD m q T) j + 1 := cnt_t (decide_eq_true h98)
          refine J_wk' (ih43 [some (.ref (jxb x + 140)), some (.int (nI q)), some (.int (nI (cnt (hbD m q T) j + 1))), some (.int (nI (j + 1))), none, none] _ ⟨by rw [ec], hbP_up hp (h76)⟩) rfl ?_
          rintro (_ | _ | _ | _ | _ | _ | k) v hv <;> first | exact hv | cases hv
        · 
          refine J_iconst (pc := 101) dX8_habit_101 kni_0 ?_
          refine J_goto (pc := 102) (tgt := 106) dX8_habit_102 (by decide) ?_
          refine J_iaddv (pc := 106) dX8_habit_106 (nI_add _ _) ?_
          refine J_istore_n (pc := 107) (ls' := [some _, some _, some _, some _, some _, some _]) dX8_habit_107 rfl (Nat.le_of_ble_eq_true rfl) rfl ?_
          refine J_aload_n (pc := 108) dX8_habit_108 rfl ?_
          refine K_getR (pc := 109) dX8_habit_109 kf_X8_7 job_140 jrf_140_0 ?_
          refine J_bipush (pc := 112) dX8_habit_112 knb_30 ?_
          refine J_iload_n (pc := 114) dX8_habit_114 rfl ?_
          refine J_iaddv (pc := 115) dX8_habit_115 (nI_add _ _) ?_
          refine J_iload (pc := 116) dX8_habit_116 rfl ?_
          refine K_iastn (pc := 118) (id := 141) dX8_habit_118 jar_141 (by omega) (by decide) ?_
          refine J_aload_n (pc := 119) dX8_habit_119 rfl ?_
          refine J_iconst (pc := 120) dX8_habit_120 kni_0 ?_
          refine K_put (pc := 121) dX8_habit_121 kp_X8_67 job_140 jrf_140_33 rfl rfl ?_
          refine Jn_iinc (pc := 124) (ls' := [some _, some _, some _, some _, some _, some _]) dX8_habit_124 rfl knz_1 rfl rfl ?_
          refine J_goto (pc := 127) (tgt := 43) dX8_habit_127 (by decide) ?_
          have ec : cnt (hbD m q T) (j + 1) = cnt (hbD m q T) j + 0 := cnt_f (fun z => absurd h98 (of_decide_eq_true z))
          refine J_wk' (ih43 [some (.ref (jxb x + 140)), some (.int (nI q)), some (.int (nI (cnt (hbD m q T) j + 0))), some (.int (nI (j + 1))), none, none] _ ⟨by rw [ec], hbP_up hp (h76)⟩) rfl ?_
          rintro (_ | _ | _ | _ | _ | _ | k) v hv <;> first | exact hv | cases hv
      · 
        have hlt := Int32.not_le.mp h58
        refine J_aload_n (pc := 61) dX8_habit_61 rfl ?_
        refine K_getR (pc := 62) dX8_habit_62 kf_X8_7 job_140 jrf_140_0 ?_
        refine J_bipush (pc := 65) dX8_habit_65 knb_30 ?_
        refine J_iload_n (pc := 67) dX8_habit_67 rfl ?_
        refine J_iaddv (pc := 68) dX8_habit_68 (nI_add _ _) ?_
        refine K_ialdn (pc := 69) (id := 141) dX8_habit_69 jar_141 (by omega) (by decide) ?_
        refine J_top (b := (hbW m q T j)) ((e141 _ (by omega)).trans (if_pos hlt).symm) ?_
        refine J_goto (pc := 70) (tgt := 84) dX8_habit_70 (by decide) ?_
        refine J_istore (pc := 84) (ls' := [some _, some _, some _, some _, some _, some _]) dX8_habit_84 rfl (Nat.le_of_ble_eq_true rfl) rfl ?_
        refine J_iload_n (pc := 86) dX8_habit_86 rfl ?_
        refine J_iload (pc := 87) dX8_habit_87 rfl ?_
        refine J_aload_n (pc := 89) dX8_habit_89 rfl ?_
        refine K_getR (pc := 90) dX8_habit_90 kf_X8_7 job_140 jrf_140_0 ?_
        refine J_bipush (pc := 93) dX8_habit_93 knb_30 ?_
        refine J_iload_n (pc := 95) dX8_habit_95 rfl ?_
        refine J_iaddv (pc := 96) dX8_habit_96 (nI_add _ _) ?_
        refine K_ialdn (pc := 97) (id := 141) dX8_habit_97 jar_141 (by omega) (by decide) ?_
        refine J_top (b := (m 141 (30 + j))) (e141 _ (by omega)) ?_
        refine J_icmp_ne (pc := 98) (tgt := 105) dX8_habit_98 (by decide) (fun h98 => ?_) (fun h98 => ?_)
        · 
          refine J_iconst (pc := 105) dX8_habit_105 kni_1 ?_
          refine J_iaddv (pc := 106) dX8_habit_106 (nI_add _ _) ?_
          refine J_istore_n (pc := 107) (ls' := [some _, some _, some _, some _, some _, some _]) dX8_habit_107 rfl (Nat.le_of_ble_eq_true rfl) rfl ?_
          refine J_aload_n (pc := 108) dX8_habit_108 rfl ?_
          refine K_getR (pc := 109) dX8_habit_109 kf_X8_7 job_140 jrf_140_0 ?_
          refine J_bipush (pc := 112) dX8_habit_112 knb_30 ?_
          refine J_iload_n (pc := 114) dX8_habit_114 rfl ?_
          refine J_iaddv (pc := 115) dX8_habit_115 (nI_add _ _) ?_
          refine J_iload (pc := 116) dX8_habit_116 rfl ?_
          refine K_iastn (pc := 118) (id := 141) dX8_habit_118 jar_141 (by omega) (by decide) ?_
          refine J_aload_n (pc := 119) dX8_habit_119 rfl ?_
          refine J_iconst (pc := 120) dX8_habit_120 kni_0 ?_
          refine K_put (pc := 121) dX8_habit_121 kp_X8_67 job_140 jrf_140_33 rfl rfl ?_
          refine Jn_iinc (pc := 124) (ls' := [some _, some _, some _, some _, some _, some _]) dX8_habit_124 rfl knz_1 rfl rfl ?_
          refine J_goto (pc := 127) (tgt := 43) dX8_habit_127 (by decide) ?_
          have ec : cnt (hbD m q T) (j + 1) = cnt (hbD m q T) j + 1 := cnt_t (decide_eq_true h98)
          refine J_wk' (ih43 [some (.ref (jxb x + 140)), some (.int (nI q)), some (.int (nI (cnt (hbD m q T) j + 1))), some (.int (nI (j + 1))), none, none] _ ⟨by rw [ec], hbP_up hp (exs_rf _ _)⟩) rfl ?_
          rintro (_ | _ | _ | _ | _ | _ | k) v hv <;> first | exact hv | cases hv
        · 
          refine J_iconst (pc := 101) dX8_habit_101 kni_0 ?_
          refine J_goto (pc := 102) (tgt := 106) dX8_habit_102 (by decide) ?_
          refine J_iaddv (pc := 106) dX8_habit_106 (nI_add _ _) ?_
          refine J_istore_n (pc := 107) (ls' := [some _, some _, some _, some _, some _, some _]) dX8_habit_107 rfl (Nat.le_of_ble_eq_true rfl) rfl ?_
          refine J_aload_n (pc := 108) dX8_habit_108 rfl ?_
          refine K_getR (pc := 109) dX8_habit_109 kf_X8_7 job_140 jrf_140_0 ?_
          refine J_bipush (pc := 112) dX8_habit_112 knb_30 ?_
          refine J_iload_n (pc := 114) dX8_habit_114 rfl ?_
          refine J_iaddv (pc := 115) dX8_habit_115 (nI_add _ _) ?_
          refine J_iload (pc := 116) dX8_habit_116 rfl ?_
          refine K_iastn (pc := 118) (id := 141) dX8_habit_118 jar_141 (by omega) (by decide) ?_
          refine J_aload_n (pc := 119) dX8_habit_119 rfl ?_
          refine J_iconst (pc := 120) dX8_habit_120 kni_0 ?_
          refine K_put (pc := 121) dX8_habit_121 kp_X8_67 job_140 jrf_140_33 rfl rfl ?_
          refine Jn_iinc (pc := 124) (ls' := [some _, some _, some _, some _, some _, some _]) dX8_habit_124 rfl knz_1 rfl rfl ?_
          refine J_goto (pc := 127) (tgt := 43) dX8_habit_127 (by decide) ?_
          have ec : cnt (hbD m q T) (j + 1) = cnt (hbD m q T) j + 0 := cnt_f (fun z => absurd h98 (of_decide_eq_true z))
          refine J_wk' (ih43 [some (.ref (jxb x + 140)), some (.int (nI q)), some (.int (nI (cnt (hbD m q T) j + 0))), some (.int (nI (j + 1))), none, none] _ ⟨by rw [ec], hbP_up hp (exs_rf _ _)⟩) rfl ?_
          rintro (_ | _ | _ | _ | _ | _ | k) v hv <;> first | exact hv | cases hv
    ·
      obtain ⟨rfl, hp⟩ := hI43
      have hcl := cnt_le (hbD m q T) 6
      refine J_iload_n (pc := 43) dX8_habit_43 rfl ?_
      refine J_bipush (pc := 44) dX8_habit_44 knb_6 ?_
      refine Jn_ge (pc := 46) (tgt := 130) dX8_habit_46 (by decide) (by omega) (by omega) (fun h46 => ?_) (fun h46 => absurd h46 (by omega))
      refine J_iload_n (pc := 130) dX8_habit_130 rfl ?_
      refine K_iret (pc := 131) dX8_habit_131 rfl ⟨_, rfl, ?_⟩
      refine Or.inr ⟨h4, ?_, ?_⟩
      · rw [htq]
      · rw [htq]; exact hp
  · 
    refine J_ldc (pc := 7) dX8_habit_7 kc_X8_91 ?_
    refine K_iret (pc := 9) dX8_habit_9 rfl ⟨_, rfl, ?_⟩
    exact Or.inl ⟨h4, rfl, rfl⟩
