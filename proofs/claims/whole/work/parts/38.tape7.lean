/-- open signs as they can stand: no sign that joins stands right on a ! -/
def okO : List Int32 → Prop
  | [] => True
  | s :: O => (1 ≤ lvl s ∧ O.head? ≠ some (nI 33) ∨ s = nI 33 ∨ s = nI 40) ∧ okO O
theorem clo_ok {l : Nat} (hl : 1 ≤ l) : ∀ O C, okO O → O.head? ≠ some (nI 33) → okO (clo l O C).1 ∧ (clo l O C).1.head? ≠ some (nI 33)
  | [], C, h, h2 => ⟨h, h2⟩
  | s :: O, C, h, h2 => by
    unfold clo
    by_cases q : l ≤ lvl s
    · rw [if_pos q]
      have hv := lvl_no (s := s) (by omega)
      exact clo_ok hl O _ h.2 (h.1.elim (fun z => z.2) (fun z => absurd z (fun z => z.elim hv.1 hv.2)))
    · rw [if_neg q]; exact ⟨h, h2⟩
theorem clo_head {l : Nat} : ∀ {O C : List Int32} {u : Int32} {t : List Int32}, (clo l O C).1 = u :: t → lvl u < l
  | [], C, u, t, h => by cases h
  | s :: O, C, u, t, h => by
    unfold clo at h
    by_cases q : l ≤ lvl s
    · rw [if_pos q] at h; exact clo_head h
    · rw [if_neg q] at h
      cases h
      omega
theorem clo_cnt {l : Nat} (hl : 1 ≤ l) {v : Int32} (hv : lvl v = 0) : ∀ O C, (clo l O C).1.count v = O.count v
  | [], C => rfl
  | s :: O, C => by
    unfold clo
    by_cases q : l ≤ lvl s
    · rw [if_pos q, clo_cnt hl hv O, List.count_cons_of_ne (fun e => by rw [e] at q; omega)]
    · rw [if_neg q]
theorem par_top {O C : List Int32} (h : okO O) (h2 : O.head? ≠ some (nI 33)) (hc : ¬ O.count (nI 40) = 0) : ∃ t, (clo 1 O C).1 = nI 40 :: t ∧ okO t := by
  obtain ⟨a, b⟩ := clo_ok (l := 1) (by decide) O C h h2
  have c := clo_cnt (l := 1) (by decide) (v := nI 40) (by decide) O C
  cases e : (clo 1 O C).1 with
  | nil => rw [e] at c; exact absurd c.symm hc
  | cons u t =>
    have hu := clo_head e
    rw [e] at a b
    rcases a.1 with z | z | z
    · omega
    · exact absurd (congrArg some z) b
    · exact ⟨t, by rw [z], a.2⟩
theorem enp_ok : ∀ O C, okO O → okO (enp O C).1 ∧ (enp O C).1.head? ≠ some (nI 33)
  | [], C, h => ⟨h, by simp [enp]⟩
  | s :: O, C, h => by
    unfold enp
    by_cases q : s = nI 33
    · rw [if_pos q]; exact enp_ok O _ h.2
    · rw [if_neg q]; exact ⟨h, fun z => q (Option.some.inj z)⟩
def lnkS (v : Int32) (O C : List Int32) (k : Nat) : Option rST :=
  if v = nI 41 then (if O.count (nI 40) = 0 then none else some ((enp (clo 1 O C).1.tail (clo 1 O C).2).1, (enp (clo 1 O C).1.tail (clo 1 O C).2).2, k, false))
  else if lvl v = 0 then none
  else if lvl v = 3 ∧ (clo (lvl v + 1) O C).1.head?.map lvl = some 3 then none
  else some (v :: (clo (lvl v) (clo (lvl v + 1) O C).1 (clo (lvl v + 1) O C).2).1, (clo (lvl v) (clo (lvl v + 1) O C).1 (clo (lvl v + 1) O C).2).2, k, true)
theorem TS_par {O C t : List Int32} {mm : jm} (h : TS O C mm) (hO : O = nI 40 :: t) : TS t C (mup (mup mm 70 10 (nI (O.length - 1))) 70 11 (nI (O.count (nI 40) - 1))) := by
  obtain ⟨a1, a2, a3, a4, a5, a6⟩ := h
  obtain ⟨b1, b2, b3, b4⟩ := stk_top' hO a2
  refine ⟨?_, ?_, ?_, ?_, ?_, ?_⟩
  · rw [mup_j (by decide), mup_s, b4]
  · exact stk_f b3 (fun j _ => by rw [mup_i (by decide), mup_i (by decide)])
  · rw [mup_j (by decide), mup_j (by decide), a3]
  · exact stk_f a4 (fun j _ => by rw [mup_i (by decide), mup_i (by decide)])
  · rw [mup_j (by decide), mup_j (by decide), a5, hO, List.count_cons_of_ne (by decide)]
  · rw [mup_s, hO, List.count_cons_self]; rfl
set_option maxRecDepth 100000 in
set_option maxHeartbeats 400000 in
theorem c_readLink {x : jX} {m : jm} {d : Nat} {s k : Nat} {O C : List Int32} (hs : m 70 2 = nI s) (hs96 : s < 96) (hT : TS O C m) (hlc : C.length + O.length < 96) (hk : m 70 8 = nI k) (hok : okO O) (hhd : O.head? ≠ some (nI 33)) : Ct x (d + 3) eX5_readLink [.ref (jxb x + 70)] m (ji fun v m' => sRes (lnkS (m 71 s) O C k) m m' v) := by
  refine J_start (by decide +kernel) (Nat.le_of_ble_eq_true rfl) (ls := [some (.ref (jxb x + 70)), none]) rfl rfl ?_
  have k33 : O.count (nI 33) ≤ O.length := List.count_le_length
  have k40 : O.count (nI 40) ≤ O.length := List.count_le_length
  refine J_aload_n (pc := 0) dX5_readLink_0 rfl ?_
  refine K_getR (pc := 1) dX5_readLink_1 kf_X5_9 job_70 jrf_70_0 ?_
  refine J_aload_n (pc := 4) dX5_readLink_4 rfl ?_
  refine K_getI (pc := 5) dX5_readLink_5 kf_X5_19 job_70 jrf_70_2 ?_
  refine J_top (b := nI s) (hs) ?_
  refine K_baldn (pc := 8) (id := 71) dX5_readLink_8 jar_71 (by omega) (by decide) ?_
  refine J_bipush (pc := 9) dX5_readLink_9 knb_41 ?_
  refine J_icmp_ne (pc := 11) (tgt := 54) dX5_readLink_11 (by decide) (fun h11 => ?_) (fun h11 => ?_)
  · 
    refine J_aload_n (pc := 54) dX5_readLink_54 rfl ?_
    refine K_getR (pc := 55) dX5_readLink_55 kf_X5_9 job_70 jrf_70_0 ?_
    refine J_aload_n (pc := 58) dX5_readLink_58 rfl ?_
    refine K_getI (pc := 59) dX5_readLink_59 kf_X5_19 job_70 jrf_70_2 ?_
    refine J_top (b := nI s) (hs) ?_
    refine K_baldn (pc := 62) (id := 71) dX5_readLink_62 jar_71 (by omega) (by decide) ?_
    refine K_callSp (pc := 63) (As := [_]) dX5_readLink_63 kl_X5_136 rfl rfl (Nat.le_of_ble_eq_true rfl) (c_levelOf (m 71 s)) ?_
    have hl5 := lvl_5 (m 71 s)
    refine J_istore_n (pc := 66) (ls' := [some _, some _]) dX5_readLink_66 rfl (Nat.le_of_ble_eq_true rfl) rfl ?_
    refine J_iload_n (pc := 67) dX5_readLink_67 rfl ?_
    refine Jn_if_ne (pc := 68) (tgt := 73) dX5_readLink_68 (by decide) (by omega) (fun h68 => ?_) (fun h68 => ?_)
    · 
      refine J_aload_n (pc := 73) dX5_readLink_73 rfl ?_
      refine J_iload_n (pc := 74) dX5_readLink_74 rfl ?_
      refine J_iconst (pc := 75) dX5_readLink_75 kni_1 ?_
      refine J_iaddv (pc := 76) dX5_readLink_76 (nI_add _ _) ?_
      refine K_callVv (pc := 77) (id := 70) (As := [_]) dX5_readLink_77 kl_X5_76 rfl job_70 rfl rfl (Nat.le_of_ble_eq_true rfl) (c_close (l := lvl (m 71 s) + 1) (by omega) (by omega) hT (by omega)) (fun m77 h77 => ?_)
      obtain ⟨t77, f77, k77⟩ := h77
      have hl77 := clo_len (lvl (m 71 s) + 1) O C
      have hl78 := clo_len (lvl (m 71 s)) (clo (lvl (m 71 s) + 1) O C).1 (clo (lvl (m 71 s) + 1) O C).2
      refine J_iload_n (pc := 80) dX5_readLink_80 rfl ?_
      refine J_iconst (pc := 81) dX5_readLink_81 kni_3 ?_
      refine Jn_ne (pc := 82) (tgt := 112) dX5_readLink_82 (by decide) (by omega) (by omega) (fun h82 => ?_) (fun h82 => ?_)
      · 
        refine J_aload_n (pc := 112) dX5_readLink_112 rfl ?_
        refine J_iload_n (pc := 113) dX5_readLink_113 rfl ?_
        refine K_callVv (pc := 114) (id := 70) (As := [_]) dX5_readLink_114 kl_X5_76 rfl job_70 rfl rfl (Nat.le_of_ble_eq_true rfl) (c_close (l := lvl (m 71 s)) (by omega) (by omega) t77 (by omega)) (fun m114 h114 => ?_)
        obtain ⟨t114, f114, k114⟩ := h114
        refine J_aload_n (pc := 117) dX5_readLink_117 rfl ?_
        refine J_aload_n (pc := 118) dX5_readLink_118 rfl ?_
        refine K_getR (pc := 119) dX5_readLink_119 kf_X5_9 job_70 jrf_70_0 ?_
        refine J_aload_n (pc := 122) dX5_readLink_122 rfl ?_
        refine K_getI (pc := 123) dX5_readLink_123 kf_X5_19 job_70 jrf_70_2 ?_
        refine J_top (b := nI s) (by rw [f114.2 2 (by decide), f77.2 2 (by decide)]; exact hs) ?_
        refine K_baldn (pc := 126) (id := 71) dX5_readLink_126 jar_71 (by omega) (by decide) ?_
        refine J_top (b := m 71 s) (by rw [f114.1 71 (by decide) (by decide) (by decide), f77.1 71 (by decide) (by decide) (by decide)]) ?_
        refine K_callVv (pc := 127) (id := 70) (As := [_]) dX5_readLink_127 kl_X5_127 rfl job_70 rfl rfl (Nat.le_of_ble_eq_true rfl) (c_hold (n := (clo (lvl (m 71 s)) (clo (lvl (m 71 s) + 1) O C).1 (clo (lvl (m 71 s) + 1) O C).2).1.length) (w := m 71 s) t114.1 (by omega)) (fun m127 h127 => ?_)
        subst h127
        refine J_aload_n (pc := 130) dX5_readLink_130 rfl ?_
        refine J_iconst (pc := 131) dX5_readLink_131 kni_1 ?_
        refine K_put (pc := 132) dX5_readLink_132 kp_X5_56 job_70 jrf_70_13 rfl rfl ?_
        refine J_iconst (pc := 135) dX5_readLink_135 kni_1 ?_
        refine K_zret (pc := 136) dX5_readLink_136 rfl rfl ⟨_, rfl, ?_⟩
        have hno : ¬ (lvl (m 71 s) = 3 ∧ (clo (lvl (m 71 s) + 1) O C).1.head?.map lvl = some 3) := fun q => h82 q.1
        have hvn := lvl_no (s := m 71 s) (by omega)
        refine sRes_ok (tFr_tr f77 (tFr_tr f114 (tFr_70 (tFr_73 (tFr_70 (tFr_rf _) (by decide))) (by decide)))) ((if_neg h11).trans ((if_neg (by omega)).trans (if_neg hno))) ⟨?_, ?_, ?_⟩
        · refine TS_open t114 (by rw [mup_j (by decide), mup_i (by decide), mup_s]) (by rw [mup_i' (by decide), mup_row, mup_row, mup_i' (by decide)]) (by rw [mup_j (by decide), mup_i (by decide), mup_j (by decide)]) (by rw [mup_i' (by decide), mup_i' (by decide), mup_i' (by decide)]) ?_ ?_
          · rw [mup_j (by decide), mup_i (by decide), mup_j (by decide), List.count_cons_of_ne hvn.1]; exact t114.2.2.2.2.1
          · rw [mup_j (by decide), mup_i (by decide), mup_j (by decide), List.count_cons_of_ne hvn.2]; exact t114.2.2.2.2.2
        · rw [mup_j (by decide), mup_i (by decide), mup_j (by decide), k114.1, k77.1]; exact hk
        · rw [mup_s]; rfl
      · 
        refine J_aload_n (pc := 85) dX5_readLink_85 rfl ?_
        refine K_getI (pc := 86) dX5_readLink_86 kf_X5_47 job_70 jrf_70_10 ?_
        refine J_top (b := nI ((clo (lvl (m 71 s) + 1) O C).1.length)) (t77.1) ?_
        refine Jn_if_le (pc := 89) (tgt := 112) dX5_readLink_89 (by decide) (by omega) (fun h89 => ?_) (fun h89 => ?_)
        · 
          refine J_aload_n (pc := 112) dX5_readLink_112 rfl ?_
          refine J_iload_n (pc := 113) dX5_readLink_113 rfl ?_
          refine K_callVv (pc := 114) (id := 70) (As := [_]) dX5_readLink_114 kl_X5_76 rfl job_70 rfl rfl (Nat.le_of_ble_eq_true rfl) (c_close (l := lvl (m 71 s)) (by omega) (by omega) t77 (by omega)) (fun m114 h114 => ?_)
          obtain ⟨t114, f114, k114⟩ := h114
          refine J_aload_n (pc := 117) dX5_readLink_117 rfl ?_
          refine J_aload_n (pc := 118) dX5_readLink_118 rfl ?_
          refine K_getR (pc := 119) dX5_readLink_119 kf_X5_9 job_70 jrf_70_0 ?_
          refine J_aload_n (pc := 122) dX5_readLink_122 rfl ?_
          refine K_getI (pc := 123) dX5_readLink_123 kf_X5_19 job_70 jrf_70_2 ?_
          refine J_top (b := nI s) (by rw [f114.2 2 (by decide), f77.2 2 (by decide)]; exact hs) ?_
          refine K_baldn (pc := 126) (id := 71) dX5_readLink_126 jar_71 (by omega) (by decide) ?_
          refine J_top (b := m 71 s) (by rw [f114.1 71 (by decide) (by decide) (by decide), f77.1 71 (by decide) (by decide) (by decide)]) ?_
          refine K_callVv (pc := 127) (id := 70) (As := [_]) dX5_readLink_127 kl_X5_127 rfl job_70 rfl rfl (Nat.le_of_ble_eq_true rfl) (c_hold (n := (clo (lvl (m 71 s)) (clo (lvl (m 71 s) + 1) O C).1 (clo (lvl (m 71 s) + 1) O C).2).1.length) (w := m 71 s) t114.1 (by omega)) (fun m127 h127 => ?_)
          subst h127
          refine J_aload_n (pc := 130) dX5_readLink_130 rfl ?_
          refine J_iconst (pc := 131) dX5_readLink_131 kni_1 ?_
          refine K_put (pc := 132) dX5_readLink_132 kp_X5_56 job_70 jrf_70_13 rfl rfl ?_
          refine J_iconst (pc := 135) dX5_readLink_135 kni_1 ?_
          refine K_zret (pc := 136) dX5_readLink_136 rfl rfl ⟨_, rfl, ?_⟩
          have hno : ¬ (lvl (m 71 s) = 3 ∧ (clo (lvl (m 71 s) + 1) O C).1.head?.map lvl = some 3) := fun q => by rw [List.eq_nil_of_length_eq_zero (l := (clo (lvl (m 71 s) + 1) O C).1) (by omega)] at q; exact absurd q.2 (by simp)
          have hvn := lvl_no (s := m 71 s) (by omega)
          refine sRes_ok (tFr_tr f77 (tFr_tr f114 (tFr_70 (tFr_73 (tFr_70 (tFr_rf _) (by decide))) (by decide)))) ((if_neg h11).trans ((if_neg (by omega)).trans (if_neg hno))) ⟨?_, ?_, ?_⟩
          · refine TS_open t114 (by rw [mup_j (by decide), mup_i (by decide), mup_s]) (by rw [mup_i' (by decide), mup_row, mup_row, mup_i' (by decide)]) (by rw [mup_j (by decide), mup_i (by decide), mup_j (by decide)]) (by rw [mup_i' (by decide), mup_i' (by decide), mup_i' (by decide)]) ?_ ?_
            · rw [mup_j (by decide), mup_i (by decide), mup_j (by decide), List.count_cons_of_ne hvn.1]; exact t114.2.2.2.2.1
            · rw [mup_j (by decide), mup_i (by decide), mup_j (by decide), List.count_cons_of_ne hvn.2]; exact t114.2.2.2.2.2
          · rw [mup_j (by decide), mup_i (by decide), mup_j (by decide), k114.1, k77.1]; exact hk
          · rw [mup_s]; rfl
        · 
          obtain ⟨u, t, hu⟩ : ∃ u t, (clo (lvl (m 71 s) + 1) O C).1 = u :: t := by
            cases hh : (clo (lvl (m 71 s) + 1) O C).1 with
            | nil => rw [hh] at h89; exact absurd h89 (by decide)
            | cons u t => exact ⟨u, t, rfl⟩
          obtain ⟨b1, b2, b3, b4⟩ := stk_top' hu t77.2.1
          have hlu := lvl_5 u
          refine J_aload_n (pc := 92) dX5_readLink_92 rfl ?_
          refine K_getR (pc := 93) dX5_readLink_93 kf_X5_44 job_70 jrf_70_9 ?_
          refine J_aload_n (pc := 96) dX5_readLink_96 rfl ?_
          refine K_getI (pc := 97) dX5_readLink_97 kf_X5_47 job_70 jrf_70_10 ?_
          refine J_top (b := nI ((clo (lvl (m 71 s) + 1) O C).1.length)) (t77.1) ?_
          refine J_iconst (pc := 100) dX5_readLink_100 kni_1 ?_
          refine J_isubv (pc := 101) dX5_readLink_101 (pk_sub (by omega)) ?_
          refine K_ialdn (pc := 102) (id := 73) dX5_readLink_102 jar_73 (by omega) (by decide) ?_
          refine J_top (b := u) (b2) ?_
          refine K_callSp (pc := 103) (As := [_]) dX5_readLink_103 kl_X5_136 rfl rfl (Nat.le_of_ble_eq_true rfl) (c_levelOf u) ?_
          refine J_iconst (pc := 106) dX5_readLink_106 kni_3 ?_
          refine Jn_ne (pc := 107) (tgt := 112) dX5_readLink_107 (by decide) (by omega) (by omega) (fun h107 => ?_) (fun h107 => ?_)
          · 
            refine J_aload_n (pc := 112) dX5_readLink_112 rfl ?_
            refine J_iload_n (pc := 113) dX5_readLink_113 rfl ?_
            refine K_callVv (pc := 114) (id := 70) (As := [_]) dX5_readLink_114 kl_X5_76 rfl job_70 rfl rfl (Nat.le_of_ble_eq_true rfl) (c_close (l := lvl (m 71 s)) (by omega) (by omega) t77 (by omega)) (fun m114 h114 => ?_)
            obtain ⟨t114, f114, k114⟩ := h114
            refine J_aload_n (pc := 117) dX5_readLink_117 rfl ?_
            refine J_aload_n (pc := 118) dX5_readLink_118 rfl ?_
            refine K_getR (pc := 119) dX5_readLink_119 kf_X5_9 job_70 jrf_70_0 ?_
            refine J_aload_n (pc := 122) dX5_readLink_122 rfl ?_
            refine K_getI (pc := 123) dX5_readLink_123 kf_X5_19 job_70 jrf_70_2 ?_
            refine J_top (b := nI s) (by rw [f114.2 2 (by decide), f77.2 2 (by decide)]; exact hs) ?_
            refine K_baldn (pc := 126) (id := 71) dX5_readLink_126 jar_71 (by omega) (by decide) ?_
            refine J_top (b := m 71 s) (by rw [f114.1 71 (by decide) (by decide) (by decide), f77.1 71 (by decide) (by decide) (by decide)]) ?_
            refine K_callVv (pc := 127) (id := 70) (As := [_]) dX5_readLink_127 kl_X5_127 rfl job_70 rfl rfl (Nat.le_of_ble_eq_true rfl) (c_hold (n := (clo (lvl (m 71 s)) (clo (lvl (m 71 s) + 1) O C).1 (clo (lvl (m 71 s) + 1) O C).2).1.length) (w := m 71 s) t114.1 (by omega)) (fun m127 h127 => ?_)
            subst h127
            refine J_aload_n (pc := 130) dX5_readLink_130 rfl ?_
            refine J_iconst (pc := 131) dX5_readLink_131 kni_1 ?_
            refine K_put (pc := 132) dX5_readLink_132 kp_X5_56 job_70 jrf_70_13 rfl rfl ?_
            refine J_iconst (pc := 135) dX5_readLink_135 kni_1 ?_
            refine K_zret (pc := 136) dX5_readLink_136 rfl rfl ⟨_, rfl, ?_⟩
            have hno : ¬ (lvl (m 71 s) = 3 ∧ (clo (lvl (m 71 s) + 1) O C).1.head?.map lvl = some 3) := fun q => by rw [hu] at q; exact h107 (Option.some.inj q.2)
            have hvn := lvl_no (s := m 71 s) (by omega)
            refine sRes_ok (tFr_tr f77 (tFr_tr f114 (tFr_70 (tFr_73 (tFr_70 (tFr_rf _) (by decide))) (by decide)))) ((if_neg h11).trans ((if_neg (by omega)).trans (if_neg hno))) ⟨?_, ?_, ?_⟩
            · refine TS_open t114 (by rw [mup_j (by decide), mup_i (by decide), mup_s]) (by rw [mup_i' (by decide), mup_row, mup_row, mup_i' (by decide)]) (by rw [mup_j (by decide), mup_i (by decide), mup_j (by decide)]) (by rw [mup_i' (by decide), mup_i' (by decide), mup_i' (by decide)]) ?_ ?_
              · rw [mup_j (by decide), mup_i (by decide), mup_j (by decide), List.count_cons_of_ne hvn.1]; exact t114.2.2.2.2.1
              · rw [mup_j (by decide), mup_i (by decide), mup_j (by decide), List.count_cons_of_ne hvn.2]; exact t114.2.2.2.2.2
            · rw [mup_j (by decide), mup_i (by decide), mup_j (by decide), k114.1, k77.1]; exact hk
            · rw [mup_s]; rfl
          · 
            refine J_iconst (pc := 110) dX5_readLink_110 kni_0 ?_
            refine K_zret (pc := 111) dX5_readLink_111 rfl rfl ⟨_, rfl, ?_⟩
            exact sRes_no f77 ((if_neg h11).trans ((if_neg (by omega)).trans (if_pos ⟨by omega, by rw [hu]; exact congrArg some h107⟩)))
    · 
      refine J_iconst (pc := 71) dX5_readLink_71 kni_0 ?_
      refine K_zret (pc := 72) dX5_readLink_72 rfl rfl ⟨_, rfl, ?_⟩
      exact sRes_no (tFr_rf m) ((if_neg h11).trans (if_pos (by omega)))
  · 
    refine J_aload_n (pc := 14) dX5_readLink_14 rfl ?_
    refine K_getI (pc := 15) dX5_readLink_15 kf_X5_50 job_70 jrf_70_11 ?_
    refine J_top (b := nI (O.count (nI 40))) (hT.2.2.2.2.2) ?_
    refine Jn_if_ne (pc := 18) (tgt := 23) dX5_readLink_18 (by decide) (by omega) (fun h18 => ?_) (fun h18 => ?_)
    · 
      refine J_aload_n (pc := 23) dX5_readLink_23 rfl ?_
      refine J_iconst (pc := 24) dX5_readLink_24 kni_1 ?_
      refine K_callVv (pc := 25) (id := 70) (As := [_]) dX5_readLink_25 kl_X5_76 rfl job_70 rfl rfl (Nat.le_of_ble_eq_true rfl) (c_close (l := 1) (by decide) (by decide) hT (by omega)) (fun m25 h25 => ?_)
      obtain ⟨t25, f25, k25⟩ := h25
      obtain ⟨t, ht, hokt⟩ := par_top (C := C) hok hhd (by omega)
      have hl25 := clo_len 1 O C
      have hlt : (clo 1 O C).1.length = t.length + 1 := by rw [ht, List.length_cons]
      have hc40 : (clo 1 O C).1.count (nI 40) = t.count (nI 40) + 1 := by rw [ht, List.count_cons_self]
      have hc40l : t.count (nI 40) ≤ t.length := List.count_le_length
      refine J_aload_n (pc := 28) dX5_readLink_28 rfl ?_
      refine J_dup (pc := 29) dX5_readLink_29 rfl ?_
      refine K_getI (pc := 30) dX5_readLink_30 kf_X5_47 job_70 jrf_70_10 ?_
      refine J_top (b := nI ((clo 1 O C).1.length)) (t25.1) ?_
      refine J_iconst (pc := 33) dX5_readLink_33 kni_1 ?_
      refine J_isubv (pc := 34) dX5_readLink_34 (pk_sub (by omega)) ?_
      refine K_put (pc := 35) dX5_readLink_35 kp_X5_47 job_70 jrf_70_10 rfl rfl ?_
      refine J_aload_n (pc := 38) dX5_readLink_38 rfl ?_
      refine J_dup (pc := 39) dX5_readLink_39 rfl ?_
      refine K_getI (pc := 40) dX5_readLink_40 kf_X5_50 job_70 jrf_70_11 ?_
      refine J_top (b := nI ((clo 1 O C).1.count (nI 40))) (by rw [mup_j (by decide)]; exact t25.2.2.2.2.2) ?_
      refine J_iconst (pc := 43) dX5_readLink_43 kni_1 ?_
      refine J_isubv (pc := 44) dX5_readLink_44 (pk_sub (by omega)) ?_
      refine K_put (pc := 45) dX5_readLink_45 kp_X5_50 job_70 jrf_70_11 rfl rfl ?_
      refine J_aload_n (pc := 48) dX5_readLink_48 rfl ?_
      refine K_callVv (pc := 49) (id := 70) (As := []) dX5_readLink_49 kl_X5_133 rfl job_70 rfl rfl (Nat.le_of_ble_eq_true rfl) (c_endPiece (O := t) (C := (clo 1 O C).2) (TS_par t25 ht) (by omega)) (fun m49 h49 => ?_)
      obtain ⟨t49, f49, k49, w49⟩ := h49
      refine J_iconst (pc := 52) dX5_readLink_52 kni_1 ?_
      refine K_zret (pc := 53) dX5_readLink_53 rfl rfl ⟨_, rfl, ?_⟩
      refine sRes_ok (tFr_tr f25 (tFr_tr (tFr_70 (tFr_70 (tFr_rf _) (by decide)) (by decide)) f49)) ((if_pos h11).trans (if_neg (by omega))) ⟨?_, ?_, ?_⟩
      · rw [ht]; exact t49
      · rw [k49, mup_j (by decide), mup_j (by decide), k25.1]; exact hk
      · rw [w49]; rfl
    · 
      refine J_iconst (pc := 21) dX5_readLink_21 kni_0 ?_
      refine K_zret (pc := 22) dX5_readLink_22 rfl rfl ⟨_, rfl, ?_⟩
      exact sRes_no (tFr_rf m) ((if_pos h11).trans (if_pos (by omega)))
