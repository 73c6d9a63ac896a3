abbrev eyP (t : Nat → Int32) (s e : Nat) : Prop := e - s = 3 ∧ t (s + 0) = nI 101 ∧ t (s + 1) = nI 121 ∧ t (s + 2) = nI 101
abbrev puP (t : Nat → Int32) (s e : Nat) : Prop := e - s = 4 ∧ t (s + 0) = nI 112 ∧ t (s + 1) = nI 117 ∧ t (s + 2) = nI 108 ∧ t (s + 3) = nI 108
abbrev glP (t : Nat → Int32) (n s : Nat) : Prop := 0 < s ∧ s < n ∧ wB (t s) = true ∧ wB (t (s - 1)) = true
/-- the head of a text: whether it is one, where it ends, its names, its group -/
noncomputable def hdS (t : Nat → Int32) (n : Nat) : Bool × Nat × Nat × Nat × Int32 :=
  if eyP t (skp t n 0) (ndp t n (skp t n 0)) then (true, skp t n 0, ndp t n (skp t n 0), 2, nI 6)
  else if puP t (skp t n 0) (ndp t n (skp t n 0)) then
    (if glP t n (skp t n (ndp t n (skp t n 0))) ∨ ¬ ndp t n (skp t n (ndp t n (skp t n 0))) - skp t n (ndp t n (skp t n 0)) = 1 ∨ ¬ dB (t (skp t n (ndp t n (skp t n 0)))) = true ∨ ¬ t (skp t n (ndp t n (skp t n 0))) - nI 48 < nI 6
     then (false, skp t n (ndp t n (skp t n 0)), ndp t n (skp t n (ndp t n (skp t n 0))), 4, 0)
     else (true, skp t n (ndp t n (skp t n 0)), ndp t n (skp t n (ndp t n (skp t n 0))), 4, t (skp t n (ndp t n (skp t n 0))) - nI 48))
  else (false, skp t n 0, ndp t n (skp t n 0), 0, 0)
def hRes (z : Bool × Nat × Nat × Nat × Int32) (m m' : jm) (v : Int32) : Prop := v = jb (z.1 = true) ∧ m' 70 2 = nI z.2.1 ∧ m' 70 3 = nI z.2.2.1 ∧ (z.1 = true → m' 70 4 = nI z.2.2.2.1 ∧ m' 70 5 = z.2.2.2.2) ∧ (∀ i, i ≠ 70 → m' i = m i) ∧ ∀ j, j ≠ 2 → j ≠ 3 → j ≠ 4 → j ≠ 5 → m' 70 j = m 70 j
set_option maxRecDepth 100000 in
set_option maxHeartbeats 400000 in
theorem c_readHead {x : jX} {m : jm} {d : Nat} {n : Nat} (hn : m 70 1 = nI n) (h96 : n ≤ 96) (he0 : m 70 3 = nI 0) : Ct x (d + 5) eX5_readHead [.ref (jxb x + 70)] m (ji fun v m' => hRes (hdS (m 71) n) m m' v) := by
  refine J_start (by decide +kernel) (Nat.le_of_ble_eq_true rfl) (ls := [some (.ref (jxb x + 70))]) rfl rfl ?_
  obtain ⟨s1, hs1⟩ : ∃ s, s = skp (m 71) n 0 := ⟨_, rfl⟩
  obtain ⟨e1, he1⟩ : ∃ e, e = ndp (m 71) n s1 := ⟨_, rfl⟩
  obtain ⟨s2, hs2⟩ : ∃ s, s = skp (m 71) n e1 := ⟨_, rfl⟩
  obtain ⟨e2, he2⟩ : ∃ e, e = ndp (m 71) n s2 := ⟨_, rfl⟩
  have b1 := skp_le (t := m 71) (n := n) (e := 0) (by omega)
  rw [← hs1] at b1
  have b2 := ndp_le (t := m 71) (n := n) (s := s1) (by omega)
  rw [← he1] at b2
  have b3 : s1 ≤ e1 := by
    by_cases q : s1 < n
    · have := b2.2 q; omega
    · have : e1 = n := by rw [he1]; exact if_neg q
      omega
  have b4 := skp_le (t := m 71) (n := n) (e := e1) (by omega)
  rw [← hs2] at b4
  have b5 := ndp_le (t := m 71) (n := n) (s := s2) (by omega)
  rw [← he2] at b5
  have b6 : s2 ≤ e2 := by
    by_cases q : s2 < n
    · have := b5.2 q; omega
    · have : e2 = n := by rw [he2]; exact if_neg q
      omega
  have hdd : hdS (m 71) n = if eyP (m 71) s1 e1 then (true, s1, e1, 2, nI 6) else if puP (m 71) s1 e1 then (if glP (m 71) n s2 ∨ ¬ e2 - s2 = 1 ∨ ¬ dB (m 71 s2) = true ∨ ¬ m 71 s2 - nI 48 < nI 6 then (false, s2, e2, 4, 0) else (true, s2, e2, 4, m 71 s2 - nI 48)) else (false, s1, e1, 0, 0) := by
    rw [he2, hs2, he1, hs1]
    rfl
  rw [hdd]
  refine J_aload_n (pc := 0) dX5_readHead_0 rfl ?_
  refine K_callVv (pc := 1) (id := 70) (As := []) dX5_readHead_1 kl_X5_64 rfl job_70 rfl rfl (Nat.le_of_ble_eq_true rfl) (c_step (m := m) hn h96 he0 (Nat.zero_le _)) (fun m1 h1 => ?_)
  rw [← hs1, ← he1] at h1
  subst h1
  refine J_aload_n (pc := 4) dX5_readHead_4 rfl ?_
  refine J_ldcS (pc := 5) (j := 1) dX5_readHead_5 (by decide) rfl rfl ?_
  refine K_callVp (pc := 7) (id := 70) (As := [_]) dX5_readHead_7 kl_X5_98 rfl job_70 rfl rfl (Nat.le_of_ble_eq_true rfl) (c_spellsEye (m := (stM m s1 e1)) stM_2 stM_3 (by omega) (by omega)) ?_
  refine Jb_eq (pc := 10) (tgt := 27) dX5_readHead_10 (by decide) (fun h10 => ?_) (fun h10 => ?_)
  · 
    have h10 : ¬ eyP (m 71) s1 e1 := h10
    refine J_aload_n (pc := 27) dX5_readHead_27 rfl ?_
    refine J_ldcS (pc := 28) (j := 3) dX5_readHead_28 (by decide) rfl rfl ?_
    refine K_callVp (pc := 30) (id := 70) (As := [_]) dX5_readHead_30 kl_X5_98 rfl job_70 rfl rfl (Nat.le_of_ble_eq_true rfl) (c_spellsPull (m := (stM m s1 e1)) stM_2 stM_3 (by omega) (by omega)) ?_
    refine Jb_ne (pc := 33) (tgt := 38) dX5_readHead_33 (by decide) (fun h33 => ?_) (fun h33 => ?_)
    · 
      have h33 : puP (m 71) s1 e1 := h33
      refine J_aload_n (pc := 38) dX5_readHead_38 rfl ?_
      refine J_ldcS (pc := 39) (j := 4) dX5_readHead_39 (by decide) rfl rfl ?_
      refine K_putS (pc := 41) (j0 := 4) dX5_readHead_41 kp_X5_27 job_70 jrf_70_4 (by decide) rfl rfl ?_
      refine J_aload_n (pc := 44) dX5_readHead_44 rfl ?_
      refine K_callVv (pc := 45) (id := 70) (As := []) dX5_readHead_45 kl_X5_64 rfl job_70 rfl rfl (Nat.le_of_ble_eq_true rfl) (c_step (m := (mup (stM m s1 e1) 70 4 (nI 4))) (e := e1) ((mup_j (by decide)).trans ((stM_j (by decide) (by decide)).trans hn)) h96 ((mup_j (by decide)).trans stM_3) (by omega)) (fun m45 h45 => ?_)
      rw [show (mup (stM m s1 e1) 70 4 (nI 4)) 71 = m 71 from rfl, ← hs2, ← he2] at h45
      subst h45
      refine J_aload_n (pc := 48) dX5_readHead_48 rfl ?_
      refine K_callVp (pc := 49) (id := 70) (As := []) dX5_readHead_49 kl_X5_67 rfl job_70 rfl rfl (Nat.le_of_ble_eq_true rfl) (c_glued (m := (stM (mup (stM m s1 e1) 70 4 (nI 4)) s2 e2)) (s := s2) stM_2 ((stM_j (by decide) (by decide)).trans ((mup_j (by decide)).trans ((stM_j (by decide) (by decide)).trans hn))) h96 (by omega)) ?_
      refine Jb_ne (pc := 52) (tgt := 96) dX5_readHead_52 (by decide) (fun h52 => ?_) (fun h52 => ?_)
      · 
        have h52 : glP (m 71) n s2 := h52
        refine J_iconst (pc := 96) dX5_readHead_96 kni_0 ?_
        refine K_zret (pc := 97) dX5_readHead_97 rfl rfl ⟨_, rfl, ?_⟩
        rw [if_neg h10, if_pos h33, if_pos (Or.inl h52)]
        exact ⟨rfl, stM_2, stM_3, fun q => (by cases q), fun i hi => (stM_i hi).trans ((mup_i' hi).trans (stM_i hi)), fun j h1 h2 h3 h4 => (stM_j h1 h2).trans ((mup_j h3).trans (stM_j h1 h2))⟩
      · 
        have h52 : ¬ glP (m 71) n s2 := h52
        refine J_aload_n (pc := 55) dX5_readHead_55 rfl ?_
        refine K_getI (pc := 56) dX5_readHead_56 kf_X5_22 job_70 jrf_70_3 ?_
        refine J_top (b := nI e2) (stM_3) ?_
        refine J_aload_n (pc := 59) dX5_readHead_59 rfl ?_
        refine K_getI (pc := 60) dX5_readHead_60 kf_X5_19 job_70 jrf_70_2 ?_
        refine J_top (b := nI s2) (stM_2) ?_
        refine J_isubv (pc := 63) dX5_readHead_63 (pk_sub (by omega)) ?_
        refine J_iconst (pc := 64) dX5_readHead_64 kni_1 ?_
        refine Jn_ne (pc := 65) (tgt := 96) dX5_readHead_65 (by decide) (by omega) (by omega) (fun h65 => ?_) (fun h65 => ?_)
        · 
          refine J_iconst (pc := 96) dX5_readHead_96 kni_0 ?_
          refine K_zret (pc := 97) dX5_readHead_97 rfl rfl ⟨_, rfl, ?_⟩
          rw [if_neg h10, if_pos h33, if_pos (Or.inr (Or.inl h65))]
          exact ⟨rfl, stM_2, stM_3, fun q => (by cases q), fun i hi => (stM_i hi).trans ((mup_i' hi).trans (stM_i hi)), fun j h1 h2 h3 h4 => (stM_j h1 h2).trans ((mup_j h3).trans (stM_j h1 h2))⟩
        · 
          refine J_aload_n (pc := 68) dX5_readHead_68 rfl ?_
          refine J_aload_n (pc := 69) dX5_readHead_69 rfl ?_
          refine K_getI (pc := 70) dX5_readHead_70 kf_X5_19 job_70 jrf_70_2 ?_
          refine J_top (b := nI s2) (stM_2) ?_
          refine K_callVp (pc := 73) (id := 70) (As := [_]) dX5_readHead_73 kl_X5_90 rfl job_70 rfl rfl (Nat.le_of_ble_eq_true rfl) (c_isDigit (m := (stM (mup (stM m s1 e1) 70 4 (nI 4)) s2 e2)) (i := s2) (by omega)) ?_
          refine Jb_eq (pc := 76) (tgt := 96) dX5_readHead_76 (by decide) (fun h76 => ?_) (fun h76 => ?_)
          · 
            have h76 : ¬ dB (m 71 s2) = true := h76
            refine J_iconst (pc := 96) dX5_readHead_96 kni_0 ?_
            refine K_zret (pc := 97) dX5_readHead_97 rfl rfl ⟨_, rfl, ?_⟩
            rw [if_neg h10, if_pos h33, if_pos (Or.inr (Or.inr (Or.inl h76)))]
            exact ⟨rfl, stM_2, stM_3, fun q => (by cases q), fun i hi => (stM_i hi).trans ((mup_i' hi).trans (stM_i hi)), fun j h1 h2 h3 h4 => (stM_j h1 h2).trans ((mup_j h3).trans (stM_j h1 h2))⟩
          · 
            have h76 : dB (m 71 s2) = true := h76
            refine J_aload_n (pc := 79) dX5_readHead_79 rfl ?_
            refine K_getR (pc := 80) dX5_readHead_80 kf_X5_9 job_70 jrf_70_0 ?_
            refine J_aload_n (pc := 83) dX5_readHead_83 rfl ?_
            refine K_getI (pc := 84) dX5_readHead_84 kf_X5_19 job_70 jrf_70_2 ?_
            refine J_top (b := nI s2) (stM_2) ?_
            refine K_baldn (pc := 87) (id := 71) dX5_readHead_87 jar_71 (by omega) (by decide) ?_
            refine J_top (b := m 71 s2) (rfl) ?_
            refine J_bipush (pc := 88) dX5_readHead_88 knb_48 ?_
            refine J_isub (pc := 90) dX5_readHead_90 ?_
            refine J_bipush (pc := 91) dX5_readHead_91 knb_6 ?_
            refine J_icmp_lt (pc := 93) (tgt := 98) dX5_readHead_93 (by decide) (fun h93 => ?_) (fun h93 => ?_)
            · 
              refine J_aload_n (pc := 98) dX5_readHead_98 rfl ?_
              refine J_aload_n (pc := 99) dX5_readHead_99 rfl ?_
              refine K_getR (pc := 100) dX5_readHead_100 kf_X5_9 job_70 jrf_70_0 ?_
              refine J_aload_n (pc := 103) dX5_readHead_103 rfl ?_
              refine K_getI (pc := 104) dX5_readHead_104 kf_X5_19 job_70 jrf_70_2 ?_
              refine J_top (b := nI s2) (stM_2) ?_
              refine K_baldn (pc := 107) (id := 71) dX5_readHead_107 jar_71 (by omega) (by decide) ?_
              refine J_top (b := m 71 s2) (rfl) ?_
              refine J_bipush (pc := 108) dX5_readHead_108 knb_48 ?_
              refine J_isub (pc := 110) dX5_readHead_110 ?_
              refine K_put (pc := 111) dX5_readHead_111 kp_X5_31 job_70 jrf_70_5 rfl rfl ?_
              refine J_iconst (pc := 114) dX5_readHead_114 kni_1 ?_
              refine K_zret (pc := 115) dX5_readHead_115 rfl rfl ⟨_, rfl, ?_⟩
              rw [if_neg h10, if_pos h33, if_neg (fun q => q.elim h52 (fun q => q.elim (fun q => q h65) (fun q => q.elim (fun q => q h76) (fun q => q h93))))]
              exact ⟨rfl, (mup_j (by decide)).trans stM_2, (mup_j (by decide)).trans stM_3, fun _ => ⟨(mup_j (by decide)).trans ((stM_j (by decide) (by decide)).trans mup_s), mup_s⟩, fun i hi => (mup_i' hi).trans ((stM_i hi).trans ((mup_i' hi).trans (stM_i hi))), fun j h1 h2 h3 h4 => (mup_j h4).trans ((stM_j h1 h2).trans ((mup_j h3).trans (stM_j h1 h2)))⟩
            · 
              refine J_iconst (pc := 96) dX5_readHead_96 kni_0 ?_
              refine K_zret (pc := 97) dX5_readHead_97 rfl rfl ⟨_, rfl, ?_⟩
              rw [if_neg h10, if_pos h33, if_pos (Or.inr (Or.inr (Or.inr h93)))]
              exact ⟨rfl, stM_2, stM_3, fun q => (by cases q), fun i hi => (stM_i hi).trans ((mup_i' hi).trans (stM_i hi)), fun j h1 h2 h3 h4 => (stM_j h1 h2).trans ((mup_j h3).trans (stM_j h1 h2))⟩
    · 
      have h33 : ¬ puP (m 71) s1 e1 := h33
      refine J_iconst (pc := 36) dX5_readHead_36 kni_0 ?_
      refine K_zret (pc := 37) dX5_readHead_37 rfl rfl ⟨_, rfl, ?_⟩
      have e : ∀ z, (if eyP (m 71) s1 e1 then z else if puP (m 71) s1 e1 then (if glP (m 71) n s2 ∨ ¬ e2 - s2 = 1 ∨ ¬ dB (m 71 s2) = true ∨ ¬ m 71 s2 - nI 48 < nI 6 then (false, s2, e2, 4, 0) else (true, s2, e2, 4, m 71 s2 - nI 48)) else (false, s1, e1, 0, 0)) = (false, s1, e1, 0, (0 : Int32)) := fun z => (if_neg h10).trans (if_neg h33)
      rw [e]
      exact ⟨rfl, stM_2, stM_3, fun q => (by cases q), fun i hi => stM_i hi, fun j h1 h2 h3 h4 => stM_j h1 h2⟩
  · 
    have h10 : eyP (m 71) s1 e1 := h10
    refine J_aload_n (pc := 13) dX5_readHead_13 rfl ?_
    refine J_ldcS (pc := 14) (j := 2) dX5_readHead_14 (by decide) rfl rfl ?_
    refine K_putS (pc := 16) (j0 := 2) dX5_readHead_16 kp_X5_27 job_70 jrf_70_4 (by decide) rfl rfl ?_
    refine J_aload_n (pc := 19) dX5_readHead_19 rfl ?_
    refine J_bipush (pc := 20) dX5_readHead_20 knb_6 ?_
    refine K_put (pc := 22) dX5_readHead_22 kp_X5_31 job_70 jrf_70_5 rfl rfl ?_
    refine J_iconst (pc := 25) dX5_readHead_25 kni_1 ?_
    refine K_zret (pc := 26) dX5_readHead_26 rfl rfl ⟨_, rfl, ?_⟩
    rw [if_pos h10]
    exact ⟨rfl, (mup_j (by decide)).trans ((mup_j (by decide)).trans stM_2), (mup_j (by decide)).trans ((mup_j (by decide)).trans stM_3), fun _ => ⟨(mup_j (by decide)).trans mup_s, mup_s⟩, fun i hi => (mup_i' hi).trans ((mup_i' hi).trans (stM_i hi)), fun j h1 h2 h3 h4 => (mup_j h4).trans ((mup_j h3).trans (stM_j h1 h2))⟩
