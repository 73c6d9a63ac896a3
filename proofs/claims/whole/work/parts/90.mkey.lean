theorem Ei_all {x : jX} {key : Int32} {A : Nat} {t : Nat → Int32} {n nm N d : Nat} {g : Int32} (h96 : n ≤ 96) (hA : A + 196 ≤ 3450) (hp : PtC x key A t n nm g (d + 4) N) : LvC x key A t n nm g 1 eX8_either (d + 9) N := by
  have h5 : LvC x key A t n nm g 5 eX8_term (d + 1 + 4) N := fun m s e S C w h hd hN => m_Lterm (d := d) h96 hA (PtC_lv hp) s e S C w h hd hN
  have h4 : LvC x key A t n nm g 4 eX8_sum (d + 2 + 4) N := fun m s e S C w h hd hN => m_Lsum (d := d + 1) h96 hA h5 s e S C w h hd hN
  have h3 : LvC x key A t n nm g 3 eX8_test (d + 3 + 4) N := fun m s e S C w h hd hN => m_Ltest (d := d + 2) h96 hA h4 s e S C w h hd hN
  have h2 : LvC x key A t n nm g 2 eX8_both (d + 4 + 4) N := fun m s e S C w h hd hN => m_Lboth (d := d + 3) h96 hA h3 s e S C w h hd hN
  exact fun m s e S C w h hd hN => m_Leither (d := d + 4) h96 hA h2 s e S C w h hd hN
theorem Pt_all {x : jX} {key : Int32} {A : Nat} {t : Nat → Int32} {n nm : Nat} {g : Int32} (h96 : n ≤ 96) (hA : A + 196 ≤ 3450) (hnm : nmOK key nm) : ∀ N d, PtC x key A t n nm g (d + 6 * N + 4) N ∧ LvC x key A t n nm g 1 eX8_either (d + 6 * N + 9) N
  | 0, d => by
    have hp : PtC x key A t n nm g (d + 6 * 0 + 4) 0 := fun m s e S C w h hN => m_part0 h96 hA hnm (fun z => absurd z (Nat.lt_irrefl 0)) (fun z => absurd z (Nat.lt_irrefl 0)) s e S C w h hN
    exact ⟨hp, Ei_all h96 hA hp⟩
  | N + 1, d => by
    have hp : PtC x key A t n nm g (d + 6 * (N + 1) + 4) (N + 1) := fun m s e S C w h hN => m_part0 (d := d + 6 * N + 6) h96 hA hnm (fun _ => by
      have := (Pt_all h96 hA hnm N (d + 5) (t := t) (g := g) (x := x)).1
      rw [show d + 5 + 6 * N + 4 = d + 6 * N + 6 + 3 by omega] at this
      exact this) (fun _ => (Pt_all h96 hA hnm N d (t := t) (g := g) (x := x)).2) s e S C w h hN
    exact ⟨hp, Ei_all h96 hA hp⟩
set_option maxRecDepth 100000 in
set_option maxHeartbeats 400000 in
theorem m_isEye {x : jX} {m : jm} {d : Nat} {n s e kd : Nat} (hs : m 140 12 = nI s) (he : m 140 13 = nI e) (hk : m 140 14 = nI kd) (hk4 : kd ≤ 4) (hse : s ≤ e) (he96 : e ≤ 96) : Ct x d eX8_isWordAt [.ref (jxb x + 140), .int (nI 101), .int (nI 121), .int (nI 101), .int (nI 0)] m (jp (jb (kd = 1 ∧ e - s = 3 ∧ m 150 s = nI 101 ∧ m 150 (s + 1) = nI 121 ∧ m 150 (s + 2) = nI 101)) m) := by
  refine J_start (by decide +kernel) (Nat.le_of_ble_eq_true rfl) (ls := [some (.ref (jxb x + 140)), some (.int (nI 101)), some (.int (nI 121)), some (.int (nI 101)), some (.int (nI 0)), none]) rfl rfl ?_
  refine J_iload (pc := 0) dX8_isWordAt_0 rfl ?_
  refine Jn_if_ne (pc := 2) (tgt := 9) dX8_isWordAt_2 (by decide) (by omega) (fun h2 => absurd h2 (by omega)) (fun h2 => ?_)
  refine J_iconst (pc := 5) dX8_isWordAt_5 kni_3 ?_
  refine J_goto (pc := 6) (tgt := 10) dX8_isWordAt_6 (by decide) ?_
  refine J_istore (pc := 10) (ls' := [some _, some _, some _, some _, some _, some _]) dX8_isWordAt_10 rfl (Nat.le_of_ble_eq_true rfl) rfl ?_
  refine J_aload_n (pc := 12) dX8_isWordAt_12 rfl ?_
  refine K_getI (pc := 13) dX8_isWordAt_13 kf_X8_193 job_140 jrf_140_14 ?_
  refine J_top (b := nI kd) (hk) ?_
  refine J_iconst (pc := 16) dX8_isWordAt_16 kni_1 ?_
  refine Jn_ne (pc := 17) (tgt := 102) dX8_isWordAt_17 (by decide) (by omega) (by omega) (fun h17 => ?_) (fun h17 => ?_)
  · 
    refine J_iconst (pc := 102) dX8_isWordAt_102 kni_0 ?_
    refine K_zret (pc := 103) dX8_isWordAt_103 rfl rfl ⟨_, rfl, ?_⟩
    exact ⟨(if_neg (fun z => h17 z.1)).symm, rfl⟩
  · 
    refine J_aload_n (pc := 20) dX8_isWordAt_20 rfl ?_
    refine K_getI (pc := 21) dX8_isWordAt_21 kf_X8_190 job_140 jrf_140_13 ?_
    refine J_top (b := nI e) (he) ?_
    refine J_aload_n (pc := 24) dX8_isWordAt_24 rfl ?_
    refine K_getI (pc := 25) dX8_isWordAt_25 kf_X8_196 job_140 jrf_140_12 ?_
    refine J_top (b := nI s) (hs) ?_
    refine J_isubv (pc := 28) dX8_isWordAt_28 (pk_sub (by omega)) ?_
    refine J_iload (pc := 29) dX8_isWordAt_29 rfl ?_
    refine Jn_ne (pc := 31) (tgt := 102) dX8_isWordAt_31 (by decide) (by omega) (by omega) (fun h31 => ?_) (fun h31 => ?_)
    · 
      refine J_iconst (pc := 102) dX8_isWordAt_102 kni_0 ?_
      refine K_zret (pc := 103) dX8_isWordAt_103 rfl rfl ⟨_, rfl, ?_⟩
      exact ⟨(if_neg (fun z => h31 z.2.1)).symm, rfl⟩
    · 
      refine J_aload_n (pc := 34) dX8_isWordAt_34 rfl ?_
      refine K_getR (pc := 35) dX8_isWordAt_35 kf_X8_37 job_140 jrf_140_10 ?_
      refine J_aload_n (pc := 38) dX8_isWordAt_38 rfl ?_
      refine K_getI (pc := 39) dX8_isWordAt_39 kf_X8_196 job_140 jrf_140_12 ?_
      refine J_top (b := nI s) (hs) ?_
      refine K_ialdn (pc := 42) (id := 150) dX8_isWordAt_42 jar_150 (by omega) (by decide) ?_
      refine J_iload_n (pc := 43) dX8_isWordAt_43 rfl ?_
      refine J_icmp_ne (pc := 44) (tgt := 102) dX8_isWordAt_44 (by decide) (fun h44 => ?_) (fun h44 => ?_)
      · 
        refine J_iconst (pc := 102) dX8_isWordAt_102 kni_0 ?_
        refine K_zret (pc := 103) dX8_isWordAt_103 rfl rfl ⟨_, rfl, ?_⟩
        exact ⟨(if_neg (fun z => h44 z.2.2.1)).symm, rfl⟩
      · 
        refine J_aload_n (pc := 47) dX8_isWordAt_47 rfl ?_
        refine K_getR (pc := 48) dX8_isWordAt_48 kf_X8_37 job_140 jrf_140_10 ?_
        refine J_aload_n (pc := 51) dX8_isWordAt_51 rfl ?_
        refine K_getI (pc := 52) dX8_isWordAt_52 kf_X8_196 job_140 jrf_140_12 ?_
        refine J_top (b := nI s) (hs) ?_
        refine J_iconst (pc := 55) dX8_isWordAt_55 kni_1 ?_
        refine J_iaddv (pc := 56) dX8_isWordAt_56 (nI_add _ _) ?_
        refine K_ialdn (pc := 57) (id := 150) dX8_isWordAt_57 jar_150 (by omega) (by decide) ?_
        refine J_iload_n (pc := 58) dX8_isWordAt_58 rfl ?_
        refine J_icmp_ne (pc := 59) (tgt := 102) dX8_isWordAt_59 (by decide) (fun h59 => ?_) (fun h59 => ?_)
        · 
          refine J_iconst (pc := 102) dX8_isWordAt_102 kni_0 ?_
          refine K_zret (pc := 103) dX8_isWordAt_103 rfl rfl ⟨_, rfl, ?_⟩
          exact ⟨(if_neg (fun z => h59 z.2.2.2.1)).symm, rfl⟩
        · 
          refine J_aload_n (pc := 62) dX8_isWordAt_62 rfl ?_
          refine K_getR (pc := 63) dX8_isWordAt_63 kf_X8_37 job_140 jrf_140_10 ?_
          refine J_aload_n (pc := 66) dX8_isWordAt_66 rfl ?_
          refine K_getI (pc := 67) dX8_isWordAt_67 kf_X8_196 job_140 jrf_140_12 ?_
          refine J_top (b := nI s) (hs) ?_
          refine J_iconst (pc := 70) dX8_isWordAt_70 kni_2 ?_
          refine J_iaddv (pc := 71) dX8_isWordAt_71 (nI_add _ _) ?_
          refine K_ialdn (pc := 72) (id := 150) dX8_isWordAt_72 jar_150 (by omega) (by decide) ?_
          refine J_iload_n (pc := 73) dX8_isWordAt_73 rfl ?_
          refine J_icmp_ne (pc := 74) (tgt := 102) dX8_isWordAt_74 (by decide) (fun h74 => ?_) (fun h74 => ?_)
          · 
            refine J_iconst (pc := 102) dX8_isWordAt_102 kni_0 ?_
            refine K_zret (pc := 103) dX8_isWordAt_103 rfl rfl ⟨_, rfl, ?_⟩
            exact ⟨(if_neg (fun z => h74 z.2.2.2.2)).symm, rfl⟩
          · 
            refine J_iload (pc := 77) dX8_isWordAt_77 rfl ?_
            refine Jn_if_eq (pc := 79) (tgt := 98) dX8_isWordAt_79 (by decide) (by omega) (fun h79 => ?_) (fun h79 => absurd h79 (by omega))
            refine J_iconst (pc := 98) dX8_isWordAt_98 kni_1 ?_
            refine J_goto (pc := 99) (tgt := 103) dX8_isWordAt_99 (by decide) ?_
            refine K_zret (pc := 103) dX8_isWordAt_103 rfl rfl ⟨_, rfl, ?_⟩
            exact ⟨(if_pos ⟨h17, h31, h44, h59, h74⟩).symm, rfl⟩
set_option maxRecDepth 100000 in
set_option maxHeartbeats 400000 in
theorem m_isPull {x : jX} {m : jm} {d : Nat} {n s e kd : Nat} (hs : m 140 12 = nI s) (he : m 140 13 = nI e) (hk : m 140 14 = nI kd) (hk4 : kd ≤ 4) (hse : s ≤ e) (he96 : e ≤ 96) : Ct x d eX8_isWordAt [.ref (jxb x + 140), .int (nI 112), .int (nI 117), .int (nI 108), .int (nI 108)] m (jp (jb (kd = 1 ∧ e - s = 4 ∧ m 150 s = nI 112 ∧ m 150 (s + 1) = nI 117 ∧ m 150 (s + 2) = nI 108 ∧ m 150 (s + 3) = nI 108)) m) := by
  refine J_start (by decide +kernel) (Nat.le_of_ble_eq_true rfl) (ls := [some (.ref (jxb x + 140)), some (.int (nI 112)), some (.int (nI 117)), some (.int (nI 108)), some (.int (nI 108)), none]) rfl rfl ?_
  refine J_iload (pc := 0) dX8_isWordAt_0 rfl ?_
  refine Jn_if_ne (pc := 2) (tgt := 9) dX8_isWordAt_2 (by decide) (by omega) (fun h2 => ?_) (fun h2 => absurd h2 (by omega))
  refine J_iconst (pc := 9) dX8_isWordAt_9 kni_4 ?_
  refine J_istore (pc := 10) (ls' := [some _, some _, some _, some _, some _, some _]) dX8_isWordAt_10 rfl (Nat.le_of_ble_eq_true rfl) rfl ?_
  refine J_aload_n (pc := 12) dX8_isWordAt_12 rfl ?_
  refine K_getI (pc := 13) dX8_isWordAt_13 kf_X8_193 job_140 jrf_140_14 ?_
  refine J_top (b := nI kd) (hk) ?_
  refine J_iconst (pc := 16) dX8_isWordAt_16 kni_1 ?_
  refine Jn_ne (pc := 17) (tgt := 102) dX8_isWordAt_17 (by decide) (by omega) (by omega) (fun h17 => ?_) (fun h17 => ?_)
  · 
    refine J_iconst (pc := 102) dX8_isWordAt_102 kni_0 ?_
    refine K_zret (pc := 103) dX8_isWordAt_103 rfl rfl ⟨_, rfl, ?_⟩
    exact ⟨(if_neg (fun z => h17 z.1)).symm, rfl⟩
  · 
    refine J_aload_n (pc := 20) dX8_isWordAt_20 rfl ?_
    refine K_getI (pc := 21) dX8_isWordAt_21 kf_X8_190 job_140 jrf_140_13 ?_
    refine J_top (b := nI e) (he) ?_
    refine J_aload_n (pc := 24) dX8_isWordAt_24 rfl ?_
    refine K_getI (pc := 25) dX8_isWordAt_25 kf_X8_196 job_140 jrf_140_12 ?_
    refine J_top (b := nI s) (hs) ?_
    refine J_isubv (pc := 28) dX8_isWordAt_28 (pk_sub (by omega)) ?_
    refine J_iload (pc := 29) dX8_isWordAt_29 rfl ?_
    refine Jn_ne (pc := 31) (tgt := 102) dX8_isWordAt_31 (by decide) (by omega) (by omega) (fun h31 => ?_) (fun h31 => ?_)
    · 
      refine J_iconst (pc := 102) dX8_isWordAt_102 kni_0 ?_
      refine K_zret (pc := 103) dX8_isWordAt_103 rfl rfl ⟨_, rfl, ?_⟩
      exact ⟨(if_neg (fun z => h31 z.2.1)).symm, rfl⟩
    · 
      refine J_aload_n (pc := 34) dX8_isWordAt_34 rfl ?_
      refine K_getR (pc := 35) dX8_isWordAt_35 kf_X8_37 job_140 jrf_140_10 ?_
      refine J_aload_n (pc := 38) dX8_isWordAt_38 rfl ?_
      refine K_getI (pc := 39) dX8_isWordAt_39 kf_X8_196 job_140 jrf_140_12 ?_
      refine J_top (b := nI s) (hs) ?_
      refine K_ialdn (pc := 42) (id := 150) dX8_isWordAt_42 jar_150 (by omega) (by decide) ?_
      refine J_iload_n (pc := 43) dX8_isWordAt_43 rfl ?_
      refine J_icmp_ne (pc := 44) (tgt := 102) dX8_isWordAt_44 (by decide) (fun h44 => ?_) (fun h44 => ?_)
      · 
        refine J_iconst (pc := 102) dX8_isWordAt_102 kni_0 ?_
        refine K_zret (pc := 103) dX8_isWordAt_103 rfl rfl ⟨_, rfl, ?_⟩
        exact ⟨(if_neg (fun z => h44 z.2.2.1)).symm, rfl⟩
      · 
        refine J_aload_n (pc := 47) dX8_isWordAt_47 rfl ?_
        refine K_getR (pc := 48) dX8_isWordAt_48 kf_X8_37 job_140 jrf_140_10 ?_
        refine J_aload_n (pc := 51) dX8_isWordAt_51 rfl ?_
        refine K_getI (pc := 52) dX8_isWordAt_52 kf_X8_196 job_140 jrf_140_12 ?_
        refine J_top (b := nI s) (hs) ?_
        refine J_iconst (pc := 55) dX8_isWordAt_55 kni_1 ?_
        refine J_iaddv (pc := 56) dX8_isWordAt_56 (nI_add _ _) ?_
        refine K_ialdn (pc := 57) (id := 150) dX8_isWordAt_57 jar_150 (by omega) (by decide) ?_
        refine J_iload_n (pc := 58) dX8_isWordAt_58 rfl ?_
        refine J_icmp_ne (pc := 59) (tgt := 102) dX8_isWordAt_59 (by decide) (fun h59 => ?_) (fun h59 => ?_)
        · 
          refine J_iconst (pc := 102) dX8_isWordAt_102 kni_0 ?_
          refine K_zret (pc := 103) dX8_isWordAt_103 rfl rfl ⟨_, rfl, ?_⟩
          exact ⟨(if_neg (fun z => h59 z.2.2.2.1)).symm, rfl⟩
        · 
          refine J_aload_n (pc := 62) dX8_isWordAt_62 rfl ?_
          refine K_getR (pc := 63) dX8_isWordAt_63 kf_X8_37 job_140 jrf_140_10 ?_
          refine J_aload_n (pc := 66) dX8_isWordAt_66 rfl ?_
          refine K_getI (pc := 67) dX8_isWordAt_67 kf_X8_196 job_140 jrf_140_12 ?_
          refine J_top (b := nI s) (hs) ?_
          refine J_iconst (pc := 70) dX8_isWordAt_70 kni_2 ?_
          refine J_iaddv (pc := 71) dX8_isWordAt_71 (nI_add _ _) ?_
          refine K_ialdn (pc := 72) (id := 150) dX8_isWordAt_72 jar_150 (by omega) (by decide) ?_
          refine J_iload_n (pc := 73) dX8_isWordAt_73 rfl ?_
          refine J_icmp_ne (pc := 74) (tgt := 102) dX8_isWordAt_74 (by decide) (fun h74 => ?_) (fun h74 => ?_)
          · 
            refine J_iconst (pc := 102) dX8_isWordAt_102 kni_0 ?_
            refine K_zret (pc := 103) dX8_isWordAt_103 rfl rfl ⟨_, rfl, ?_⟩
            exact ⟨(if_neg (fun z => h74 z.2.2.2.2.1)).symm, rfl⟩
          · 
            refine J_iload (pc := 77) dX8_isWordAt_77 rfl ?_
            refine Jn_if_eq (pc := 79) (tgt := 98) dX8_isWordAt_79 (by decide) (by omega) (fun h79 => absurd h79 (by omega)) (fun h79 => ?_)
            refine J_aload_n (pc := 82) dX8_isWordAt_82 rfl ?_
            refine K_getR (pc := 83) dX8_isWordAt_83 kf_X8_37 job_140 jrf_140_10 ?_
            refine J_aload_n (pc := 86) dX8_isWordAt_86 rfl ?_
            refine K_getI (pc := 87) dX8_isWordAt_87 kf_X8_196 job_140 jrf_140_12 ?_
            refine J_top (b := nI s) (hs) ?_
            refine J_iconst (pc := 90) dX8_isWordAt_90 kni_3 ?_
            refine J_iaddv (pc := 91) dX8_isWordAt_91 (nI_add _ _) ?_
            refine K_ialdn (pc := 92) (id := 150) dX8_isWordAt_92 jar_150 (by omega) (by decide) ?_
            refine J_iload (pc := 93) dX8_isWordAt_93 rfl ?_
            refine J_icmp_ne (pc := 95) (tgt := 102) dX8_isWordAt_95 (by decide) (fun h95 => ?_) (fun h95 => ?_)
            · 
              refine J_iconst (pc := 102) dX8_isWordAt_102 kni_0 ?_
              refine K_zret (pc := 103) dX8_isWordAt_103 rfl rfl ⟨_, rfl, ?_⟩
              exact ⟨(if_neg (fun z => h95 z.2.2.2.2.2)).symm, rfl⟩
            · 
              refine J_iconst (pc := 98) dX8_isWordAt_98 kni_1 ?_
              refine J_goto (pc := 99) (tgt := 103) dX8_isWordAt_99 (by decide) ?_
              refine K_zret (pc := 103) dX8_isWordAt_103 rfl rfl ⟨_, rfl, ?_⟩
              exact ⟨(if_pos ⟨h17, h31, h44, h59, h74, h95⟩).symm, rfl⟩
theorem fst_gl {t : Nat → Int32} {n : Nat} : ¬ glP t n (skp t n 0) := fun z => by
  have h := skp_in (t := t) (n := n) (e := 0) (j := skp t n 0 - 1) (Nat.zero_le _) (by have := z.1; omega)
  have w := z.2.2.2
  rw [h] at w
  exact wB_32 w
theorem m_isEye2 {x : jX} {m : jm} {d n s e : Nat} {t : Nat → Int32} (htk : tkP t n s e m) (h96 : n ≤ 96) (hb : ∀ j, j < n → bR (m 150 j) (t j)) (hg : ¬ glP t n s) : Ct x d eX8_isWordAt [.ref (jxb x + 140), .int (nI 101), .int (nI 121), .int (nI 101), .int (nI 0)] m (jp (jb (eyP t s e)) m) := by
  obtain ⟨h1, h2, h3, h4, h5, -⟩ := htk
  have hl := (ndp_le (t := t) (n := n) (s := s) h1)
  have hse : s ≤ e := by
    rcases Nat.lt_or_ge s n with y | y
    · have := hl.2 y; omega
    · have e1 : ndp t n s = n := if_neg (by omega)
      omega
  rw [← jb_iff (c := kdT t n s e = 1 ∧ e - s = 3 ∧ m 150 s = nI 101 ∧ m 150 (s + 1) = nI 121 ∧ m 150 (s + 2) = nI 101) (e := eyP t s e) ?_]
  · exact m_isEye (n := n) h3 h4 h5 (kdT_4 t n s e) hse (by omega)
  · constructor
    · intro z
      exact ⟨z.2.1, (bR_c (hb s (by omega)) (by decide)).mp z.2.2.1, (bR_c (hb (s + 1) (by omega)) (by decide)).mp z.2.2.2.1, (bR_c (hb (s + 2) (by omega)) (by decide)).mp z.2.2.2.2⟩
    · intro z
      have hs : s < n := by omega
      have hl2 : lB (t s) = true := lB_iff.mpr (by rw [show t s = nI 101 from z.2.1]; unfold lt8; decide)
      exact ⟨kd_1.mpr ⟨hs, hl2, hg⟩, z.1, (bR_c (hb s hs) (by decide)).mpr z.2.1, (bR_c (hb (s + 1) (by omega)) (by decide)).mpr z.2.2.1, (bR_c (hb (s + 2) (by omega)) (by decide)).mpr z.2.2.2⟩
theorem m_isPull2 {x : jX} {m : jm} {d n s e : Nat} {t : Nat → Int32} (htk : tkP t n s e m) (h96 : n ≤ 96) (hb : ∀ j, j < n → bR (m 150 j) (t j)) (hg : ¬ glP t n s) : Ct x d eX8_isWordAt [.ref (jxb x + 140), .int (nI 112), .int (nI 117), .int (nI 108), .int (nI 108)] m (jp (jb (puP t s e)) m) := by
  obtain ⟨h1, h2, h3, h4, h5, -⟩ := htk
  have hl := (ndp_le (t := t) (n := n) (s := s) h1)
  have hse : s ≤ e := by
    rcases Nat.lt_or_ge s n with y | y
    · have := hl.2 y; omega
    · have e1 : ndp t n s = n := if_neg (by omega)
      omega
  rw [← jb_iff (c := kdT t n s e = 1 ∧ e - s = 4 ∧ m 150 s = nI 112 ∧ m 150 (s + 1) = nI 117 ∧ m 150 (s + 2) = nI 108 ∧ m 150 (s + 3) = nI 108) (e := puP t s e) ?_]
  · exact m_isPull (n := n) h3 h4 h5 (kdT_4 t n s e) hse (by omega)
  · constructor
    · intro z
      exact ⟨z.2.1, (bR_c (hb s (by omega)) (by decide)).mp z.2.2.1, (bR_c (hb (s + 1) (by omega)) (by decide)).mp z.2.2.2.1, (bR_c (hb (s + 2) (by omega)) (by decide)).mp z.2.2.2.2.1, (bR_c (hb (s + 3) (by omega)) (by decide)).mp z.2.2.2.2.2⟩
    · intro z
      have hs : s < n := by omega
      have hl2 : lB (t s) = true := lB_iff.mpr (by rw [show t s = nI 112 from z.2.1]; unfold lt8; decide)
      exact ⟨kd_1.mpr ⟨hs, hl2, hg⟩, z.1, (bR_c (hb s hs) (by decide)).mpr z.2.1, (bR_c (hb (s + 1) (by omega)) (by decide)).mpr z.2.2.1, (bR_c (hb (s + 2) (by omega)) (by decide)).mpr z.2.2.2.1, (bR_c (hb (s + 3) (by omega)) (by decide)).mpr z.2.2.2.2⟩
/-- the head of a text, as the reference finds it -/
noncomputable def kyP (t : Nat → Int32) (n : Nat) (z : Bool × Nat × Nat × Nat × Int32) (m m' : jm) (v : Int32) : Prop :=
  (∀ i, i ≠ 140 → m' i = m i) ∧ (∀ j, j < 12 ∨ 16 < j → m' 140 j = m 140 j) ∧ m' 140 12 = nI z.2.1 ∧
  (z.1 = true → v = z.2.2.2.2 ∧ 0 ≤ v ∧ tkP t n z.2.1 z.2.2.1 m' ∧ z.2.1 < n ∧ kdT t n z.2.1 z.2.2.1 ≠ 4 ∧ nmOK v z.2.2.2.1 ∧ (v = nI 6 ∨ ∃ q, q < 6 ∧ v = nI q)) ∧ (z.1 = false → v = -1)
theorem num_1 (t : Nat → Int32) (s : Nat) : numV t s 1 = t s - nI 48 := by
  show nI 0 * nI 10 + t (s + 0) - nI 48 = _
  rw [show nI 0 * nI 10 = 0 by decide, Int32.zero_add]
  rfl
set_option maxRecDepth 100000 in
set_option maxHeartbeats 400000 in
theorem m_key {x : jX} {m : jm} {d : Nat} {n : Nat} {t : Nat → Int32} (hn : m 140 11 = nI n) (h96 : n ≤ 96) (htk : tkP t n (skp t n 0) (ndp t n (skp t n 0)) m) (hb : ∀ j, j < n → bR (m 150 j) (t j)) : Ct x (d + 3) eX8_key [.ref (jxb x + 140)] m (ji fun v m' => kyP t n (hdS t n) m m' v) := by
  refine J_start (by decide +kernel) (Nat.le_of_ble_eq_true rfl) (ls := [some (.ref (jxb x + 140))]) rfl rfl ?_
  obtain ⟨s1, hs1⟩ : ∃ s, s = skp t n 0 := ⟨_, rfl⟩
  obtain ⟨e1, he1⟩ : ∃ e, e = ndp t n s1 := ⟨_, rfl⟩
  obtain ⟨s2, hs2⟩ : ∃ s, s = skp t n e1 := ⟨_, rfl⟩
  obtain ⟨e2, he2⟩ : ∃ e, e = ndp t n s2 := ⟨_, rfl⟩
  rw [← hs1, ← he1] at htk
  have hg1 : ¬ glP t n s1 := by rw [hs1]; exact fst_gl
  have b1 := skp_le (t := t) (n := n) (e := 0) (by omega)
  rw [← hs1] at b1
  have b2 := ndp_le (t := t) (n := n) (s := s1) (by omega)
  rw [← he1] at b2
  have b3 := skp_le (t := t) (n := n) (e := e1) (by omega)
  rw [← hs2] at b3
  have b4 := ndp_le (t := t) (n := n) (s := s2) (by omega)
  rw [← he2] at b4
  have hz : hdS t n = if eyP t s1 e1 then (true, s1, e1, 2, nI 6) else if puP t s1 e1 then (if glP t n s2 ∨ ¬ e2 - s2 = 1 ∨ ¬ dB (t s2) = true ∨ ¬ t s2 - nI 48 < nI 6 then (false, s2, e2, 4, 0) else (true, s2, e2, 4, t s2 - nI 48)) else (false, s1, e1, 0, 0) := by
    rw [he2, hs2, he1, hs1]
    rfl
  refine J_aload_n (pc := 0) dX8_key_0 rfl ?_
  refine J_bipush (pc := 1) dX8_key_1 knb_101 ?_
  refine J_bipush (pc := 3) dX8_key_3 knb_121 ?_
  refine J_bipush (pc := 5) dX8_key_5 knb_101 ?_
  refine J_iconst (pc := 7) dX8_key_7 kni_0 ?_
  refine K_callVp (pc := 8) (id := 140) (As := [_, _, _, _]) dX8_key_8 kl_X8_211 rfl job_140 rfl rfl (Nat.le_of_ble_eq_true rfl) (m_isEye2 htk h96 hb hg1) ?_
  refine Jb_eq (pc := 11) (tgt := 17) dX8_key_11 (by decide) (fun h11 => ?_) (fun h11 => ?_)
  · 
    refine J_aload_n (pc := 17) dX8_key_17 rfl ?_
    refine J_bipush (pc := 18) dX8_key_18 knb_112 ?_
    refine J_bipush (pc := 20) dX8_key_20 knb_117 ?_
    refine J_bipush (pc := 22) dX8_key_22 knb_108 ?_
    refine J_bipush (pc := 24) dX8_key_24 knb_108 ?_
    refine K_callVp (pc := 26) (id := 140) (As := [_, _, _, _]) dX8_key_26 kl_X8_211 rfl job_140 rfl rfl (Nat.le_of_ble_eq_true rfl) (m_isPull2 htk h96 hb hg1) ?_
    refine Jb_ne (pc := 29) (tgt := 34) dX8_key_29 (by decide) (fun h29 => ?_) (fun h29 => ?_)
    · 
      refine J_aload_n (pc := 34) dX8_key_34 rfl ?_
      refine K_callVv (pc := 35) (id := 140) (As := []) dX8_key_35 kl_X8_215 rfl job_140 rfl rfl (Nat.le_of_ble_eq_true rfl) (m_next2 (m := m) (t := t) (n := n) (s := s1) (e := e1) hn h96 htk (by have := h29.1; omega) (by rw [kd_1.mpr ⟨by have := h29.1; omega, lB_iff.mpr (by rw [show t s1 = nI 112 from h29.2.1]; unfold lt8; decide), hg1⟩]; decide) hb) (fun m35 hx => ?_)
      have hx' := hx
      rw [← hs2, ← he2] at hx
      have hk4 := kdT_4 t n s2 e2
      refine J_aload_n (pc := 38) dX8_key_38 rfl ?_
      refine K_getI (pc := 39) dX8_key_39 kf_X8_193 job_140 jrf_140_14 ?_
      refine J_top (b := nI (kdT t n s2 e2)) (hx.2.2.2.2.1) ?_
      refine J_iconst (pc := 42) dX8_key_42 kni_2 ?_
      refine Jn_ne (pc := 43) (tgt := 75) dX8_key_43 (by decide) (by omega) (by omega) (fun h43 => ?_) (fun h43 => ?_)
      · 
        refine J_iconst (pc := 75) dX8_key_75 kni_m1 ?_
        refine K_iret (pc := 76) dX8_key_76 rfl ⟨_, rfl, ?_⟩
        rw [if_neg h11, if_pos h29] at hz
        have hbad : glP t n s2 ∨ ¬ e2 - s2 = 1 ∨ ¬ dB (t s2) = true ∨ ¬ t s2 - nI 48 < nI 6 := by
          rcases Nat.lt_or_ge s2 n with y | y
          · by_cases g : glP t n s2
            · exact Or.inl g
            · by_cases h1 : e2 - s2 = 1
              · by_cases h2 : dB (t s2) = true
                · exact absurd (kd_2.mpr ⟨y, fun q => lB_dB q h2, h2, g, by omega⟩) h43
                · exact Or.inr (Or.inr (Or.inl h2))
              · exact Or.inr (Or.inl h1)
          · exact Or.inr (Or.inl (by have : e2 = n := by rw [he2]; exact if_neg (by omega)
                                     omega))
        rw [if_pos hbad] at hz
        rw [hz]
        exact ⟨hx.1, hx.2.1, hx.2.2.1, fun z => (by cases z), fun _ => rfl⟩
      · 
        refine J_aload_n (pc := 46) dX8_key_46 rfl ?_
        refine K_getI (pc := 47) dX8_key_47 kf_X8_190 job_140 jrf_140_13 ?_
        refine J_top (b := nI e2) (hx.2.2.2.1) ?_
        refine J_aload_n (pc := 50) dX8_key_50 rfl ?_
        refine K_getI (pc := 51) dX8_key_51 kf_X8_196 job_140 jrf_140_12 ?_
        refine J_top (b := nI s2) (hx.2.2.1) ?_
        refine J_isubv (pc := 54) dX8_key_54 (pk_sub (by rcases Nat.lt_or_ge s2 n with y | y; have := b4.2 y; omega; have : e2 = n := by { rw [he2]; exact if_neg (by omega) }; omega)) ?_
        refine J_iconst (pc := 55) dX8_key_55 kni_1 ?_
        refine Jn_ne (pc := 56) (tgt := 75) dX8_key_56 (by decide) (by omega) (by omega) (fun h56 => ?_) (fun h56 => ?_)
        · 
          refine J_iconst (pc := 75) dX8_key_75 kni_m1 ?_
          refine K_iret (pc := 76) dX8_key_76 rfl ⟨_, rfl, ?_⟩
          rw [if_neg h11, if_pos h29] at hz
          have hbad : glP t n s2 ∨ ¬ e2 - s2 = 1 ∨ ¬ dB (t s2) = true ∨ ¬ t s2 - nI 48 < nI 6 := Or.inr (Or.inl h56)
          rw [if_pos hbad] at hz
          rw [hz]
          exact ⟨hx.1, hx.2.1, hx.2.2.1, fun z => (by cases z), fun _ => rfl⟩
        · 
          refine J_aload_n (pc := 59) dX8_key_59 rfl ?_
          refine K_getI (pc := 60) dX8_key_60 kf_X8_208 job_140 jrf_140_15 ?_
          refine J_top (b := (t s2 - nI 48)) (by rw [hx.2.2.2.2.2.1 h43, h56, num_1]) ?_
          refine J_bipush (pc := 63) dX8_key_63 knb_6 ?_
          refine J_icmp_ge (pc := 65) (tgt := 75) dX8_key_65 (by decide) (fun h65 => ?_) (fun h65 => ?_)
          · 
            refine J_iconst (pc := 75) dX8_key_75 kni_m1 ?_
            refine K_iret (pc := 76) dX8_key_76 rfl ⟨_, rfl, ?_⟩
            rw [if_neg h11, if_pos h29] at hz
            have hbad : glP t n s2 ∨ ¬ e2 - s2 = 1 ∨ ¬ dB (t s2) = true ∨ ¬ t s2 - nI 48 < nI 6 := Or.inr (Or.inr (Or.inr (Int32.not_lt.mpr h65)))
            rw [if_pos hbad] at hz
            rw [hz]
            exact ⟨hx.1, hx.2.1, hx.2.2.1, fun z => (by cases z), fun _ => rfl⟩
          · 
            have h65 := Int32.not_le.mp h65
            have h65 : ¬ nI 6 ≤ t s2 - nI 48 := Int32.not_le.mpr h65
            refine J_aload_n (pc := 68) dX8_key_68 rfl ?_
            refine K_getI (pc := 69) dX8_key_69 kf_X8_208 job_140 jrf_140_15 ?_
            refine J_top (b := (t s2 - nI 48)) (by rw [hx.2.2.2.2.2.1 h43, h56, num_1]) ?_
            refine J_goto (pc := 72) (tgt := 76) dX8_key_72 (by decide) ?_
            refine K_iret (pc := 76) dX8_key_76 rfl ⟨_, rfl, ?_⟩
            rw [if_neg h11, if_pos h29] at hz
            obtain ⟨g1, g2, g3, g4, g5⟩ := kd_2.mp h43
            rw [if_neg (fun z => z.elim g4 (fun z => z.elim (fun y => y h56) (fun z => z.elim (fun y => y g3) (fun y => y (Int32.not_le.mp h65)))))] at hz
            rw [hz]
            obtain ⟨d1, d2⟩ := dB_iff.mp g3
            have h65b := h65
            rw [Int32.le_iff_toInt_le, nI_toInt (by decide)] at d1 d2 h65b
            have es : (t s2 - nI 48).toInt = (t s2).toInt - 48 := by
              rw [Int32.toInt_sub, nI_toInt (by decide)]
              exact Int.bmod_eq_of_le (by omega) (by omega)
            rw [es] at h65b
            have hq : t s2 - nI 48 = nI ((t s2).toInt - 48).toNat := Int32.toInt_inj.mp (by rw [es, nI_toInt (by omega)]; omega)
            have hne : ¬ t s2 - nI 48 = nI 6 := fun z => by
              have := congrArg Int32.toInt z
              rw [es, nI_toInt (by decide)] at this
              omega
            have htk2 := nx_tk (by omega) hx'
            rw [← hs2, ← he2] at htk2
            exact ⟨hx.1, hx.2.1, hx.2.2.1, fun _ => ⟨rfl, by rw [Int32.le_iff_toInt_le, es, show (0 : Int32).toInt = 0 from rfl]; omega, htk2, g1, by show kdT t n s2 e2 ≠ 4; rw [h43]; decide, Or.inr ⟨hne, rfl⟩, Or.inr ⟨((t s2).toInt - 48).toNat, by omega, hq⟩⟩, fun z => by cases z⟩
    · 
      refine J_iconst (pc := 32) dX8_key_32 kni_m1 ?_
      refine K_iret (pc := 33) dX8_key_33 rfl ⟨_, rfl, ?_⟩
      rw [if_neg h11, if_neg h29] at hz
      rw [hz]
      exact ⟨fun _ _ => rfl, fun _ _ => rfl, htk.2.2.1, fun z => (by cases z), fun _ => rfl⟩
  · 
    refine J_bipush (pc := 14) dX8_key_14 knb_6 ?_
    refine K_iret (pc := 16) dX8_key_16 rfl ⟨_, rfl, ?_⟩
    rw [if_pos h11] at hz
    rw [hz]
    have hs : s1 < n := by have := h11.1; omega
    have hk : kdT t n s1 e1 = 1 := kd_1.mpr ⟨hs, lB_iff.mpr (by rw [show t s1 = nI 101 from h11.2.1]; unfold lt8; decide), hg1⟩
    exact ⟨fun _ _ => rfl, fun _ _ => rfl, htk.2.2.1, fun _ => ⟨rfl, by decide, htk, hs, by show kdT t n s1 e1 ≠ 4; rw [hk]; decide, Or.inl ⟨rfl, rfl⟩, Or.inl rfl⟩, fun z => by cases z⟩
