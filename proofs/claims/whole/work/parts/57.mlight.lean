/-- lights and heights, part by part -/
def plR (m : jm) (p : Nat) : Nat := tN (m 141 (90 + 6 * p + 1))
def lgtR (m : jm) : Nat → Nat → Int32
  | 0 => fun _ => m 141 2
  | p + 1 => fset (lgtR m p) (plR m p) (lgtR m p (plR m p) + givR m 141 p)
def hgtR (m : jm) : Nat → Nat → Int32
  | 0 => fun _ => nI 0
  | p + 1 => fset (hgtR m p) (plR m p) (if m 141 (90 + 6 * p) = nI 4 then m 141 (90 + 6 * p + 5) else nI 0)
def finR (m : jm) (P k : Nat) : Int32 := hldV (lgtR m P k + m 141 3 * (hgtR m P k - (if k < 8 then nI 0 else hgtR m P (k - 8)))) (nI 99)
def two48 (m : jm) (i : Nat) (f g : Nat → Int32) : jm := mfill (mfill m 147 i f) 148 i g
theorem two_i {m : jm} {i k : Nat} {f g : Nat → Int32} (h : k ≠ 147) (h2 : k ≠ 148) : two48 m i f g k = m k := (mfill_i' h2).trans (mfill_i' h)
theorem two_l {m : jm} {i j : Nat} {f g : Nat → Int32} (h : j < i) : two48 m i f g 147 j = f j := (mfill_i (by decide)).trans (mfill_lt h)
theorem two_h {m : jm} {i j : Nat} {f g : Nat → Int32} (h : j < i) : two48 m i f g 148 j = g j := mfill_lt h
theorem two_s {m : jm} {i : Nat} {f g : Nat → Int32} {v w : Int32} (hv : v = f i) (hw : w = g i) : mup (mup (two48 m i f g) 147 i v) 148 i w = two48 m (i + 1) f g := by
  funext k j
  unfold mup two48 mfill
  subst hv hw
  by_cases a : k = 148
  · subst a
    by_cases b : j = i
    · subst b
      rw [if_pos ⟨rfl, rfl⟩, if_pos ⟨rfl, by omega⟩]
    · rw [if_neg (fun q => b q.2), if_neg (fun q => absurd q.1 (by decide))]
      by_cases c : j < i
      · rw [if_pos ⟨rfl, c⟩, if_pos ⟨rfl, by omega⟩]
      · rw [if_neg (fun q => c q.2), if_neg (fun q => absurd q.1 (by decide)), if_neg (fun q => by omega), if_neg (fun q => absurd q.1 (by decide))]
  · rw [if_neg (fun q => a q.1), if_neg (c := k = 148 ∧ j < i + 1) (fun q => a q.1)]
    by_cases e : k = 147
    · subst e
      by_cases b : j = i
      · subst b
        rw [if_pos ⟨rfl, rfl⟩, if_pos ⟨rfl, by omega⟩]
      · rw [if_neg (fun q => b q.2), if_neg (fun q => absurd q.1 (by decide))]
        by_cases c : j < i
        · rw [if_pos ⟨rfl, c⟩, if_pos ⟨rfl, by omega⟩]
        · rw [if_neg (fun q => c q.2), if_neg (fun q => by omega)]
    · rw [if_neg (fun q => e q.1), if_neg (fun q => a q.1), if_neg (fun q => e q.1), if_neg (fun q => e q.1)]
theorem two_u {m : jm} {k : Nat} {f g : Nat → Int32} {v w : Int32} (hk : k < 48) : mup (mup (two48 m 48 f g) 147 k v) 148 k w = two48 m 48 (fset f k v) (fset g k w) := by
  funext i j
  unfold mup two48 mfill fset
  by_cases a : i = 148
  · subst a
    by_cases b : j = k
    · subst b
      rw [if_pos ⟨rfl, rfl⟩, if_pos ⟨rfl, hk⟩, if_pos rfl]
    · rw [if_neg (fun q => b q.2), if_neg (fun q => absurd q.1 (by decide))]
      by_cases c : j < 48
      · rw [if_pos ⟨rfl, c⟩, if_pos ⟨rfl, c⟩, if_neg b]
      · rw [if_neg (fun q => c q.2), if_neg (fun q => absurd q.1 (by decide)), if_neg (fun q => c q.2), if_neg (fun q => absurd q.1 (by decide))]
  · have n1 : ¬ (i = 148 ∧ j = k) := fun q => a q.1
    have n2 : ¬ (i = 148 ∧ j < 48) := fun q => a q.1
    simp only [if_neg n1, if_neg n2]
    by_cases e : i = 147
    · subst e
      by_cases b : j = k
      · subst b
        rw [if_pos ⟨rfl, rfl⟩, if_pos ⟨rfl, hk⟩, if_pos rfl]
      · rw [if_neg (fun q => b q.2)]
        by_cases c : j < 48
        · rw [if_pos ⟨rfl, c⟩, if_pos ⟨rfl, c⟩, if_neg b]
        · rw [if_neg (fun q => c q.2), if_neg (fun q => c q.2)]
    · have n3 : ¬ (i = 147 ∧ j = k) := fun q => e q.1
      have n4 : ¬ (i = 147 ∧ j < 48) := fun q => e q.1
      simp only [if_neg n3, if_neg n4]
def litM (m : jm) (P : Nat) : jm := mfill (two48 m 48 (lgtR m P) (hgtR m P)) 147 48 (finR m P)
set_option maxRecDepth 100000 in
set_option maxHeartbeats 400000 in
theorem m_findLight {x : jX} {m : jm} {d : Nat} {P : Nat} (hP : m 141 0 = nI P) (h48 : P ≤ 48) (hplc : ∀ p, p < P → vp_in (m 141 (90 + 6 * p + 1)) 48) : Ct x (d + 2) eX8_findLight [.ref (jxb x + 140)] m (jv fun m' => m' = litM m P) := by
  refine J_start (by decide +kernel) (Nat.le_of_ble_eq_true rfl) (ls := [some (.ref (jxb x + 140)), none, none]) rfl rfl ?_
  refine J_iconst (pc := 0) dX8_findLight_0 kni_0 ?_
  refine J_istore_n (pc := 1) (ls' := [some _, some _, none]) dX8_findLight_1 rfl (Nat.le_of_ble_eq_true rfl) rfl ?_
  refine K_for' (pc := 2) 48 (fun i => [some (.ref (jxb x + 140)), some (.int (nI i)), none]) (fun i => (two48 m i (fun _ => m 141 2) (fun _ => nI 0))) (by rfl) (by unfold two48; rw [mfill_0, mfill_0]) (fun i hi ih2 => ?_) ?_
  ·
    show K x _ _ 2 [some (.ref (jxb x + 140)), some (.int (nI i)), none] _ ((two48 m i (fun _ => m 141 2) (fun _ => nI 0))) _
    refine J_iload_n (pc := 2) dX8_findLight_2 rfl ?_
    refine J_bipush (pc := 3) dX8_findLight_3 knb_48 ?_
    refine Jn_ge (pc := 5) (tgt := 33) dX8_findLight_5 (by decide) (by omega) (by omega) (fun h5 => absurd h5 (by omega)) (fun h5 => ?_)
    refine J_aload_n (pc := 8) dX8_findLight_8 rfl ?_
    refine K_getR (pc := 9) dX8_findLight_9 kf_X8_28 job_140 jrf_140_7 ?_
    refine J_iload_n (pc := 12) dX8_findLight_12 rfl ?_
    refine J_aload_n (pc := 13) dX8_findLight_13 rfl ?_
    refine K_getR (pc := 14) dX8_findLight_14 kf_X8_7 job_140 jrf_140_0 ?_
    refine J_iconst (pc := 17) dX8_findLight_17 kni_2 ?_
    refine K_ialdn (pc := 18) (id := 141) dX8_findLight_18 jar_141 (by decide) (by decide) ?_
    refine J_top (b := (m 141 2)) (congrFun (two_i (by decide) (by decide)) 2) ?_
    refine K_iastn (pc := 19) (id := 147) dX8_findLight_19 jar_147 (by omega) (by decide) ?_
    refine J_aload_n (pc := 20) dX8_findLight_20 rfl ?_
    refine K_getR (pc := 21) dX8_findLight_21 kf_X8_31 job_140 jrf_140_8 ?_
    refine J_iload_n (pc := 24) dX8_findLight_24 rfl ?_
    refine J_iconst (pc := 25) dX8_findLight_25 kni_0 ?_
    refine K_iastn (pc := 26) (id := 148) dX8_findLight_26 jar_148 (by omega) (by decide) ?_
    refine Jn_iinc (pc := 27) (ls' := [some _, some _, none]) dX8_findLight_27 rfl knz_1 rfl rfl ?_
    refine J_goto (pc := 30) (tgt := 2) dX8_findLight_30 (by decide) ?_
    rw [two_s rfl rfl]
    exact ih2
  ·
    show K x _ _ 2 [some (.ref (jxb x + 140)), some (.int (nI 48)), none] _ ((two48 m 48 (fun _ => m 141 2) (fun _ => nI 0))) _
    refine J_iload_n (pc := 2) dX8_findLight_2 rfl ?_
    refine J_bipush (pc := 3) dX8_findLight_3 knb_48 ?_
    refine Jn_ge (pc := 5) (tgt := 33) dX8_findLight_5 (by decide) (by omega) (by omega) (fun h5 => ?_) (fun h5 => absurd h5 (by omega))
    refine J_iconst (pc := 33) dX8_findLight_33 kni_0 ?_
    refine J_istore_n (pc := 34) (ls' := [some _, some _, none]) dX8_findLight_34 rfl (Nat.le_of_ble_eq_true rfl) rfl ?_
    refine K_for' (pc := 35) P (fun p => [some (.ref (jxb x + 140)), some (.int (nI p)), none]) (fun p => (two48 m 48 (lgtR m p) (hgtR m p))) (by rfl) (by rfl) (fun p hp ih35 => ?_) ?_
    ·
      show K x _ _ 35 [some (.ref (jxb x + 140)), some (.int (nI p)), none] _ ((two48 m 48 (lgtR m p) (hgtR m p))) _
      have hpl : plR m p < 48 := tN_lt (hplc p hp) (by decide)
      have e141 : (two48 m 48 (lgtR m p) (hgtR m p)) 141 = m 141 := two_i (by decide) (by decide)
      refine J_iload_n (pc := 35) dX8_findLight_35 rfl ?_
      refine J_aload_n (pc := 36) dX8_findLight_36 rfl ?_
      refine K_getR (pc := 37) dX8_findLight_37 kf_X8_7 job_140 jrf_140_0 ?_
      refine J_iconst (pc := 40) dX8_findLight_40 kni_0 ?_
      refine K_ialdn (pc := 41) (id := 141) dX8_findLight_41 jar_141 (by decide) (by decide) ?_
      refine J_top (b := nI P) ((congrFun (two_i (by decide) (by decide)) 0).trans hP) ?_
      refine Jn_ge (pc := 42) (tgt := 114) dX8_findLight_42 (by decide) (by omega) (by omega) (fun h42 => absurd h42 (by omega)) (fun h42 => ?_)
      refine J_aload_n (pc := 45) dX8_findLight_45 rfl ?_
      refine K_getR (pc := 46) dX8_findLight_46 kf_X8_7 job_140 jrf_140_0 ?_
      refine J_aload_n (pc := 49) dX8_findLight_49 rfl ?_
      refine J_iload_n (pc := 50) dX8_findLight_50 rfl ?_
      refine K_callVp (pc := 51) (id := 140) (As := [_]) dX8_findLight_51 kl_X8_81 rfl job_140 rfl rfl (Nat.le_of_ble_eq_true rfl) (m_partAt (m := (two48 m 48 (lgtR m p) (hgtR m p)))) ?_
      refine J_iconst (pc := 54) dX8_findLight_54 kni_1 ?_
      refine J_iaddv (pc := 55) dX8_findLight_55 (nI_add _ _) ?_
      refine K_ialdn (pc := 56) (id := 141) dX8_findLight_56 jar_141 (by omega) (by decide) ?_
      refine J_top (b := nI (plR m p)) (by rw [e141]; exact tN_eq (hplc p hp) (by decide)) ?_
      refine J_istore_n (pc := 57) (ls' := [some _, some _, some _]) dX8_findLight_57 rfl (Nat.le_of_ble_eq_true rfl) rfl ?_
      refine J_aload_n (pc := 58) dX8_findLight_58 rfl ?_
      refine K_getR (pc := 59) dX8_findLight_59 kf_X8_28 job_140 jrf_140_7 ?_
      refine J_iload_n (pc := 62) dX8_findLight_62 rfl ?_
      refine J_dup2 (pc := 63) dX8_findLight_63 rfl rfl ?_
      refine K_ialdn (pc := 64) (id := 147) dX8_findLight_64 jar_147 (by omega) (by decide) ?_
      refine J_top (b := (lgtR m p (plR m p))) (two_l hpl) ?_
      refine J_aload_n (pc := 65) dX8_findLight_65 rfl ?_
      refine J_iload_n (pc := 66) dX8_findLight_66 rfl ?_
      refine K_callVp (pc := 67) (id := 140) (As := [_]) dX8_findLight_67 kl_X8_113 rfl job_140 rfl rfl (Nat.le_of_ble_eq_true rfl) (m_givesOf (m := (two48 m 48 (lgtR m p) (hgtR m p))) (p := p) (by omega)) ?_
      refine J_top (b := (givR m 141 p)) (by unfold givR; rw [e141]) ?_
      refine J_iadd (pc := 70) dX8_findLight_70 ?_
      refine K_iastn (pc := 71) (id := 147) dX8_findLight_71 jar_147 (by omega) (by decide) ?_
      refine J_aload_n (pc := 72) dX8_findLight_72 rfl ?_
      refine K_getR (pc := 73) dX8_findLight_73 kf_X8_31 job_140 jrf_140_8 ?_
      refine J_iload_n (pc := 76) dX8_findLight_76 rfl ?_
      refine J_aload_n (pc := 77) dX8_findLight_77 rfl ?_
      refine K_getR (pc := 78) dX8_findLight_78 kf_X8_7 job_140 jrf_140_0 ?_
      refine J_aload_n (pc := 81) dX8_findLight_81 rfl ?_
      refine J_iload_n (pc := 82) dX8_findLight_82 rfl ?_
      refine K_callVp (pc := 83) (id := 140) (As := [_]) dX8_findLight_83 kl_X8_81 rfl job_140 rfl rfl (Nat.le_of_ble_eq_true rfl) (m_partAt (m := (mup (two48 m 48 (lgtR m p) (hgtR m p)) 147 (plR m p) (((((lgtR m p (plR m p))) + ((givR m 141 p)))))))) ?_
      refine K_ialdn (pc := 86) (id := 141) dX8_findLight_86 jar_141 (by omega) (by decide) ?_
      refine J_top (b := (m 141 (90 + 6 * p))) ((mup_i (by decide)).trans (congrFun e141 _)) ?_
      refine J_iconst (pc := 87) dX8_findLight_87 kni_4 ?_
      refine J_icmp_ne (pc := 88) (tgt := 106) dX8_findLight_88 (by decide) (fun h88 => ?_) (fun h88 => ?_)
      · 
        refine J_iconst (pc := 106) dX8_findLight_106 kni_0 ?_
        refine K_iastn (pc := 107) (id := 148) dX8_findLight_107 jar_148 (by omega) (by decide) ?_
        refine Jn_iinc (pc := 108) (ls' := [some _, some _, some _]) dX8_findLight_108 rfl knz_1 rfl rfl ?_
        refine J_goto (pc := 111) (tgt := 35) dX8_findLight_111 (by decide) ?_
        have eh : (if m 141 (90 + 6 * p) = nI 4 then m 141 (90 + 6 * p + 5) else nI 0) = (nI 0) := if_neg h88
        rw [two_u hpl, ← eh]
        refine J_wk' ih35 rfl ?_
        rintro (_ | _ | _ | _ | k) v hv <;> first | exact hv | cases hv
      · 
        refine J_aload_n (pc := 91) dX8_findLight_91 rfl ?_
        refine K_getR (pc := 92) dX8_findLight_92 kf_X8_7 job_140 jrf_140_0 ?_
        refine J_aload_n (pc := 95) dX8_findLight_95 rfl ?_
        refine J_iload_n (pc := 96) dX8_findLight_96 rfl ?_
        refine K_callVp (pc := 97) (id := 140) (As := [_]) dX8_findLight_97 kl_X8_81 rfl job_140 rfl rfl (Nat.le_of_ble_eq_true rfl) (m_partAt (m := (mup (two48 m 48 (lgtR m p) (hgtR m p)) 147 (plR m p) (((((lgtR m p (plR m p))) + ((givR m 141 p)))))))) ?_
        refine J_iconst (pc := 100) dX8_findLight_100 kni_5 ?_
        refine J_iaddv (pc := 101) dX8_findLight_101 (nI_add _ _) ?_
        refine K_ialdn (pc := 102) (id := 141) dX8_findLight_102 jar_141 (by omega) (by decide) ?_
        refine J_top (b := (m 141 (90 + 6 * p + 5))) ((mup_i (by decide)).trans (congrFun e141 _)) ?_
        refine J_goto (pc := 103) (tgt := 107) dX8_findLight_103 (by decide) ?_
        refine K_iastn (pc := 107) (id := 148) dX8_findLight_107 jar_148 (by omega) (by decide) ?_
        refine Jn_iinc (pc := 108) (ls' := [some _, some _, some _]) dX8_findLight_108 rfl knz_1 rfl rfl ?_
        refine J_goto (pc := 111) (tgt := 35) dX8_findLight_111 (by decide) ?_
        have eh : (if m 141 (90 + 6 * p) = nI 4 then m 141 (90 + 6 * p + 5) else nI 0) = (m 141 (90 + 6 * p + 5)) := if_pos h88
        rw [two_u hpl, ← eh]
        refine J_wk' ih35 rfl ?_
        rintro (_ | _ | _ | _ | k) v hv <;> first | exact hv | cases hv
    ·
      show K x _ _ 35 [some (.ref (jxb x + 140)), some (.int (nI P)), none] _ ((two48 m 48 (lgtR m P) (hgtR m P))) _
      refine J_iload_n (pc := 35) dX8_findLight_35 rfl ?_
      refine J_aload_n (pc := 36) dX8_findLight_36 rfl ?_
      refine K_getR (pc := 37) dX8_findLight_37 kf_X8_7 job_140 jrf_140_0 ?_
      refine J_iconst (pc := 40) dX8_findLight_40 kni_0 ?_
      refine K_ialdn (pc := 41) (id := 141) dX8_findLight_41 jar_141 (by decide) (by decide) ?_
      refine J_top (b := nI P) ((congrFun (two_i (by decide) (by decide)) 0).trans hP) ?_
      refine Jn_ge (pc := 42) (tgt := 114) dX8_findLight_42 (by decide) (by omega) (by omega) (fun h42 => ?_) (fun h42 => absurd h42 (by omega))
      refine J_iconst (pc := 114) dX8_findLight_114 kni_0 ?_
      refine J_istore_n (pc := 115) (ls' := [some _, some _, none]) dX8_findLight_115 rfl (Nat.le_of_ble_eq_true rfl) rfl ?_
      refine K_for' (pc := 116) 48 (fun k => [some (.ref (jxb x + 140)), some (.int (nI k)), none]) (fun k => (mfill (two48 m 48 (lgtR m P) (hgtR m P)) 147 k (finR m P))) (by rfl) (by rw [mfill_0]) (fun k hk ih116 => ?_) ?_
      ·
        show K x _ _ 116 [some (.ref (jxb x + 140)), some (.int (nI k)), none] _ ((mfill (two48 m 48 (lgtR m P) (hgtR m P)) 147 k (finR m P))) _
        refine J_iload_n (pc := 116) dX8_findLight_116 rfl ?_
        refine J_bipush (pc := 117) dX8_findLight_117 knb_48 ?_
        refine Jn_ge (pc := 119) (tgt := 179) dX8_findLight_119 (by decide) (by omega) (by omega) (fun h119 => absurd h119 (by omega)) (fun h119 => ?_)
        refine J_aload_n (pc := 122) dX8_findLight_122 rfl ?_
        refine K_getR (pc := 123) dX8_findLight_123 kf_X8_28 job_140 jrf_140_7 ?_
        refine J_iload_n (pc := 126) dX8_findLight_126 rfl ?_
        refine J_aload_n (pc := 127) dX8_findLight_127 rfl ?_
        refine K_getR (pc := 128) dX8_findLight_128 kf_X8_28 job_140 jrf_140_7 ?_
        refine J_iload_n (pc := 131) dX8_findLight_131 rfl ?_
        refine K_ialdn (pc := 132) (id := 147) dX8_findLight_132 jar_147 (by omega) (by decide) ?_
        refine J_top (b := (lgtR m P k)) ((mfill_ge (Nat.le_refl _)).trans (two_l hk)) ?_
        refine J_aload_n (pc := 133) dX8_findLight_133 rfl ?_
        refine K_getR (pc := 134) dX8_findLight_134 kf_X8_7 job_140 jrf_140_0 ?_
        refine J_iconst (pc := 137) dX8_findLight_137 kni_3 ?_
        refine K_ialdn (pc := 138) (id := 141) dX8_findLight_138 jar_141 (by decide) (by decide) ?_
        refine J_top (b := (m 141 3)) (congrFun ((mfill_i' (by decide)).trans (two_i (by decide) (by decide))) 3) ?_
        refine J_aload_n (pc := 139) dX8_findLight_139 rfl ?_
        refine K_getR (pc := 140) dX8_findLight_140 kf_X8_31 job_140 jrf_140_8 ?_
        refine J_iload_n (pc := 143) dX8_findLight_143 rfl ?_
        refine K_ialdn (pc := 144) (id := 148) dX8_findLight_144 jar_148 (by omega) (by decide) ?_
        refine J_top (b := (hgtR m P k)) ((mfill_i (by decide)).trans (two_h hk)) ?_
        refine J_iload_n (pc := 145) dX8_findLight_145 rfl ?_
        refine J_bipush (pc := 146) dX8_findLight_146 knb_8 ?_
        refine Jn_ge (pc := 148) (tgt := 155) dX8_findLight_148 (by decide) (by omega) (by omega) (fun h148 => ?_) (fun h148 => ?_)
        · 
          refine J_aload_n (pc := 155) dX8_findLight_155 rfl ?_
          refine K_getR (pc := 156) dX8_findLight_156 kf_X8_31 job_140 jrf_140_8 ?_
          refine J_iload_n (pc := 159) dX8_findLight_159 rfl ?_
          refine J_bipush (pc := 160) dX8_findLight_160 knb_8 ?_
          refine J_isubv (pc := 162) dX8_findLight_162 (pk_sub (by omega)) ?_
          refine K_ialdn (pc := 163) (id := 148) dX8_findLight_163 jar_148 (by omega) (by decide) ?_
          refine J_top (b := (hgtR m P (k - 8))) ((mfill_i (by decide)).trans (two_h (by omega))) ?_
          refine J_isub (pc := 164) dX8_findLight_164 ?_
          refine J_imul (pc := 165) dX8_findLight_165 ?_
          refine J_iadd (pc := 166) dX8_findLight_166 ?_
          refine J_bipush (pc := 167) dX8_findLight_167 knb_99 ?_
          refine K_callSp (pc := 169) (As := [_, _]) dX8_findLight_169 kl_X8_127 rfl rfl (Nat.le_of_ble_eq_true rfl) (m_held (m := (mfill (two48 m 48 (lgtR m P) (hgtR m P)) 147 k (finR m P))) _ _) ?_
          refine K_iastn (pc := 172) (id := 147) dX8_findLight_172 jar_147 (by omega) (by decide) ?_
          refine Jn_iinc (pc := 173) (ls' := [some _, some _, none]) dX8_findLight_173 rfl knz_1 rfl rfl ?_
          refine J_goto (pc := 176) (tgt := 116) dX8_findLight_176 (by decide) ?_
          have ev : hldV (lgtR m P k + m 141 3 * (hgtR m P k - hgtR m P (k - 8))) (nI 99) = finR m P k := by
            unfold finR
            rw [if_neg (by omega)]
          rw [mfill_s _ _ _ _ ev]
          exact ih116
        · 
          refine J_iconst (pc := 151) dX8_findLight_151 kni_0 ?_
          refine J_goto (pc := 152) (tgt := 164) dX8_findLight_152 (by decide) ?_
          refine J_isub (pc := 164) dX8_findLight_164 ?_
          refine J_imul (pc := 165) dX8_findLight_165 ?_
          refine J_iadd (pc := 166) dX8_findLight_166 ?_
          refine J_bipush (pc := 167) dX8_findLight_167 knb_99 ?_
          refine K_callSp (pc := 169) (As := [_, _]) dX8_findLight_169 kl_X8_127 rfl rfl (Nat.le_of_ble_eq_true rfl) (m_held (m := (mfill (two48 m 48 (lgtR m P) (hgtR m P)) 147 k (finR m P))) _ _) ?_
          refine K_iastn (pc := 172) (id := 147) dX8_findLight_172 jar_147 (by omega) (by decide) ?_
          refine Jn_iinc (pc := 173) (ls' := [some _, some _, none]) dX8_findLight_173 rfl knz_1 rfl rfl ?_
          refine J_goto (pc := 176) (tgt := 116) dX8_findLight_176 (by decide) ?_
          have ev : hldV (lgtR m P k + m 141 3 * (hgtR m P k - nI 0)) (nI 99) = finR m P k := by
            unfold finR
            rw [if_pos (by omega)]
          rw [mfill_s _ _ _ _ ev]
          exact ih116
      ·
        show K x _ _ 116 [some (.ref (jxb x + 140)), some (.int (nI 48)), none] _ ((mfill (two48 m 48 (lgtR m P) (hgtR m P)) 147 48 (finR m P))) _
        refine J_iload_n (pc := 116) dX8_findLight_116 rfl ?_
        refine J_bipush (pc := 117) dX8_findLight_117 knb_48 ?_
        refine Jn_ge (pc := 119) (tgt := 179) dX8_findLight_119 (by decide) (by omega) (by omega) (fun h119 => ?_) (fun h119 => absurd h119 (by omega))
        refine K_vret (pc := 179) dX8_findLight_179 rfl ⟨rfl, rfl⟩
