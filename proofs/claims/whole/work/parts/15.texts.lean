/-- all cells but some are as they were -/
def exs (S : List Nat) (m m' : jm) : Prop := ∀ i, i ∉ S → m' i = m i
theorem exs_rf (S : List Nat) (m : jm) : exs S m m := fun _ _ => rfl
theorem exs_tr {S : List Nat} {m m1 m2 : jm} (h1 : exs S m m1) (h2 : exs S m1 m2) : exs S m m2 := fun i hi => (h2 i hi).trans (h1 i hi)
theorem exs_up {S : List Nat} {m m' : jm} (h : exs S m m') {id k : Nat} {v : Int32} (hi : id ∈ S) : exs S m (mup m' id k v) := fun i hn => by
  have hne : i ≠ id := fun q => hn (q ▸ hi)
  rw [← h i hn]
  exact funext fun j => mup_i hne
theorem exs_w {S T : List Nat} {m m' : jm} (h : exs S m m') (hs : ∀ i, i ∈ S → i ∈ T) : exs T m m' := fun i hi => h i (fun q => hi (hs i q))
-- the word machine: words as the class has them
def joinedV (s a b : Int32) : Int32 := if s = nI 38 then jb (¬ a = 0 ∧ ¬ b = 0) else if s = nI 42 then a * b else if s = nI 43 then a + b else if s = nI 45 then a - b else if s = nI 60 then jb (a < b) else if s = nI 61 then jb (a = b) else if s = nI 62 then jb (b < a) else if s = nI 124 then jb (¬ a = 0 ∨ ¬ b = 0) else if b = 0 then nI 0 else a / b
def nmV (w a b c d : Int32) : Int32 := if w = -1 then a else if w = -2 then b else if w = -3 then c else d
def wstep (a b c d w : Int32) (st : List Int32) : List Int32 :=
  if 0 ≤ w then w :: st else if -4 ≤ w then nmV w a b c d :: st
  else if w = -33 then (match st with | v :: t => jb (v = 0) :: t | [] => [])
  else (match st with | v :: u :: t => joinedV (-w) u v :: t | st => st)
def wrun (a b c d : Int32) (code : Nat → Int32) : Nat → List Int32
  | 0 => []
  | n + 1 => wstep a b c d (code n) (wrun a b c d code n)
def dep (code : Nat → Int32) : Nat → Nat
  | 0 => 0
  | n + 1 => if -4 ≤ code n then dep code n + 1 else if code n = -33 then dep code n else dep code n - 1
/-- nothing is taken that isn't there, and one stays -/
def wfC (code : Nat → Int32) (n : Nat) : Prop := (∀ i, i < n → ¬ -4 ≤ code i → (if code i = -33 then 1 else 2) ≤ dep code i) ∧ dep code n = 1
def worthV (code : Nat → Int32) (n : Nat) (a b c d : Int32) : Int32 := (wrun a b c d code n).headD 0
theorem dep_le (code : Nat → Int32) : ∀ n, dep code n ≤ n
  | 0 => Nat.le_refl _
  | n + 1 => by
    have := dep_le code n
    rw [dep]
    split
    · omega
    · split <;> omega
theorem wrun_len {code : Nat → Int32} {n : Nat} (h : ∀ i, i < n → ¬ -4 ≤ code i → (if code i = -33 then 1 else 2) ≤ dep code i) (a b c d : Int32) : ∀ i, i ≤ n → (wrun a b c d code i).length = dep code i
  | 0, _ => rfl
  | i + 1, hi => by
    have ih := wrun_len h a b c d i (by omega)
    have hw := h i (by omega)
    rw [wrun, dep]
    unfold wstep
    by_cases h0 : 0 ≤ code i
    · rw [if_pos h0, if_pos (Int32.le_trans (by decide) h0), List.length_cons, ih]
    · rw [if_neg h0]
      by_cases h4 : -4 ≤ code i
      · rw [if_pos h4, if_pos h4, List.length_cons, ih]
      · rw [if_neg h4, if_neg h4]
        have hw := hw h4
        by_cases h3 : code i = -33
        · rw [if_pos h3, if_pos h3]
          rw [if_pos h3] at hw
          cases hl : wrun a b c d code i with
          | nil => rw [hl] at ih; rw [← ih] at hw; simp at hw
          | cons v t => rw [hl] at ih; exact ih
        · rw [if_neg h3, if_neg h3]
          rw [if_neg h3] at hw
          cases hl : wrun a b c d code i with
          | nil => rw [hl] at ih; rw [← ih] at hw; simp at hw
          | cons v t =>
            cases t with
            | nil => rw [hl] at ih; rw [← ih] at hw; simp at hw
            | cons u t => rw [hl] at ih; rw [← ih]; rfl
-- which text counts
def bestV (m : jm) (o : Nat) (w : Int32) : Nat → Int32
  | 0 => NONEv
  | n + 1 => if (m 75 n = w ∧ m 76 n ≤ m o 13) ∧ (bestV m o w n = NONEv ∨ m 76 (tN (bestV m o w n)) ≤ m 76 n) then nI n else bestV m o w n
theorem best_in (m : jm) (o : Nat) (w : Int32) : ∀ n, n < 2 ^ 31 → bestV m o w n = NONEv ∨ vp_in (bestV m o w n) n
  | 0, _ => Or.inl rfl
  | n + 1, hn => by
    rw [bestV]
    split
    · exact Or.inr (vp_in_nI (by omega) (by omega))
    · rcases best_in m o w n (by omega) with h | h
      · exact Or.inl h
      · right
        obtain ⟨j, hj, e⟩ := vp_in_of h (by omega)
        rw [e]
        exact vp_in_nI (by omega) (by omega)
set_option maxRecDepth 100000 in
set_option maxHeartbeats 400000 in
theorem c_joined {x : jX} {m : jm} {d : Nat} (s a b : Int32) : Ct x d eX6_joined [.int s, .int a, .int b] m (jp (joinedV s a b) m) := by
  refine J_start (by decide +kernel) (Nat.le_of_ble_eq_true rfl) (ls := [some (.int s), some (.int a), some (.int b)]) rfl rfl ?_
  refine J_iload_n (pc := 0) dX6_joined_0 rfl ?_
  by_cases c1_38 : s = nI 38
  ·
    refine J_lsw (pc := 1) (tgt := 90) (off := 89) dX6_joined_1 (by decide) (by rw [c1_38]; decide) (by decide) ?_
    refine J_iload_n (pc := 90) dX6_joined_90 rfl ?_
    refine J_if_eq (pc := 91) (tgt := 102) dX6_joined_91 (by decide) (fun h91 => ?_) (fun h91 => ?_)
    · 
      refine J_iconst (pc := 102) dX6_joined_102 kni_0 ?_
      refine K_iret (pc := 103) dX6_joined_103 rfl ⟨_, rfl, ?_⟩
      refine ⟨?_, rfl⟩
      unfold joinedV
      rw [if_pos c1_38]
      exact jbF (fun q => q.1 h91)
    · 
      refine J_iload_n (pc := 94) dX6_joined_94 rfl ?_
      refine J_if_eq (pc := 95) (tgt := 102) dX6_joined_95 (by decide) (fun h95 => ?_) (fun h95 => ?_)
      · 
        refine J_iconst (pc := 102) dX6_joined_102 kni_0 ?_
        refine K_iret (pc := 103) dX6_joined_103 rfl ⟨_, rfl, ?_⟩
        refine ⟨?_, rfl⟩
        unfold joinedV
        rw [if_pos c1_38]
        exact jbF (fun q => q.2 h95)
      · 
        refine J_iconst (pc := 98) dX6_joined_98 kni_1 ?_
        refine J_goto (pc := 99) (tgt := 103) dX6_joined_99 (by decide) ?_
        refine K_iret (pc := 103) dX6_joined_103 rfl ⟨_, rfl, ?_⟩
        refine ⟨?_, rfl⟩
        unfold joinedV
        rw [if_pos c1_38]
        exact jbT ⟨h91, h95⟩
  by_cases c1_42 : s = nI 42
  ·
    refine J_lsw (pc := 1) (tgt := 145) (off := 144) dX6_joined_1 (by decide) (by rw [c1_42]; decide) (by decide) ?_
    refine J_iload_n (pc := 145) dX6_joined_145 rfl ?_
    refine J_iload_n (pc := 146) dX6_joined_146 rfl ?_
    refine J_imul (pc := 147) dX6_joined_147 ?_
    refine K_iret (pc := 148) dX6_joined_148 rfl ⟨_, rfl, ?_⟩
    refine ⟨?_, rfl⟩
    unfold joinedV
    rw [if_neg c1_38, if_pos c1_42]
  by_cases c1_43 : s = nI 43
  ·
    refine J_lsw (pc := 1) (tgt := 137) (off := 136) dX6_joined_1 (by decide) (by rw [c1_43]; decide) (by decide) ?_
    refine J_iload_n (pc := 137) dX6_joined_137 rfl ?_
    refine J_iload_n (pc := 138) dX6_joined_138 rfl ?_
    refine J_iadd (pc := 139) dX6_joined_139 ?_
    refine K_iret (pc := 140) dX6_joined_140 rfl ⟨_, rfl, ?_⟩
    refine ⟨?_, rfl⟩
    unfold joinedV
    rw [if_neg c1_38, if_neg c1_42, if_pos c1_43]
  by_cases c1_45 : s = nI 45
  ·
    refine J_lsw (pc := 1) (tgt := 141) (off := 140) dX6_joined_1 (by decide) (by rw [c1_45]; decide) (by decide) ?_
    refine J_iload_n (pc := 141) dX6_joined_141 rfl ?_
    refine J_iload_n (pc := 142) dX6_joined_142 rfl ?_
    refine J_isub (pc := 143) dX6_joined_143 ?_
    refine K_iret (pc := 144) dX6_joined_144 rfl ⟨_, rfl, ?_⟩
    refine ⟨?_, rfl⟩
    unfold joinedV
    rw [if_neg c1_38, if_neg c1_42, if_neg c1_43, if_pos c1_45]
  by_cases c1_60 : s = nI 60
  ·
    refine J_lsw (pc := 1) (tgt := 104) (off := 103) dX6_joined_1 (by decide) (by rw [c1_60]; decide) (by decide) ?_
    refine J_iload_n (pc := 104) dX6_joined_104 rfl ?_
    refine J_iload_n (pc := 105) dX6_joined_105 rfl ?_
    refine J_icmp_ge (pc := 106) (tgt := 113) dX6_joined_106 (by decide) (fun h106 => ?_) (fun h106 => ?_)
    · 
      refine J_iconst (pc := 113) dX6_joined_113 kni_0 ?_
      refine K_iret (pc := 114) dX6_joined_114 rfl ⟨_, rfl, ?_⟩
      refine ⟨?_, rfl⟩
      unfold joinedV
      rw [if_neg c1_38, if_neg c1_42, if_neg c1_43, if_neg c1_45, if_pos c1_60]
      exact jbF (Int32.not_lt.mpr h106)
    · 
      refine J_iconst (pc := 109) dX6_joined_109 kni_1 ?_
      refine J_goto (pc := 110) (tgt := 114) dX6_joined_110 (by decide) ?_
      refine K_iret (pc := 114) dX6_joined_114 rfl ⟨_, rfl, ?_⟩
      refine ⟨?_, rfl⟩
      unfold joinedV
      rw [if_neg c1_38, if_neg c1_42, if_neg c1_43, if_neg c1_45, if_pos c1_60]
      exact jbT (Int32.not_le.mp h106)
  by_cases c1_61 : s = nI 61
  ·
    refine J_lsw (pc := 1) (tgt := 115) (off := 114) dX6_joined_1 (by decide) (by rw [c1_61]; decide) (by decide) ?_
    refine J_iload_n (pc := 115) dX6_joined_115 rfl ?_
    refine J_iload_n (pc := 116) dX6_joined_116 rfl ?_
    refine J_icmp_ne (pc := 117) (tgt := 124) dX6_joined_117 (by decide) (fun h117 => ?_) (fun h117 => ?_)
    · 
      refine J_iconst (pc := 124) dX6_joined_124 kni_0 ?_
      refine K_iret (pc := 125) dX6_joined_125 rfl ⟨_, rfl, ?_⟩
      refine ⟨?_, rfl⟩
      unfold joinedV
      rw [if_neg c1_38, if_neg c1_42, if_neg c1_43, if_neg c1_45, if_neg c1_60, if_pos c1_61]
      exact jbF h117
    · 
      refine J_iconst (pc := 120) dX6_joined_120 kni_1 ?_
      refine J_goto (pc := 121) (tgt := 125) dX6_joined_121 (by decide) ?_
      refine K_iret (pc := 125) dX6_joined_125 rfl ⟨_, rfl, ?_⟩
      refine ⟨?_, rfl⟩
      unfold joinedV
      rw [if_neg c1_38, if_neg c1_42, if_neg c1_43, if_neg c1_45, if_neg c1_60, if_pos c1_61]
      exact jbT h117
  by_cases c1_62 : s = nI 62
  ·
    refine J_lsw (pc := 1) (tgt := 126) (off := 125) dX6_joined_1 (by decide) (by rw [c1_62]; decide) (by decide) ?_
    refine J_iload_n (pc := 126) dX6_joined_126 rfl ?_
    refine J_iload_n (pc := 127) dX6_joined_127 rfl ?_
    refine J_icmp_le (pc := 128) (tgt := 135) dX6_joined_128 (by decide) (fun h128 => ?_) (fun h128 => ?_)
    · 
      refine J_iconst (pc := 135) dX6_joined_135 kni_0 ?_
      refine K_iret (pc := 136) dX6_joined_136 rfl ⟨_, rfl, ?_⟩
      refine ⟨?_, rfl⟩
      unfold joinedV
      rw [if_neg c1_38, if_neg c1_42, if_neg c1_43, if_neg c1_45, if_neg c1_60, if_neg c1_61, if_pos c1_62]
      exact jbF (Int32.not_lt.mpr h128)
    · 
      refine J_iconst (pc := 131) dX6_joined_131 kni_1 ?_
      refine J_goto (pc := 132) (tgt := 136) dX6_joined_132 (by decide) ?_
      refine K_iret (pc := 136) dX6_joined_136 rfl ⟨_, rfl, ?_⟩
      refine ⟨?_, rfl⟩
      unfold joinedV
      rw [if_neg c1_38, if_neg c1_42, if_neg c1_43, if_neg c1_45, if_neg c1_60, if_neg c1_61, if_pos c1_62]
      exact jbT (Int32.not_le.mp h128)
  by_cases c1_124 : s = nI 124
  ·
    refine J_lsw (pc := 1) (tgt := 76) (off := 75) dX6_joined_1 (by decide) (by rw [c1_124]; decide) (by decide) ?_
    refine J_iload_n (pc := 76) dX6_joined_76 rfl ?_
    refine J_if_ne (pc := 77) (tgt := 84) dX6_joined_77 (by decide) (fun h77 => ?_) (fun h77 => ?_)
    · 
      refine J_iconst (pc := 84) dX6_joined_84 kni_1 ?_
      refine J_goto (pc := 85) (tgt := 89) dX6_joined_85 (by decide) ?_
      refine K_iret (pc := 89) dX6_joined_89 rfl ⟨_, rfl, ?_⟩
      refine ⟨?_, rfl⟩
      unfold joinedV
      rw [if_neg c1_38, if_neg c1_42, if_neg c1_43, if_neg c1_45, if_neg c1_60, if_neg c1_61, if_neg c1_62, if_pos c1_124]
      exact jbT (Or.inl h77)
    · 
      refine J_iload_n (pc := 80) dX6_joined_80 rfl ?_
      refine J_if_eq (pc := 81) (tgt := 88) dX6_joined_81 (by decide) (fun h81 => ?_) (fun h81 => ?_)
      · 
        refine J_iconst (pc := 88) dX6_joined_88 kni_0 ?_
        refine K_iret (pc := 89) dX6_joined_89 rfl ⟨_, rfl, ?_⟩
        refine ⟨?_, rfl⟩
        unfold joinedV
        rw [if_neg c1_38, if_neg c1_42, if_neg c1_43, if_neg c1_45, if_neg c1_60, if_neg c1_61, if_neg c1_62, if_pos c1_124]
        exact jbF (fun q => q.elim (fun r => r h77) (fun r => r h81))
      · 
        refine J_iconst (pc := 84) dX6_joined_84 kni_1 ?_
        refine J_goto (pc := 85) (tgt := 89) dX6_joined_85 (by decide) ?_
        refine K_iret (pc := 89) dX6_joined_89 rfl ⟨_, rfl, ?_⟩
        refine ⟨?_, rfl⟩
        unfold joinedV
        rw [if_neg c1_38, if_neg c1_42, if_neg c1_43, if_neg c1_45, if_neg c1_60, if_neg c1_61, if_neg c1_62, if_pos c1_124]
        exact jbT (Or.inr h81)
  refine J_lsw (pc := 1) (tgt := 149) (off := 148) dX6_joined_1 (by decide) (by have qc1_38 : ¬ (38 : Int) = (s).toInt := fun r => jsw_ne c1_38 (by decide) r.symm; have qc1_42 : ¬ (42 : Int) = (s).toInt := fun r => jsw_ne c1_42 (by decide) r.symm; have qc1_43 : ¬ (43 : Int) = (s).toInt := fun r => jsw_ne c1_43 (by decide) r.symm; have qc1_45 : ¬ (45 : Int) = (s).toInt := fun r => jsw_ne c1_45 (by decide) r.symm; have qc1_60 : ¬ (60 : Int) = (s).toInt := fun r => jsw_ne c1_60 (by decide) r.symm; have qc1_61 : ¬ (61 : Int) = (s).toInt := fun r => jsw_ne c1_61 (by decide) r.symm; have qc1_62 : ¬ (62 : Int) = (s).toInt := fun r => jsw_ne c1_62 (by decide) r.symm; have qc1_124 : ¬ (124 : Int) = (s).toInt := fun r => jsw_ne c1_124 (by decide) r.symm; simp [Op.lookupswitch.offset, qc1_38, qc1_42, qc1_43, qc1_45, qc1_60, qc1_61, qc1_62, qc1_124]) (by decide) ?_
  refine J_iload_n (pc := 149) dX6_joined_149 rfl ?_
  refine J_if_ne (pc := 150) (tgt := 157) dX6_joined_150 (by decide) (fun h150 => ?_) (fun h150 => ?_)
  · 
    refine J_iload_n (pc := 157) dX6_joined_157 rfl ?_
    refine J_iload_n (pc := 158) dX6_joined_158 rfl ?_
    refine J_idiv (pc := 159) dX6_joined_159 h150 rfl ?_
    refine K_iret (pc := 160) dX6_joined_160 rfl ⟨_, rfl, ?_⟩
    refine ⟨?_, rfl⟩
    unfold joinedV
    rw [if_neg c1_38, if_neg c1_42, if_neg c1_43, if_neg c1_45, if_neg c1_60, if_neg c1_61, if_neg c1_62, if_neg c1_124]
    exact (if_neg h150).symm
  · 
    refine J_iconst (pc := 153) dX6_joined_153 kni_0 ?_
    refine J_goto (pc := 154) (tgt := 160) dX6_joined_154 (by decide) ?_
    refine K_iret (pc := 160) dX6_joined_160 rfl ⟨_, rfl, ?_⟩
    refine ⟨?_, rfl⟩
    unfold joinedV
    rw [if_neg c1_38, if_neg c1_42, if_neg c1_43, if_neg c1_45, if_neg c1_60, if_neg c1_61, if_neg c1_62, if_neg c1_124]
    exact (if_pos h150).symm

def storeM (m : jm) (t z : Nat) (k : Int32) : jm := mcpy (mup (mup (mup (mup m 75 t (m 70 5)) 76 t k) 77 t (m 70 8)) 78 t (nI z)) 72 (80 + t) 0 0 z
set_option maxRecDepth 100000 in
set_option maxHeartbeats 400000 in
theorem c_store {x : jX} {m : jm} {d : Nat} {t z : Nat} (ht : t < 14) (hz : z ≤ 96) (hs : m 70 7 = nI z) (k : Int32) : Ct x (d + 1) eX6_store [.ref (jxb x + 74), .int (nI t), .int k, .ref (jxb x + 70)] m (jv fun m' => m' = storeM m t z k) := by
  refine J_start (by decide +kernel) (Nat.le_of_ble_eq_true rfl) (ls := [some (.ref (jxb x + 74)), some (.int (nI t)), some (.int k), some (.ref (jxb x + 70))]) rfl rfl ?_
  refine J_aload_n (pc := 0) dX6_store_0 rfl ?_
  refine K_getR (pc := 1) dX6_store_1 kf_X6_9 job_74 jrf_74_0 ?_
  refine J_iload_n (pc := 4) dX6_store_4 rfl ?_
  refine J_aload_n (pc := 5) dX6_store_5 rfl ?_
  refine K_getI (pc := 6) dX6_store_6 kf_X6_32 job_70 jrf_70_5 ?_
  refine K_iastn (pc := 9) (id := 75) dX6_store_9 jar_75 (by omega) (by decide) ?_
  refine J_aload_n (pc := 10) dX6_store_10 rfl ?_
  refine K_getR (pc := 11) dX6_store_11 kf_X6_15 job_74 jrf_74_1 ?_
  refine J_iload_n (pc := 14) dX6_store_14 rfl ?_
  refine J_iload_n (pc := 15) dX6_store_15 rfl ?_
  refine K_iastn (pc := 16) (id := 76) dX6_store_16 jar_76 (by omega) (by decide) ?_
  refine J_aload_n (pc := 17) dX6_store_17 rfl ?_
  refine K_getR (pc := 18) dX6_store_18 kf_X6_18 job_74 jrf_74_2 ?_
  refine J_iload_n (pc := 21) dX6_store_21 rfl ?_
  refine J_aload_n (pc := 22) dX6_store_22 rfl ?_
  refine K_getI (pc := 23) dX6_store_23 kf_X6_37 job_70 jrf_70_8 ?_
  refine K_iastn (pc := 26) (id := 77) dX6_store_26 jar_77 (by omega) (by decide) ?_
  refine J_aload_n (pc := 27) dX6_store_27 rfl ?_
  refine K_getR (pc := 28) dX6_store_28 kf_X6_21 job_74 jrf_74_3 ?_
  refine J_iload_n (pc := 31) dX6_store_31 rfl ?_
  refine J_aload_n (pc := 32) dX6_store_32 rfl ?_
  refine K_getI (pc := 33) dX6_store_33 kf_X6_39 job_70 jrf_70_7 ?_
  refine J_top (b := nI z) (by rw [mup_i (by decide), mup_i (by decide), mup_i (by decide)]; exact hs) ?_
  refine K_iastn (pc := 36) (id := 78) dX6_store_36 jar_78 (by omega) (by decide) ?_
  refine J_aload_n (pc := 37) dX6_store_37 rfl ?_
  refine K_getR (pc := 38) dX6_store_38 kf_X6_41 job_70 jrf_70_6 ?_
  refine J_iconst (pc := 41) dX6_store_41 kni_0 ?_
  refine J_aload_n (pc := 42) dX6_store_42 rfl ?_
  refine K_getR (pc := 43) dX6_store_43 kf_X6_26 job_74 jrf_74_4 ?_
  refine J_iload_n (pc := 46) dX6_store_46 rfl ?_
  refine K_aaldn (pc := 47) (t := 80 + t) dX6_store_47 job_79 (by omega) (by decide) (jgr_code (by omega)) ?_
  refine J_iconst (pc := 48) dX6_store_48 kni_0 ?_
  refine J_aload_n (pc := 49) dX6_store_49 rfl ?_
  refine K_getI (pc := 50) dX6_store_50 kf_X6_39 job_70 jrf_70_7 ?_
  refine J_top (b := nI z) (by rw [mup_i (by decide), mup_i (by decide), mup_i (by decide), mup_i (by decide)]; exact hs) ?_
  refine K_acopy (pc := 53) (id0 := 72) (id1 := (80 + t)) dX6_store_53 ky_X6_43 jar_72 (jar_code (j := t) (by omega)) (by omega) (by omega) (by decide) (by decide) (Nat.le_of_ble_eq_true rfl) ?_
  refine K_vret (pc := 56) dX6_store_56 rfl ⟨rfl, ?_⟩
  rfl
set_option maxRecDepth 100000 in
set_option maxHeartbeats 400000 in
theorem c_counting {x : jX} {m : jm} {d : Nat} {o T : Nat} (ho : jSt o) (hT : m o 14 = nI T) (hT14 : T ≤ 14) (w : Int32) : Ct x d eX6_counting [.ref (jxb x + 74), .int w, .ref (jxb x + o)] m (jp (bestV m o w T) m) := by
  refine J_start (by decide +kernel) (Nat.le_of_ble_eq_true rfl) (ls := [some (.ref (jxb x + 74)), some (.int w), some (.ref (jxb x + o)), none, none, none]) rfl rfl ?_
  refine J_ldc (pc := 0) dX6_counting_0 kc_X6_49 ?_
  refine J_istore_n (pc := 2) (ls' := [some _, some _, some _, some _, none, none]) dX6_counting_2 rfl (Nat.le_of_ble_eq_true rfl) rfl ?_
  refine J_iconst (pc := 3) dX6_counting_3 kni_0 ?_
  refine J_istore (pc := 4) (ls' := [some _, some _, some _, some _, some _, none]) dX6_counting_4 rfl (Nat.le_of_ble_eq_true rfl) rfl ?_
  refine K_for' (pc := 6) T (fun i => [some (.ref (jxb x + 74)), some (.int w), some (.ref (jxb x + o)), some (.int ((bestV m o w i))), some (.int (nI i)), none]) (fun i => m) (by rfl) (by rfl) (fun i hi ih6 => ?_) ?_
  ·
    show K x _ _ 6 [some (.ref (jxb x + 74)), some (.int w), some (.ref (jxb x + o)), some (.int ((bestV m o w i))), some (.int (nI i)), none] _ m _
    have hi14 : i < 14 := by omega
    refine J_iload (pc := 6) dX6_counting_6 rfl ?_
    refine J_aload_n (pc := 8) dX6_counting_8 rfl ?_
    refine K_getI (pc := 9) dX6_counting_9 kf_X6_50 (jSt_obj ho) (jSt_int ho 14 (by decide)) ?_
    refine J_top (b := nI T) (hT) ?_
    refine Jn_ge (pc := 12) (tgt := 83) dX6_counting_12 (by decide) (by omega) (by omega) (fun h12 => absurd h12 (by omega)) (fun h12 => ?_)
    refine J_aload_n (pc := 15) dX6_counting_15 rfl ?_
    refine K_getR (pc := 16) dX6_counting_16 kf_X6_9 job_74 jrf_74_0 ?_
    refine J_iload (pc := 19) dX6_counting_19 rfl ?_
    refine K_ialdn (pc := 21) (id := 75) dX6_counting_21 jar_75 (by omega) (by decide) ?_
    refine J_iload_n (pc := 22) dX6_counting_22 rfl ?_
    refine K_merge (jc := 45) (ls' := [some (.ref (jxb x + 74)), some (.int w), some (.ref (jxb x + o)), some (.int ((bestV m o w i))), some (.int (nI i)), none]) (st' := [.int (jb (m 75 i = w ∧ m 76 i ≤ m o 13))]) (m' := m) ?_ (fun hj45 => ?_)
    ·
      refine J_istore (pc := 45) (ls' := [some _, some _, some _, some _, some _, some _]) dX6_counting_45 rfl (Nat.le_of_ble_eq_true rfl) rfl ?_
      refine J_iload (pc := 47) dX6_counting_47 rfl ?_
      refine Jb_eq (pc := 49) (tgt := 77) dX6_counting_49 (by decide) (fun h49 => ?_) (fun h49 => ?_)
      · 
        refine Jn_iinc (pc := 77) (ls' := [some _, some _, some _, some _, some _, some _]) dX6_counting_77 rfl knz_1 rfl rfl ?_
        refine J_goto (pc := 80) (tgt := 6) dX6_counting_80 (by decide) ?_
        have ev := show bestV m o w (i + 1) = _ from if_neg (fun q => h49 q.1)
        rw [ev] at ih6
        refine J_wk' ih6 rfl ?_
        rintro (_ | _ | _ | _ | _ | _ | _ | _ | _ | _ | k) v hv <;> first | exact hv | cases hv
      · 
        refine J_iload_n (pc := 52) dX6_counting_52 rfl ?_
        refine J_ldc (pc := 53) dX6_counting_53 kc_X6_49 ?_
        refine J_icmp_eq (pc := 55) (tgt := 74) dX6_counting_55 (by decide) (fun h55 => ?_) (fun h55 => ?_)
        · 
          refine J_iload (pc := 74) dX6_counting_74 rfl ?_
          refine J_istore_n (pc := 76) (ls' := [some _, some _, some _, some _, some _, some _]) dX6_counting_76 rfl (Nat.le_of_ble_eq_true rfl) rfl ?_
          refine Jn_iinc (pc := 77) (ls' := [some _, some _, some _, some _, some _, some _]) dX6_counting_77 rfl knz_1 rfl rfl ?_
          refine J_goto (pc := 80) (tgt := 6) dX6_counting_80 (by decide) ?_
          have ev := show bestV m o w (i + 1) = _ from if_pos ⟨h49, Or.inl h55⟩
          rw [ev] at ih6
          refine J_wk' ih6 rfl ?_
          rintro (_ | _ | _ | _ | _ | _ | _ | _ | _ | _ | k) v hv <;> first | exact hv | cases hv
        · 
          refine J_aload_n (pc := 58) dX6_counting_58 rfl ?_
          refine K_getR (pc := 59) dX6_counting_59 kf_X6_15 job_74 jrf_74_1 ?_
          refine J_iload (pc := 62) dX6_counting_62 rfl ?_
          refine K_ialdn (pc := 64) (id := 76) dX6_counting_64 jar_76 (by omega) (by decide) ?_
          refine J_aload_n (pc := 65) dX6_counting_65 rfl ?_
          refine K_getR (pc := 66) dX6_counting_66 kf_X6_15 job_74 jrf_74_1 ?_
          refine J_iload_n (pc := 69) dX6_counting_69 rfl ?_
          refine K_iald (pc := 70) (id := 76) dX6_counting_70 jar_76 (by rcases (best_in m o w i (by omega)).resolve_left h55 |> fun q => vp_in_of q (by omega) with ⟨j, hj, e⟩; rw [e]; exact vp_in_nI (by omega) (by decide)) ?_
          refine J_icmp_lt (pc := 71) (tgt := 77) dX6_counting_71 (by decide) (fun h71 => ?_) (fun h71 => ?_)
          · 
            refine Jn_iinc (pc := 77) (ls' := [some _, some _, some _, some _, some _, some _]) dX6_counting_77 rfl knz_1 rfl rfl ?_
            refine J_goto (pc := 80) (tgt := 6) dX6_counting_80 (by decide) ?_
            have ev := show bestV m o w (i + 1) = _ from if_neg (fun q => q.2.elim h55 (fun r => absurd h71 (Int32.not_lt.mpr r)))
            rw [ev] at ih6
            refine J_wk' ih6 rfl ?_
            rintro (_ | _ | _ | _ | _ | _ | _ | _ | _ | _ | k) v hv <;> first | exact hv | cases hv
          · 
            refine J_iload (pc := 74) dX6_counting_74 rfl ?_
            refine J_istore_n (pc := 76) (ls' := [some _, some _, some _, some _, some _, some _]) dX6_counting_76 rfl (Nat.le_of_ble_eq_true rfl) rfl ?_
            refine Jn_iinc (pc := 77) (ls' := [some _, some _, some _, some _, some _, some _]) dX6_counting_77 rfl knz_1 rfl rfl ?_
            refine J_goto (pc := 80) (tgt := 6) dX6_counting_80 (by decide) ?_
            have ev := show bestV m o w (i + 1) = _ from if_pos ⟨h49, Or.inr (Int32.not_lt.mp h71)⟩
            rw [ev] at ih6
            refine J_wk' ih6 rfl ?_
            rintro (_ | _ | _ | _ | _ | _ | _ | _ | _ | _ | k) v hv <;> first | exact hv | cases hv
    ·
      refine J_icmp_ne (pc := 23) (tgt := 44) dX6_counting_23 (by decide) (fun h23 => ?_) (fun h23 => ?_)
      · 
        refine J_iconst (pc := 44) dX6_counting_44 kni_0 ?_
        have e45 : jb (m 75 i = w ∧ m 76 i ≤ m o 13) = nI 0 := if_neg (fun q => h23 q.1)
        rw [e45] at hj45
        exact hj45
      · 
        refine J_aload_n (pc := 26) dX6_counting_26 rfl ?_
        refine K_getR (pc := 27) dX6_counting_27 kf_X6_15 job_74 jrf_74_1 ?_
        refine J_iload (pc := 30) dX6_counting_30 rfl ?_
        refine K_ialdn (pc := 32) (id := 76) dX6_counting_32 jar_76 (by omega) (by decide) ?_
        refine J_aload_n (pc := 33) dX6_counting_33 rfl ?_
        refine K_getI (pc := 34) dX6_counting_34 kf_X6_55 (jSt_obj ho) (jSt_int ho 13 (by decide)) ?_
        refine J_icmp_gt (pc := 37) (tgt := 44) dX6_counting_37 (by decide) (fun h37 => ?_) (fun h37 => ?_)
        · 
          refine J_iconst (pc := 44) dX6_counting_44 kni_0 ?_
          have e45 : jb (m 75 i = w ∧ m 76 i ≤ m o 13) = nI 0 := if_neg (fun q => absurd h37 (Int32.not_lt.mpr q.2))
          rw [e45] at hj45
          exact hj45
        · 
          refine J_iconst (pc := 40) dX6_counting_40 kni_1 ?_
          refine J_goto (pc := 41) (tgt := 45) dX6_counting_41 (by decide) ?_
          have e45 : jb (m 75 i = w ∧ m 76 i ≤ m o 13) = nI 1 := if_pos ⟨h23, Int32.not_lt.mp h37⟩
          rw [e45] at hj45
          exact hj45
  ·
    show K x _ _ 6 [some (.ref (jxb x + 74)), some (.int w), some (.ref (jxb x + o)), some (.int ((bestV m o w T))), some (.int (nI T)), none] _ m _
    refine J_iload (pc := 6) dX6_counting_6 rfl ?_
    refine J_aload_n (pc := 8) dX6_counting_8 rfl ?_
    refine K_getI (pc := 9) dX6_counting_9 kf_X6_50 (jSt_obj ho) (jSt_int ho 14 (by decide)) ?_
    refine J_top (b := nI T) (hT) ?_
    refine Jn_ge (pc := 12) (tgt := 83) dX6_counting_12 (by decide) (by omega) (by omega) (fun h12_2 => ?_) (fun h12_2 => absurd h12_2 (by omega))
    refine J_iload_n (pc := 83) dX6_counting_83 rfl ?_
    refine K_iret (pc := 84) dX6_counting_84 rfl ⟨_, rfl, ?_⟩
    exact ⟨rfl, rfl⟩
