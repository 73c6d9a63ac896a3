theorem jsw_ne {v : Int32} {c : Nat} (h : ¬ v = nI c) (hc : c < 2 ^ 31) : ¬ v.toInt = (c : Int) := fun q => h (Int32.toInt_inj.mp (by rw [nI_toInt hc]; exact q))
theorem jbT {c : Prop} [Decidable c] (h : c) : nI 1 = jb c := (if_pos h).symm
theorem jbF {c : Prop} [Decidable c] (h : ¬ c) : nI 0 = jb c := (if_neg h).symm
-- values
def minV (a b : Int32) : Int32 := if b < a then b else a
def maxV (a b : Int32) : Int32 := if a < b then b else a
def absV (a : Int32) : Int32 := if 0 ≤ a then a else 0 - a
def heldV (v most : Int32) : Int32 := maxV (nI 0) (minV most v)
def drawnV (span pull weight : Int32) : Int32 := minV span (pull * weight / nI 5)
def aimV (kind span size drawn : Int32) : Int32 := if kind = nI 2 then span - drawn else if kind = nI 3 then span else if kind = nI 4 then drawn / nI 2 else if kind = nI 5 then size else drawn
def paceV (kind a : Int32) : Int32 := if kind = nI 1 then (if nI 4 < a then nI 2 else nI 1) else if kind = nI 2 then nI 2 else if kind = nI 3 then nI 9 else if kind = nI 4 then nI 1 else if kind = nI 5 then nI 0 else nI 1
def givenV (kind a size : Int32) : Int32 := if kind = nI 1 then (-a) * size else if kind = nI 2 then nI 2 * size else if kind = nI 3 then nI 2 * size + a else if kind = nI 4 then size else nI 0
theorem K_minV {x : jX} {d : Nat} {me : jMe} {pc : Nat} {ls : List (Option Value)} {st : List Value} {m : jm} {Q : jq} {idx : Nat} {a b : Int32} (hd : decode me.2.1 pc = .ok (.invokestatic idx, 3)) (hlink : Cond.methodLink me.1.cls idx Lib.Math.min.name ∈ jgw) (hW : (st.map fun v => v.category).sum ≤ 8) (kk : K x (d + 1) me (pc + 3) ls (.int (minV a b) :: st) m Q) : K x (d + 1) me pc ls (.int b :: .int a :: st) m Q := K_min hd hlink hW kk
theorem K_maxV {x : jX} {d : Nat} {me : jMe} {pc : Nat} {ls : List (Option Value)} {st : List Value} {m : jm} {Q : jq} {idx : Nat} {a b : Int32} (hd : decode me.2.1 pc = .ok (.invokestatic idx, 3)) (hlink : Cond.methodLink me.1.cls idx Lib.Math.max.name ∈ jgw) (hW : (st.map fun v => v.category).sum ≤ 8) (kk : K x (d + 1) me (pc + 3) ls (.int (maxV a b) :: st) m Q) : K x (d + 1) me pc ls (.int b :: .int a :: st) m Q := K_max hd hlink hW kk
theorem K_absV {x : jX} {d : Nat} {me : jMe} {pc : Nat} {ls : List (Option Value)} {st : List Value} {m : jm} {Q : jq} {idx : Nat} {a : Int32} (hd : decode me.2.1 pc = .ok (.invokestatic idx, 3)) (hlink : Cond.methodLink me.1.cls idx Lib.Math.abs.name ∈ jgw) (hW : (st.map fun v => v.category).sum ≤ 8) (kk : K x (d + 1) me (pc + 3) ls (.int (absV a) :: st) m Q) : K x (d + 1) me pc ls (.int a :: st) m Q := K_abs hd hlink hW kk
abbrev NONEv : Int32 := -1000000005
/-- sums, counts -/
def sumV (f : Nat → Int32) : Nat → Int32
  | 0 => nI 0
  | n + 1 => sumV f n + f n
def cnt (c : Nat → Bool) : Nat → Nat
  | 0 => 0
  | n + 1 => cnt c n + (if c n then 1 else 0)
theorem cnt_t {c : Nat → Bool} {n : Nat} (h : c n = true) : cnt c (n + 1) = cnt c n + 1 := by simp [cnt, h]
theorem cnt_f {c : Nat → Bool} {n : Nat} (h : ¬ c n = true) : cnt c (n + 1) = cnt c n + 0 := by simp [cnt, h]
theorem cnt_le (c : Nat → Bool) : ∀ n, cnt c n ≤ n
  | 0 => Nat.le_refl _
  | n + 1 => by
    have := cnt_le c n
    simp only [cnt]
    split <;> omega
/-- the first k places of a cell told anew -/
def mfill (m : jm) (id k : Nat) (f : Nat → Int32) : jm := fun i j => if i = id ∧ j < k then f j else m i j
theorem mfill_0 (m : jm) (id : Nat) (f : Nat → Int32) : mfill m id 0 f = m := by
  funext i j
  exact if_neg (fun q => absurd q.2 (Nat.not_lt_zero _))
theorem mfill_s (m : jm) (id k : Nat) (f : Nat → Int32) {v : Int32} (h : v = f k) : mup (mfill m id k f) id k v = mfill m id (k + 1) f := by
  subst h
  funext i j
  unfold mup mfill
  by_cases hi : i = id
  · subst hi
    by_cases hj : j = k
    · subst hj
      simp
    · by_cases h2 : j < k
      · rw [if_neg (fun q => hj q.2), if_pos ⟨rfl, h2⟩, if_pos ⟨rfl, by omega⟩]
      · rw [if_neg (fun q => hj q.2), if_neg (fun q => h2 q.2), if_neg (fun q => by omega)]
  · rw [if_neg (fun q => hi q.1), if_neg (fun q => hi q.1), if_neg (fun q => hi q.1)]
theorem mfill_i {m : jm} {id k i j : Nat} {f : Nat → Int32} (h : i ≠ id) : mfill m id k f i j = m i j := if_neg (fun q => h q.1)
theorem mfill_i' {m : jm} {id k i : Nat} {f : Nat → Int32} (h : i ≠ id) : mfill m id k f i = m i := funext fun _ => if_neg (fun q => h q.1)
theorem mfill_ge {m : jm} {id k j : Nat} {f : Nat → Int32} (h : k ≤ j) : mfill m id k f id j = m id j := if_neg (fun q => by omega)
theorem mfill_lt {m : jm} {id k j : Nat} {f : Nat → Int32} (h : j < k) : mfill m id k f id j = f j := if_pos ⟨rfl, h⟩
-- of a state o: aim, pace, what a part gives
def aimS (m : jm) (o p : Nat) : Int32 := aimV (m (o + 1) p) (m (o + 4) p) (m (o + 6) p) (drawnV (m (o + 4) p) (m (o + 11) (tN (m (o + 9) (tN (m (o + 5) p))))) (m (o + 10) (tN (m (o + 5) p))))
def paceS (m : jm) (o p : Nat) : Int32 := paceV (m (o + 1) p) (m (o + 3) p)
def givenS (m : jm) (o p : Nat) : Int32 := givenV (m (o + 1) p) (m (o + 3) p) (m (o + 6) p)
set_option maxRecDepth 100000 in
set_option maxHeartbeats 400000 in
theorem c_within {x : jX} {m : jm} {d : Nat} (v l h : Int32) : Ct x d eX7_within [.int v, .int l, .int h] m (jp (jb (l ≤ v ∧ v ≤ h)) m) := by
  refine J_start (by decide +kernel) (Nat.le_of_ble_eq_true rfl) (ls := [some (.int v), some (.int l), some (.int h)]) rfl rfl ?_
  refine J_iload_n (pc := 0) dX7_within_0 rfl ?_
  refine J_iload_n (pc := 1) dX7_within_1 rfl ?_
  refine J_icmp_lt (pc := 2) (tgt := 14) dX7_within_2 (by decide) (fun h2 => ?_) (fun h2 => ?_)
  · 
    refine J_iconst (pc := 14) dX7_within_14 kni_0 ?_
    refine K_zret (pc := 15) dX7_within_15 rfl rfl ⟨_, rfl, ?_⟩
    exact ⟨jbF (by simp only [Int32.lt_iff_toInt_lt, Int32.le_iff_toInt_le] at *; omega), rfl⟩
  · 
    refine J_iload_n (pc := 5) dX7_within_5 rfl ?_
    refine J_iload_n (pc := 6) dX7_within_6 rfl ?_
    refine J_icmp_gt (pc := 7) (tgt := 14) dX7_within_7 (by decide) (fun h7 => ?_) (fun h7 => ?_)
    · 
      refine J_iconst (pc := 14) dX7_within_14 kni_0 ?_
      refine K_zret (pc := 15) dX7_within_15 rfl rfl ⟨_, rfl, ?_⟩
      exact ⟨jbF (by simp only [Int32.lt_iff_toInt_lt, Int32.le_iff_toInt_le] at *; omega), rfl⟩
    · 
      refine J_iconst (pc := 10) dX7_within_10 kni_1 ?_
      refine J_goto (pc := 11) (tgt := 15) dX7_within_11 (by decide) ?_
      refine K_zret (pc := 15) dX7_within_15 rfl rfl ⟨_, rfl, ?_⟩
      exact ⟨jbT (by simp only [Int32.lt_iff_toInt_lt, Int32.le_iff_toInt_le] at *; omega), rfl⟩
set_option maxRecDepth 100000 in
set_option maxHeartbeats 400000 in
theorem c_held {x : jX} {m : jm} {d : Nat} (v t : Int32) : Ct x (d + 1) eX7_held [.int v, .int t] m (jp (heldV v t) m) := by
  refine J_start (by decide +kernel) (Nat.le_of_ble_eq_true rfl) (ls := [some (.int v), some (.int t)]) rfl rfl ?_
  refine J_iconst (pc := 0) dX7_held_0 kni_0 ?_
  refine J_iload_n (pc := 1) dX7_held_1 rfl ?_
  refine J_iload_n (pc := 2) dX7_held_2 rfl ?_
  refine K_minV (pc := 3) dX7_held_3 kx_X7_355 (Nat.le_of_ble_eq_true rfl) ?_
  refine K_maxV (pc := 6) dX7_held_6 kx_X7_183 (Nat.le_of_ble_eq_true rfl) ?_
  refine K_iret (pc := 9) dX7_held_9 rfl ⟨_, rfl, ?_⟩
  exact ⟨rfl, rfl⟩
set_option maxRecDepth 100000 in
set_option maxHeartbeats 400000 in
theorem c_aimOf {x : jX} {m : jm} {d : Nat}{o p : Nat} (ho : jSt o) (hp : p < 48) (hn : vp_in (m (o + 5) p) 10) (hg : vp_in (m (o + 9) (tN (m (o + 5) p))) 6) : Ct x (d + 1) eX4_aimOf [.ref (jxb x + o), .int (nI p)] m (jp (aimS m o p) m) := by
  refine J_start (by decide +kernel) (Nat.le_of_ble_eq_true rfl) (ls := [some (.ref (jxb x + o)), some (.int (nI p)), none]) rfl rfl ?_
  refine J_aload_n (pc := 0) dX4_aimOf_0 rfl ?_
  refine K_getR (pc := 1) (t := o + 4) dX4_aimOf_1 kf_X4_25 (jSt_obj ho) (jSt_ref ho 3 (by decide)) ?_
  refine J_iload_n (pc := 4) dX4_aimOf_4 rfl ?_
  refine K_ialdn (pc := 5) (id := (o + 4)) dX4_aimOf_5 (jSt_arr ho 3 (by decide)) (by omega) (by decide) ?_
  refine J_aload_n (pc := 6) dX4_aimOf_6 rfl ?_
  refine K_getR (pc := 7) (t := o + 11) dX4_aimOf_7 kf_X4_46 (jSt_obj ho) (jSt_ref ho 10 (by decide)) ?_
  refine J_aload_n (pc := 10) dX4_aimOf_10 rfl ?_
  refine K_getR (pc := 11) (t := o + 9) dX4_aimOf_11 kf_X4_40 (jSt_obj ho) (jSt_ref ho 8 (by decide)) ?_
  refine J_aload_n (pc := 14) dX4_aimOf_14 rfl ?_
  refine K_getR (pc := 15) (t := o + 5) dX4_aimOf_15 kf_X4_28 (jSt_obj ho) (jSt_ref ho 4 (by decide)) ?_
  refine J_iload_n (pc := 18) dX4_aimOf_18 rfl ?_
  refine K_ialdn (pc := 19) (id := (o + 5)) dX4_aimOf_19 (jSt_arr ho 4 (by decide)) (by omega) (by decide) ?_
  refine K_iald (pc := 20) (id := (o + 9)) dX4_aimOf_20 (jSt_group ho) hn ?_
  refine K_iald (pc := 21) (id := (o + 11)) dX4_aimOf_21 (jSt_pull ho) hg ?_
  refine J_aload_n (pc := 22) dX4_aimOf_22 rfl ?_
  refine K_getR (pc := 23) (t := o + 10) dX4_aimOf_23 kf_X4_43 (jSt_obj ho) (jSt_ref ho 9 (by decide)) ?_
  refine J_aload_n (pc := 26) dX4_aimOf_26 rfl ?_
  refine K_getR (pc := 27) (t := o + 5) dX4_aimOf_27 kf_X4_28 (jSt_obj ho) (jSt_ref ho 4 (by decide)) ?_
  refine J_iload_n (pc := 30) dX4_aimOf_30 rfl ?_
  refine K_ialdn (pc := 31) (id := (o + 5)) dX4_aimOf_31 (jSt_arr ho 4 (by decide)) (by omega) (by decide) ?_
  refine K_iald (pc := 32) (id := (o + 10)) dX4_aimOf_32 (jSt_weight ho) hn ?_
  refine J_imul (pc := 33) dX4_aimOf_33 ?_
  refine J_iconst (pc := 34) dX4_aimOf_34 kni_5 ?_
  refine J_idiv (pc := 35) dX4_aimOf_35 (by decide) rfl ?_
  refine K_minV (pc := 36) dX4_aimOf_36 kx_X4_77 (Nat.le_of_ble_eq_true rfl) ?_
  refine J_istore_n (pc := 39) (ls' := [some _, some _, some _]) dX4_aimOf_39 rfl (Nat.le_of_ble_eq_true rfl) rfl ?_
  refine J_aload_n (pc := 40) dX4_aimOf_40 rfl ?_
  refine K_getR (pc := 41) (t := o + 1) dX4_aimOf_41 kf_X4_15 (jSt_obj ho) (jSt_ref ho 0 (by decide)) ?_
  refine J_iload_n (pc := 44) dX4_aimOf_44 rfl ?_
  refine K_ialdn (pc := 45) (id := (o + 1)) dX4_aimOf_45 (jSt_arr ho 0 (by decide)) (by omega) (by decide) ?_
  by_cases c46_2 : ((m (o + 1) p)) = nI 2
  ·
    refine J_tsIn (pc := 46) (tgt := 76) (off := 30) dX4_aimOf_46 (by rw [c46_2]; decide) (by rw [c46_2]; decide) (by rw [c46_2]; rfl) (by decide) ?_
    refine J_aload_n (pc := 76) dX4_aimOf_76 rfl ?_
    refine K_getR (pc := 77) (t := o + 4) dX4_aimOf_77 kf_X4_25 (jSt_obj ho) (jSt_ref ho 3 (by decide)) ?_
    refine J_iload_n (pc := 80) dX4_aimOf_80 rfl ?_
    refine K_ialdn (pc := 81) (id := (o + 4)) dX4_aimOf_81 (jSt_arr ho 3 (by decide)) (by omega) (by decide) ?_
    refine J_iload_n (pc := 82) dX4_aimOf_82 rfl ?_
    refine J_isub (pc := 83) dX4_aimOf_83 ?_
    refine K_iret (pc := 84) dX4_aimOf_84 rfl ⟨_, rfl, ?_⟩
    refine ⟨?_, rfl⟩
    unfold aimS aimV
    rw [if_pos c46_2]
    all_goals first | rfl | exact (if_neg (Int32.not_lt.mpr h47)).symm | exact (if_pos (Int32.not_le.mp h47)).symm
  by_cases c46_3 : ((m (o + 1) p)) = nI 3
  ·
    refine J_tsIn (pc := 46) (tgt := 85) (off := 39) dX4_aimOf_46 (by rw [c46_3]; decide) (by rw [c46_3]; decide) (by rw [c46_3]; rfl) (by decide) ?_
    refine J_aload_n (pc := 85) dX4_aimOf_85 rfl ?_
    refine K_getR (pc := 86) (t := o + 4) dX4_aimOf_86 kf_X4_25 (jSt_obj ho) (jSt_ref ho 3 (by decide)) ?_
    refine J_iload_n (pc := 89) dX4_aimOf_89 rfl ?_
    refine K_ialdn (pc := 90) (id := (o + 4)) dX4_aimOf_90 (jSt_arr ho 3 (by decide)) (by omega) (by decide) ?_
    refine K_iret (pc := 91) dX4_aimOf_91 rfl ⟨_, rfl, ?_⟩
    refine ⟨?_, rfl⟩
    unfold aimS aimV
    rw [if_neg c46_2, if_pos c46_3]
    all_goals first | rfl | exact (if_neg (Int32.not_lt.mpr h47)).symm | exact (if_pos (Int32.not_le.mp h47)).symm
  by_cases c46_4 : ((m (o + 1) p)) = nI 4
  ·
    refine J_tsIn (pc := 46) (tgt := 92) (off := 46) dX4_aimOf_46 (by rw [c46_4]; decide) (by rw [c46_4]; decide) (by rw [c46_4]; rfl) (by decide) ?_
    refine J_iload_n (pc := 92) dX4_aimOf_92 rfl ?_
    refine J_iconst (pc := 93) dX4_aimOf_93 kni_2 ?_
    refine J_idiv (pc := 94) dX4_aimOf_94 (by decide) rfl ?_
    refine K_iret (pc := 95) dX4_aimOf_95 rfl ⟨_, rfl, ?_⟩
    refine ⟨?_, rfl⟩
    unfold aimS aimV
    rw [if_neg c46_2, if_neg c46_3, if_pos c46_4]
    all_goals first | rfl | exact (if_neg (Int32.not_lt.mpr h47)).symm | exact (if_pos (Int32.not_le.mp h47)).symm
  by_cases c46_5 : ((m (o + 1) p)) = nI 5
  ·
    refine J_tsIn (pc := 46) (tgt := 96) (off := 50) dX4_aimOf_46 (by rw [c46_5]; decide) (by rw [c46_5]; decide) (by rw [c46_5]; rfl) (by decide) ?_
    refine J_aload_n (pc := 96) dX4_aimOf_96 rfl ?_
    refine K_getR (pc := 97) (t := o + 6) dX4_aimOf_97 kf_X4_31 (jSt_obj ho) (jSt_ref ho 5 (by decide)) ?_
    refine J_iload_n (pc := 100) dX4_aimOf_100 rfl ?_
    refine K_ialdn (pc := 101) (id := (o + 6)) dX4_aimOf_101 (jSt_arr ho 5 (by decide)) (by omega) (by decide) ?_
    refine K_iret (pc := 102) dX4_aimOf_102 rfl ⟨_, rfl, ?_⟩
    refine ⟨?_, rfl⟩
    unfold aimS aimV
    rw [if_neg c46_2, if_neg c46_3, if_neg c46_4, if_pos c46_5]
    all_goals first | rfl | exact (if_neg (Int32.not_lt.mpr h47)).symm | exact (if_pos (Int32.not_le.mp h47)).symm
  refine J_tsOut (pc := 46) (tgt := 103) dX4_aimOf_46 (by have qc46_2 := jsw_ne c46_2 (by decide); have qc46_3 := jsw_ne c46_3 (by decide); have qc46_4 := jsw_ne c46_4 (by decide); have qc46_5 := jsw_ne c46_5 (by decide); omega) (by decide) ?_
  refine J_iload_n (pc := 103) dX4_aimOf_103 rfl ?_
  refine K_iret (pc := 104) dX4_aimOf_104 rfl ⟨_, rfl, ?_⟩
  refine ⟨?_, rfl⟩
  unfold aimS aimV
  rw [if_neg c46_2, if_neg c46_3, if_neg c46_4, if_neg c46_5]
  all_goals first | rfl | exact (if_neg (Int32.not_lt.mpr h47)).symm | exact (if_pos (Int32.not_le.mp h47)).symm
set_option maxRecDepth 100000 in
set_option maxHeartbeats 400000 in
theorem c_paceOf {x : jX} {m : jm} {d : Nat}{o p : Nat} (ho : jSt o) (hp : p < 48) : Ct x d eX4_paceOf [.ref (jxb x + o), .int (nI p)] m (jp (paceS m o p) m) := by
  refine J_start (by decide +kernel) (Nat.le_of_ble_eq_true rfl) (ls := [some (.ref (jxb x + o)), some (.int (nI p))]) rfl rfl ?_
  refine J_aload_n (pc := 0) dX4_paceOf_0 rfl ?_
  refine K_getR (pc := 1) (t := o + 1) dX4_paceOf_1 kf_X4_15 (jSt_obj ho) (jSt_ref ho 0 (by decide)) ?_
  refine J_iload_n (pc := 4) dX4_paceOf_4 rfl ?_
  refine K_ialdn (pc := 5) (id := (o + 1)) dX4_paceOf_5 (jSt_arr ho 0 (by decide)) (by omega) (by decide) ?_
  by_cases c6_1 : ((m (o + 1) p)) = nI 1
  ·
    refine J_tsIn (pc := 6) (tgt := 40) (off := 34) dX4_paceOf_6 (by rw [c6_1]; decide) (by rw [c6_1]; decide) (by rw [c6_1]; rfl) (by decide) ?_
    refine J_aload_n (pc := 40) dX4_paceOf_40 rfl ?_
    refine K_getR (pc := 41) (t := o + 3) dX4_paceOf_41 kf_X4_22 (jSt_obj ho) (jSt_ref ho 2 (by decide)) ?_
    refine J_iload_n (pc := 44) dX4_paceOf_44 rfl ?_
    refine K_ialdn (pc := 45) (id := (o + 3)) dX4_paceOf_45 (jSt_arr ho 2 (by decide)) (by omega) (by decide) ?_
    refine J_iconst (pc := 46) dX4_paceOf_46 kni_4 ?_
    refine J_icmp_le (pc := 47) (tgt := 54) dX4_paceOf_47 (by decide) (fun h47 => ?_) (fun h47 => ?_)
    · 
      refine J_iconst (pc := 54) dX4_paceOf_54 kni_1 ?_
      refine K_iret (pc := 55) dX4_paceOf_55 rfl ⟨_, rfl, ?_⟩
      refine ⟨?_, rfl⟩
      unfold paceS paceV
      rw [if_pos c6_1]
      all_goals first | rfl | exact (if_neg (Int32.not_lt.mpr h47)).symm | exact (if_pos (Int32.not_le.mp h47)).symm
    · 
      refine J_iconst (pc := 50) dX4_paceOf_50 kni_2 ?_
      refine J_goto (pc := 51) (tgt := 55) dX4_paceOf_51 (by decide) ?_
      refine K_iret (pc := 55) dX4_paceOf_55 rfl ⟨_, rfl, ?_⟩
      refine ⟨?_, rfl⟩
      unfold paceS paceV
      rw [if_pos c6_1]
      all_goals first | rfl | exact (if_neg (Int32.not_lt.mpr h47)).symm | exact (if_pos (Int32.not_le.mp h47)).symm
  by_cases c6_2 : ((m (o + 1) p)) = nI 2
  ·
    refine J_tsIn (pc := 6) (tgt := 56) (off := 50) dX4_paceOf_6 (by rw [c6_2]; decide) (by rw [c6_2]; decide) (by rw [c6_2]; rfl) (by decide) ?_
    refine J_iconst (pc := 56) dX4_paceOf_56 kni_2 ?_
    refine K_iret (pc := 57) dX4_paceOf_57 rfl ⟨_, rfl, ?_⟩
    refine ⟨?_, rfl⟩
    unfold paceS paceV
    rw [if_neg c6_1, if_pos c6_2]
    all_goals first | rfl | exact (if_neg (Int32.not_lt.mpr h47)).symm | exact (if_pos (Int32.not_le.mp h47)).symm
  by_cases c6_3 : ((m (o + 1) p)) = nI 3
  ·
    refine J_tsIn (pc := 6) (tgt := 58) (off := 52) dX4_paceOf_6 (by rw [c6_3]; decide) (by rw [c6_3]; decide) (by rw [c6_3]; rfl) (by decide) ?_
    refine J_bipush (pc := 58) dX4_paceOf_58 knb_9 ?_
    refine K_iret (pc := 60) dX4_paceOf_60 rfl ⟨_, rfl, ?_⟩
    refine ⟨?_, rfl⟩
    unfold paceS paceV
    rw [if_neg c6_1, if_neg c6_2, if_pos c6_3]
    all_goals first | rfl | exact (if_neg (Int32.not_lt.mpr h47)).symm | exact (if_pos (Int32.not_le.mp h47)).symm
  by_cases c6_4 : ((m (o + 1) p)) = nI 4
  ·
    refine J_tsIn (pc := 6) (tgt := 63) (off := 57) dX4_paceOf_6 (by rw [c6_4]; decide) (by rw [c6_4]; decide) (by rw [c6_4]; rfl) (by decide) ?_
    refine J_iconst (pc := 63) dX4_paceOf_63 kni_1 ?_
    refine K_iret (pc := 64) dX4_paceOf_64 rfl ⟨_, rfl, ?_⟩
    refine ⟨?_, rfl⟩
    unfold paceS paceV
    rw [if_neg c6_1, if_neg c6_2, if_neg c6_3, if_pos c6_4]
    all_goals first | rfl | exact (if_neg (Int32.not_lt.mpr h47)).symm | exact (if_pos (Int32.not_le.mp h47)).symm
  by_cases c6_5 : ((m (o + 1) p)) = nI 5
  ·
    refine J_tsIn (pc := 6) (tgt := 61) (off := 55) dX4_paceOf_6 (by rw [c6_5]; decide) (by rw [c6_5]; decide) (by rw [c6_5]; rfl) (by decide) ?_
    refine J_iconst (pc := 61) dX4_paceOf_61 kni_0 ?_
    refine K_iret (pc := 62) dX4_paceOf_62 rfl ⟨_, rfl, ?_⟩
    refine ⟨?_, rfl⟩
    unfold paceS paceV
    rw [if_neg c6_1, if_neg c6_2, if_neg c6_3, if_neg c6_4, if_pos c6_5]
    all_goals first | rfl | exact (if_neg (Int32.not_lt.mpr h47)).symm | exact (if_pos (Int32.not_le.mp h47)).symm
  refine J_tsOut (pc := 6) (tgt := 63) dX4_paceOf_6 (by have qc6_1 := jsw_ne c6_1 (by decide); have qc6_2 := jsw_ne c6_2 (by decide); have qc6_3 := jsw_ne c6_3 (by decide); have qc6_4 := jsw_ne c6_4 (by decide); have qc6_5 := jsw_ne c6_5 (by decide); omega) (by decide) ?_
  refine J_iconst (pc := 63) dX4_paceOf_63 kni_1 ?_
  refine K_iret (pc := 64) dX4_paceOf_64 rfl ⟨_, rfl, ?_⟩
  refine ⟨?_, rfl⟩
  unfold paceS paceV
  rw [if_neg c6_1, if_neg c6_2, if_neg c6_3, if_neg c6_4, if_neg c6_5]
  all_goals first | rfl | exact (if_neg (Int32.not_lt.mpr h47)).symm | exact (if_pos (Int32.not_le.mp h47)).symm
set_option maxRecDepth 100000 in
set_option maxHeartbeats 400000 in
theorem c_givenBy {x : jX} {m : jm} {d : Nat}{o p : Nat} (ho : jSt o) (hp : p < 48) : Ct x d eX4_givenBy [.ref (jxb x + o), .int (nI p)] m (jp (givenS m o p) m) := by
  refine J_start (by decide +kernel) (Nat.le_of_ble_eq_true rfl) (ls := [some (.ref (jxb x + o)), some (.int (nI p))]) rfl rfl ?_
  refine J_aload_n (pc := 0) dX4_givenBy_0 rfl ?_
  refine K_getR (pc := 1) (t := o + 1) dX4_givenBy_1 kf_X4_15 (jSt_obj ho) (jSt_ref ho 0 (by decide)) ?_
  refine J_iload_n (pc := 4) dX4_givenBy_4 rfl ?_
  refine K_ialdn (pc := 5) (id := (o + 1)) dX4_givenBy_5 (jSt_arr ho 0 (by decide)) (by omega) (by decide) ?_
  by_cases c6_1 : ((m (o + 1) p)) = nI 1
  ·
    refine J_tsIn (pc := 6) (tgt := 36) (off := 30) dX4_givenBy_6 (by rw [c6_1]; decide) (by rw [c6_1]; decide) (by rw [c6_1]; rfl) (by decide) ?_
    refine J_aload_n (pc := 36) dX4_givenBy_36 rfl ?_
    refine K_getR (pc := 37) (t := o + 3) dX4_givenBy_37 kf_X4_22 (jSt_obj ho) (jSt_ref ho 2 (by decide)) ?_
    refine J_iload_n (pc := 40) dX4_givenBy_40 rfl ?_
    refine K_ialdn (pc := 41) (id := (o + 3)) dX4_givenBy_41 (jSt_arr ho 2 (by decide)) (by omega) (by decide) ?_
    refine J_ineg (pc := 42) dX4_givenBy_42 ?_
    refine J_aload_n (pc := 43) dX4_givenBy_43 rfl ?_
    refine K_getR (pc := 44) (t := o + 6) dX4_givenBy_44 kf_X4_31 (jSt_obj ho) (jSt_ref ho 5 (by decide)) ?_
    refine J_iload_n (pc := 47) dX4_givenBy_47 rfl ?_
    refine K_ialdn (pc := 48) (id := (o + 6)) dX4_givenBy_48 (jSt_arr ho 5 (by decide)) (by omega) (by decide) ?_
    refine J_imul (pc := 49) dX4_givenBy_49 ?_
    refine K_iret (pc := 50) dX4_givenBy_50 rfl ⟨_, rfl, ?_⟩
    refine ⟨?_, rfl⟩
    unfold givenS givenV
    rw [if_pos c6_1]
    all_goals first | rfl | exact (if_neg (Int32.not_lt.mpr h47)).symm | exact (if_pos (Int32.not_le.mp h47)).symm
  by_cases c6_2 : ((m (o + 1) p)) = nI 2
  ·
    refine J_tsIn (pc := 6) (tgt := 51) (off := 45) dX4_givenBy_6 (by rw [c6_2]; decide) (by rw [c6_2]; decide) (by rw [c6_2]; rfl) (by decide) ?_
    refine J_iconst (pc := 51) dX4_givenBy_51 kni_2 ?_
    refine J_aload_n (pc := 52) dX4_givenBy_52 rfl ?_
    refine K_getR (pc := 53) (t := o + 6) dX4_givenBy_53 kf_X4_31 (jSt_obj ho) (jSt_ref ho 5 (by decide)) ?_
    refine J_iload_n (pc := 56) dX4_givenBy_56 rfl ?_
    refine K_ialdn (pc := 57) (id := (o + 6)) dX4_givenBy_57 (jSt_arr ho 5 (by decide)) (by omega) (by decide) ?_
    refine J_imul (pc := 58) dX4_givenBy_58 ?_
    refine K_iret (pc := 59) dX4_givenBy_59 rfl ⟨_, rfl, ?_⟩
    refine ⟨?_, rfl⟩
    unfold givenS givenV
    rw [if_neg c6_1, if_pos c6_2]
    all_goals first | rfl | exact (if_neg (Int32.not_lt.mpr h47)).symm | exact (if_pos (Int32.not_le.mp h47)).symm
  by_cases c6_3 : ((m (o + 1) p)) = nI 3
  ·
    refine J_tsIn (pc := 6) (tgt := 60) (off := 54) dX4_givenBy_6 (by rw [c6_3]; decide) (by rw [c6_3]; decide) (by rw [c6_3]; rfl) (by decide) ?_
    refine J_iconst (pc := 60) dX4_givenBy_60 kni_2 ?_
    refine J_aload_n (pc := 61) dX4_givenBy_61 rfl ?_
    refine K_getR (pc := 62) (t := o + 6) dX4_givenBy_62 kf_X4_31 (jSt_obj ho) (jSt_ref ho 5 (by decide)) ?_
    refine J_iload_n (pc := 65) dX4_givenBy_65 rfl ?_
    refine K_ialdn (pc := 66) (id := (o + 6)) dX4_givenBy_66 (jSt_arr ho 5 (by decide)) (by omega) (by decide) ?_
    refine J_imul (pc := 67) dX4_givenBy_67 ?_
    refine J_aload_n (pc := 68) dX4_givenBy_68 rfl ?_
    refine K_getR (pc := 69) (t := o + 3) dX4_givenBy_69 kf_X4_22 (jSt_obj ho) (jSt_ref ho 2 (by decide)) ?_
    refine J_iload_n (pc := 72) dX4_givenBy_72 rfl ?_
    refine K_ialdn (pc := 73) (id := (o + 3)) dX4_givenBy_73 (jSt_arr ho 2 (by decide)) (by omega) (by decide) ?_
    refine J_iadd (pc := 74) dX4_givenBy_74 ?_
    refine K_iret (pc := 75) dX4_givenBy_75 rfl ⟨_, rfl, ?_⟩
    refine ⟨?_, rfl⟩
    unfold givenS givenV
    rw [if_neg c6_1, if_neg c6_2, if_pos c6_3]
    all_goals first | rfl | exact (if_neg (Int32.not_lt.mpr h47)).symm | exact (if_pos (Int32.not_le.mp h47)).symm
  by_cases c6_4 : ((m (o + 1) p)) = nI 4
  ·
    refine J_tsIn (pc := 6) (tgt := 76) (off := 70) dX4_givenBy_6 (by rw [c6_4]; decide) (by rw [c6_4]; decide) (by rw [c6_4]; rfl) (by decide) ?_
    refine J_aload_n (pc := 76) dX4_givenBy_76 rfl ?_
    refine K_getR (pc := 77) (t := o + 6) dX4_givenBy_77 kf_X4_31 (jSt_obj ho) (jSt_ref ho 5 (by decide)) ?_
    refine J_iload_n (pc := 80) dX4_givenBy_80 rfl ?_
    refine K_ialdn (pc := 81) (id := (o + 6)) dX4_givenBy_81 (jSt_arr ho 5 (by decide)) (by omega) (by decide) ?_
    refine K_iret (pc := 82) dX4_givenBy_82 rfl ⟨_, rfl, ?_⟩
    refine ⟨?_, rfl⟩
    unfold givenS givenV
    rw [if_neg c6_1, if_neg c6_2, if_neg c6_3, if_pos c6_4]
    all_goals first | rfl | exact (if_neg (Int32.not_lt.mpr h47)).symm | exact (if_pos (Int32.not_le.mp h47)).symm
  refine J_tsOut (pc := 6) (tgt := 83) dX4_givenBy_6 (by have qc6_1 := jsw_ne c6_1 (by decide); have qc6_2 := jsw_ne c6_2 (by decide); have qc6_3 := jsw_ne c6_3 (by decide); have qc6_4 := jsw_ne c6_4 (by decide); omega) (by decide) ?_
  refine J_iconst (pc := 83) dX4_givenBy_83 kni_0 ?_
  refine K_iret (pc := 84) dX4_givenBy_84 rfl ⟨_, rfl, ?_⟩
  refine ⟨?_, rfl⟩
  unfold givenS givenV
  rw [if_neg c6_1, if_neg c6_2, if_neg c6_3, if_neg c6_4]
  all_goals first | rfl | exact (if_neg (Int32.not_lt.mpr h47)).symm | exact (if_pos (Int32.not_le.mp h47)).symm

def hgtS (m : jm) (o q : Nat) : Int32 := if m (o + 7) q = NONEv then nI 0 else if m (o + 1) (tN (m (o + 7) q)) = nI 4 then m (o + 6) (tN (m (o + 7) q)) else nI 0
def hupS (m : jm) (o q : Nat) : Int32 := if q < 8 then nI 0 else hgtS m o (q - 8)
def gvnS (m : jm) (o q : Nat) : Int32 := if m (o + 7) q = NONEv then nI 0 else givenS m o (tN (m (o + 7) q))
def lightS (m : jm) (o q : Nat) : Int32 := heldV (m (o + 12) 0 + gvnS m o q + m (o + 12) 1 * (hgtS m o q - hupS m o q)) (nI 99)
/-- which part is at a place -/
def wfAt (m : jm) (o : Nat) : Prop := ∀ q, q < 48 → m (o + 7) q = NONEv ∨ vp_in (m (o + 7) q) 48
def wfPt (m : jm) (o : Nat) : Prop := (∀ p, p < 48 → vp_in (m (o + 5) p) 10) ∧ ∀ j, j < 10 → vp_in (m (o + 9) j) 6
theorem wfPt.g {m : jm} {o p : Nat} (h : wfPt m o) (hp : p < 48) : vp_in (m (o + 9) (tN (m (o + 5) p))) 6 := h.2 _ (by obtain ⟨j, hj, e⟩ := vp_in_of (h.1 p hp) (by decide); rw [e]; show (nI j).toNatClampNeg < 10; rw [nI_clamp (by omega)]; exact hj)
theorem tN_lt {v : Int32} {n : Nat} (h : vp_in v n) (hn : n < 2 ^ 31) : tN v < n := by obtain ⟨j, hj, e⟩ := vp_in_of h hn; rw [e]; show (nI j).toNatClampNeg < n; rw [nI_clamp (by omega)]; exact hj
theorem tN_eq {v : Int32} {n : Nat} (h : vp_in v n) (hn : n < 2 ^ 31) : v = nI (tN v) := by obtain ⟨j, hj, e⟩ := vp_in_of h hn; rw [e]; show nI j = nI (nI j).toNatClampNeg; rw [nI_clamp (by omega)]
theorem tN_n {n : Nat} (hn : n < 2 ^ 31) : tN (nI n) = n := nI_clamp hn
set_option maxRecDepth 100000 in
set_option maxHeartbeats 400000 in
theorem c_heightAt {x : jX} {m : jm} {d : Nat}{o q : Nat} (ho : jSt o) (hq : q < 48) (hat : m (o + 7) q = NONEv ∨ vp_in (m (o + 7) q) 48) : Ct x d eX4_heightAt [.ref (jxb x + o), .int (nI q)] m (jp (hgtS m o q) m) := by
  refine J_start (by decide +kernel) (Nat.le_of_ble_eq_true rfl) (ls := [some (.ref (jxb x + o)), some (.int (nI q)), none]) rfl rfl ?_
  refine J_aload_n (pc := 0) dX4_heightAt_0 rfl ?_
  refine K_getR (pc := 1) (t := o + 7) dX4_heightAt_1 kf_X4_34 (jSt_obj ho) (jSt_ref ho 6 (by decide)) ?_
  refine J_iload_n (pc := 4) dX4_heightAt_4 rfl ?_
  refine K_ialdn (pc := 5) (id := (o + 7)) dX4_heightAt_5 (jSt_arr ho 6 (by decide)) (by omega) (by decide) ?_
  refine J_istore_n (pc := 6) (ls' := [some _, some _, some _]) dX4_heightAt_6 rfl (Nat.le_of_ble_eq_true rfl) rfl ?_
  refine J_iload_n (pc := 7) dX4_heightAt_7 rfl ?_
  refine J_ldc (pc := 8) dX4_heightAt_8 kc_X4_64 ?_
  refine J_icmp_eq (pc := 10) (tgt := 32) dX4_heightAt_10 (by decide) (fun h10 => ?_) (fun h10 => ?_)
  · 
    refine J_iconst (pc := 32) dX4_heightAt_32 kni_0 ?_
    refine K_iret (pc := 33) dX4_heightAt_33 rfl ⟨_, rfl, ?_⟩
    refine ⟨?_, rfl⟩
    unfold hgtS
    rw [if_pos h10]
  · 
    refine J_aload_n (pc := 13) dX4_heightAt_13 rfl ?_
    refine K_getR (pc := 14) (t := o + 1) dX4_heightAt_14 kf_X4_15 (jSt_obj ho) (jSt_ref ho 0 (by decide)) ?_
    refine J_iload_n (pc := 17) dX4_heightAt_17 rfl ?_
    refine K_iald (pc := 18) (id := (o + 1)) dX4_heightAt_18 (jSt_arr ho 0 (by decide)) (Or.resolve_left hat h10) ?_
    refine J_iconst (pc := 19) dX4_heightAt_19 kni_4 ?_
    refine J_icmp_ne (pc := 20) (tgt := 32) dX4_heightAt_20 (by decide) (fun h20 => ?_) (fun h20 => ?_)
    · 
      refine J_iconst (pc := 32) dX4_heightAt_32 kni_0 ?_
      refine K_iret (pc := 33) dX4_heightAt_33 rfl ⟨_, rfl, ?_⟩
      refine ⟨?_, rfl⟩
      unfold hgtS
      rw [if_neg h10, if_neg h20]
    · 
      refine J_aload_n (pc := 23) dX4_heightAt_23 rfl ?_
      refine K_getR (pc := 24) (t := o + 6) dX4_heightAt_24 kf_X4_31 (jSt_obj ho) (jSt_ref ho 5 (by decide)) ?_
      refine J_iload_n (pc := 27) dX4_heightAt_27 rfl ?_
      refine K_iald (pc := 28) (id := (o + 6)) dX4_heightAt_28 (jSt_arr ho 5 (by decide)) (Or.resolve_left hat h10) ?_
      refine J_goto (pc := 29) (tgt := 33) dX4_heightAt_29 (by decide) ?_
      refine K_iret (pc := 33) dX4_heightAt_33 rfl ⟨_, rfl, ?_⟩
      refine ⟨?_, rfl⟩
      unfold hgtS
      rw [if_neg h10, if_pos h20]
theorem c_givenByV {x : jX} {m : jm} {d : Nat} {o : Nat} (ho : jSt o) {v : Int32} (hv : vp_in v 48) : Ct x d eX4_givenBy [.ref (jxb x + o), .int v] m (jp (givenS m o (tN v)) m) := by
  have h := c_givenBy (x := x) (m := m) (d := d) ho (tN_lt hv (by decide))
  rwa [← tN_eq hv (by decide)] at h
theorem c_aimOfV {x : jX} {m : jm} {d : Nat} {o : Nat} (ho : jSt o) (hw : wfPt m o) {v : Int32} (hv : vp_in v 48) : Ct x (d + 1) eX4_aimOf [.ref (jxb x + o), .int v] m (jp (aimS m o (tN v)) m) := by
  have h := c_aimOf (x := x) (m := m) (d := d) ho (tN_lt hv (by decide)) (hw.1 _ (tN_lt hv (by decide))) (hw.g (tN_lt hv (by decide)))
  rwa [← tN_eq hv (by decide)] at h
set_option maxRecDepth 100000 in
set_option maxHeartbeats 400000 in
theorem c_lightAt {x : jX} {m : jm} {d : Nat}{o q : Nat} (ho : jSt o) (hq : q < 48) (hat : wfAt m o) : Ct x (d + 2) eX4_lightAt [.ref (jxb x + o), .int (nI q)] m (jp (lightS m o q) m) := by
  refine J_start (by decide +kernel) (Nat.le_of_ble_eq_true rfl) (ls := [some (.ref (jxb x + o)), some (.int (nI q)), none, none]) rfl rfl ?_
  refine J_aload_n (pc := 0) dX4_lightAt_0 rfl ?_
  refine J_iload_n (pc := 1) dX4_lightAt_1 rfl ?_
  refine K_callVp (pc := 2) (id := o) (As := [_]) dX4_lightAt_2 kl_X4_83 rfl (jSt_obj ho) rfl rfl (Nat.le_of_ble_eq_true rfl) (c_heightAt ho hq (hat q hq)) ?_
  refine J_iload_n (pc := 5) dX4_lightAt_5 rfl ?_
  refine J_bipush (pc := 6) dX4_lightAt_6 knb_8 ?_
  refine K_merge (jc := 23) (ls' := [some (.ref (jxb x + o)), some (.int (nI q)), none, none]) (st' := [.int ((hupS m o q)), .int ((hgtS m o q))]) (m' := m) ?_ (fun hj23 => ?_)
  ·
    refine J_isub (pc := 23) dX4_lightAt_23 ?_
    refine J_istore_n (pc := 24) (ls' := [some _, some _, some _, none]) dX4_lightAt_24 rfl (Nat.le_of_ble_eq_true rfl) rfl ?_
    refine J_aload_n (pc := 25) dX4_lightAt_25 rfl ?_
    refine K_getR (pc := 26) (t := o + 7) dX4_lightAt_26 kf_X4_34 (jSt_obj ho) (jSt_ref ho 6 (by decide)) ?_
    refine J_iload_n (pc := 29) dX4_lightAt_29 rfl ?_
    refine K_ialdn (pc := 30) (id := (o + 7)) dX4_lightAt_30 (jSt_arr ho 6 (by decide)) (by omega) (by decide) ?_
    refine J_ldc (pc := 31) dX4_lightAt_31 kc_X4_64 ?_
    refine K_merge (jc := 50) (ls' := [some (.ref (jxb x + o)), some (.int (nI q)), some (.int ((((hgtS m o q)) - ((hupS m o q))))), none]) (st' := [.int ((gvnS m o q))]) (m' := m) ?_ (fun hj50 => ?_)
    ·
      refine J_istore_n (pc := 50) (ls' := [some _, some _, some _, some _]) dX4_lightAt_50 rfl (Nat.le_of_ble_eq_true rfl) rfl ?_
      refine J_aload_n (pc := 51) dX4_lightAt_51 rfl ?_
      refine K_getR (pc := 52) (t := o + 12) dX4_lightAt_52 kf_X4_49 (jSt_obj ho) (jSt_ref ho 11 (by decide)) ?_
      refine J_iconst (pc := 55) dX4_lightAt_55 kni_0 ?_
      refine K_ialdn (pc := 56) (id := (o + 12)) dX4_lightAt_56 (jSt_rules ho) (by omega) (by decide) ?_
      refine J_iload_n (pc := 57) dX4_lightAt_57 rfl ?_
      refine J_iadd (pc := 58) dX4_lightAt_58 ?_
      refine J_aload_n (pc := 59) dX4_lightAt_59 rfl ?_
      refine K_getR (pc := 60) (t := o + 12) dX4_lightAt_60 kf_X4_49 (jSt_obj ho) (jSt_ref ho 11 (by decide)) ?_
      refine J_iconst (pc := 63) dX4_lightAt_63 kni_1 ?_
      refine K_ialdn (pc := 64) (id := (o + 12)) dX4_lightAt_64 (jSt_rules ho) (by omega) (by decide) ?_
      refine J_iload_n (pc := 65) dX4_lightAt_65 rfl ?_
      refine J_imul (pc := 66) dX4_lightAt_66 ?_
      refine J_iadd (pc := 67) dX4_lightAt_67 ?_
      refine J_bipush (pc := 68) dX4_lightAt_68 knb_99 ?_
      refine K_callSp (pc := 70) (As := [_, _]) dX4_lightAt_70 kl_X4_90 rfl rfl (Nat.le_of_ble_eq_true rfl) (c_held _ _) ?_
      refine K_iret (pc := 73) dX4_lightAt_73 rfl ⟨_, rfl, ?_⟩
      exact ⟨rfl, rfl⟩
    ·
      refine J_icmp_ne (pc := 33) (tgt := 40) dX4_lightAt_33 (by decide) (fun h33 => ?_) (fun h33 => ?_)
      · 
        refine J_aload_n (pc := 40) dX4_lightAt_40 rfl ?_
        refine J_aload_n (pc := 41) dX4_lightAt_41 rfl ?_
        refine K_getR (pc := 42) (t := o + 7) dX4_lightAt_42 kf_X4_34 (jSt_obj ho) (jSt_ref ho 6 (by decide)) ?_
        refine J_iload_n (pc := 45) dX4_lightAt_45 rfl ?_
        refine K_ialdn (pc := 46) (id := (o + 7)) dX4_lightAt_46 (jSt_arr ho 6 (by decide)) (by omega) (by decide) ?_
        refine K_callVp (pc := 47) (id := o) (As := [_]) dX4_lightAt_47 kl_X4_87 rfl (jSt_obj ho) rfl rfl (Nat.le_of_ble_eq_true rfl) (c_givenByV ho (Or.resolve_left (hat q hq) h33)) ?_
        exact (by unfold gvnS at hj50; rw [if_neg h33] at hj50; exact hj50)
      · 
        refine J_iconst (pc := 36) dX4_lightAt_36 kni_0 ?_
        refine J_goto (pc := 37) (tgt := 50) dX4_lightAt_37 (by decide) ?_
        exact (by unfold gvnS at hj50; rw [if_pos h33] at hj50; exact hj50)
  ·
    refine Jn_ge (pc := 8) (tgt := 15) dX4_lightAt_8 (by decide) (by omega) (by omega) (fun h8 => ?_) (fun h8 => ?_)
    · 
      have h8 := Nat.not_lt.mpr h8
      refine J_aload_n (pc := 15) dX4_lightAt_15 rfl ?_
      refine J_iload_n (pc := 16) dX4_lightAt_16 rfl ?_
      refine J_bipush (pc := 17) dX4_lightAt_17 knb_8 ?_
      refine J_isubv (pc := 19) dX4_lightAt_19 (pk_sub (by omega)) ?_
      refine K_callVp (pc := 20) (id := o) (As := [_]) dX4_lightAt_20 kl_X4_83 rfl (jSt_obj ho) rfl rfl (Nat.le_of_ble_eq_true rfl) (c_heightAt ho (q := q - 8) (by omega) (hat _ (by omega))) ?_
      exact (by unfold hupS at hj23; rw [if_neg h8] at hj23; exact hj23)
    · 
      refine J_iconst (pc := 11) dX4_lightAt_11 kni_0 ?_
      refine J_goto (pc := 12) (tgt := 23) dX4_lightAt_12 (by decide) ?_
      exact (by unfold hupS at hj23; rw [if_pos h8] at hj23; exact hj23)
