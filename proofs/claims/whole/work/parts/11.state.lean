theorem jsw_ne {v : Int32} {c : Nat} (h : ¬ v = nI c) (hc : c < 2 ^ 31) : ¬ v.toInt = (c : Int) := fun q => h (Int32.toInt_inj.mp (by rw [nI_toInt hc]; exact q))
theorem jbT {c : Prop} [Decidable c] (h : c) : nI 1 = jb c := (if_pos h).symm
theorem jbF {c : Prop} [Decidable c] (h : ¬ c) : nI 0 = jb c := (if_neg h).symm
-- values
def minV (a b : Int32) : Int32 := if b < a then b else a
def maxV (a b : Int32) : Int32 := if a < b then b else a
def absV (a : Int32) : Int32 := if 0 ≤ a then a else 0 - a
def heldV (v most : Int32) : Int32 := maxV (nI 0) (minV most v)
def drawnV (span pull weight : Int32) : Int32 := minV span (pull * weight / nI 5)
def aimV (kind span size drawn : Int32) : Int32 := if kind = nI 2 then span - drawn else if kind = nI 3 then span else if kind = nI 4 then drawn / nI 2 else if kind = nI 5 then size else drawn
def paceV (kind a : Int32) : Int32 := if kind = nI 1 then (if nI 4 < a then nI 2 else nI 1) else if kind = nI 2 then nI 2 else if kind = nI 3 then nI 9 else if kind = nI 4 then nI 1 else if kind = nI 5 then nI 0 else nI 1
def givenV (kind a size : Int32) : Int32 := if kind = nI 1 then (-a) * size else if kind = nI 2 then nI 2 * size else if kind = nI 3 then nI 2 * size + a else if kind = nI 4 then size else nI 0
theorem K_minV {x : jX} {d : Nat} {me : jMe} {pc : Nat} {ls : List (Option Value)} {st : List Value} {m : jm} {Q : jq} {idx : Nat} {a b : Int32} (hd : decode me.2.1 pc = .ok (.invokestatic idx, 3)) (hlink : Cond.methodLink me.1.cls idx Lib.Math.min.name ∈ jgw) (hW : (st.map fun v => v.category).sum ≤ 8) (kk : K x (d + 1) me (pc + 3) ls (.int (minV a b) :: st) m Q) : K x (d + 1) me pc ls (.int b :: .int a :: st) m Q := K_min hd hlink hW kk
theorem K_maxV {x : jX} {d : Nat} {me : jMe} {pc : Nat} {ls : List (Option Value)} {st : List Value} {m : jm} {Q : jq} {idx : Nat} {a b : Int32} (hd : decode me.2.1 pc = .ok (.invokestatic idx, 3)) (hlink : Cond.methodLink me.1.cls idx Lib.Math.max.name ∈ jgw) (hW : (st.map fun v => v.category).sum ≤ 8) (kk : K x (d + 1) me (pc + 3) ls (.int (maxV a b) :: st) m Q) : K x (d + 1) me pc ls (.int b :: .int a :: st) m Q := K_max hd hlink hW kk
theorem K_absV {x : jX} {d : Nat} {me : jMe} {pc : Nat} {ls : List (Option Value)} {st : List Value} {m : jm} {Q : jq} {idx : Nat} {a : Int32} (hd : decode me.2.1 pc = .ok (.invokestatic idx, 3)) (hlink : Cond.methodLink me.1.cls idx Lib.Math.abs.name ∈ jgw) (hW : (st.map fun v => v.category).sum ≤ 8) (kk : K x (d + 1) me (pc + 3) ls (.int (absV a) :: st) m Q) : K x (d + 1) me pc ls (.int a :: st) m Q := K_abs hd hlink hW kk
-- of a state o: aim, pace, what a part gives
def aimS (m : jm) (o p : Nat) : Int32 := aimV (m (o + 1) p) (m (o + 4) p) (m (o + 6) p) (drawnV (m (o + 4) p) (m (o + 11) (tN (m (o + 9) (tN (m (o + 5) p))))) (m (o + 10) (tN (m (o + 5) p))))
def paceS (m : jm) (o p : Nat) : Int32 := paceV (m (o + 1) p) (m (o + 3) p)
def givenS (m : jm) (o p : Nat) : Int32 := givenV (m (o + 1) p) (m (o + 3) p) (m (o + 6) p)
set_option maxRecDepth 100000 in
set_option maxHeartbeats 4000000 in
theorem c_within {x : jX} {m : jm} {d : Nat} (v l h : Int32) : Ct x d eX7_within [.int v, .int l, .int h] m (jp (jb (l ≤ v ∧ v ≤ h)) m) := by
  refine J_start (by decide +kernel) (Nat.le_of_ble_eq_true rfl) (ls := [some (.int v), some (.int l), some (.int h)]) rfl rfl ?_
  refine J_iload_n (pc := 0) dX7_within_0 rfl ?_
  refine J_iload_n (pc := 1) dX7_within_1 rfl ?_
  refine J_icmp_lt (pc := 2) (tgt := 14) dX7_within_2 (by decide) (fun h2 => ?_) (fun h2 => ?_)
  · 
    refine J_iconst (pc := 14) dX7_within_14 kni_0 ?_
    refine K_zret (pc := 15) dX7_within_15 rfl rfl ⟨_, rfl, ?_⟩
    exact ⟨jbF (by simp only [Int32.lt_iff_toInt_lt, Int32.le_iff_toInt_le] at *; omega), rfl⟩
  · 
    refine J_iload_n (pc := 5) dX7_within_5 rfl ?_
    refine J_iload_n (pc := 6) dX7_within_6 rfl ?_
    refine J_icmp_gt (pc := 7) (tgt := 14) dX7_within_7 (by decide) (fun h7 => ?_) (fun h7 => ?_)
    · 
      refine J_iconst (pc := 14) dX7_within_14 kni_0 ?_
      refine K_zret (pc := 15) dX7_within_15 rfl rfl ⟨_, rfl, ?_⟩
      exact ⟨jbF (by simp only [Int32.lt_iff_toInt_lt, Int32.le_iff_toInt_le] at *; omega), rfl⟩
    · 
      refine J_iconst (pc := 10) dX7_within_10 kni_1 ?_
      refine J_goto (pc := 11) (tgt := 15) dX7_within_11 (by decide) ?_
      refine K_zret (pc := 15) dX7_within_15 rfl rfl ⟨_, rfl, ?_⟩
      exact ⟨jbT (by simp only [Int32.lt_iff_toInt_lt, Int32.le_iff_toInt_le] at *; omega), rfl⟩
set_option maxRecDepth 100000 in
set_option maxHeartbeats 4000000 in
theorem c_held {x : jX} {m : jm} {d : Nat} (v t : Int32) : Ct x (d + 1) eX7_held [.int v, .int t] m (jp (heldV v t) m) := by
  refine J_start (by decide +kernel) (Nat.le_of_ble_eq_true rfl) (ls := [some (.int v), some (.int t)]) rfl rfl ?_
  refine J_iconst (pc := 0) dX7_held_0 kni_0 ?_
  refine J_iload_n (pc := 1) dX7_held_1 rfl ?_
  refine J_iload_n (pc := 2) dX7_held_2 rfl ?_
  refine K_minV (pc := 3) dX7_held_3 kx_X7_355 (Nat.le_of_ble_eq_true rfl) ?_
  refine K_maxV (pc := 6) dX7_held_6 kx_X7_183 (Nat.le_of_ble_eq_true rfl) ?_
  refine K_iret (pc := 9) dX7_held_9 rfl ⟨_, rfl, ?_⟩
  exact ⟨rfl, rfl⟩
set_option maxRecDepth 100000 in
set_option maxHeartbeats 4000000 in
theorem c_aimOf {x : jX} {m : jm} {d : Nat}{o p : Nat} (ho : jSt o) (hp : p < 48) (hn : vp_in (m (o + 5) p) 10) (hg : vp_in (m (o + 9) (tN (m (o + 5) p))) 6) : Ct x (d + 1) eX4_aimOf [.ref (jxb x + o), .int (nI p)] m (jp (aimS m o p) m) := by
  refine J_start (by decide +kernel) (Nat.le_of_ble_eq_true rfl) (ls := [some (.ref (jxb x + o)), some (.int (nI p)), none]) rfl rfl ?_
  refine J_aload_n (pc := 0) dX4_aimOf_0 rfl ?_
  refine K_getR (pc := 1) (t := o + 4) dX4_aimOf_1 kf_X4_25 (jSt_obj ho) (jSt_ref ho 3 (by decide)) ?_
  refine J_iload_n (pc := 4) dX4_aimOf_4 rfl ?_
  refine K_ialdn (pc := 5) (id := (o + 4)) dX4_aimOf_5 (jSt_arr ho 3 (by decide)) (by omega) (by decide) ?_
  refine J_aload_n (pc := 6) dX4_aimOf_6 rfl ?_
  refine K_getR (pc := 7) (t := o + 11) dX4_aimOf_7 kf_X4_46 (jSt_obj ho) (jSt_ref ho 10 (by decide)) ?_
  refine J_aload_n (pc := 10) dX4_aimOf_10 rfl ?_
  refine K_getR (pc := 11) (t := o + 9) dX4_aimOf_11 kf_X4_40 (jSt_obj ho) (jSt_ref ho 8 (by decide)) ?_
  refine J_aload_n (pc := 14) dX4_aimOf_14 rfl ?_
  refine K_getR (pc := 15) (t := o + 5) dX4_aimOf_15 kf_X4_28 (jSt_obj ho) (jSt_ref ho 4 (by decide)) ?_
  refine J_iload_n (pc := 18) dX4_aimOf_18 rfl ?_
  refine K_ialdn (pc := 19) (id := (o + 5)) dX4_aimOf_19 (jSt_arr ho 4 (by decide)) (by omega) (by decide) ?_
  refine K_iald (pc := 20) (id := (o + 9)) dX4_aimOf_20 (jSt_group ho) hn ?_
  refine K_iald (pc := 21) (id := (o + 11)) dX4_aimOf_21 (jSt_pull ho) hg ?_
  refine J_aload_n (pc := 22) dX4_aimOf_22 rfl ?_
  refine K_getR (pc := 23) (t := o + 10) dX4_aimOf_23 kf_X4_43 (jSt_obj ho) (jSt_ref ho 9 (by decide)) ?_
  refine J_aload_n (pc := 26) dX4_aimOf_26 rfl ?_
  refine K_getR (pc := 27) (t := o + 5) dX4_aimOf_27 kf_X4_28 (jSt_obj ho) (jSt_ref ho 4 (by decide)) ?_
  refine J_iload_n (pc := 30) dX4_aimOf_30 rfl ?_
  refine K_ialdn (pc := 31) (id := (o + 5)) dX4_aimOf_31 (jSt_arr ho 4 (by decide)) (by omega) (by decide) ?_
  refine K_iald (pc := 32) (id := (o + 10)) dX4_aimOf_32 (jSt_weight ho) hn ?_
  refine J_imul (pc := 33) dX4_aimOf_33 ?_
  refine J_iconst (pc := 34) dX4_aimOf_34 kni_5 ?_
  refine J_idiv (pc := 35) dX4_aimOf_35 (by decide) rfl ?_
  refine K_minV (pc := 36) dX4_aimOf_36 kx_X4_77 (Nat.le_of_ble_eq_true rfl) ?_
  refine J_istore_n (pc := 39) (ls' := [some _, some _, some _]) dX4_aimOf_39 rfl (Nat.le_of_ble_eq_true rfl) rfl ?_
  refine J_aload_n (pc := 40) dX4_aimOf_40 rfl ?_
  refine K_getR (pc := 41) (t := o + 1) dX4_aimOf_41 kf_X4_15 (jSt_obj ho) (jSt_ref ho 0 (by decide)) ?_
  refine J_iload_n (pc := 44) dX4_aimOf_44 rfl ?_
  refine K_ialdn (pc := 45) (id := (o + 1)) dX4_aimOf_45 (jSt_arr ho 0 (by decide)) (by omega) (by decide) ?_
  by_cases c46_2 : ((m (o + 1) p)) = nI 2
  ·
    refine J_tsIn (pc := 46) (tgt := 76) (off := 30) dX4_aimOf_46 (by rw [c46_2]; decide) (by rw [c46_2]; decide) (by rw [c46_2]; rfl) (by decide) ?_
    refine J_aload_n (pc := 76) dX4_aimOf_76 rfl ?_
    refine K_getR (pc := 77) (t := o + 4) dX4_aimOf_77 kf_X4_25 (jSt_obj ho) (jSt_ref ho 3 (by decide)) ?_
    refine J_iload_n (pc := 80) dX4_aimOf_80 rfl ?_
    refine K_ialdn (pc := 81) (id := (o + 4)) dX4_aimOf_81 (jSt_arr ho 3 (by decide)) (by omega) (by decide) ?_
    refine J_iload_n (pc := 82) dX4_aimOf_82 rfl ?_
    refine J_isub (pc := 83) dX4_aimOf_83 ?_
    refine K_iret (pc := 84) dX4_aimOf_84 rfl ⟨_, rfl, ?_⟩
    refine ⟨?_, rfl⟩
    unfold aimS aimV
    rw [if_pos c46_2]
    all_goals first | rfl | exact (if_neg (Int32.not_lt.mpr h47)).symm | exact (if_pos (Int32.not_le.mp h47)).symm
  by_cases c46_3 : ((m (o + 1) p)) = nI 3
  ·
    refine J_tsIn (pc := 46) (tgt := 85) (off := 39) dX4_aimOf_46 (by rw [c46_3]; decide) (by rw [c46_3]; decide) (by rw [c46_3]; rfl) (by decide) ?_
    refine J_aload_n (pc := 85) dX4_aimOf_85 rfl ?_
    refine K_getR (pc := 86) (t := o + 4) dX4_aimOf_86 kf_X4_25 (jSt_obj ho) (jSt_ref ho 3 (by decide)) ?_
    refine J_iload_n (pc := 89) dX4_aimOf_89 rfl ?_
    refine K_ialdn (pc := 90) (id := (o + 4)) dX4_aimOf_90 (jSt_arr ho 3 (by decide)) (by omega) (by decide) ?_
    refine K_iret (pc := 91) dX4_aimOf_91 rfl ⟨_, rfl, ?_⟩
    refine ⟨?_, rfl⟩
    unfold aimS aimV
    rw [if_neg c46_2, if_pos c46_3]
    all_goals first | rfl | exact (if_neg (Int32.not_lt.mpr h47)).symm | exact (if_pos (Int32.not_le.mp h47)).symm
  by_cases c46_4 : ((m (o + 1) p)) = nI 4
  ·
    refine J_tsIn (pc := 46) (tgt := 92) (off := 46) dX4_aimOf_46 (by rw [c46_4]; decide) (by rw [c46_4]; decide) (by rw [c46_4]; rfl) (by decide) ?_
    refine J_iload_n (pc := 92) dX4_aimOf_92 rfl ?_
    refine J_iconst (pc := 93) dX4_aimOf_93 kni_2 ?_
    refine J_idiv (pc := 94) dX4_aimOf_94 (by decide) rfl ?_
    refine K_iret (pc := 95) dX4_aimOf_95 rfl ⟨_, rfl, ?_⟩
    refine ⟨?_, rfl⟩
    unfold aimS aimV
    rw [if_neg c46_2, if_neg c46_3, if_pos c46_4]
    all_goals first | rfl | exact (if_neg (Int32.not_lt.mpr h47)).symm | exact (if_pos (Int32.not_le.mp h47)).symm
  by_cases c46_5 : ((m (o + 1) p)) = nI 5
  ·
    refine J_tsIn (pc := 46) (tgt := 96) (off := 50) dX4_aimOf_46 (by rw [c46_5]; decide) (by rw [c46_5]; decide) (by rw [c46_5]; rfl) (by decide) ?_
    refine J_aload_n (pc := 96) dX4_aimOf_96 rfl ?_
    refine K_getR (pc := 97) (t := o + 6) dX4_aimOf_97 kf_X4_31 (jSt_obj ho) (jSt_ref ho 5 (by decide)) ?_
    refine J_iload_n (pc := 100) dX4_aimOf_100 rfl ?_
    refine K_ialdn (pc := 101) (id := (o + 6)) dX4_aimOf_101 (jSt_arr ho 5 (by decide)) (by omega) (by decide) ?_
    refine K_iret (pc := 102) dX4_aimOf_102 rfl ⟨_, rfl, ?_⟩
    refine ⟨?_, rfl⟩
    unfold aimS aimV
    rw [if_neg c46_2, if_neg c46_3, if_neg c46_4, if_pos c46_5]
    all_goals first | rfl | exact (if_neg (Int32.not_lt.mpr h47)).symm | exact (if_pos (Int32.not_le.mp h47)).symm
  refine J_tsOut (pc := 46) (tgt := 103) dX4_aimOf_46 (by have qc46_2 := jsw_ne c46_2 (by decide); have qc46_3 := jsw_ne c46_3 (by decide); have qc46_4 := jsw_ne c46_4 (by decide); have qc46_5 := jsw_ne c46_5 (by decide); omega) (by decide) ?_
  refine J_iload_n (pc := 103) dX4_aimOf_103 rfl ?_
  refine K_iret (pc := 104) dX4_aimOf_104 rfl ⟨_, rfl, ?_⟩
  refine ⟨?_, rfl⟩
  unfold aimS aimV
  rw [if_neg c46_2, if_neg c46_3, if_neg c46_4, if_neg c46_5]
  all_goals first | rfl | exact (if_neg (Int32.not_lt.mpr h47)).symm | exact (if_pos (Int32.not_le.mp h47)).symm
set_option maxRecDepth 100000 in
set_option maxHeartbeats 4000000 in
theorem c_paceOf {x : jX} {m : jm} {d : Nat}{o p : Nat} (ho : jSt o) (hp : p < 48) : Ct x d eX4_paceOf [.ref (jxb x + o), .int (nI p)] m (jp (paceS m o p) m) := by
  refine J_start (by decide +kernel) (Nat.le_of_ble_eq_true rfl) (ls := [some (.ref (jxb x + o)), some (.int (nI p))]) rfl rfl ?_
  refine J_aload_n (pc := 0) dX4_paceOf_0 rfl ?_
  refine K_getR (pc := 1) (t := o + 1) dX4_paceOf_1 kf_X4_15 (jSt_obj ho) (jSt_ref ho 0 (by decide)) ?_
  refine J_iload_n (pc := 4) dX4_paceOf_4 rfl ?_
  refine K_ialdn (pc := 5) (id := (o + 1)) dX4_paceOf_5 (jSt_arr ho 0 (by decide)) (by omega) (by decide) ?_
  by_cases c6_1 : ((m (o + 1) p)) = nI 1
  ·
    refine J_tsIn (pc := 6) (tgt := 40) (off := 34) dX4_paceOf_6 (by rw [c6_1]; decide) (by rw [c6_1]; decide) (by rw [c6_1]; rfl) (by decide) ?_
    refine J_aload_n (pc := 40) dX4_paceOf_40 rfl ?_
    refine K_getR (pc := 41) (t := o + 3) dX4_paceOf_41 kf_X4_22 (jSt_obj ho) (jSt_ref ho 2 (by decide)) ?_
    refine J_iload_n (pc := 44) dX4_paceOf_44 rfl ?_
    refine K_ialdn (pc := 45) (id := (o + 3)) dX4_paceOf_45 (jSt_arr ho 2 (by decide)) (by omega) (by decide) ?_
    refine J_iconst (pc := 46) dX4_paceOf_46 kni_4 ?_
    refine J_icmp_le (pc := 47) (tgt := 54) dX4_paceOf_47 (by decide) (fun h47 => ?_) (fun h47 => ?_)
    · 
      refine J_iconst (pc := 54) dX4_paceOf_54 kni_1 ?_
      refine K_iret (pc := 55) dX4_paceOf_55 rfl ⟨_, rfl, ?_⟩
      refine ⟨?_, rfl⟩
      unfold paceS paceV
      rw [if_pos c6_1]
      all_goals first | rfl | exact (if_neg (Int32.not_lt.mpr h47)).symm | exact (if_pos (Int32.not_le.mp h47)).symm
    · 
      refine J_iconst (pc := 50) dX4_paceOf_50 kni_2 ?_
      refine J_goto (pc := 51) (tgt := 55) dX4_paceOf_51 (by decide) ?_
      refine K_iret (pc := 55) dX4_paceOf_55 rfl ⟨_, rfl, ?_⟩
      refine ⟨?_, rfl⟩
      unfold paceS paceV
      rw [if_pos c6_1]
      all_goals first | rfl | exact (if_neg (Int32.not_lt.mpr h47)).symm | exact (if_pos (Int32.not_le.mp h47)).symm
  by_cases c6_2 : ((m (o + 1) p)) = nI 2
  ·
    refine J_tsIn (pc := 6) (tgt := 56) (off := 50) dX4_paceOf_6 (by rw [c6_2]; decide) (by rw [c6_2]; decide) (by rw [c6_2]; rfl) (by decide) ?_
    refine J_iconst (pc := 56) dX4_paceOf_56 kni_2 ?_
    refine K_iret (pc := 57) dX4_paceOf_57 rfl ⟨_, rfl, ?_⟩
    refine ⟨?_, rfl⟩
    unfold paceS paceV
    rw [if_neg c6_1, if_pos c6_2]
    all_goals first | rfl | exact (if_neg (Int32.not_lt.mpr h47)).symm | exact (if_pos (Int32.not_le.mp h47)).symm
  by_cases c6_3 : ((m (o + 1) p)) = nI 3
  ·
    refine J_tsIn (pc := 6) (tgt := 58) (off := 52) dX4_paceOf_6 (by rw [c6_3]; decide) (by rw [c6_3]; decide) (by rw [c6_3]; rfl) (by decide) ?_
    refine J_bipush (pc := 58) dX4_paceOf_58 knb_9 ?_
    refine K_iret (pc := 60) dX4_paceOf_60 rfl ⟨_, rfl, ?_⟩
    refine ⟨?_, rfl⟩
    unfold paceS paceV
    rw [if_neg c6_1, if_neg c6_2, if_pos c6_3]
    all_goals first | rfl | exact (if_neg (Int32.not_lt.mpr h47)).symm | exact (if_pos (Int32.not_le.mp h47)).symm
  by_cases c6_4 : ((m (o + 1) p)) = nI 4
  ·
    refine J_tsIn (pc := 6) (tgt := 63) (off := 57) dX4_paceOf_6 (by rw [c6_4]; decide) (by rw [c6_4]; decide) (by rw [c6_4]; rfl) (by decide) ?_
    refine J_iconst (pc := 63) dX4_paceOf_63 kni_1 ?_
    refine K_iret (pc := 64) dX4_paceOf_64 rfl ⟨_, rfl, ?_⟩
    refine ⟨?_, rfl⟩
    unfold paceS paceV
    rw [if_neg c6_1, if_neg c6_2, if_neg c6_3, if_pos c6_4]
    all_goals first | rfl | exact (if_neg (Int32.not_lt.mpr h47)).symm | exact (if_pos (Int32.not_le.mp h47)).symm
  by_cases c6_5 : ((m (o + 1) p)) = nI 5
  ·
    refine J_tsIn (pc := 6) (tgt := 61) (off := 55) dX4_paceOf_6 (by rw [c6_5]; decide) (by rw [c6_5]; decide) (by rw [c6_5]; rfl) (by decide) ?_
    refine J_iconst (pc := 61) dX4_paceOf_61 kni_0 ?_
    refine K_iret (pc := 62) dX4_paceOf_62 rfl ⟨_, rfl, ?_⟩
    refine ⟨?_, rfl⟩
    unfold paceS paceV
    rw [if_neg c6_1, if_neg c6_2, if_neg c6_3, if_neg c6_4, if_pos c6_5]
    all_goals first | rfl | exact (if_neg (Int32.not_lt.mpr h47)).symm | exact (if_pos (Int32.not_le.mp h47)).symm
  refine J_tsOut (pc := 6) (tgt := 63) dX4_paceOf_6 (by have qc6_1 := jsw_ne c6_1 (by decide); have qc6_2 := jsw_ne c6_2 (by decide); have qc6_3 := jsw_ne c6_3 (by decide); have qc6_4 := jsw_ne c6_4 (by decide); have qc6_5 := jsw_ne c6_5 (by decide); omega) (by decide) ?_
  refine J_iconst (pc := 63) dX4_paceOf_63 kni_1 ?_
  refine K_iret (pc := 64) dX4_paceOf_64 rfl ⟨_, rfl, ?_⟩
  refine ⟨?_, rfl⟩
  unfold paceS paceV
  rw [if_neg c6_1, if_neg c6_2, if_neg c6_3, if_neg c6_4, if_neg c6_5]
  all_goals first | rfl | exact (if_neg (Int32.not_lt.mpr h47)).symm | exact (if_pos (Int32.not_le.mp h47)).symm
set_option maxRecDepth 100000 in
set_option maxHeartbeats 4000000 in
theorem c_givenBy {x : jX} {m : jm} {d : Nat}{o p : Nat} (ho : jSt o) (hp : p < 48) : Ct x d eX4_givenBy [.ref (jxb x + o), .int (nI p)] m (jp (givenS m o p) m) := by
  refine J_start (by decide +kernel) (Nat.le_of_ble_eq_true rfl) (ls := [some (.ref (jxb x + o)), some (.int (nI p))]) rfl rfl ?_
  refine J_aload_n (pc := 0) dX4_givenBy_0 rfl ?_
  refine K_getR (pc := 1) (t := o + 1) dX4_givenBy_1 kf_X4_15 (jSt_obj ho) (jSt_ref ho 0 (by decide)) ?_
  refine J_iload_n (pc := 4) dX4_givenBy_4 rfl ?_
  refine K_ialdn (pc := 5) (id := (o + 1)) dX4_givenBy_5 (jSt_arr ho 0 (by decide)) (by omega) (by decide) ?_
  by_cases c6_1 : ((m (o + 1) p)) = nI 1
  ·
    refine J_tsIn (pc := 6) (tgt := 36) (off := 30) dX4_givenBy_6 (by rw [c6_1]; decide) (by rw [c6_1]; decide) (by rw [c6_1]; rfl) (by decide) ?_
    refine J_aload_n (pc := 36) dX4_givenBy_36 rfl ?_
    refine K_getR (pc := 37) (t := o + 3) dX4_givenBy_37 kf_X4_22 (jSt_obj ho) (jSt_ref ho 2 (by decide)) ?_
    refine J_iload_n (pc := 40) dX4_givenBy_40 rfl ?_
    refine K_ialdn (pc := 41) (id := (o + 3)) dX4_givenBy_41 (jSt_arr ho 2 (by decide)) (by omega) (by decide) ?_
    refine J_ineg (pc := 42) dX4_givenBy_42 ?_
    refine J_aload_n (pc := 43) dX4_givenBy_43 rfl ?_
    refine K_getR (pc := 44) (t := o + 6) dX4_givenBy_44 kf_X4_31 (jSt_obj ho) (jSt_ref ho 5 (by decide)) ?_
    refine J_iload_n (pc := 47) dX4_givenBy_47 rfl ?_
    refine K_ialdn (pc := 48) (id := (o + 6)) dX4_givenBy_48 (jSt_arr ho 5 (by decide)) (by omega) (by decide) ?_
    refine J_imul (pc := 49) dX4_givenBy_49 ?_
    refine K_iret (pc := 50) dX4_givenBy_50 rfl ⟨_, rfl, ?_⟩
    refine ⟨?_, rfl⟩
    unfold givenS givenV
    rw [if_pos c6_1]
    all_goals first | rfl | exact (if_neg (Int32.not_lt.mpr h47)).symm | exact (if_pos (Int32.not_le.mp h47)).symm
  by_cases c6_2 : ((m (o + 1) p)) = nI 2
  ·
    refine J_tsIn (pc := 6) (tgt := 51) (off := 45) dX4_givenBy_6 (by rw [c6_2]; decide) (by rw [c6_2]; decide) (by rw [c6_2]; rfl) (by decide) ?_
    refine J_iconst (pc := 51) dX4_givenBy_51 kni_2 ?_
    refine J_aload_n (pc := 52) dX4_givenBy_52 rfl ?_
    refine K_getR (pc := 53) (t := o + 6) dX4_givenBy_53 kf_X4_31 (jSt_obj ho) (jSt_ref ho 5 (by decide)) ?_
    refine J_iload_n (pc := 56) dX4_givenBy_56 rfl ?_
    refine K_ialdn (pc := 57) (id := (o + 6)) dX4_givenBy_57 (jSt_arr ho 5 (by decide)) (by omega) (by decide) ?_
    refine J_imul (pc := 58) dX4_givenBy_58 ?_
    refine K_iret (pc := 59) dX4_givenBy_59 rfl ⟨_, rfl, ?_⟩
    refine ⟨?_, rfl⟩
    unfold givenS givenV
    rw [if_neg c6_1, if_pos c6_2]
    all_goals first | rfl | exact (if_neg (Int32.not_lt.mpr h47)).symm | exact (if_pos (Int32.not_le.mp h47)).symm
  by_cases c6_3 : ((m (o + 1) p)) = nI 3
  ·
    refine J_tsIn (pc := 6) (tgt := 60) (off := 54) dX4_givenBy_6 (by rw [c6_3]; decide) (by rw [c6_3]; decide) (by rw [c6_3]; rfl) (by decide) ?_
    refine J_iconst (pc := 60) dX4_givenBy_60 kni_2 ?_
    refine J_aload_n (pc := 61) dX4_givenBy_61 rfl ?_
    refine K_getR (pc := 62) (t := o + 6) dX4_givenBy_62 kf_X4_31 (jSt_obj ho) (jSt_ref ho 5 (by decide)) ?_
    refine J_iload_n (pc := 65) dX4_givenBy_65 rfl ?_
    refine K_ialdn (pc := 66) (id := (o + 6)) dX4_givenBy_66 (jSt_arr ho 5 (by decide)) (by omega) (by decide) ?_
    refine J_imul (pc := 67) dX4_givenBy_67 ?_
    refine J_aload_n (pc := 68) dX4_givenBy_68 rfl ?_
    refine K_getR (pc := 69) (t := o + 3) dX4_givenBy_69 kf_X4_22 (jSt_obj ho) (jSt_ref ho 2 (by decide)) ?_
    refine J_iload_n (pc := 72) dX4_givenBy_72 rfl ?_
    refine K_ialdn (pc := 73) (id := (o + 3)) dX4_givenBy_73 (jSt_arr ho 2 (by decide)) (by omega) (by decide) ?_
    refine J_iadd (pc := 74) dX4_givenBy_74 ?_
    refine K_iret (pc := 75) dX4_givenBy_75 rfl ⟨_, rfl, ?_⟩
    refine ⟨?_, rfl⟩
    unfold givenS givenV
    rw [if_neg c6_1, if_neg c6_2, if_pos c6_3]
    all_goals first | rfl | exact (if_neg (Int32.not_lt.mpr h47)).symm | exact (if_pos (Int32.not_le.mp h47)).symm
  by_cases c6_4 : ((m (o + 1) p)) = nI 4
  ·
    refine J_tsIn (pc := 6) (tgt := 76) (off := 70) dX4_givenBy_6 (by rw [c6_4]; decide) (by rw [c6_4]; decide) (by rw [c6_4]; rfl) (by decide) ?_
    refine J_aload_n (pc := 76) dX4_givenBy_76 rfl ?_
    refine K_getR (pc := 77) (t := o + 6) dX4_givenBy_77 kf_X4_31 (jSt_obj ho) (jSt_ref ho 5 (by decide)) ?_
    refine J_iload_n (pc := 80) dX4_givenBy_80 rfl ?_
    refine K_ialdn (pc := 81) (id := (o + 6)) dX4_givenBy_81 (jSt_arr ho 5 (by decide)) (by omega) (by decide) ?_
    refine K_iret (pc := 82) dX4_givenBy_82 rfl ⟨_, rfl, ?_⟩
    refine ⟨?_, rfl⟩
    unfold givenS givenV
    rw [if_neg c6_1, if_neg c6_2, if_neg c6_3, if_pos c6_4]
    all_goals first | rfl | exact (if_neg (Int32.not_lt.mpr h47)).symm | exact (if_pos (Int32.not_le.mp h47)).symm
  refine J_tsOut (pc := 6) (tgt := 83) dX4_givenBy_6 (by have qc6_1 := jsw_ne c6_1 (by decide); have qc6_2 := jsw_ne c6_2 (by decide); have qc6_3 := jsw_ne c6_3 (by decide); have qc6_4 := jsw_ne c6_4 (by decide); omega) (by decide) ?_
  refine J_iconst (pc := 83) dX4_givenBy_83 kni_0 ?_
  refine K_iret (pc := 84) dX4_givenBy_84 rfl ⟨_, rfl, ?_⟩
  refine ⟨?_, rfl⟩
  unfold givenS givenV
  rw [if_neg c6_1, if_neg c6_2, if_neg c6_3, if_neg c6_4]
  all_goals first | rfl | exact (if_neg (Int32.not_lt.mpr h47)).symm | exact (if_pos (Int32.not_le.mp h47)).symm
