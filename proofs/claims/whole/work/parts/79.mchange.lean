/-- a loop that goes down -/
theorem dn_pos {r : Int32} {i : Nat} (h : i < tN r) : ¬ r - nI i ≤ 0 := by
  have h1 : (tN r : Int) = r.toInt := by
    have : tN r = r.toInt.toNat := rfl
    omega
  have := r.toInt_lt
  have e : (r - nI i).toInt = r.toInt - i := by
    rw [Int32.toInt_sub, nI_toInt (by omega)]
    exact Int.bmod_eq_of_le (by omega) (by omega)
  rw [Int32.le_iff_toInt_le, e, show (0 : Int32).toInt = 0 from rfl]
  omega
theorem dn_end {r : Int32} : r - nI (tN r) ≤ 0 := by
  have h1 : tN r = r.toInt.toNat := rfl
  have := r.toInt_lt
  have := r.le_toInt
  by_cases h : 0 ≤ r.toInt
  · have e : (r - nI (tN r)).toInt = r.toInt - tN r := by
      rw [Int32.toInt_sub, nI_toInt (by omega)]
      exact Int.bmod_eq_of_le (by omega) (by omega)
    rw [Int32.le_iff_toInt_le, e, show (0 : Int32).toInt = 0 from rfl]
    omega
  · rw [show tN r = 0 by omega, show nI 0 = 0 from rfl, Int32.sub_zero, Int32.le_iff_toInt_le, show (0 : Int32).toInt = 0 from rfl]
    omega
theorem dn_s (r : Int32) (i : Nat) : r - nI i + Int32.ofInt (-1) = r - nI (i + 1) := by
  have e : r - (nI i + nI 1) = r - nI i - nI 1 := by rw [Int32.sub_eq_add_neg, Int32.neg_add, Int32.sub_eq_add_neg (-nI i), ← Int32.add_assoc, ← Int32.sub_eq_add_neg, ← Int32.sub_eq_add_neg]
  rw [← nI_add i 1, e, Int32.sub_eq_add_neg (r - nI i) (nI 1)]
  rfl
theorem rstR_c {m m' : jm} (h : m' 141 = m 141) : ∀ P, rstR m' P = rstR m P
  | 0 => rfl
  | p + 1 => by
    have ea : aimR m' 141 p = aimR m 141 p := by unfold aimR drwR grp nrv; rw [h]
    have ef : farR m' p = farR m p := by unfold farR; rw [ea, h]
    have ep : pacR m' 141 p = pacR m 141 p := by unfold pacR; rw [h]
    have es : stepsR m' p = stepsR m p := by unfold stepsR; rw [ef, ep]
    unfold rstR
    rw [rstR_c h p, es]
def mxR (f : Nat → Int32) (a : Int32) : Nat → Int32
  | 0 => a
  | k + 1 => if mxR f a k < f k then f k else mxR f a k
/-- ticks, each with its light -/
def cM (m : jm) (P : Nat) : Nat → jm
  | 0 => m
  | i + 1 => litM (tckR (cM m P i) P) P
def chF (m : jm) (P i k : Nat) : Int32 := sizV (finR (tckR (cM m P i) P) P k - tckR (cM m P i) P 141 (40 + k))
def cgR (m : jm) (P : Nat) : Nat → Int32
  | 0 => nI 0
  | i + 1 => mxR (chF m P i) (cgR m P i) 48
theorem cM_j {m : jm} {P j : Nat} (h : j < 40 ∨ 88 ≤ j) (h1 : j ≠ 1) (h2 : ∀ q, q < P → j ≠ 90 + 6 * q + 5) : ∀ i, cM m P i 141 j = m 141 j
  | 0 => rfl
  | i + 1 => (congrFun (lit_141 (by decide) (by decide)) j).trans ((tck_j h h1 h2).trans (cM_j h h1 h2 i))
theorem cM_i {m : jm} {P i : Nat} (h : i ≠ 140) (h1 : i ≠ 141) (h7 : i ≠ 147) (h8 : i ≠ 148) : ∀ k, cM m P k i = m i
  | 0 => rfl
  | k + 1 => (lit_141 h7 h8).trans ((tck_i h h1 h7 h8).trans (cM_i h h1 h7 h8 k))
theorem stp_140 {m : jm} {P k : Nat} : tckR m P 140 k = if k = 33 then nI 0 else m 140 k := by
  unfold tckR
  by_cases e : k = 33
  · subst e
    rw [mup_s, if_pos rfl]
  · rw [mup_j e, mup_i (by decide), stpR_i (by decide) P, lit_141 (by decide) (by decide), if_neg e]
theorem cM_140 {m : jm} {P k : Nat} (h : k ≠ 33) : ∀ i, cM m P i 140 k = m 140 k
  | 0 => rfl
  | i + 1 => (congrFun (lit_141 (by decide) (by decide)) k).trans (stp_140.trans ((if_neg h).trans (cM_140 h i)))
theorem cM_33 {m : jm} {P : Nat} : ∀ i, cM m P i 140 33 = nI 0 ∨ cM m P i 140 33 = m 140 33
  | 0 => Or.inr rfl
  | i + 1 => Or.inl ((congrFun (lit_141 (by decide) (by decide)) 33).trans (stp_140.trans (if_pos rfl)))
set_option maxRecDepth 100000 in
set_option maxHeartbeats 400000 in
theorem m_change {x : jX} {m : jm} {d : Nat} {P : Nat} (hP : m 141 0 = nI P) (h48 : P ≤ 48) (hplc : ∀ p, p < P → vp_in (m 141 (90 + 6 * p + 1)) 48) (hw : wfR m 141) : Ct x (d + 6) eX8_change [.ref (jxb x + 140)] m (ji fun rv m' => rv = cgR (mfill m 143 3450 (m 141)) P (tN (rstR m P)) ∧ exs [140, 141, 143, 147, 148] m m' ∧ (∀ k, k ≠ 33 → m' 140 k = m 140 k) ∧ (m' 140 33 = nI 0 ∨ m' 140 33 = m 140 33) ∧ m' 141 = m 141) := by
  refine J_start (by decide +kernel) (Nat.le_of_ble_eq_true rfl) (ls := [some (.ref (jxb x + 140)), none, none, none, none]) rfl rfl ?_
  refine J_aload_n (pc := 0) dX8_change_0 rfl ?_
  refine J_aload_n (pc := 1) dX8_change_1 rfl ?_
  refine K_getR (pc := 2) dX8_change_2 kf_X8_7 job_140 jrf_140_0 ?_
  refine J_aload_n (pc := 5) dX8_change_5 rfl ?_
  refine K_getR (pc := 6) dX8_change_6 kf_X8_16 job_140 jrf_140_2 ?_
  refine K_callVv (pc := 9) (id := 140) (As := [_, _]) dX8_change_9 kl_X8_151 rfl job_140 rfl rfl (Nat.le_of_ble_eq_true rfl) (m_setAside (m := m) (ar := 141) (ar2 := 143) (nn := 3450) jar_141 jar_143 rfl (by decide)) (fun m9 h9 => ?_)
  subst h9
  have e1 : (mfill m 143 3450 (m 141)) 141 = m 141 := mfill_i' (by decide)
  refine J_iconst (pc := 12) dX8_change_12 kni_0 ?_
  refine J_istore_n (pc := 13) (ls' := [some _, some _, none, none, none]) dX8_change_13 rfl (Nat.le_of_ble_eq_true rfl) rfl ?_
  refine J_aload_n (pc := 14) dX8_change_14 rfl ?_
  refine K_callVp (pc := 15) (id := 140) (As := []) dX8_change_15 kl_X8_155 rfl job_140 rfl rfl (Nat.le_of_ble_eq_true rfl) (m_still (m := (mfill m 143 3450 (m 141))) (P := P) ((congrFun e1 0).trans hP) h48 ⟨fun p hp => by rw [e1]; exact hw.1 p hp, fun j hj => by rw [e1]; exact hw.2 j hj⟩) ?_
  refine J_top (b := ((rstR m P) - nI 0)) (by rw [show rstR (mfill m 143 3450 (m 141)) P = rstR m P from rstR_c e1 P]; exact (Int32.sub_zero _).symm) ?_
  refine J_istore_n (pc := 18) (ls' := [some _, some _, some _, none, none]) dX8_change_18 rfl (Nat.le_of_ble_eq_true rfl) rfl ?_
  refine K_for' (pc := 19) (tN (rstR m P)) (fun i => [some (.ref (jxb x + 140)), some (.int ((cgR (mfill m 143 3450 (m 141)) P i))), some (.int (((rstR m P) - nI i))), none, none]) (fun i => (cM (mfill m 143 3450 (m 141)) P i)) (by rfl) (by rfl) (fun i hi ih19 => ?_) ?_
  ·
    show K x _ _ 19 [some (.ref (jxb x + 140)), some (.int ((cgR (mfill m 143 3450 (m 141)) P i))), some (.int (((rstR m P) - nI i))), none, none] _ ((cM (mfill m 143 3450 (m 141)) P i)) _
    refine J_iload_n (pc := 19) dX8_change_19 rfl ?_
    refine J_if_le (pc := 20) (tgt := 85) dX8_change_20 (by decide) (fun h20 => absurd h20 (dn_pos hi)) (fun h20 => ?_)
    refine J_aload_n (pc := 23) dX8_change_23 rfl ?_
    refine K_callVv (pc := 24) (id := 140) (As := []) dX8_change_24 kl_X8_144 rfl job_140 rfl rfl (Nat.le_of_ble_eq_true rfl) (m_oneTick (m := (cM (mfill m 143 3450 (m 141)) P i)) (P := P) ((cM_j (by omega) (by omega) (fun q hq => by omega) i).trans ((congrFun e1 0).trans hP)) h48 (fun p hp => by rw [cM_j (by omega) (by omega) (fun q hq => by omega) i, e1]; exact hplc p hp) (wfR_c' hw (fun j hj => by rw [cM_j (by omega) (by omega) (fun q hq => by omega) i, e1]))) (fun m24 h24 => ?_)
    subst h24
    refine J_aload_n (pc := 27) dX8_change_27 rfl ?_
    refine K_callVv (pc := 28) (id := 140) (As := []) dX8_change_28 kl_X8_130 rfl job_140 rfl rfl (Nat.le_of_ble_eq_true rfl) (m_findLight (m := tckR (cM (mfill m 143 3450 (m 141)) P i) P) (P := P) ((tck_j (by omega) (by omega) (fun q hq => by omega)).trans ((cM_j (by omega) (by omega) (fun q hq => by omega) i).trans ((congrFun e1 0).trans hP))) h48 (fun p hp => by rw [tck_j (by omega) (by omega) (fun q hq => by omega), cM_j (by omega) (by omega) (fun q hq => by omega) i, e1]; exact hplc p hp)) (fun m28 h28 => ?_)
    subst h28
    refine J_iconst (pc := 31) dX8_change_31 kni_0 ?_
    refine J_istore_n (pc := 32) (ls' := [some _, some _, some _, some _, none]) dX8_change_32 rfl (Nat.le_of_ble_eq_true rfl) rfl ?_
    refine J_wk (ls' := [some (.ref (jxb x + 140)), some (.int ((cgR (mfill m 143 3450 (m 141)) P i))), some (.int (((rstR m P) - nI i))), some (.int (nI 0)), none]) rfl (by rintro (_ | _ | _ | _ | _ | k) v hv <;> first | exact hv | cases hv) ?_
    refine K_for' (pc := 33) 48 (fun k => [some (.ref (jxb x + 140)), some (.int ((mxR (chF (mfill m 143 3450 (m 141)) P i) (cgR (mfill m 143 3450 (m 141)) P i) k))), some (.int (((rstR m P) - nI i))), some (.int (nI k)), none]) (fun k => (litM (tckR (cM (mfill m 143 3450 (m 141)) P i) P) P)) (by rfl) (by rfl) (fun k hk ih33 => ?_) ?_
    ·
      show K x _ _ 33 [some (.ref (jxb x + 140)), some (.int ((mxR (chF (mfill m 143 3450 (m 141)) P i) (cgR (mfill m 143 3450 (m 141)) P i) k))), some (.int (((rstR m P) - nI i))), some (.int (nI k)), none] _ ((litM (tckR (cM (mfill m 143 3450 (m 141)) P i) P) P)) _
      refine J_iload_n (pc := 33) dX8_change_33 rfl ?_
      refine J_bipush (pc := 34) dX8_change_34 knb_48 ?_
      refine Jn_ge (pc := 36) (tgt := 79) dX8_change_36 (by decide) (by omega) (by omega) (fun h36 => absurd h36 (by omega)) (fun h36 => ?_)
      refine J_aload_n (pc := 39) dX8_change_39 rfl ?_
      refine K_getR (pc := 40) dX8_change_40 kf_X8_28 job_140 jrf_140_7 ?_
      refine J_iload_n (pc := 43) dX8_change_43 rfl ?_
      refine K_ialdn (pc := 44) (id := 147) dX8_change_44 jar_147 (by omega) (by decide) ?_
      refine J_top (b := (finR (tckR (cM (mfill m 143 3450 (m 141)) P i) P) P k)) (mfill_lt hk) ?_
      refine J_aload_n (pc := 45) dX8_change_45 rfl ?_
      refine K_getR (pc := 46) dX8_change_46 kf_X8_7 job_140 jrf_140_0 ?_
      refine J_bipush (pc := 49) dX8_change_49 knb_40 ?_
      refine J_iload_n (pc := 51) dX8_change_51 rfl ?_
      refine J_iaddv (pc := 52) dX8_change_52 (nI_add _ _) ?_
      refine K_ialdn (pc := 53) (id := 141) dX8_change_53 jar_141 (by omega) (by decide) ?_
      refine J_top (b := (tckR (cM (mfill m 143 3450 (m 141)) P i) P 141 (40 + k))) (congrFun (lit_141 (by decide) (by decide)) _) ?_
      refine J_isub (pc := 54) dX8_change_54 ?_
      refine K_callSp (pc := 55) (As := [_]) dX8_change_55 kl_X8_139 rfl rfl (Nat.le_of_ble_eq_true rfl) (m_size _) ?_
      refine J_top (b := (chF (mfill m 143 3450 (m 141)) P i k)) (rfl) ?_
      refine J_istore (pc := 58) (ls' := [some _, some _, some _, some _, some _]) dX8_change_58 rfl (Nat.le_of_ble_eq_true rfl) rfl ?_
      refine J_iload (pc := 60) dX8_change_60 rfl ?_
      refine J_iload_n (pc := 62) dX8_change_62 rfl ?_
      refine J_icmp_le (pc := 63) (tgt := 71) dX8_change_63 (by decide) (fun h63 => ?_) (fun h63 => ?_)
      · 
        refine J_iload_n (pc := 71) dX8_change_71 rfl ?_
        refine J_istore_n (pc := 72) (ls' := [some _, some _, some _, some _, some _]) dX8_change_72 rfl (Nat.le_of_ble_eq_true rfl) rfl ?_
        refine Jn_iinc (pc := 73) (ls' := [some _, some _, some _, some _, some _]) dX8_change_73 rfl knz_1 rfl rfl ?_
        refine J_goto (pc := 76) (tgt := 33) dX8_change_76 (by decide) ?_
        have ev : mxR (chF (mfill m 143 3450 (m 141)) P i) (cgR (mfill m 143 3450 (m 141)) P i) (k + 1) = mxR (chF (mfill m 143 3450 (m 141)) P i) (cgR (mfill m 143 3450 (m 141)) P i) k := if_neg (Int32.not_lt.mpr h63)
        rw [ev] at ih33
        refine J_wk' ih33 rfl ?_
        rintro (_ | _ | _ | _ | _ | _ | _ | _ | _ | _ | k) v hv <;> first | exact hv | cases hv
      · 
        refine J_iload (pc := 66) dX8_change_66 rfl ?_
        refine J_goto (pc := 68) (tgt := 72) dX8_change_68 (by decide) ?_
        refine J_istore_n (pc := 72) (ls' := [some _, some _, some _, some _, some _]) dX8_change_72 rfl (Nat.le_of_ble_eq_true rfl) rfl ?_
        refine Jn_iinc (pc := 73) (ls' := [some _, some _, some _, some _, some _]) dX8_change_73 rfl knz_1 rfl rfl ?_
        refine J_goto (pc := 76) (tgt := 33) dX8_change_76 (by decide) ?_
        have ev : mxR (chF (mfill m 143 3450 (m 141)) P i) (cgR (mfill m 143 3450 (m 141)) P i) (k + 1) = chF (mfill m 143 3450 (m 141)) P i k := if_pos (Int32.not_le.mp h63)
        rw [ev] at ih33
        refine J_wk' ih33 rfl ?_
        rintro (_ | _ | _ | _ | _ | _ | _ | _ | _ | _ | k) v hv <;> first | exact hv | cases hv
    ·
      show K x _ _ 33 [some (.ref (jxb x + 140)), some (.int ((mxR (chF (mfill m 143 3450 (m 141)) P i) (cgR (mfill m 143 3450 (m 141)) P i) 48))), some (.int (((rstR m P) - nI i))), some (.int (nI 48)), none] _ ((litM (tckR (cM (mfill m 143 3450 (m 141)) P i) P) P)) _
      refine J_iload_n (pc := 33) dX8_change_33 rfl ?_
      refine J_bipush (pc := 34) dX8_change_34 knb_48 ?_
      refine Jn_ge (pc := 36) (tgt := 79) dX8_change_36 (by decide) (by omega) (by omega) (fun h36 => ?_) (fun h36 => absurd h36 (by omega))
      refine J_iinc (pc := 79) (v := _) (ls' := [some _, some _, some _, some _, none]) dX8_change_79 rfl rfl rfl rfl ?_
      refine J_goto (pc := 82) (tgt := 19) dX8_change_82 (by decide) ?_
      have ec : cgR (mfill m 143 3450 (m 141)) P (i + 1) = mxR (chF (mfill m 143 3450 (m 141)) P i) (cgR (mfill m 143 3450 (m 141)) P i) 48 := rfl
      rw [ec] at ih19
      rw [dn_s]
      refine J_wk' ih19 rfl ?_
      rintro (_ | _ | _ | _ | _ | _ | _ | _ | _ | _ | k) v hv <;> first | exact hv | cases hv
  ·
    show K x _ _ 19 [some (.ref (jxb x + 140)), some (.int ((cgR (mfill m 143 3450 (m 141)) P (tN (rstR m P))))), some (.int (((rstR m P) - nI (tN (rstR m P))))), none, none] _ ((cM (mfill m 143 3450 (m 141)) P ((tN (rstR m P))))) _
    refine J_iload_n (pc := 19) dX8_change_19 rfl ?_
    refine J_if_le (pc := 20) (tgt := 85) dX8_change_20 (by decide) (fun h20 => ?_) (fun h20 => absurd h20 (fun z => z dn_end))
    refine J_aload_n (pc := 85) dX8_change_85 rfl ?_
    refine J_aload_n (pc := 86) dX8_change_86 rfl ?_
    refine K_getR (pc := 87) dX8_change_87 kf_X8_16 job_140 jrf_140_2 ?_
    refine J_aload_n (pc := 90) dX8_change_90 rfl ?_
    refine K_getR (pc := 91) dX8_change_91 kf_X8_7 job_140 jrf_140_0 ?_
    refine K_callVv (pc := 94) (id := 140) (As := [_, _]) dX8_change_94 kl_X8_151 rfl job_140 rfl rfl (Nat.le_of_ble_eq_true rfl) (m_setAside (m := cM (mfill m 143 3450 (m 141)) P (tN (rstR m P))) (ar := 143) (ar2 := 141) (nn := 3450) jar_143 jar_141 rfl (by decide)) (fun m94 h94 => ?_)
    subst h94
    refine J_iload_n (pc := 97) dX8_change_97 rfl ?_
    refine K_iret (pc := 98) dX8_change_98 rfl ⟨_, rfl, ?_⟩
    refine ⟨rfl, fun i hi => ?_, fun k hk => ?_, ?_, ?_⟩
    · have h1 : i ≠ 140 := fun z => hi (by rw [z]; decide)
      have h2 : i ≠ 141 := fun z => hi (by rw [z]; decide)
      have h3 : i ≠ 143 := fun z => hi (by rw [z]; decide)
      have h4 : i ≠ 147 := fun z => hi (by rw [z]; decide)
      have h5 : i ≠ 148 := fun z => hi (by rw [z]; decide)
      rw [mfill_i' h2, cM_i h1 h2 h4 h5, mfill_i' h3]
    · rw [mfill_i (by decide), cM_140 hk, mfill_i (by decide)]
    · rw [mfill_i (by decide)]
      rcases cM_33 (m := (mfill m 143 3450 (m 141))) (P := P) (tN (rstR m P)) with z | z
      · exact Or.inl z
      · exact Or.inr (z.trans (mfill_i (by decide)))
    · funext j
      by_cases hj : j < 3450
      · rw [mfill_lt hj, cM_i (by decide) (by decide) (by decide) (by decide), mfill_lt hj]
      · rw [mfill_ge (by omega), cM_j (by omega) (by omega) (fun q hq => by omega), mfill_i (by decide)]
