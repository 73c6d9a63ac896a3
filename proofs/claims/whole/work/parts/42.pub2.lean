def F_show (m : jm) (p w : Int32) : Int32 × jm :=
  if ¬ (nI 0 ≤ p ∧ p ≤ nI 47) then (-1000000001, m) else if w = nI 0 then (lightS m 1 (tN p), m) else if w = nI 1 then (m 9 (tN p), m) else if w = nI 2 then (m 8 (tN p), m) else if w = nI 3 then (hgtS m 1 (tN p), m) else (-1000000001, m)
set_option maxRecDepth 100000 in
set_option maxHeartbeats 400000 in
theorem p_show {x : jX} {m : jm} {d : Nat} (p w : Int32) (hat : wfAt m 1) : Ct x (d + 3) eX7_show [.ref (jxb x + 0), .int p, .int w] m (ji fun rv m' => (rv, m') = F_show m p w) := by
  refine J_start (by decide +kernel) (Nat.le_of_ble_eq_true rfl) (ls := [some (.ref (jxb x + 0)), some (.int p), some (.int w)]) rfl rfl ?_
  refine J_iload_n (pc := 0) dX7_show_0 rfl ?_
  refine J_iconst (pc := 1) dX7_show_1 kni_0 ?_
  refine J_bipush (pc := 2) dX7_show_2 knb_47 ?_
  refine K_callSp (pc := 4) (As := [_, _, _]) dX7_show_4 kl_X7_76 rfl rfl (Nat.le_of_ble_eq_true rfl) (c_within _ _ _) ?_
  refine Jb_ne (pc := 7) (tgt := 13) dX7_show_7 (by decide) (fun h7 => ?_) (fun h7 => ?_)
  · 
    obtain ⟨q, hq, hqe⟩ := w_of h7 (by decide)
    have htq : tN p = q := by rw [hqe]; exact tN_n (by omega)
    subst hqe
    refine J_iload_n (pc := 13) dX7_show_13 rfl ?_
    by_cases c14_0 : w = nI 0
    ·
      refine J_tsIn (pc := 14) (tgt := 44) (off := 30) dX7_show_14 (by rw [c14_0]; decide) (by rw [c14_0]; decide) (by rw [c14_0]; rfl) (by decide) ?_
      refine J_aload_n (pc := 44) dX7_show_44 rfl ?_
      refine K_getR (pc := 45) dX7_show_45 kf_X7_10 job_0 jrf_0_0 ?_
      refine J_iload_n (pc := 48) dX7_show_48 rfl ?_
      refine K_callVp (pc := 49) (id := 1) (As := [_]) dX7_show_49 kl_X7_149 rfl job_1 rfl rfl (Nat.le_of_ble_eq_true rfl) (c_lightAt (o := 1) (Or.inl rfl) (by omega) hat) ?_
      refine K_iret (pc := 52) dX7_show_52 rfl ⟨_, rfl, ?_⟩
      show (_, _) = _
      unfold F_show
      rw [htq]
      try first | rw [if_pos h7] | rw [if_neg h7] | rw [if_neg (Classical.not_not.mpr h7)]
      try first | rw [if_pos c14_0] | rw [if_neg c14_0] | rw [if_neg (Classical.not_not.mpr c14_0)]
      try rfl
    by_cases c14_1 : w = nI 1
    ·
      refine J_tsIn (pc := 14) (tgt := 53) (off := 39) dX7_show_14 (by rw [c14_1]; decide) (by rw [c14_1]; decide) (by rw [c14_1]; rfl) (by decide) ?_
      refine J_aload_n (pc := 53) dX7_show_53 rfl ?_
      refine K_getR (pc := 54) dX7_show_54 kf_X7_10 job_0 jrf_0_0 ?_
      refine K_getR (pc := 57) dX7_show_57 kf_X7_152 job_1 jrf_1_8 ?_
      refine J_iload_n (pc := 60) dX7_show_60 rfl ?_
      refine K_ialdn (pc := 61) (id := 9) dX7_show_61 jar_9 (by omega) (by decide) ?_
      refine K_iret (pc := 62) dX7_show_62 rfl ⟨_, rfl, ?_⟩
      show (_, _) = _
      unfold F_show
      rw [htq]
      try first | rw [if_pos h7] | rw [if_neg h7] | rw [if_neg (Classical.not_not.mpr h7)]
      try first | rw [if_pos c14_0] | rw [if_neg c14_0] | rw [if_neg (Classical.not_not.mpr c14_0)]
      try first | rw [if_pos c14_1] | rw [if_neg c14_1] | rw [if_neg (Classical.not_not.mpr c14_1)]
      try rfl
    by_cases c14_2 : w = nI 2
    ·
      refine J_tsIn (pc := 14) (tgt := 63) (off := 49) dX7_show_14 (by rw [c14_2]; decide) (by rw [c14_2]; decide) (by rw [c14_2]; rfl) (by decide) ?_
      refine J_aload_n (pc := 63) dX7_show_63 rfl ?_
      refine K_getR (pc := 64) dX7_show_64 kf_X7_10 job_0 jrf_0_0 ?_
      refine K_getR (pc := 67) dX7_show_67 kf_X7_81 job_1 jrf_1_7 ?_
      refine J_iload_n (pc := 70) dX7_show_70 rfl ?_
      refine K_ialdn (pc := 71) (id := 8) dX7_show_71 jar_8 (by omega) (by decide) ?_
      refine K_iret (pc := 72) dX7_show_72 rfl ⟨_, rfl, ?_⟩
      show (_, _) = _
      unfold F_show
      rw [htq]
      try first | rw [if_pos h7] | rw [if_neg h7] | rw [if_neg (Classical.not_not.mpr h7)]
      try first | rw [if_pos c14_0] | rw [if_neg c14_0] | rw [if_neg (Classical.not_not.mpr c14_0)]
      try first | rw [if_pos c14_1] | rw [if_neg c14_1] | rw [if_neg (Classical.not_not.mpr c14_1)]
      try first | rw [if_pos c14_2] | rw [if_neg c14_2] | rw [if_neg (Classical.not_not.mpr c14_2)]
      try rfl
    by_cases c14_3 : w = nI 3
    ·
      refine J_tsIn (pc := 14) (tgt := 73) (off := 59) dX7_show_14 (by rw [c14_3]; decide) (by rw [c14_3]; decide) (by rw [c14_3]; rfl) (by decide) ?_
      refine J_aload_n (pc := 73) dX7_show_73 rfl ?_
      refine K_getR (pc := 74) dX7_show_74 kf_X7_10 job_0 jrf_0_0 ?_
      refine J_iload_n (pc := 77) dX7_show_77 rfl ?_
      refine K_callVp (pc := 78) (id := 1) (As := [_]) dX7_show_78 kl_X7_155 rfl job_1 rfl rfl (Nat.le_of_ble_eq_true rfl) (c_heightAt (o := 1) (Or.inl rfl) (by omega) (hat q (by omega))) ?_
      refine K_iret (pc := 81) dX7_show_81 rfl ⟨_, rfl, ?_⟩
      show (_, _) = _
      unfold F_show
      rw [htq]
      try first | rw [if_pos h7] | rw [if_neg h7] | rw [if_neg (Classical.not_not.mpr h7)]
      try first | rw [if_pos c14_0] | rw [if_neg c14_0] | rw [if_neg (Classical.not_not.mpr c14_0)]
      try first | rw [if_pos c14_1] | rw [if_neg c14_1] | rw [if_neg (Classical.not_not.mpr c14_1)]
      try first | rw [if_pos c14_2] | rw [if_neg c14_2] | rw [if_neg (Classical.not_not.mpr c14_2)]
      try first | rw [if_pos c14_3] | rw [if_neg c14_3] | rw [if_neg (Classical.not_not.mpr c14_3)]
      try rfl
    refine J_tsOut (pc := 14) (tgt := 82) dX7_show_14 (by have qc14_0 := jsw_ne c14_0 (by decide); have qc14_1 := jsw_ne c14_1 (by decide); have qc14_2 := jsw_ne c14_2 (by decide); have qc14_3 := jsw_ne c14_3 (by decide); omega) (by decide) ?_
    refine J_ldc (pc := 82) dX7_show_82 kc_X7_80 ?_
    refine K_iret (pc := 84) dX7_show_84 rfl ⟨_, rfl, ?_⟩
    show (_, _) = _
    unfold F_show
    try first | rw [if_pos h7] | rw [if_neg h7] | rw [if_neg (Classical.not_not.mpr h7)]
    try first | rw [if_pos c14_0] | rw [if_neg c14_0] | rw [if_neg (Classical.not_not.mpr c14_0)]
    try first | rw [if_pos c14_1] | rw [if_neg c14_1] | rw [if_neg (Classical.not_not.mpr c14_1)]
    try first | rw [if_pos c14_2] | rw [if_neg c14_2] | rw [if_neg (Classical.not_not.mpr c14_2)]
    try first | rw [if_pos c14_3] | rw [if_neg c14_3] | rw [if_neg (Classical.not_not.mpr c14_3)]
    try rfl
  · 
    refine J_ldc (pc := 10) dX7_show_10 kc_X7_80 ?_
    refine K_iret (pc := 12) dX7_show_12 rfl ⟨_, rfl, ?_⟩
    show (_, _) = _
    unfold F_show
    try first | rw [if_pos h7] | rw [if_neg h7] | rw [if_neg (Classical.not_not.mpr h7)]
    try rfl
def goN (m : jm) (o P : Nat) : Nat → jm
  | 0 => m
  | k + 1 => goOnM (goN m o P k) o P
theorem goOn_i {m : jm} {o P i : Nat} (h : i ≠ o) (h6 : i ≠ o + 6) (h8 : i ≠ o + 8) : goOnM m o P i = m i := by
  unfold goOnM markM
  rw [mup_i' h, mfill_i' h6, mfill_i' h8]
theorem goOn_0 {m : jm} {o P : Nat} : goOnM m o P o 0 = m o 0 := by
  unfold goOnM markM
  rw [mup_j (by decide), mfill_i (by omega), mfill_i (by omega)]
theorem goOn_13 {m : jm} {o P : Nat} : goOnM m o P o 13 = m o 13 + nI 1 := by
  unfold goOnM
  rw [mup_s]
theorem goN_i {m : jm} {o P i : Nat} (h : i ≠ o) (h6 : i ≠ o + 6) (h8 : i ≠ o + 8) : ∀ k, goN m o P k i = m i
  | 0 => rfl
  | k + 1 => (goOn_i h h6 h8).trans (goN_i h h6 h8 k)
theorem goN_0 {m : jm} {o P : Nat} : ∀ k, goN m o P k o 0 = m o 0
  | 0 => rfl
  | k + 1 => goOn_0.trans (goN_0 k)
theorem goN_at {m : jm} {o P : Nat} (h : wfAt m o) (k : Nat) : wfAt (goN m o P k) o := fun q hq => by rw [goN_i (by omega) (by omega) (by omega) k]; exact h q hq
theorem goN_pt {m : jm} {o P : Nat} (h : wfPt m o) (k : Nat) : wfPt (goN m o P k) o := wfPt_c (goN_i (by omega) (by omega) (by omega) k) (goN_i (by omega) (by omega) (by omega) k) h
def F_tick (m : jm) (P : Nat) (n : Int32) : Int32 × jm :=
  if ¬ (nI 1 ≤ n ∧ n ≤ nI 60) then (-1000000001, m) else if ¬ m 1 13 + n ≤ nI 9999 then (-1000000003, m) else (goN m 1 P (tN n) 1 13, goN m 1 P (tN n))
theorem w_of1 {w : Int32} {k : Nat} (h : nI 1 ≤ w ∧ w ≤ nI k) (hk : k < 2 ^ 31) : ∃ q, 1 ≤ q ∧ q ≤ k ∧ w = nI q := by
  obtain ⟨q, h1, h2⟩ := w_of (w := w) (k := k) ⟨Int32.le_trans (by decide) h.1, h.2⟩ hk
  have h3 := h.1
  rw [h2, Int32.le_iff_toInt_le, nI_toInt (by decide), nI_toInt (by omega)] at h3
  exact ⟨q, by omega, h1, h2⟩
set_option maxRecDepth 100000 in
set_option maxHeartbeats 400000 in
theorem p_tick {x : jX} {m : jm} {d : Nat} (n : Int32) {P : Nat} (hP : m 1 0 = nI P) (h48 : P ≤ 48) (hat : wfAt m 1) (hw : wfPt m 1) : Ct x (d + 5) eX7_tick [.ref (jxb x + 0), .int n] m (ji fun rv m' => (rv, m') = F_tick m P n) := by
  refine J_start (by decide +kernel) (Nat.le_of_ble_eq_true rfl) (ls := [some (.ref (jxb x + 0)), some (.int n), none]) rfl rfl ?_
  refine J_iload_n (pc := 0) dX7_tick_0 rfl ?_
  refine J_iconst (pc := 1) dX7_tick_1 kni_1 ?_
  refine J_bipush (pc := 2) dX7_tick_2 knb_60 ?_
  refine K_callSp (pc := 4) (As := [_, _, _]) dX7_tick_4 kl_X7_76 rfl rfl (Nat.le_of_ble_eq_true rfl) (c_within _ _ _) ?_
  refine Jb_ne (pc := 7) (tgt := 13) dX7_tick_7 (by decide) (fun h7 => ?_) (fun h7 => ?_)
  · 
    refine J_aload_n (pc := 13) dX7_tick_13 rfl ?_
    refine K_getR (pc := 14) dX7_tick_14 kf_X7_10 job_0 jrf_0_0 ?_
    refine K_getI (pc := 17) dX7_tick_17 kf_X7_158 job_1 jrf_1_13 ?_
    refine J_iload_n (pc := 20) dX7_tick_20 rfl ?_
    refine J_iadd (pc := 21) dX7_tick_21 ?_
    refine J_sipush (pc := 22) dX7_tick_22 kns_9999 ?_
    refine J_icmp_le (pc := 25) (tgt := 31) dX7_tick_25 (by decide) (fun h25 => ?_) (fun h25 => ?_)
    · 
      obtain ⟨q, hq1, hq, hqe⟩ := w_of1 h7 (by decide)
      have htq : tN n = q := by rw [hqe]; exact tN_n (by omega)
      subst hqe
      refine J_iconst (pc := 31) dX7_tick_31 kni_0 ?_
      refine J_istore_n (pc := 32) (ls' := [some _, some _, some _]) dX7_tick_32 rfl (Nat.le_of_ble_eq_true rfl) rfl ?_
      refine K_for' (pc := 33) q (fun i => [some (.ref (jxb x + 0)), some (.int (nI q)), some (.int (nI i))]) (fun i => (goN m 1 P i)) (by rfl) (by rfl) (fun i hi ih33 => ?_) ?_
      ·
        show K x _ _ 33 [some (.ref (jxb x + 0)), some (.int (nI q)), some (.int (nI i))] _ ((goN m 1 P i)) _
        refine J_iload_n (pc := 33) dX7_tick_33 rfl ?_
        refine J_iload_n (pc := 34) dX7_tick_34 rfl ?_
        refine Jn_ge (pc := 35) (tgt := 51) dX7_tick_35 (by decide) (by omega) (by omega) (fun h35 => absurd h35 (by omega)) (fun h35 => ?_)
        refine J_aload_n (pc := 38) dX7_tick_38 rfl ?_
        refine K_getR (pc := 39) dX7_tick_39 kf_X7_10 job_0 jrf_0_0 ?_
        refine K_callVv (pc := 42) (id := 1) (As := []) dX7_tick_42 kl_X7_161 rfl job_1 rfl rfl (Nat.le_of_ble_eq_true rfl) (c_goOn (m := goN m 1 P i) (o := 1) (P := P) (Or.inl rfl) (goN_at hat i) (goN_pt hw i) ((goN_0 i).trans hP) h48) (fun m42 h42 => ?_)
        subst h42
        refine Jn_iinc (pc := 45) (ls' := [some _, some _, some _]) dX7_tick_45 rfl knz_1 rfl rfl ?_
        refine J_goto (pc := 48) (tgt := 33) dX7_tick_48 (by decide) ?_
        exact ih33
      ·
        show K x _ _ 33 [some (.ref (jxb x + 0)), some (.int (nI q)), some (.int (nI q))] _ ((goN m 1 P q)) _
        refine J_iload_n (pc := 33) dX7_tick_33 rfl ?_
        refine J_iload_n (pc := 34) dX7_tick_34 rfl ?_
        refine Jn_ge (pc := 35) (tgt := 51) dX7_tick_35 (by decide) (by omega) (by omega) (fun h35 => ?_) (fun h35 => absurd h35 (by omega))
        refine J_aload_n (pc := 51) dX7_tick_51 rfl ?_
        refine K_getR (pc := 52) dX7_tick_52 kf_X7_10 job_0 jrf_0_0 ?_
        refine K_getI (pc := 55) dX7_tick_55 kf_X7_158 job_1 jrf_1_13 ?_
        refine K_iret (pc := 58) dX7_tick_58 rfl ⟨_, rfl, ?_⟩
        show (_, _) = _
        unfold F_tick
        rw [htq]
        try first | rw [if_pos h7] | rw [if_neg h7] | rw [if_neg (Classical.not_not.mpr h7)]
        try first | rw [if_pos h25] | rw [if_neg h25] | rw [if_neg (Classical.not_not.mpr h25)]
        try first | rw [if_pos h35] | rw [if_neg h35] | rw [if_neg (Classical.not_not.mpr h35)]
        try rfl
    · 
      refine J_ldc (pc := 28) dX7_tick_28 kc_X7_89 ?_
      refine K_iret (pc := 30) dX7_tick_30 rfl ⟨_, rfl, ?_⟩
      show (_, _) = _
      unfold F_tick
      try first | rw [if_pos h7] | rw [if_neg h7] | rw [if_neg (Classical.not_not.mpr h7)]
      try first | rw [if_pos h25] | rw [if_neg h25] | rw [if_neg (Classical.not_not.mpr h25)]
      try rfl
  · 
    refine J_ldc (pc := 10) dX7_tick_10 kc_X7_80 ?_
    refine K_iret (pc := 12) dX7_tick_12 rfl ⟨_, rfl, ?_⟩
    show (_, _) = _
    unfold F_tick
    try first | rw [if_pos h7] | rw [if_neg h7] | rw [if_neg (Classical.not_not.mpr h7)]
    try rfl
set_option maxRecDepth 100000 in
set_option maxHeartbeats 400000 in
theorem p_rest {x : jX} {m : jm} {d : Nat} {P : Nat} (hP : m 1 0 = nI P) (h48 : P ≤ 48) (hat : wfAt m 1) (hw : wfPt m 1) : Ct x (d + 4) eX7_rest [.ref (jxb x + 0)] m (ji fun rv m' => (rv, m') = (nI (cnt (chgS m 1) P), markM (settleM m 1 P) 1)) := by
  refine J_start (by decide +kernel) (Nat.le_of_ble_eq_true rfl) (ls := [some (.ref (jxb x + 0)), none]) rfl rfl ?_
  refine J_aload_n (pc := 0) dX7_rest_0 rfl ?_
  refine K_getR (pc := 1) dX7_rest_1 kf_X7_10 job_0 jrf_0_0 ?_
  refine K_callVi (pc := 4) (id := 1) (As := []) dX7_rest_4 kl_X7_164 rfl job_1 rfl rfl (Nat.le_of_ble_eq_true rfl) (c_settle (m := m) (o := 1) (P := P) (Or.inl rfl) hw hP h48) (fun v4 m4 h4 => ?_)
  obtain ⟨rfl, rfl⟩ := h4
  refine J_istore_n (pc := 7) (ls' := [some _, some _]) dX7_rest_7 rfl (Nat.le_of_ble_eq_true rfl) rfl ?_
  refine J_aload_n (pc := 8) dX7_rest_8 rfl ?_
  refine K_getR (pc := 9) dX7_rest_9 kf_X7_10 job_0 jrf_0_0 ?_
  refine K_callVv (pc := 12) (id := 1) (As := []) dX7_rest_12 kl_X7_168 rfl job_1 rfl rfl (Nat.le_of_ble_eq_true rfl) (c_markWas (m := settleM m 1 P) (o := 1) (Or.inl rfl) (fun q hq => by rw [show settleM m 1 P (1 + 7) q = m 8 q from mfill_i (by decide)]; exact hat q hq)) (fun m12 h12 => ?_)
  subst h12
  refine J_iload_n (pc := 15) dX7_rest_15 rfl ?_
  refine K_iret (pc := 16) dX7_rest_16 rfl ⟨_, rfl, ?_⟩
  rfl
set_option maxRecDepth 100000 in
set_option maxHeartbeats 400000 in
theorem p_still {x : jX} {m : jm} {d : Nat} {P : Nat} (hP : m 1 0 = nI P) (h48 : P ≤ 48) (hw : wfPt m 1) : Ct x (d + 3) eX7_still [.ref (jxb x + 0)] m (ji fun rv m' => (rv, m') = (restS m 1 P, m)) := by
  refine J_start (by decide +kernel) (Nat.le_of_ble_eq_true rfl) (ls := [some (.ref (jxb x + 0))]) rfl rfl ?_
  refine J_aload_n (pc := 0) dX7_still_0 rfl ?_
  refine K_getR (pc := 1) dX7_still_1 kf_X7_10 job_0 jrf_0_0 ?_
  refine K_callVp (pc := 4) (id := 1) (As := []) dX7_still_4 kl_X7_171 rfl job_1 rfl rfl (Nat.le_of_ble_eq_true rfl) (c_ticksToRest (o := 1) (P := P) (Or.inl rfl) hw hP h48) ?_
  refine K_iret (pc := 7) dX7_still_7 rfl ⟨_, rfl, ?_⟩
  rfl
def F_line (m : jm) (l s n : Int32) : Int32 × jm :=
  if ¬ (nI 0 ≤ l ∧ l ≤ nI 23) then (-1000000001, m) else if ¬ (-1 ≤ s ∧ s ≤ nI 1) then (-1000000001, m) else if s = -1 then (nI 0, makeM m (tN l) (-1) (nI 0)) else if ¬ n ≤ nI 24 then (-1000000001, m) else if ¬ 0 ≤ n then (-1000000014, m) else (n, makeM m (tN l) s n)
set_option maxRecDepth 100000 in
set_option maxHeartbeats 400000 in
theorem p_line {x : jX} {m : jm} {d : Nat} (l s n : Int32) : Ct x (d + 1) eX7_line [.ref (jxb x + 0), .int l, .int s, .int n] m (ji fun rv m' => (rv, m') = F_line m l s n) := by
  refine J_start (by decide +kernel) (Nat.le_of_ble_eq_true rfl) (ls := [some (.ref (jxb x + 0)), some (.int l), some (.int s), some (.int n)]) rfl rfl ?_
  refine J_iload_n (pc := 0) dX7_line_0 rfl ?_
  refine J_iconst (pc := 1) dX7_line_1 kni_0 ?_
  refine J_bipush (pc := 2) dX7_line_2 knb_23 ?_
  refine K_callSp (pc := 4) (As := [_, _, _]) dX7_line_4 kl_X7_76 rfl rfl (Nat.le_of_ble_eq_true rfl) (c_within _ _ _) ?_
  refine Jb_eq (pc := 7) (tgt := 19) dX7_line_7 (by decide) (fun h7 => ?_) (fun h7 => ?_)
  · 
    refine J_ldc (pc := 19) dX7_line_19 kc_X7_80 ?_
    refine K_iret (pc := 21) dX7_line_21 rfl ⟨_, rfl, ?_⟩
    show (_, _) = _
    unfold F_line
    try first | rw [if_pos h7] | rw [if_neg h7] | rw [if_neg (Classical.not_not.mpr h7)]
    try rfl
  · 
    refine J_iload_n (pc := 10) dX7_line_10 rfl ?_
    refine J_iconst (pc := 11) dX7_line_11 kni_m1 ?_
    refine J_iconst (pc := 12) dX7_line_12 kni_1 ?_
    refine K_callSp (pc := 13) (As := [_, _, _]) dX7_line_13 kl_X7_76 rfl rfl (Nat.le_of_ble_eq_true rfl) (c_within _ _ _) ?_
    refine Jb_ne (pc := 16) (tgt := 22) dX7_line_16 (by decide) (fun h16 => ?_) (fun h16 => ?_)
    · 
      obtain ⟨q, hq, hqe⟩ := w_of h7 (by decide)
      have htq : tN l = q := by rw [hqe]; exact tN_n (by omega)
      subst hqe
      refine J_iload_n (pc := 22) dX7_line_22 rfl ?_
      refine J_iconst (pc := 23) dX7_line_23 kni_m1 ?_
      refine J_icmp_ne (pc := 24) (tgt := 38) dX7_line_24 (by decide) (fun h24 => ?_) (fun h24 => ?_)
      · 
        refine J_iload_n (pc := 38) dX7_line_38 rfl ?_
        refine J_bipush (pc := 39) dX7_line_39 knb_24 ?_
        refine J_icmp_le (pc := 41) (tgt := 47) dX7_line_41 (by decide) (fun h41 => ?_) (fun h41 => ?_)
        · 
          refine J_iload_n (pc := 47) dX7_line_47 rfl ?_
          refine J_if_ge (pc := 48) (tgt := 56) dX7_line_48 (by decide) (fun h48 => ?_) (fun h48 => ?_)
          · 
            refine J_aload_n (pc := 56) dX7_line_56 rfl ?_
            refine K_getR (pc := 57) dX7_line_57 kf_X7_25 job_0 jrf_0_3 ?_
            refine J_iload_n (pc := 60) dX7_line_60 rfl ?_
            refine J_iload_n (pc := 61) dX7_line_61 rfl ?_
            refine J_iload_n (pc := 62) dX7_line_62 rfl ?_
            refine K_callVi (pc := 63) (id := 40) (As := [_, _, _]) dX7_line_63 kl_X7_187 rfl job_40 rfl rfl (Nat.le_of_ble_eq_true rfl) (c_make (l := q) (by omega) s n) (fun vk mk hk => ?_)
            obtain ⟨rfl, rfl⟩ := hk
            refine K_iret (pc := 66) dX7_line_66 rfl ⟨_, rfl, ?_⟩
            show (_, _) = _
            unfold F_line
            rw [htq]
            try first | rw [if_pos h7] | rw [if_neg h7] | rw [if_neg (Classical.not_not.mpr h7)]
            try first | rw [if_pos h16] | rw [if_neg h16] | rw [if_neg (Classical.not_not.mpr h16)]
            try first | rw [if_pos h24] | rw [if_neg h24] | rw [if_neg (Classical.not_not.mpr h24)]
            try first | rw [if_pos h41] | rw [if_neg h41] | rw [if_neg (Classical.not_not.mpr h41)]
            try first | rw [if_pos h48] | rw [if_neg h48] | rw [if_neg (Classical.not_not.mpr h48)]
            try rfl
          · 
            refine J_ldc (pc := 51) dX7_line_51 kc_X7_191 ?_
            refine J_goto (pc := 53) (tgt := 66) dX7_line_53 (by decide) ?_
            refine K_iret (pc := 66) dX7_line_66 rfl ⟨_, rfl, ?_⟩
            show (_, _) = _
            unfold F_line
            rw [htq]
            try first | rw [if_pos h7] | rw [if_neg h7] | rw [if_neg (Classical.not_not.mpr h7)]
            try first | rw [if_pos h16] | rw [if_neg h16] | rw [if_neg (Classical.not_not.mpr h16)]
            try first | rw [if_pos h24] | rw [if_neg h24] | rw [if_neg (Classical.not_not.mpr h24)]
            try first | rw [if_pos h41] | rw [if_neg h41] | rw [if_neg (Classical.not_not.mpr h41)]
            try first | rw [if_pos h48] | rw [if_neg h48] | rw [if_neg (Classical.not_not.mpr h48)]
            try rfl
        · 
          refine J_ldc (pc := 44) dX7_line_44 kc_X7_80 ?_
          refine K_iret (pc := 46) dX7_line_46 rfl ⟨_, rfl, ?_⟩
          show (_, _) = _
          unfold F_line
          rw [htq]
          try first | rw [if_pos h7] | rw [if_neg h7] | rw [if_neg (Classical.not_not.mpr h7)]
          try first | rw [if_pos h16] | rw [if_neg h16] | rw [if_neg (Classical.not_not.mpr h16)]
          try first | rw [if_pos h24] | rw [if_neg h24] | rw [if_neg (Classical.not_not.mpr h24)]
          try first | rw [if_pos h41] | rw [if_neg h41] | rw [if_neg (Classical.not_not.mpr h41)]
          try rfl
      · 
        refine J_aload_n (pc := 27) dX7_line_27 rfl ?_
        refine K_getR (pc := 28) dX7_line_28 kf_X7_25 job_0 jrf_0_3 ?_
        refine J_iload_n (pc := 31) dX7_line_31 rfl ?_
        refine J_iconst (pc := 32) dX7_line_32 kni_m1 ?_
        refine J_iconst (pc := 33) dX7_line_33 kni_0 ?_
        refine K_callVi (pc := 34) (id := 40) (As := [_, _, _]) dX7_line_34 kl_X7_187 rfl job_40 rfl rfl (Nat.le_of_ble_eq_true rfl) (c_make (l := q) (by omega) (-1) (nI 0)) (fun vk mk hk => ?_)
        obtain ⟨rfl, rfl⟩ := hk
        refine K_iret (pc := 37) dX7_line_37 rfl ⟨_, rfl, ?_⟩
        show (_, _) = _
        unfold F_line
        rw [htq]
        try first | rw [if_pos h7] | rw [if_neg h7] | rw [if_neg (Classical.not_not.mpr h7)]
        try first | rw [if_pos h16] | rw [if_neg h16] | rw [if_neg (Classical.not_not.mpr h16)]
        try first | rw [if_pos h24] | rw [if_neg h24] | rw [if_neg (Classical.not_not.mpr h24)]
        try rfl
    · 
      refine J_ldc (pc := 19) dX7_line_19 kc_X7_80 ?_
      refine K_iret (pc := 21) dX7_line_21 rfl ⟨_, rfl, ?_⟩
      show (_, _) = _
      unfold F_line
      try first | rw [if_pos h7] | rw [if_neg h7] | rw [if_neg (Classical.not_not.mpr h7)]
      try first | rw [if_pos h16] | rw [if_neg h16] | rw [if_neg (Classical.not_not.mpr h16)]
      try rfl
def F_ground (m : jm) (g p : Int32) : Int32 × jm :=
  if ¬ (nI 0 ≤ g ∧ g ≤ nI 3) then (-1000000001, m) else if ¬ (nI 0 ≤ p ∧ p ≤ nI 47) then (-1000000001, m) else (shadeS m (tN g) (tN p), m)
set_option maxRecDepth 100000 in
set_option maxHeartbeats 400000 in
theorem p_ground {x : jX} {m : jm} {d : Nat} (g p : Int32) : Ct x (d + 3) eX7_ground [.ref (jxb x + 0), .int g, .int p] m (ji fun rv m' => (rv, m') = F_ground m g p) := by
  refine J_start (by decide +kernel) (Nat.le_of_ble_eq_true rfl) (ls := [some (.ref (jxb x + 0)), some (.int g), some (.int p)]) rfl rfl ?_
  refine J_iload_n (pc := 0) dX7_ground_0 rfl ?_
  refine K_callSp (pc := 1) (As := [_]) dX7_ground_1 kl_X7_213 rfl rfl (Nat.le_of_ble_eq_true rfl) (c_isGround g) ?_
  refine Jb_eq (pc := 4) (tgt := 17) dX7_ground_4 (by decide) (fun h4 => ?_) (fun h4 => ?_)
  · 
    refine J_ldc (pc := 17) dX7_ground_17 kc_X7_80 ?_
    refine K_iret (pc := 19) dX7_ground_19 rfl ⟨_, rfl, ?_⟩
    show (_, _) = _
    unfold F_ground
    try first | rw [if_pos h4] | rw [if_neg h4] | rw [if_neg (Classical.not_not.mpr h4)]
    try rfl
  · 
    refine J_iload_n (pc := 7) dX7_ground_7 rfl ?_
    refine J_iconst (pc := 8) dX7_ground_8 kni_0 ?_
    refine J_bipush (pc := 9) dX7_ground_9 knb_47 ?_
    refine K_callSp (pc := 11) (As := [_, _, _]) dX7_ground_11 kl_X7_76 rfl rfl (Nat.le_of_ble_eq_true rfl) (c_within _ _ _) ?_
    refine Jb_ne (pc := 14) (tgt := 20) dX7_ground_14 (by decide) (fun h14 => ?_) (fun h14 => ?_)
    · 
      obtain ⟨q, hq, hqe⟩ := w_of h4 (by decide)
      have htq : tN g = q := by rw [hqe]; exact tN_n (by omega)
      subst hqe
      obtain ⟨r, hr, hre⟩ := w_of h14 (by decide)
      have htr : tN p = r := by rw [hre]; exact tN_n (by omega)
      subst hre
      refine J_aload_n (pc := 20) dX7_ground_20 rfl ?_
      refine K_getR (pc := 21) dX7_ground_21 kf_X7_25 job_0 jrf_0_3 ?_
      refine J_iload_n (pc := 24) dX7_ground_24 rfl ?_
      refine J_iload_n (pc := 25) dX7_ground_25 rfl ?_
      refine K_callVp (pc := 26) (id := 40) (As := [_, _]) dX7_ground_26 kl_X7_217 rfl job_40 rfl rfl (Nat.le_of_ble_eq_true rfl) (c_shadeAt (g := q) (p := r) (by omega) (by omega)) ?_
      refine K_iret (pc := 29) dX7_ground_29 rfl ⟨_, rfl, ?_⟩
      show (_, _) = _
      unfold F_ground
      rw [htq, htr]
      try first | rw [if_pos h4] | rw [if_neg h4] | rw [if_neg (Classical.not_not.mpr h4)]
      try first | rw [if_pos h14] | rw [if_neg h14] | rw [if_neg (Classical.not_not.mpr h14)]
      try rfl
    · 
      refine J_ldc (pc := 17) dX7_ground_17 kc_X7_80 ?_
      refine K_iret (pc := 19) dX7_ground_19 rfl ⟨_, rfl, ?_⟩
      show (_, _) = _
      unfold F_ground
      try first | rw [if_pos h4] | rw [if_neg h4] | rw [if_neg (Classical.not_not.mpr h4)]
      try first | rw [if_pos h14] | rw [if_neg h14] | rw [if_neg (Classical.not_not.mpr h14)]
      try rfl
def F_ask (m : jm) (g w : Int32) : Int32 × jm :=
  if ¬ (nI 0 ≤ g ∧ g ≤ nI 3) then (-1000000001, m) else if ¬ (nI 0 ≤ w ∧ w ≤ nI 3) then (-1000000001, m) else (askM m (tN g) (m 13 2) 69 (tN w), askM m (tN g) (m 13 2))
set_option maxRecDepth 100000 in
set_option maxHeartbeats 400000 in
theorem p_ask {x : jX} {m : jm} {d : Nat} (g w : Int32) : Ct x (d + 4) eX7_ask [.ref (jxb x + 0), .int g, .int w] m (ji fun rv m' => (rv, m') = F_ask m g w) := by
  refine J_start (by decide +kernel) (Nat.le_of_ble_eq_true rfl) (ls := [some (.ref (jxb x + 0)), some (.int g), some (.int w)]) rfl rfl ?_
  refine J_iload_n (pc := 0) dX7_ask_0 rfl ?_
  refine K_callSp (pc := 1) (As := [_]) dX7_ask_1 kl_X7_213 rfl rfl (Nat.le_of_ble_eq_true rfl) (c_isGround g) ?_
  refine Jb_eq (pc := 4) (tgt := 16) dX7_ask_4 (by decide) (fun h4 => ?_) (fun h4 => ?_)
  · 
    refine J_ldc (pc := 16) dX7_ask_16 kc_X7_80 ?_
    refine K_iret (pc := 18) dX7_ask_18 rfl ⟨_, rfl, ?_⟩
    show (_, _) = _
    unfold F_ask
    try first | rw [if_pos h4] | rw [if_neg h4] | rw [if_neg (Classical.not_not.mpr h4)]
    try rfl
  · 
    refine J_iload_n (pc := 7) dX7_ask_7 rfl ?_
    refine J_iconst (pc := 8) dX7_ask_8 kni_0 ?_
    refine J_iconst (pc := 9) dX7_ask_9 kni_3 ?_
    refine K_callSp (pc := 10) (As := [_, _, _]) dX7_ask_10 kl_X7_76 rfl rfl (Nat.le_of_ble_eq_true rfl) (c_within _ _ _) ?_
    refine Jb_ne (pc := 13) (tgt := 19) dX7_ask_13 (by decide) (fun h13 => ?_) (fun h13 => ?_)
    · 
      obtain ⟨q, hq, hqe⟩ := w_of h4 (by decide)
      have htq : tN g = q := by rw [hqe]; exact tN_n (by omega)
      subst hqe
      obtain ⟨r, hr, hre⟩ := w_of h13 (by decide)
      have htr : tN w = r := by rw [hre]; exact tN_n (by omega)
      subst hre
      refine J_aload_n (pc := 19) dX7_ask_19 rfl ?_
      refine K_getR (pc := 20) dX7_ask_20 kf_X7_25 job_0 jrf_0_3 ?_
      refine J_iload_n (pc := 23) dX7_ask_23 rfl ?_
      refine J_aload_n (pc := 24) dX7_ask_24 rfl ?_
      refine K_getR (pc := 25) dX7_ask_25 kf_X7_10 job_0 jrf_0_0 ?_
      refine K_getR (pc := 28) dX7_ask_28 kf_X7_146 job_1 jrf_1_12 ?_
      refine J_iconst (pc := 31) dX7_ask_31 kni_2 ?_
      refine K_ialdn (pc := 32) (id := 13) dX7_ask_32 jar_13 (by decide) (by decide) ?_
      refine K_callVr (pc := 33) (id := 40) (As := [_, _]) dX7_ask_33 kl_X7_220 rfl job_40 rfl rfl (Nat.le_of_ble_eq_true rfl) (c_askAll (g := q) (by omega) (m 13 2)) (fun m33 h33 => ?_)
      subst h33
      refine J_iload_n (pc := 36) dX7_ask_36 rfl ?_
      refine K_ialdn (pc := 37) (id := 69) dX7_ask_37 jar_69 (by omega) (by decide) ?_
      refine K_iret (pc := 38) dX7_ask_38 rfl ⟨_, rfl, ?_⟩
      show (_, _) = _
      unfold F_ask
      rw [htq, htr]
      try first | rw [if_pos h4] | rw [if_neg h4] | rw [if_neg (Classical.not_not.mpr h4)]
      try first | rw [if_pos h13] | rw [if_neg h13] | rw [if_neg (Classical.not_not.mpr h13)]
      try rfl
    · 
      refine J_ldc (pc := 16) dX7_ask_16 kc_X7_80 ?_
      refine K_iret (pc := 18) dX7_ask_18 rfl ⟨_, rfl, ?_⟩
      show (_, _) = _
      unfold F_ask
      try first | rw [if_pos h4] | rw [if_neg h4] | rw [if_neg (Classical.not_not.mpr h4)]
      try first | rw [if_pos h13] | rw [if_neg h13] | rw [if_neg (Classical.not_not.mpr h13)]
      try rfl
def feedM (m : jm) (n : Nat) (a b c : Int32) : jm := takeM (takeM (takeM m n a) (n + 4) b) (n + 8) c
theorem takeM_1 {m : jm} {n : Nat} {a : Int32} : takeM m n a 70 1 = nI (n + 4) := by
  unfold takeM
  rw [mup_i (by decide), mup_s]
def F_feed (m : jm) (a b c : Int32) : Int32 × jm := if 96 < tN (m 70 1) + 12 then (-1000000003, m) else (nI (tN (m 70 1) + 12), feedM m (tN (m 70 1)) a b c)
set_option maxRecDepth 100000 in
set_option maxHeartbeats 400000 in
theorem p_feed {x : jX} {m : jm} {d : Nat} (a b c : Int32) {n : Nat} (hn : m 70 1 = nI n) (h96 : n ≤ 96) : Ct x (d + 1) eX7_feed [.ref (jxb x + 0), .int a, .int b, .int c] m (ji fun rv m' => (rv, m') = F_feed m a b c) := by
  refine J_start (by decide +kernel) (Nat.le_of_ble_eq_true rfl) (ls := [some (.ref (jxb x + 0)), some (.int a), some (.int b), some (.int c)]) rfl rfl ?_
  have htn : tN (m 70 1) = n := by rw [hn]; exact tN_n (by omega)
  refine J_aload_n (pc := 0) dX7_feed_0 rfl ?_
  refine K_getR (pc := 1) dX7_feed_1 kf_X7_32 job_0 jrf_0_4 ?_
  refine K_getI (pc := 4) dX7_feed_4 kf_X7_224 job_70 jrf_70_1 ?_
  refine J_top (b := nI n) (hn) ?_
  refine J_bipush (pc := 7) dX7_feed_7 knb_12 ?_
  refine J_iaddv (pc := 9) dX7_feed_9 (nI_add _ _) ?_
  refine J_bipush (pc := 10) dX7_feed_10 knb_96 ?_
  refine Jn_le (pc := 12) (tgt := 18) dX7_feed_12 (by decide) (by omega) (by omega) (fun h12 => ?_) (fun h12 => ?_)
  · 
    refine J_aload_n (pc := 18) dX7_feed_18 rfl ?_
    refine K_getR (pc := 19) dX7_feed_19 kf_X7_32 job_0 jrf_0_4 ?_
    refine J_iload_n (pc := 22) dX7_feed_22 rfl ?_
    refine K_callVv (pc := 23) (id := 70) (As := [_]) dX7_feed_23 kl_X7_226 rfl job_70 rfl rfl (Nat.le_of_ble_eq_true rfl) (c_take (m := m) (n := n) hn (by omega) a) (fun m23 h23 => ?_)
    subst h23
    refine J_aload_n (pc := 26) dX7_feed_26 rfl ?_
    refine K_getR (pc := 27) dX7_feed_27 kf_X7_32 job_0 jrf_0_4 ?_
    refine J_iload_n (pc := 30) dX7_feed_30 rfl ?_
    refine K_callVv (pc := 31) (id := 70) (As := [_]) dX7_feed_31 kl_X7_226 rfl job_70 rfl rfl (Nat.le_of_ble_eq_true rfl) (c_take (m := (takeM m n a)) (n := n + 4) takeM_1 (by omega) b) (fun m31 h31 => ?_)
    subst h31
    refine J_aload_n (pc := 34) dX7_feed_34 rfl ?_
    refine K_getR (pc := 35) dX7_feed_35 kf_X7_32 job_0 jrf_0_4 ?_
    refine J_iload_n (pc := 38) dX7_feed_38 rfl ?_
    refine K_callVv (pc := 39) (id := 70) (As := [_]) dX7_feed_39 kl_X7_226 rfl job_70 rfl rfl (Nat.le_of_ble_eq_true rfl) (c_take (m := (takeM (takeM m n a) (n + 4) b)) (n := n + 8) takeM_1 (by omega) c) (fun m39 h39 => ?_)
    subst h39
    refine J_aload_n (pc := 42) dX7_feed_42 rfl ?_
    refine K_getR (pc := 43) dX7_feed_43 kf_X7_32 job_0 jrf_0_4 ?_
    refine K_getI (pc := 46) dX7_feed_46 kf_X7_224 job_70 jrf_70_1 ?_
    refine J_top (b := nI (n + 12)) (takeM_1) ?_
    refine K_iret (pc := 49) dX7_feed_49 rfl ⟨_, rfl, ?_⟩
    show (_, _) = _
    unfold F_feed
    rw [htn, if_neg (by omega)]
    rfl
  · 
    refine J_ldc (pc := 15) dX7_feed_15 kc_X7_89 ?_
    refine K_iret (pc := 17) dX7_feed_17 rfl ⟨_, rfl, ?_⟩
    show (_, _) = _
    unfold F_feed
    rw [htn, if_pos (by omega)]
def F_trim (m : jm) (n : Int32) : Int32 × jm := if ¬ (nI 0 ≤ n ∧ n ≤ m 70 1) then (-1000000001, m) else (n, mup m 70 1 n)
set_option maxRecDepth 100000 in
set_option maxHeartbeats 400000 in
theorem p_trim {x : jX} {m : jm} {d : Nat} (n : Int32) : Ct x (d + 1) eX7_trim [.ref (jxb x + 0), .int n] m (ji fun rv m' => (rv, m') = F_trim m n) := by
  refine J_start (by decide +kernel) (Nat.le_of_ble_eq_true rfl) (ls := [some (.ref (jxb x + 0)), some (.int n)]) rfl rfl ?_
  refine J_iload_n (pc := 0) dX7_trim_0 rfl ?_
  refine J_iconst (pc := 1) dX7_trim_1 kni_0 ?_
  refine J_aload_n (pc := 2) dX7_trim_2 rfl ?_
  refine K_getR (pc := 3) dX7_trim_3 kf_X7_32 job_0 jrf_0_4 ?_
  refine K_getI (pc := 6) dX7_trim_6 kf_X7_224 job_70 jrf_70_1 ?_
  refine K_callSp (pc := 9) (As := [_, _, _]) dX7_trim_9 kl_X7_76 rfl rfl (Nat.le_of_ble_eq_true rfl) (c_within _ _ _) ?_
  refine Jb_ne (pc := 12) (tgt := 18) dX7_trim_12 (by decide) (fun h12 => ?_) (fun h12 => ?_)
  · 
    refine J_aload_n (pc := 18) dX7_trim_18 rfl ?_
    refine K_getR (pc := 19) dX7_trim_19 kf_X7_32 job_0 jrf_0_4 ?_
    refine J_iload_n (pc := 22) dX7_trim_22 rfl ?_
    refine K_put (pc := 23) dX7_trim_23 kp_X7_224 job_70 jrf_70_1 rfl rfl ?_
    refine J_iload_n (pc := 26) dX7_trim_26 rfl ?_
    refine K_iret (pc := 27) dX7_trim_27 rfl ⟨_, rfl, ?_⟩
    show (_, _) = _
    unfold F_trim
    try first | rw [if_pos h12] | rw [if_neg h12] | rw [if_neg (Classical.not_not.mpr h12)]
    try rfl
  · 
    refine J_ldc (pc := 15) dX7_trim_15 kc_X7_80 ?_
    refine K_iret (pc := 17) dX7_trim_17 rfl ⟨_, rfl, ?_⟩
    show (_, _) = _
    unfold F_trim
    try first | rw [if_pos h12] | rw [if_neg h12] | rw [if_neg (Classical.not_not.mpr h12)]
    try rfl
def F_of (m : jm) (t w : Int32) : Int32 × jm :=
  if ¬ (nI 0 ≤ t ∧ t ≤ m 1 14 - nI 1) then (-1000000001, m) else if w = nI 0 then (m 75 (tN t), m) else if w = nI 1 then (m 76 (tN t), m) else if w = nI 2 then (m 77 (tN t), m) else (-1000000001, m)
set_option maxRecDepth 100000 in
set_option maxHeartbeats 400000 in
theorem p_of {x : jX} {m : jm} {d : Nat} (t w : Int32) {T : Nat} (hP : m 1 14 = nI T) (hT14 : T ≤ 14) : Ct x (d + 1) eX7_of [.ref (jxb x + 0), .int t, .int w] m (ji fun rv m' => (rv, m') = F_of m t w) := by
  refine J_start (by decide +kernel) (Nat.le_of_ble_eq_true rfl) (ls := [some (.ref (jxb x + 0)), some (.int t), some (.int w)]) rfl rfl ?_
  have h48 : T ≤ 48 := by omega
  refine J_iload_n (pc := 0) dX7_of_0 rfl ?_
  refine J_iconst (pc := 1) dX7_of_1 kni_0 ?_
  refine J_aload_n (pc := 2) dX7_of_2 rfl ?_
  refine K_getR (pc := 3) dX7_of_3 kf_X7_10 job_0 jrf_0_0 ?_
  refine K_getI (pc := 6) dX7_of_6 kf_X7_233 job_1 jrf_1_14 ?_
  refine J_iconst (pc := 9) dX7_of_9 kni_1 ?_
  refine J_isub (pc := 10) dX7_of_10 ?_
  refine K_callSp (pc := 11) (As := [_, _, _]) dX7_of_11 kl_X7_76 rfl rfl (Nat.le_of_ble_eq_true rfl) (c_within _ _ _) ?_
  refine Jb_ne (pc := 14) (tgt := 20) dX7_of_14 (by decide) (fun h14 => ?_) (fun h14 => ?_)
  · 
    obtain ⟨q, hq, hqe⟩ := w_sub hP h48 h14
    have htq : tN t = q := by rw [hqe]; exact tN_n (by omega)
    subst hqe
    refine J_iload_n (pc := 20) dX7_of_20 rfl ?_
    by_cases c21_0 : w = nI 0
    ·
      refine J_tsIn (pc := 21) (tgt := 48) (off := 27) dX7_of_21 (by rw [c21_0]; decide) (by rw [c21_0]; decide) (by rw [c21_0]; rfl) (by decide) ?_
      refine J_aload_n (pc := 48) dX7_of_48 rfl ?_
      refine K_getR (pc := 49) dX7_of_49 kf_X7_39 job_0 jrf_0_5 ?_
      refine K_getR (pc := 52) dX7_of_52 kf_X7_239 job_74 jrf_74_0 ?_
      refine J_iload_n (pc := 55) dX7_of_55 rfl ?_
      refine K_ialdn (pc := 56) (id := 75) dX7_of_56 jar_75 (by omega) (by decide) ?_
      refine K_iret (pc := 57) dX7_of_57 rfl ⟨_, rfl, ?_⟩
      show (_, _) = _
      unfold F_of
      rw [htq]
      try first | rw [if_pos h14] | rw [if_neg h14] | rw [if_neg (Classical.not_not.mpr h14)]
      try first | rw [if_pos c21_0] | rw [if_neg c21_0] | rw [if_neg (Classical.not_not.mpr c21_0)]
      try rfl
    by_cases c21_1 : w = nI 1
    ·
      refine J_tsIn (pc := 21) (tgt := 58) (off := 37) dX7_of_21 (by rw [c21_1]; decide) (by rw [c21_1]; decide) (by rw [c21_1]; rfl) (by decide) ?_
      refine J_aload_n (pc := 58) dX7_of_58 rfl ?_
      refine K_getR (pc := 59) dX7_of_59 kf_X7_39 job_0 jrf_0_5 ?_
      refine K_getR (pc := 62) dX7_of_62 kf_X7_240 job_74 jrf_74_1 ?_
      refine J_iload_n (pc := 65) dX7_of_65 rfl ?_
      refine K_ialdn (pc := 66) (id := 76) dX7_of_66 jar_76 (by omega) (by decide) ?_
      refine K_iret (pc := 67) dX7_of_67 rfl ⟨_, rfl, ?_⟩
      show (_, _) = _
      unfold F_of
      rw [htq]
      try first | rw [if_pos h14] | rw [if_neg h14] | rw [if_neg (Classical.not_not.mpr h14)]
      try first | rw [if_pos c21_0] | rw [if_neg c21_0] | rw [if_neg (Classical.not_not.mpr c21_0)]
      try first | rw [if_pos c21_1] | rw [if_neg c21_1] | rw [if_neg (Classical.not_not.mpr c21_1)]
      try rfl
    by_cases c21_2 : w = nI 2
    ·
      refine J_tsIn (pc := 21) (tgt := 68) (off := 47) dX7_of_21 (by rw [c21_2]; decide) (by rw [c21_2]; decide) (by rw [c21_2]; rfl) (by decide) ?_
      refine J_aload_n (pc := 68) dX7_of_68 rfl ?_
      refine K_getR (pc := 69) dX7_of_69 kf_X7_39 job_0 jrf_0_5 ?_
      refine K_getR (pc := 72) dX7_of_72 kf_X7_243 job_74 jrf_74_2 ?_
      refine J_iload_n (pc := 75) dX7_of_75 rfl ?_
      refine K_ialdn (pc := 76) (id := 77) dX7_of_76 jar_77 (by omega) (by decide) ?_
      refine K_iret (pc := 77) dX7_of_77 rfl ⟨_, rfl, ?_⟩
      show (_, _) = _
      unfold F_of
      rw [htq]
      try first | rw [if_pos h14] | rw [if_neg h14] | rw [if_neg (Classical.not_not.mpr h14)]
      try first | rw [if_pos c21_0] | rw [if_neg c21_0] | rw [if_neg (Classical.not_not.mpr c21_0)]
      try first | rw [if_pos c21_1] | rw [if_neg c21_1] | rw [if_neg (Classical.not_not.mpr c21_1)]
      try first | rw [if_pos c21_2] | rw [if_neg c21_2] | rw [if_neg (Classical.not_not.mpr c21_2)]
      try rfl
    refine J_tsOut (pc := 21) (tgt := 78) dX7_of_21 (by have qc21_0 := jsw_ne c21_0 (by decide); have qc21_1 := jsw_ne c21_1 (by decide); have qc21_2 := jsw_ne c21_2 (by decide); omega) (by decide) ?_
    refine J_ldc (pc := 78) dX7_of_78 kc_X7_80 ?_
    refine K_iret (pc := 80) dX7_of_80 rfl ⟨_, rfl, ?_⟩
    show (_, _) = _
    unfold F_of
    try first | rw [if_pos h14] | rw [if_neg h14] | rw [if_neg (Classical.not_not.mpr h14)]
    try first | rw [if_pos c21_0] | rw [if_neg c21_0] | rw [if_neg (Classical.not_not.mpr c21_0)]
    try first | rw [if_pos c21_1] | rw [if_neg c21_1] | rw [if_neg (Classical.not_not.mpr c21_1)]
    try first | rw [if_pos c21_2] | rw [if_neg c21_2] | rw [if_neg (Classical.not_not.mpr c21_2)]
    try rfl
  · 
    refine J_ldc (pc := 17) dX7_of_17 kc_X7_80 ?_
    refine K_iret (pc := 19) dX7_of_19 rfl ⟨_, rfl, ?_⟩
    show (_, _) = _
    unfold F_of
    try first | rw [if_pos h14] | rw [if_neg h14] | rw [if_neg (Classical.not_not.mpr h14)]
    try rfl
def F_why (m : jm) (g : Int32) : Int32 × jm := if ¬ (nI 0 ≤ g ∧ g ≤ nI 6) then (-1000000001, m) else (bestV m 1 g (tN (m 1 14)), m)
set_option maxRecDepth 100000 in
set_option maxHeartbeats 400000 in
theorem p_why {x : jX} {m : jm} {d : Nat} (g : Int32) {T : Nat} (hT : m 1 14 = nI T) (hT14 : T ≤ 14) : Ct x (d + 1) eX7_why [.ref (jxb x + 0), .int g] m (ji fun rv m' => (rv, m') = F_why m g) := by
  refine J_start (by decide +kernel) (Nat.le_of_ble_eq_true rfl) (ls := [some (.ref (jxb x + 0)), some (.int g)]) rfl rfl ?_
  refine J_iload_n (pc := 0) dX7_why_0 rfl ?_
  refine J_iconst (pc := 1) dX7_why_1 kni_0 ?_
  refine J_bipush (pc := 2) dX7_why_2 knb_6 ?_
  refine K_callSp (pc := 4) (As := [_, _, _]) dX7_why_4 kl_X7_76 rfl rfl (Nat.le_of_ble_eq_true rfl) (c_within _ _ _) ?_
  refine Jb_eq (pc := 7) (tgt := 25) dX7_why_7 (by decide) (fun h7 => ?_) (fun h7 => ?_)
  · 
    refine J_ldc (pc := 25) dX7_why_25 kc_X7_80 ?_
    refine K_iret (pc := 27) dX7_why_27 rfl ⟨_, rfl, ?_⟩
    show (_, _) = _
    unfold F_why
    try rw [show tN (m 1 14) = T from by rw [hT]; exact tN_n (by omega)]
    try first | rw [if_pos h7] | rw [if_neg h7] | rw [if_neg (Classical.not_not.mpr h7)]
    try rfl
  · 
    refine J_aload_n (pc := 10) dX7_why_10 rfl ?_
    refine K_getR (pc := 11) dX7_why_11 kf_X7_39 job_0 jrf_0_5 ?_
    refine J_iload_n (pc := 14) dX7_why_14 rfl ?_
    refine J_aload_n (pc := 15) dX7_why_15 rfl ?_
    refine K_getR (pc := 16) dX7_why_16 kf_X7_10 job_0 jrf_0_0 ?_
    refine K_callVp (pc := 19) (id := 74) (As := [_, _]) dX7_why_19 kl_X7_246 rfl job_74 rfl rfl (Nat.le_of_ble_eq_true rfl) (c_counting (o := 1) (T := T) (Or.inl rfl) hT hT14 g) ?_
    refine J_goto (pc := 22) (tgt := 27) dX7_why_22 (by decide) ?_
    refine K_iret (pc := 27) dX7_why_27 rfl ⟨_, rfl, ?_⟩
    show (_, _) = _
    unfold F_why
    try rw [show tN (m 1 14) = T from by rw [hT]; exact tN_n (by omega)]
    try first | rw [if_pos h7] | rw [if_neg h7] | rw [if_neg (Classical.not_not.mpr h7)]
    try rfl
set_option maxRecDepth 100000 in
set_option maxHeartbeats 400000 in
theorem p_gives {x : jX} {m : jm} {d : Nat} (g a b c e : Int32) {T : Nat} (hT : m 1 14 = nI T) (hT14 : T ≤ 14) (hX : wfX m (bestV m 1 g T)) : Ct x (d + 2) eX7_gives [.ref (jxb x + 0), .int g, .int a, .int b, .int c, .int e] m (ji fun rv m' => exs [94] m m' ∧ rv = if ¬ (nI 0 ≤ g ∧ g ≤ nI 6) then -1000000001 else if bestV m 1 g T = -1000000005 then -1000000005 else textV m (bestV m 1 g T) a b c e) := by
  refine J_start (by decide +kernel) (Nat.le_of_ble_eq_true rfl) (ls := [some (.ref (jxb x + 0)), some (.int g), some (.int a), some (.int b), some (.int c), some (.int e), none]) rfl rfl ?_
  refine J_iload_n (pc := 0) dX7_gives_0 rfl ?_
  refine J_iconst (pc := 1) dX7_gives_1 kni_0 ?_
  refine J_bipush (pc := 2) dX7_gives_2 knb_6 ?_
  refine K_callSp (pc := 4) (As := [_, _, _]) dX7_gives_4 kl_X7_76 rfl rfl (Nat.le_of_ble_eq_true rfl) (c_within _ _ _) ?_
  refine Jb_ne (pc := 7) (tgt := 13) dX7_gives_7 (by decide) (fun h7 => ?_) (fun h7 => ?_)
  · 
    refine J_aload_n (pc := 13) dX7_gives_13 rfl ?_
    refine K_getR (pc := 14) dX7_gives_14 kf_X7_39 job_0 jrf_0_5 ?_
    refine J_iload_n (pc := 17) dX7_gives_17 rfl ?_
    refine J_aload_n (pc := 18) dX7_gives_18 rfl ?_
    refine K_getR (pc := 19) dX7_gives_19 kf_X7_10 job_0 jrf_0_0 ?_
    refine K_callVp (pc := 22) (id := 74) (As := [_, _]) dX7_gives_22 kl_X7_246 rfl job_74 rfl rfl (Nat.le_of_ble_eq_true rfl) (c_counting (o := 1) (T := T) (Or.inl rfl) hT hT14 g) ?_
    refine J_istore (pc := 25) (ls' := [some _, some _, some _, some _, some _, some _, some _]) dX7_gives_25 rfl (Nat.le_of_ble_eq_true rfl) rfl ?_
    refine J_iload (pc := 27) dX7_gives_27 rfl ?_
    refine J_ldc (pc := 29) dX7_gives_29 kc_X7_84 ?_
    refine J_icmp_ne (pc := 31) (tgt := 39) dX7_gives_31 (by decide) (fun h31 => ?_) (fun h31 => ?_)
    · 
      refine J_aload_n (pc := 39) dX7_gives_39 rfl ?_
      refine K_getR (pc := 40) dX7_gives_40 kf_X7_39 job_0 jrf_0_5 ?_
      refine J_iload (pc := 43) dX7_gives_43 rfl ?_
      refine J_iload_n (pc := 45) dX7_gives_45 rfl ?_
      refine J_iload_n (pc := 46) dX7_gives_46 rfl ?_
      refine J_iload (pc := 47) dX7_gives_47 rfl ?_
      refine J_iload (pc := 49) dX7_gives_49 rfl ?_
      refine K_callVi (pc := 51) (id := 74) (As := [_, _, _, _, _]) dX7_gives_51 kl_X7_250 rfl job_74 rfl rfl (Nat.le_of_ble_eq_true rfl) (c_worthV (m := m) h31 hX a b c e) (fun v51 m51 h51 => ?_)
      obtain ⟨rfl, x51⟩ := h51
      refine K_iret (pc := 54) dX7_gives_54 rfl ⟨_, rfl, ?_⟩
      exact ⟨x51, ((if_neg (Classical.not_not.mpr h7)).trans (if_neg h31)).symm⟩
    · 
      refine J_ldc (pc := 34) dX7_gives_34 kc_X7_84 ?_
      refine J_goto (pc := 36) (tgt := 54) dX7_gives_36 (by decide) ?_
      refine K_iret (pc := 54) dX7_gives_54 rfl ⟨_, rfl, ?_⟩
      exact ⟨exs_rf _ _, ((if_neg (Classical.not_not.mpr h7)).trans (if_pos h31)).symm⟩
  · 
    refine J_ldc (pc := 10) dX7_gives_10 kc_X7_80 ?_
    refine K_iret (pc := 12) dX7_gives_12 rfl ⟨_, rfl, ?_⟩
    exact ⟨exs_rf _ _, (if_pos h7).symm⟩
