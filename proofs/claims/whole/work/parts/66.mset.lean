theorem m_in32 {x : jX} {m : jm} {d : Nat} {l h : Int64} {v a b : Int32} (hl : l = a.toInt64) (hh : h = b.toInt64) : Ct x d eX8_isIn [.long v.toInt64, .long l, .long h] m (jp (jb (a ≤ v ∧ v ≤ b)) m) := by
  rw [← jb_iff (in32 hl hh)]
  exact m_isIn _ _ _
def becR (m : jm) (a : Nat) (v : Int32) : jm := mup (mup m 140 33 (nI 0)) 141 a v
set_option maxRecDepth 100000 in
set_option maxHeartbeats 400000 in
theorem m_becomes {x : jX} {m : jm} {d : Nat} {a : Nat} (ha : a < 3450) (v : Int32) : Ct x d eX8_becomes [.ref (jxb x + 140), .int (nI a), .int v] m (ji fun rv m' => rv = m 141 a ∧ m' = becR m a v) := by
  refine J_start (by decide +kernel) (Nat.le_of_ble_eq_true rfl) (ls := [some (.ref (jxb x + 140)), some (.int (nI a)), some (.int v), none]) rfl rfl ?_
  refine J_aload_n (pc := 0) dX8_becomes_0 rfl ?_
  refine J_iconst (pc := 1) dX8_becomes_1 kni_0 ?_
  refine K_put (pc := 2) dX8_becomes_2 kp_X8_67 job_140 jrf_140_33 rfl rfl ?_
  refine J_aload_n (pc := 5) dX8_becomes_5 rfl ?_
  refine K_getR (pc := 6) dX8_becomes_6 kf_X8_7 job_140 jrf_140_0 ?_
  refine J_iload_n (pc := 9) dX8_becomes_9 rfl ?_
  refine K_ialdn (pc := 10) (id := 141) dX8_becomes_10 jar_141 (by omega) (by decide) ?_
  refine J_top (b := (m 141 a)) (mup_i (by decide)) ?_
  refine J_istore_n (pc := 11) (ls' := [some _, some _, some _, some _]) dX8_becomes_11 rfl (Nat.le_of_ble_eq_true rfl) rfl ?_
  refine J_aload_n (pc := 12) dX8_becomes_12 rfl ?_
  refine K_getR (pc := 13) dX8_becomes_13 kf_X8_7 job_140 jrf_140_0 ?_
  refine J_iload_n (pc := 16) dX8_becomes_16 rfl ?_
  refine J_iload_n (pc := 17) dX8_becomes_17 rfl ?_
  refine K_iastn (pc := 18) (id := 141) dX8_becomes_18 jar_141 (by omega) (by decide) ?_
  refine J_iload_n (pc := 19) dX8_becomes_19 rfl ?_
  refine K_iret (pc := 20) dX8_becomes_20 rfl ⟨_, rfl, ?_⟩
  exact ⟨rfl, rfl⟩
def R_told (m : jm) (p w : Int32) : Int32 × jm :=
  if ¬ (nI 0 ≤ p ∧ p ≤ m 141 0 - nI 1) then (-1000000001, m) else if w = nI 0 then (m 141 (90 + 6 * tN p), m) else if w = nI 1 then (m 141 (90 + 6 * tN p + 1), m) else if w = nI 2 then (m 141 (90 + 6 * tN p + 2), m) else if w = nI 3 then (m 141 (90 + 6 * tN p + 3), m) else if w = nI 4 then (m 141 (90 + 6 * tN p + 4), m) else if w = nI 5 then (m 141 (90 + 6 * tN p + 5), m) else if w = nI 6 then (aimR m 141 (tN p), m) else if w = nI 7 then (pacR m 141 (tN p), m) else if w = nI 8 then (givR m 141 (tN p), m) else (-1000000001, m)
set_option maxRecDepth 100000 in
set_option maxHeartbeats 400000 in
theorem m_told {x : jX} {m : jm} {d : Nat} (p w : Int32) {P : Nat} (hP : m 141 0 = nI P) (h48 : P ≤ 48) (hw : wfR m 141) : Ct x (d + 3) eX8_told [.ref (jxb x + 140), .int p, .int w] m (ji fun rv m' => (rv, m') = R_told m p w) := by
  refine J_start (by decide +kernel) (Nat.le_of_ble_eq_true rfl) (ls := [some (.ref (jxb x + 140)), some (.int p), some (.int w)]) rfl rfl ?_
  refine J_aload_n (pc := 0) dX8_told_0 rfl ?_
  refine J_iload_n (pc := 1) dX8_told_1 rfl ?_
  refine K_callVp (pc := 2) (id := 140) (As := [_]) dX8_told_2 kl_X8_104 rfl job_140 rfl rfl (Nat.le_of_ble_eq_true rfl) (m_isPart p) ?_
  refine Jb_ne (pc := 5) (tgt := 11) dX8_told_5 (by decide) (fun h5 => ?_) (fun h5 => ?_)
  · 
    obtain ⟨q, hq, hqe⟩ := w_sub hP h48 h5
    have htq : tN p = q := by rw [hqe]; exact tN_n (by omega)
    subst hqe
    refine J_iload_n (pc := 11) dX8_told_11 rfl ?_
    by_cases c12_0 : w = nI 0
    ·
      refine J_tsIn (pc := 12) (tgt := 64) (off := 52) dX8_told_12 (by rw [c12_0]; decide) (by rw [c12_0]; decide) (by rw [c12_0]; rfl) (by decide) ?_
      refine J_aload_n (pc := 64) dX8_told_64 rfl ?_
      refine K_getR (pc := 65) dX8_told_65 kf_X8_7 job_140 jrf_140_0 ?_
      refine J_aload_n (pc := 68) dX8_told_68 rfl ?_
      refine J_iload_n (pc := 69) dX8_told_69 rfl ?_
      refine K_callVp (pc := 70) (id := 140) (As := [_]) dX8_told_70 kl_X8_81 rfl job_140 rfl rfl (Nat.le_of_ble_eq_true rfl) (m_partAt) ?_
      refine J_iload_n (pc := 73) dX8_told_73 rfl ?_
      refine J_iadd (pc := 74) dX8_told_74 ?_
      refine J_top (b := nI (90 + 6 * q)) (by rw [c12_0]; exact Int32.add_zero _) ?_
      refine K_ialdn (pc := 75) (id := 141) dX8_told_75 jar_141 (by omega) (by decide) ?_
      refine K_iret (pc := 76) dX8_told_76 rfl ⟨_, rfl, ?_⟩
      show (_, _) = _
      unfold R_told
      rw [htq]
      try first | rw [if_pos h5] | rw [if_neg h5] | rw [if_neg (Classical.not_not.mpr h5)]
      try first | rw [if_pos c12_0] | rw [if_neg c12_0] | rw [if_neg (Classical.not_not.mpr c12_0)]
      try rfl
    by_cases c12_1 : w = nI 1
    ·
      refine J_tsIn (pc := 12) (tgt := 64) (off := 52) dX8_told_12 (by rw [c12_1]; decide) (by rw [c12_1]; decide) (by rw [c12_1]; rfl) (by decide) ?_
      refine J_aload_n (pc := 64) dX8_told_64 rfl ?_
      refine K_getR (pc := 65) dX8_told_65 kf_X8_7 job_140 jrf_140_0 ?_
      refine J_aload_n (pc := 68) dX8_told_68 rfl ?_
      refine J_iload_n (pc := 69) dX8_told_69 rfl ?_
      refine K_callVp (pc := 70) (id := 140) (As := [_]) dX8_told_70 kl_X8_81 rfl job_140 rfl rfl (Nat.le_of_ble_eq_true rfl) (m_partAt) ?_
      refine J_iload_n (pc := 73) dX8_told_73 rfl ?_
      refine J_iadd (pc := 74) dX8_told_74 ?_
      refine J_top (b := nI (90 + 6 * q + 1)) (by rw [c12_1]; exact (nI_add _ _)) ?_
      refine K_ialdn (pc := 75) (id := 141) dX8_told_75 jar_141 (by omega) (by decide) ?_
      refine K_iret (pc := 76) dX8_told_76 rfl ⟨_, rfl, ?_⟩
      show (_, _) = _
      unfold R_told
      rw [htq]
      try first | rw [if_pos h5] | rw [if_neg h5] | rw [if_neg (Classical.not_not.mpr h5)]
      try first | rw [if_pos c12_0] | rw [if_neg c12_0] | rw [if_neg (Classical.not_not.mpr c12_0)]
      try first | rw [if_pos c12_1] | rw [if_neg c12_1] | rw [if_neg (Classical.not_not.mpr c12_1)]
      try rfl
    by_cases c12_2 : w = nI 2
    ·
      refine J_tsIn (pc := 12) (tgt := 64) (off := 52) dX8_told_12 (by rw [c12_2]; decide) (by rw [c12_2]; decide) (by rw [c12_2]; rfl) (by decide) ?_
      refine J_aload_n (pc := 64) dX8_told_64 rfl ?_
      refine K_getR (pc := 65) dX8_told_65 kf_X8_7 job_140 jrf_140_0 ?_
      refine J_aload_n (pc := 68) dX8_told_68 rfl ?_
      refine J_iload_n (pc := 69) dX8_told_69 rfl ?_
      refine K_callVp (pc := 70) (id := 140) (As := [_]) dX8_told_70 kl_X8_81 rfl job_140 rfl rfl (Nat.le_of_ble_eq_true rfl) (m_partAt) ?_
      refine J_iload_n (pc := 73) dX8_told_73 rfl ?_
      refine J_iadd (pc := 74) dX8_told_74 ?_
      refine J_top (b := nI (90 + 6 * q + 2)) (by rw [c12_2]; exact (nI_add _ _)) ?_
      refine K_ialdn (pc := 75) (id := 141) dX8_told_75 jar_141 (by omega) (by decide) ?_
      refine K_iret (pc := 76) dX8_told_76 rfl ⟨_, rfl, ?_⟩
      show (_, _) = _
      unfold R_told
      rw [htq]
      try first | rw [if_pos h5] | rw [if_neg h5] | rw [if_neg (Classical.not_not.mpr h5)]
      try first | rw [if_pos c12_0] | rw [if_neg c12_0] | rw [if_neg (Classical.not_not.mpr c12_0)]
      try first | rw [if_pos c12_1] | rw [if_neg c12_1] | rw [if_neg (Classical.not_not.mpr c12_1)]
      try first | rw [if_pos c12_2] | rw [if_neg c12_2] | rw [if_neg (Classical.not_not.mpr c12_2)]
      try rfl
    by_cases c12_3 : w = nI 3
    ·
      refine J_tsIn (pc := 12) (tgt := 64) (off := 52) dX8_told_12 (by rw [c12_3]; decide) (by rw [c12_3]; decide) (by rw [c12_3]; rfl) (by decide) ?_
      refine J_aload_n (pc := 64) dX8_told_64 rfl ?_
      refine K_getR (pc := 65) dX8_told_65 kf_X8_7 job_140 jrf_140_0 ?_
      refine J_aload_n (pc := 68) dX8_told_68 rfl ?_
      refine J_iload_n (pc := 69) dX8_told_69 rfl ?_
      refine K_callVp (pc := 70) (id := 140) (As := [_]) dX8_told_70 kl_X8_81 rfl job_140 rfl rfl (Nat.le_of_ble_eq_true rfl) (m_partAt) ?_
      refine J_iload_n (pc := 73) dX8_told_73 rfl ?_
      refine J_iadd (pc := 74) dX8_told_74 ?_
      refine J_top (b := nI (90 + 6 * q + 3)) (by rw [c12_3]; exact (nI_add _ _)) ?_
      refine K_ialdn (pc := 75) (id := 141) dX8_told_75 jar_141 (by omega) (by decide) ?_
      refine K_iret (pc := 76) dX8_told_76 rfl ⟨_, rfl, ?_⟩
      show (_, _) = _
      unfold R_told
      rw [htq]
      try first | rw [if_pos h5] | rw [if_neg h5] | rw [if_neg (Classical.not_not.mpr h5)]
      try first | rw [if_pos c12_0] | rw [if_neg c12_0] | rw [if_neg (Classical.not_not.mpr c12_0)]
      try first | rw [if_pos c12_1] | rw [if_neg c12_1] | rw [if_neg (Classical.not_not.mpr c12_1)]
      try first | rw [if_pos c12_2] | rw [if_neg c12_2] | rw [if_neg (Classical.not_not.mpr c12_2)]
      try first | rw [if_pos c12_3] | rw [if_neg c12_3] | rw [if_neg (Classical.not_not.mpr c12_3)]
      try rfl
    by_cases c12_4 : w = nI 4
    ·
      refine J_tsIn (pc := 12) (tgt := 64) (off := 52) dX8_told_12 (by rw [c12_4]; decide) (by rw [c12_4]; decide) (by rw [c12_4]; rfl) (by decide) ?_
      refine J_aload_n (pc := 64) dX8_told_64 rfl ?_
      refine K_getR (pc := 65) dX8_told_65 kf_X8_7 job_140 jrf_140_0 ?_
      refine J_aload_n (pc := 68) dX8_told_68 rfl ?_
      refine J_iload_n (pc := 69) dX8_told_69 rfl ?_
      refine K_callVp (pc := 70) (id := 140) (As := [_]) dX8_told_70 kl_X8_81 rfl job_140 rfl rfl (Nat.le_of_ble_eq_true rfl) (m_partAt) ?_
      refine J_iload_n (pc := 73) dX8_told_73 rfl ?_
      refine J_iadd (pc := 74) dX8_told_74 ?_
      refine J_top (b := nI (90 + 6 * q + 4)) (by rw [c12_4]; exact (nI_add _ _)) ?_
      refine K_ialdn (pc := 75) (id := 141) dX8_told_75 jar_141 (by omega) (by decide) ?_
      refine K_iret (pc := 76) dX8_told_76 rfl ⟨_, rfl, ?_⟩
      show (_, _) = _
      unfold R_told
      rw [htq]
      try first | rw [if_pos h5] | rw [if_neg h5] | rw [if_neg (Classical.not_not.mpr h5)]
      try first | rw [if_pos c12_0] | rw [if_neg c12_0] | rw [if_neg (Classical.not_not.mpr c12_0)]
      try first | rw [if_pos c12_1] | rw [if_neg c12_1] | rw [if_neg (Classical.not_not.mpr c12_1)]
      try first | rw [if_pos c12_2] | rw [if_neg c12_2] | rw [if_neg (Classical.not_not.mpr c12_2)]
      try first | rw [if_pos c12_3] | rw [if_neg c12_3] | rw [if_neg (Classical.not_not.mpr c12_3)]
      try first | rw [if_pos c12_4] | rw [if_neg c12_4] | rw [if_neg (Classical.not_not.mpr c12_4)]
      try rfl
    by_cases c12_5 : w = nI 5
    ·
      refine J_tsIn (pc := 12) (tgt := 64) (off := 52) dX8_told_12 (by rw [c12_5]; decide) (by rw [c12_5]; decide) (by rw [c12_5]; rfl) (by decide) ?_
      refine J_aload_n (pc := 64) dX8_told_64 rfl ?_
      refine K_getR (pc := 65) dX8_told_65 kf_X8_7 job_140 jrf_140_0 ?_
      refine J_aload_n (pc := 68) dX8_told_68 rfl ?_
      refine J_iload_n (pc := 69) dX8_told_69 rfl ?_
      refine K_callVp (pc := 70) (id := 140) (As := [_]) dX8_told_70 kl_X8_81 rfl job_140 rfl rfl (Nat.le_of_ble_eq_true rfl) (m_partAt) ?_
      refine J_iload_n (pc := 73) dX8_told_73 rfl ?_
      refine J_iadd (pc := 74) dX8_told_74 ?_
      refine J_top (b := nI (90 + 6 * q + 5)) (by rw [c12_5]; exact (nI_add _ _)) ?_
      refine K_ialdn (pc := 75) (id := 141) dX8_told_75 jar_141 (by omega) (by decide) ?_
      refine K_iret (pc := 76) dX8_told_76 rfl ⟨_, rfl, ?_⟩
      show (_, _) = _
      unfold R_told
      rw [htq]
      try first | rw [if_pos h5] | rw [if_neg h5] | rw [if_neg (Classical.not_not.mpr h5)]
      try first | rw [if_pos c12_0] | rw [if_neg c12_0] | rw [if_neg (Classical.not_not.mpr c12_0)]
      try first | rw [if_pos c12_1] | rw [if_neg c12_1] | rw [if_neg (Classical.not_not.mpr c12_1)]
      try first | rw [if_pos c12_2] | rw [if_neg c12_2] | rw [if_neg (Classical.not_not.mpr c12_2)]
      try first | rw [if_pos c12_3] | rw [if_neg c12_3] | rw [if_neg (Classical.not_not.mpr c12_3)]
      try first | rw [if_pos c12_4] | rw [if_neg c12_4] | rw [if_neg (Classical.not_not.mpr c12_4)]
      try first | rw [if_pos c12_5] | rw [if_neg c12_5] | rw [if_neg (Classical.not_not.mpr c12_5)]
      try rfl
    by_cases c12_6 : w = nI 6
    ·
      refine J_tsIn (pc := 12) (tgt := 77) (off := 65) dX8_told_12 (by rw [c12_6]; decide) (by rw [c12_6]; decide) (by rw [c12_6]; rfl) (by decide) ?_
      refine J_aload_n (pc := 77) dX8_told_77 rfl ?_
      refine J_iload_n (pc := 78) dX8_told_78 rfl ?_
      refine K_callVp (pc := 79) (id := 140) (As := [_]) dX8_told_79 kl_X8_107 rfl job_140 rfl rfl (Nat.le_of_ble_eq_true rfl) (m_aimOf (p := q) (by omega) hw) ?_
      refine K_iret (pc := 82) dX8_told_82 rfl ⟨_, rfl, ?_⟩
      show (_, _) = _
      unfold R_told
      rw [htq]
      try first | rw [if_pos h5] | rw [if_neg h5] | rw [if_neg (Classical.not_not.mpr h5)]
      try first | rw [if_pos c12_0] | rw [if_neg c12_0] | rw [if_neg (Classical.not_not.mpr c12_0)]
      try first | rw [if_pos c12_1] | rw [if_neg c12_1] | rw [if_neg (Classical.not_not.mpr c12_1)]
      try first | rw [if_pos c12_2] | rw [if_neg c12_2] | rw [if_neg (Classical.not_not.mpr c12_2)]
      try first | rw [if_pos c12_3] | rw [if_neg c12_3] | rw [if_neg (Classical.not_not.mpr c12_3)]
      try first | rw [if_pos c12_4] | rw [if_neg c12_4] | rw [if_neg (Classical.not_not.mpr c12_4)]
      try first | rw [if_pos c12_5] | rw [if_neg c12_5] | rw [if_neg (Classical.not_not.mpr c12_5)]
      try first | rw [if_pos c12_6] | rw [if_neg c12_6] | rw [if_neg (Classical.not_not.mpr c12_6)]
      try rfl
    by_cases c12_7 : w = nI 7
    ·
      refine J_tsIn (pc := 12) (tgt := 83) (off := 71) dX8_told_12 (by rw [c12_7]; decide) (by rw [c12_7]; decide) (by rw [c12_7]; rfl) (by decide) ?_
      refine J_aload_n (pc := 83) dX8_told_83 rfl ?_
      refine J_iload_n (pc := 84) dX8_told_84 rfl ?_
      refine K_callVp (pc := 85) (id := 140) (As := [_]) dX8_told_85 kl_X8_110 rfl job_140 rfl rfl (Nat.le_of_ble_eq_true rfl) (m_paceOf (p := q) (by omega)) ?_
      refine K_iret (pc := 88) dX8_told_88 rfl ⟨_, rfl, ?_⟩
      show (_, _) = _
      unfold R_told
      rw [htq]
      try first | rw [if_pos h5] | rw [if_neg h5] | rw [if_neg (Classical.not_not.mpr h5)]
      try first | rw [if_pos c12_0] | rw [if_neg c12_0] | rw [if_neg (Classical.not_not.mpr c12_0)]
      try first | rw [if_pos c12_1] | rw [if_neg c12_1] | rw [if_neg (Classical.not_not.mpr c12_1)]
      try first | rw [if_pos c12_2] | rw [if_neg c12_2] | rw [if_neg (Classical.not_not.mpr c12_2)]
      try first | rw [if_pos c12_3] | rw [if_neg c12_3] | rw [if_neg (Classical.not_not.mpr c12_3)]
      try first | rw [if_pos c12_4] | rw [if_neg c12_4] | rw [if_neg (Classical.not_not.mpr c12_4)]
      try first | rw [if_pos c12_5] | rw [if_neg c12_5] | rw [if_neg (Classical.not_not.mpr c12_5)]
      try first | rw [if_pos c12_6] | rw [if_neg c12_6] | rw [if_neg (Classical.not_not.mpr c12_6)]
      try first | rw [if_pos c12_7] | rw [if_neg c12_7] | rw [if_neg (Classical.not_not.mpr c12_7)]
      try rfl
    by_cases c12_8 : w = nI 8
    ·
      refine J_tsIn (pc := 12) (tgt := 89) (off := 77) dX8_told_12 (by rw [c12_8]; decide) (by rw [c12_8]; decide) (by rw [c12_8]; rfl) (by decide) ?_
      refine J_aload_n (pc := 89) dX8_told_89 rfl ?_
      refine J_iload_n (pc := 90) dX8_told_90 rfl ?_
      refine K_callVp (pc := 91) (id := 140) (As := [_]) dX8_told_91 kl_X8_113 rfl job_140 rfl rfl (Nat.le_of_ble_eq_true rfl) (m_givesOf (p := q) (by omega)) ?_
      refine K_iret (pc := 94) dX8_told_94 rfl ⟨_, rfl, ?_⟩
      show (_, _) = _
      unfold R_told
      rw [htq]
      try first | rw [if_pos h5] | rw [if_neg h5] | rw [if_neg (Classical.not_not.mpr h5)]
      try first | rw [if_pos c12_0] | rw [if_neg c12_0] | rw [if_neg (Classical.not_not.mpr c12_0)]
      try first | rw [if_pos c12_1] | rw [if_neg c12_1] | rw [if_neg (Classical.not_not.mpr c12_1)]
      try first | rw [if_pos c12_2] | rw [if_neg c12_2] | rw [if_neg (Classical.not_not.mpr c12_2)]
      try first | rw [if_pos c12_3] | rw [if_neg c12_3] | rw [if_neg (Classical.not_not.mpr c12_3)]
      try first | rw [if_pos c12_4] | rw [if_neg c12_4] | rw [if_neg (Classical.not_not.mpr c12_4)]
      try first | rw [if_pos c12_5] | rw [if_neg c12_5] | rw [if_neg (Classical.not_not.mpr c12_5)]
      try first | rw [if_pos c12_6] | rw [if_neg c12_6] | rw [if_neg (Classical.not_not.mpr c12_6)]
      try first | rw [if_pos c12_7] | rw [if_neg c12_7] | rw [if_neg (Classical.not_not.mpr c12_7)]
      try first | rw [if_pos c12_8] | rw [if_neg c12_8] | rw [if_neg (Classical.not_not.mpr c12_8)]
      try rfl
    refine J_tsOut (pc := 12) (tgt := 95) dX8_told_12 (by have qc12_0 := jsw_ne c12_0 (by decide); have qc12_1 := jsw_ne c12_1 (by decide); have qc12_2 := jsw_ne c12_2 (by decide); have qc12_3 := jsw_ne c12_3 (by decide); have qc12_4 := jsw_ne c12_4 (by decide); have qc12_5 := jsw_ne c12_5 (by decide); have qc12_6 := jsw_ne c12_6 (by decide); have qc12_7 := jsw_ne c12_7 (by decide); have qc12_8 := jsw_ne c12_8 (by decide); omega) (by decide) ?_
    refine J_ldc (pc := 95) dX8_told_95 kc_X8_91 ?_
    refine K_iret (pc := 97) dX8_told_97 rfl ⟨_, rfl, ?_⟩
    show (_, _) = _
    unfold R_told
    try first | rw [if_pos h5] | rw [if_neg h5] | rw [if_neg (Classical.not_not.mpr h5)]
    try first | rw [if_pos c12_0] | rw [if_neg c12_0] | rw [if_neg (Classical.not_not.mpr c12_0)]
    try first | rw [if_pos c12_1] | rw [if_neg c12_1] | rw [if_neg (Classical.not_not.mpr c12_1)]
    try first | rw [if_pos c12_2] | rw [if_neg c12_2] | rw [if_neg (Classical.not_not.mpr c12_2)]
    try first | rw [if_pos c12_3] | rw [if_neg c12_3] | rw [if_neg (Classical.not_not.mpr c12_3)]
    try first | rw [if_pos c12_4] | rw [if_neg c12_4] | rw [if_neg (Classical.not_not.mpr c12_4)]
    try first | rw [if_pos c12_5] | rw [if_neg c12_5] | rw [if_neg (Classical.not_not.mpr c12_5)]
    try first | rw [if_pos c12_6] | rw [if_neg c12_6] | rw [if_neg (Classical.not_not.mpr c12_6)]
    try first | rw [if_pos c12_7] | rw [if_neg c12_7] | rw [if_neg (Classical.not_not.mpr c12_7)]
    try first | rw [if_pos c12_8] | rw [if_neg c12_8] | rw [if_neg (Classical.not_not.mpr c12_8)]
    try rfl
  · 
    refine J_ldc (pc := 8) dX8_told_8 kc_X8_91 ?_
    refine K_iret (pc := 10) dX8_told_10 rfl ⟨_, rfl, ?_⟩
    show (_, _) = _
    unfold R_told
    try first | rw [if_pos h5] | rw [if_neg h5] | rw [if_neg (Classical.not_not.mpr h5)]
    try rfl
def R_as (m : jm) (p k : Int32) : Int32 × jm :=
  if ¬ (nI 0 ≤ p ∧ p ≤ m 141 0 - nI 1) then (-1000000001, m) else if ¬ (nI 0 ≤ k ∧ k ≤ nI 5) then (-1000000001, m) else if k = 0 then (m 141 (90 + 6 * tN p + 2), m) else if k = m 141 (90 + 6 * tN p) then (m 141 (90 + 6 * tN p + 2), m) else if ¬ k = nI 2 then (-1000000012, m) else if ¬ m 141 (90 + 6 * tN p) = nI 3 then (-1000000012, m) else (m 141 (90 + 6 * tN p + 2), m)
set_option maxRecDepth 100000 in
set_option maxHeartbeats 400000 in
theorem m_as {x : jX} {m : jm} {d : Nat} (p k : Int32) {P : Nat} (hP : m 141 0 = nI P) (h48 : P ≤ 48) : Ct x (d + 2) eX8_as [.ref (jxb x + 140), .int p, .int k] m (ji fun rv m' => (rv, m') = R_as m p k) := by
  refine J_start (by decide +kernel) (Nat.le_of_ble_eq_true rfl) (ls := [some (.ref (jxb x + 140)), some (.int p), some (.int k), none]) rfl rfl ?_
  refine J_aload_n (pc := 0) dX8_as_0 rfl ?_
  refine J_iload_n (pc := 1) dX8_as_1 rfl ?_
  refine K_callVp (pc := 2) (id := 140) (As := [_]) dX8_as_2 kl_X8_104 rfl job_140 rfl rfl (Nat.le_of_ble_eq_true rfl) (m_isPart p) ?_
  refine Jb_eq (pc := 5) (tgt := 20) dX8_as_5 (by decide) (fun h5 => ?_) (fun h5 => ?_)
  · 
    refine J_ldc (pc := 20) dX8_as_20 kc_X8_91 ?_
    refine K_iret (pc := 22) dX8_as_22 rfl ⟨_, rfl, ?_⟩
    show (_, _) = _
    unfold R_as
    try first | rw [if_pos h5] | rw [if_neg h5] | rw [if_neg (Classical.not_not.mpr h5)]
    try rfl
  · 
    refine J_iload_n (pc := 8) dX8_as_8 rfl ?_
    refine J_i2l (pc := 9) dX8_as_9 ?_
    refine J_lconst (pc := 10) (v := 0) dX8_as_10 rfl ?_
    refine J_ldc2 (pc := 11) dX8_as_11 kg_X8_79 ?_
    refine K_callSp (pc := 14) (As := [_, _, _]) dX8_as_14 kl_X8_71 rfl rfl (Nat.le_of_ble_eq_true rfl) (m_in32 (v := k) (a := nI 0) (b := nI 5) (by decide) (by decide)) ?_
    refine Jb_ne (pc := 17) (tgt := 23) dX8_as_17 (by decide) (fun h17 => ?_) (fun h17 => ?_)
    · 
      obtain ⟨q, hq, hqe⟩ := w_sub hP h48 h5
      have htq : tN p = q := by rw [hqe]; exact tN_n (by omega)
      subst hqe
      refine J_aload_n (pc := 23) dX8_as_23 rfl ?_
      refine K_getR (pc := 24) dX8_as_24 kf_X8_7 job_140 jrf_140_0 ?_
      refine J_aload_n (pc := 27) dX8_as_27 rfl ?_
      refine J_iload_n (pc := 28) dX8_as_28 rfl ?_
      refine K_callVp (pc := 29) (id := 140) (As := [_]) dX8_as_29 kl_X8_81 rfl job_140 rfl rfl (Nat.le_of_ble_eq_true rfl) (m_partAt) ?_
      refine K_ialdn (pc := 32) (id := 141) dX8_as_32 jar_141 (by omega) (by decide) ?_
      refine J_istore_n (pc := 33) (ls' := [some _, some _, some _, some _]) dX8_as_33 rfl (Nat.le_of_ble_eq_true rfl) rfl ?_
      refine J_iload_n (pc := 34) dX8_as_34 rfl ?_
      refine J_if_eq (pc := 35) (tgt := 53) dX8_as_35 (by decide) (fun h35 => ?_) (fun h35 => ?_)
      · 
        refine J_aload_n (pc := 53) dX8_as_53 rfl ?_
        refine K_getR (pc := 54) dX8_as_54 kf_X8_7 job_140 jrf_140_0 ?_
        refine J_aload_n (pc := 57) dX8_as_57 rfl ?_
        refine J_iload_n (pc := 58) dX8_as_58 rfl ?_
        refine K_callVp (pc := 59) (id := 140) (As := [_]) dX8_as_59 kl_X8_81 rfl job_140 rfl rfl (Nat.le_of_ble_eq_true rfl) (m_partAt) ?_
        refine J_iconst (pc := 62) dX8_as_62 kni_2 ?_
        refine J_iaddv (pc := 63) dX8_as_63 (nI_add _ _) ?_
        refine K_ialdn (pc := 64) (id := 141) dX8_as_64 jar_141 (by omega) (by decide) ?_
        refine J_goto (pc := 65) (tgt := 70) dX8_as_65 (by decide) ?_
        refine K_iret (pc := 70) dX8_as_70 rfl ⟨_, rfl, ?_⟩
        show (_, _) = _
        unfold R_as
        try rw [htq]
        try first | rw [if_pos h5] | rw [if_neg h5] | rw [if_neg (Classical.not_not.mpr h5)]
        try first | rw [if_pos h17] | rw [if_neg h17] | rw [if_neg (Classical.not_not.mpr h17)]
        try first | rw [if_pos h35] | rw [if_neg h35] | rw [if_neg (Classical.not_not.mpr h35)]
        try rfl
      · 
        refine J_iload_n (pc := 38) dX8_as_38 rfl ?_
        refine J_iload_n (pc := 39) dX8_as_39 rfl ?_
        refine J_icmp_eq (pc := 40) (tgt := 53) dX8_as_40 (by decide) (fun h40 => ?_) (fun h40 => ?_)
        · 
          refine J_aload_n (pc := 53) dX8_as_53 rfl ?_
          refine K_getR (pc := 54) dX8_as_54 kf_X8_7 job_140 jrf_140_0 ?_
          refine J_aload_n (pc := 57) dX8_as_57 rfl ?_
          refine J_iload_n (pc := 58) dX8_as_58 rfl ?_
          refine K_callVp (pc := 59) (id := 140) (As := [_]) dX8_as_59 kl_X8_81 rfl job_140 rfl rfl (Nat.le_of_ble_eq_true rfl) (m_partAt) ?_
          refine J_iconst (pc := 62) dX8_as_62 kni_2 ?_
          refine J_iaddv (pc := 63) dX8_as_63 (nI_add _ _) ?_
          refine K_ialdn (pc := 64) (id := 141) dX8_as_64 jar_141 (by omega) (by decide) ?_
          refine J_goto (pc := 65) (tgt := 70) dX8_as_65 (by decide) ?_
          refine K_iret (pc := 70) dX8_as_70 rfl ⟨_, rfl, ?_⟩
          show (_, _) = _
          unfold R_as
          try rw [htq]
          try first | rw [if_pos h5] | rw [if_neg h5] | rw [if_neg (Classical.not_not.mpr h5)]
          try first | rw [if_pos h17] | rw [if_neg h17] | rw [if_neg (Classical.not_not.mpr h17)]
          try first | rw [if_pos h35] | rw [if_neg h35] | rw [if_neg (Classical.not_not.mpr h35)]
          try first | rw [if_pos h40] | rw [if_neg h40] | rw [if_neg (Classical.not_not.mpr h40)]
          try rfl
        · 
          refine J_iload_n (pc := 43) dX8_as_43 rfl ?_
          refine J_iconst (pc := 44) dX8_as_44 kni_2 ?_
          refine J_icmp_ne (pc := 45) (tgt := 68) dX8_as_45 (by decide) (fun h45 => ?_) (fun h45 => ?_)
          · 
            refine J_ldc (pc := 68) dX8_as_68 kc_X8_116 ?_
            refine K_iret (pc := 70) dX8_as_70 rfl ⟨_, rfl, ?_⟩
            show (_, _) = _
            unfold R_as
            try rw [htq]
            try first | rw [if_pos h5] | rw [if_neg h5] | rw [if_neg (Classical.not_not.mpr h5)]
            try first | rw [if_pos h17] | rw [if_neg h17] | rw [if_neg (Classical.not_not.mpr h17)]
            try first | rw [if_pos h35] | rw [if_neg h35] | rw [if_neg (Classical.not_not.mpr h35)]
            try first | rw [if_pos h40] | rw [if_neg h40] | rw [if_neg (Classical.not_not.mpr h40)]
            try first | rw [if_pos h45] | rw [if_neg h45] | rw [if_neg (Classical.not_not.mpr h45)]
            try rfl
          · 
            refine J_iload_n (pc := 48) dX8_as_48 rfl ?_
            refine J_iconst (pc := 49) dX8_as_49 kni_3 ?_
            refine J_icmp_ne (pc := 50) (tgt := 68) dX8_as_50 (by decide) (fun h50 => ?_) (fun h50 => ?_)
            · 
              refine J_ldc (pc := 68) dX8_as_68 kc_X8_116 ?_
              refine K_iret (pc := 70) dX8_as_70 rfl ⟨_, rfl, ?_⟩
              show (_, _) = _
              unfold R_as
              try rw [htq]
              try first | rw [if_pos h5] | rw [if_neg h5] | rw [if_neg (Classical.not_not.mpr h5)]
              try first | rw [if_pos h17] | rw [if_neg h17] | rw [if_neg (Classical.not_not.mpr h17)]
              try first | rw [if_pos h35] | rw [if_neg h35] | rw [if_neg (Classical.not_not.mpr h35)]
              try first | rw [if_pos h40] | rw [if_neg h40] | rw [if_neg (Classical.not_not.mpr h40)]
              try first | rw [if_pos h45] | rw [if_neg h45] | rw [if_neg (Classical.not_not.mpr h45)]
              try first | rw [if_pos h50] | rw [if_neg h50] | rw [if_neg (Classical.not_not.mpr h50)]
              try rfl
            · 
              refine J_aload_n (pc := 53) dX8_as_53 rfl ?_
              refine K_getR (pc := 54) dX8_as_54 kf_X8_7 job_140 jrf_140_0 ?_
              refine J_aload_n (pc := 57) dX8_as_57 rfl ?_
              refine J_iload_n (pc := 58) dX8_as_58 rfl ?_
              refine K_callVp (pc := 59) (id := 140) (As := [_]) dX8_as_59 kl_X8_81 rfl job_140 rfl rfl (Nat.le_of_ble_eq_true rfl) (m_partAt) ?_
              refine J_iconst (pc := 62) dX8_as_62 kni_2 ?_
              refine J_iaddv (pc := 63) dX8_as_63 (nI_add _ _) ?_
              refine K_ialdn (pc := 64) (id := 141) dX8_as_64 jar_141 (by omega) (by decide) ?_
              refine J_goto (pc := 65) (tgt := 70) dX8_as_65 (by decide) ?_
              refine K_iret (pc := 70) dX8_as_70 rfl ⟨_, rfl, ?_⟩
              show (_, _) = _
              unfold R_as
              try rw [htq]
              try first | rw [if_pos h5] | rw [if_neg h5] | rw [if_neg (Classical.not_not.mpr h5)]
              try first | rw [if_pos h17] | rw [if_neg h17] | rw [if_neg (Classical.not_not.mpr h17)]
              try first | rw [if_pos h35] | rw [if_neg h35] | rw [if_neg (Classical.not_not.mpr h35)]
              try first | rw [if_pos h40] | rw [if_neg h40] | rw [if_neg (Classical.not_not.mpr h40)]
              try first | rw [if_pos h45] | rw [if_neg h45] | rw [if_neg (Classical.not_not.mpr h45)]
              try first | rw [if_pos h50] | rw [if_neg h50] | rw [if_neg (Classical.not_not.mpr h50)]
              try rfl
    · 
      refine J_ldc (pc := 20) dX8_as_20 kc_X8_91 ?_
      refine K_iret (pc := 22) dX8_as_22 rfl ⟨_, rfl, ?_⟩
      show (_, _) = _
      unfold R_as
      try first | rw [if_pos h5] | rw [if_neg h5] | rw [if_neg (Classical.not_not.mpr h5)]
      try first | rw [if_pos h17] | rw [if_neg h17] | rw [if_neg (Classical.not_not.mpr h17)]
      try rfl
def R_dies (m : jm) (p : Int32) : Int32 × jm :=
  if ¬ (nI 0 ≤ p ∧ p ≤ m 141 0 - nI 1) then (-1000000001, m) else if m 141 (90 + 6 * tN p) = nI 5 then (-1000000002, m) else (nI 1, mup (mup m 141 (90 + 6 * tN p) (nI 5)) 140 33 (nI 0))
set_option maxRecDepth 100000 in
set_option maxHeartbeats 400000 in
theorem m_dies {x : jX} {m : jm} {d : Nat} (p : Int32) {P : Nat} (hP : m 141 0 = nI P) (h48 : P ≤ 48) : Ct x (d + 2) eX8_dies [.ref (jxb x + 140), .int p] m (ji fun rv m' => (rv, m') = R_dies m p) := by
  refine J_start (by decide +kernel) (Nat.le_of_ble_eq_true rfl) (ls := [some (.ref (jxb x + 140)), some (.int p)]) rfl rfl ?_
  refine J_aload_n (pc := 0) dX8_dies_0 rfl ?_
  refine J_iload_n (pc := 1) dX8_dies_1 rfl ?_
  refine K_callVp (pc := 2) (id := 140) (As := [_]) dX8_dies_2 kl_X8_104 rfl job_140 rfl rfl (Nat.le_of_ble_eq_true rfl) (m_isPart p) ?_
  refine Jb_ne (pc := 5) (tgt := 11) dX8_dies_5 (by decide) (fun h5 => ?_) (fun h5 => ?_)
  · 
    obtain ⟨q, hq, hqe⟩ := w_sub hP h48 h5
    have htq : tN p = q := by rw [hqe]; exact tN_n (by omega)
    subst hqe
    refine J_aload_n (pc := 11) dX8_dies_11 rfl ?_
    refine K_getR (pc := 12) dX8_dies_12 kf_X8_7 job_140 jrf_140_0 ?_
    refine J_aload_n (pc := 15) dX8_dies_15 rfl ?_
    refine J_iload_n (pc := 16) dX8_dies_16 rfl ?_
    refine K_callVp (pc := 17) (id := 140) (As := [_]) dX8_dies_17 kl_X8_81 rfl job_140 rfl rfl (Nat.le_of_ble_eq_true rfl) (m_partAt) ?_
    refine K_ialdn (pc := 20) (id := 141) dX8_dies_20 jar_141 (by omega) (by decide) ?_
    refine J_iconst (pc := 21) dX8_dies_21 kni_5 ?_
    refine J_icmp_ne (pc := 22) (tgt := 28) dX8_dies_22 (by decide) (fun h22 => ?_) (fun h22 => ?_)
    · 
      refine J_aload_n (pc := 28) dX8_dies_28 rfl ?_
      refine K_getR (pc := 29) dX8_dies_29 kf_X8_7 job_140 jrf_140_0 ?_
      refine J_aload_n (pc := 32) dX8_dies_32 rfl ?_
      refine J_iload_n (pc := 33) dX8_dies_33 rfl ?_
      refine K_callVp (pc := 34) (id := 140) (As := [_]) dX8_dies_34 kl_X8_81 rfl job_140 rfl rfl (Nat.le_of_ble_eq_true rfl) (m_partAt) ?_
      refine J_iconst (pc := 37) dX8_dies_37 kni_5 ?_
      refine K_iastn (pc := 38) (id := 141) dX8_dies_38 jar_141 (by omega) (by decide) ?_
      refine J_aload_n (pc := 39) dX8_dies_39 rfl ?_
      refine J_iconst (pc := 40) dX8_dies_40 kni_0 ?_
      refine K_put (pc := 41) dX8_dies_41 kp_X8_67 job_140 jrf_140_33 rfl rfl ?_
      refine J_iconst (pc := 44) dX8_dies_44 kni_1 ?_
      refine K_iret (pc := 45) dX8_dies_45 rfl ⟨_, rfl, ?_⟩
      show (_, _) = _
      unfold R_dies
      rw [htq]
      try first | rw [if_pos h5] | rw [if_neg h5] | rw [if_neg (Classical.not_not.mpr h5)]
      try first | rw [if_pos h22] | rw [if_neg h22] | rw [if_neg (Classical.not_not.mpr h22)]
      try rfl
    · 
      refine J_ldc (pc := 25) dX8_dies_25 kc_X8_95 ?_
      refine K_iret (pc := 27) dX8_dies_27 rfl ⟨_, rfl, ?_⟩
      show (_, _) = _
      unfold R_dies
      rw [htq]
      try first | rw [if_pos h5] | rw [if_neg h5] | rw [if_neg (Classical.not_not.mpr h5)]
      try first | rw [if_pos h22] | rw [if_neg h22] | rw [if_neg (Classical.not_not.mpr h22)]
      try rfl
  · 
    refine J_ldc (pc := 8) dX8_dies_8 kc_X8_91 ?_
    refine K_iret (pc := 10) dX8_dies_10 rfl ⟨_, rfl, ?_⟩
    show (_, _) = _
    unfold R_dies
    try first | rw [if_pos h5] | rw [if_neg h5] | rw [if_neg (Classical.not_not.mpr h5)]
    try rfl
def R_nerve (m : jm) (n w v : Int32) : Int32 × jm :=
  if ¬ (nI 0 ≤ n ∧ n ≤ nI 9) then (-1000000001, m) else if w = 0 ∧ nI 0 ≤ v ∧ v ≤ nI 5 then (m 141 (10 + 2 * tN n), becR m (10 + 2 * tN n) v) else if w = nI 1 ∧ nI 1 ≤ v ∧ v ≤ nI 9 then (m 141 (10 + 2 * tN n + 1), becR m (10 + 2 * tN n + 1) v) else (-1000000001, m)
set_option maxRecDepth 100000 in
set_option maxHeartbeats 400000 in
theorem m_nerve {x : jX} {m : jm} {d : Nat} (n w v : Int32) : Ct x (d + 2) eX8_nerve [.ref (jxb x + 140), .int n, .int w, .int v] m (ji fun rv m' => (rv, m') = R_nerve m n w v) := by
  refine J_start (by decide +kernel) (Nat.le_of_ble_eq_true rfl) (ls := [some (.ref (jxb x + 140)), some (.int n), some (.int w), some (.int v), none]) rfl rfl ?_
  refine J_iload_n (pc := 0) dX8_nerve_0 rfl ?_
  refine J_if_ne (pc := 1) (tgt := 11) dX8_nerve_1 (by decide) (fun h1 => ?_) (fun h1 => ?_)
  · 
    refine J_iload_n (pc := 11) dX8_nerve_11 rfl ?_
    refine J_iconst (pc := 12) dX8_nerve_12 kni_1 ?_
    refine J_icmp_ne (pc := 13) (tgt := 32) dX8_nerve_13 (by decide) (fun h13 => ?_) (fun h13 => ?_)
    · 
      refine J_iconst (pc := 32) dX8_nerve_32 kni_0 ?_
      refine J_istore (pc := 33) (ls' := [some _, some _, some _, some _, some _]) dX8_nerve_33 rfl (Nat.le_of_ble_eq_true rfl) rfl ?_
      refine J_iload_n (pc := 35) dX8_nerve_35 rfl ?_
      refine J_i2l (pc := 36) dX8_nerve_36 ?_
      refine J_lconst (pc := 37) (v := 0) dX8_nerve_37 rfl ?_
      refine J_ldc2 (pc := 38) dX8_nerve_38 kg_X8_89 ?_
      refine K_callSp (pc := 41) (As := [_, _, _]) dX8_nerve_41 kl_X8_71 rfl rfl (Nat.le_of_ble_eq_true rfl) (m_in32 (v := n) (a := nI 0) (b := nI 9) (by decide) (by decide)) ?_
      refine Jb_eq (pc := 44) (tgt := 68) dX8_nerve_44 (by decide) (fun h44 => ?_) (fun h44 => ?_)
      · 
        refine J_ldc (pc := 68) dX8_nerve_68 kc_X8_91 ?_
        refine K_iret (pc := 70) dX8_nerve_70 rfl ⟨_, rfl, ?_⟩
        show (_, _) = _
        unfold R_nerve
        rw [if_pos h44]
      · 
        refine J_iload (pc := 47) dX8_nerve_47 rfl ?_
        refine Jn_if_eq (pc := 49) (tgt := 68) dX8_nerve_49 (by decide) (by omega) (fun h49 => ?_) (fun h49 => absurd h49 (by omega))
        refine J_ldc (pc := 68) dX8_nerve_68 kc_X8_91 ?_
        refine K_iret (pc := 70) dX8_nerve_70 rfl ⟨_, rfl, ?_⟩
        show (_, _) = _
        unfold R_nerve
        rw [if_neg (Classical.not_not.mpr h44), if_neg (fun z => h1 z.1), if_neg (fun z => h13 z.1)]
    · 
      refine J_iload_n (pc := 16) dX8_nerve_16 rfl ?_
      refine J_i2l (pc := 17) dX8_nerve_17 ?_
      refine J_lconst (pc := 18) (v := 1) dX8_nerve_18 rfl ?_
      refine J_ldc2 (pc := 19) dX8_nerve_19 kg_X8_89 ?_
      refine K_callSp (pc := 22) (As := [_, _, _]) dX8_nerve_22 kl_X8_71 rfl rfl (Nat.le_of_ble_eq_true rfl) (m_in32 (v := v) (a := nI 1) (b := nI 9) (by decide) (by decide)) ?_
      refine Jb_eq (pc := 25) (tgt := 32) dX8_nerve_25 (by decide) (fun h25 => ?_) (fun h25 => ?_)
      · 
        refine J_iconst (pc := 32) dX8_nerve_32 kni_0 ?_
        refine J_istore (pc := 33) (ls' := [some _, some _, some _, some _, some _]) dX8_nerve_33 rfl (Nat.le_of_ble_eq_true rfl) rfl ?_
        refine J_iload_n (pc := 35) dX8_nerve_35 rfl ?_
        refine J_i2l (pc := 36) dX8_nerve_36 ?_
        refine J_lconst (pc := 37) (v := 0) dX8_nerve_37 rfl ?_
        refine J_ldc2 (pc := 38) dX8_nerve_38 kg_X8_89 ?_
        refine K_callSp (pc := 41) (As := [_, _, _]) dX8_nerve_41 kl_X8_71 rfl rfl (Nat.le_of_ble_eq_true rfl) (m_in32 (v := n) (a := nI 0) (b := nI 9) (by decide) (by decide)) ?_
        refine Jb_eq (pc := 44) (tgt := 68) dX8_nerve_44 (by decide) (fun h44 => ?_) (fun h44 => ?_)
        · 
          refine J_ldc (pc := 68) dX8_nerve_68 kc_X8_91 ?_
          refine K_iret (pc := 70) dX8_nerve_70 rfl ⟨_, rfl, ?_⟩
          show (_, _) = _
          unfold R_nerve
          rw [if_pos h44]
        · 
          refine J_iload (pc := 47) dX8_nerve_47 rfl ?_
          refine Jn_if_eq (pc := 49) (tgt := 68) dX8_nerve_49 (by decide) (by omega) (fun h49 => ?_) (fun h49 => absurd h49 (by omega))
          refine J_ldc (pc := 68) dX8_nerve_68 kc_X8_91 ?_
          refine K_iret (pc := 70) dX8_nerve_70 rfl ⟨_, rfl, ?_⟩
          show (_, _) = _
          unfold R_nerve
          rw [if_neg (Classical.not_not.mpr h44), if_neg (fun z => h1 z.1), if_neg (fun z => h25 z.2)]
      · 
        refine J_iconst (pc := 28) dX8_nerve_28 kni_1 ?_
        refine J_goto (pc := 29) (tgt := 33) dX8_nerve_29 (by decide) ?_
        refine J_istore (pc := 33) (ls' := [some _, some _, some _, some _, some _]) dX8_nerve_33 rfl (Nat.le_of_ble_eq_true rfl) rfl ?_
        refine J_iload_n (pc := 35) dX8_nerve_35 rfl ?_
        refine J_i2l (pc := 36) dX8_nerve_36 ?_
        refine J_lconst (pc := 37) (v := 0) dX8_nerve_37 rfl ?_
        refine J_ldc2 (pc := 38) dX8_nerve_38 kg_X8_89 ?_
        refine K_callSp (pc := 41) (As := [_, _, _]) dX8_nerve_41 kl_X8_71 rfl rfl (Nat.le_of_ble_eq_true rfl) (m_in32 (v := n) (a := nI 0) (b := nI 9) (by decide) (by decide)) ?_
        refine Jb_eq (pc := 44) (tgt := 68) dX8_nerve_44 (by decide) (fun h44 => ?_) (fun h44 => ?_)
        · 
          refine J_ldc (pc := 68) dX8_nerve_68 kc_X8_91 ?_
          refine K_iret (pc := 70) dX8_nerve_70 rfl ⟨_, rfl, ?_⟩
          show (_, _) = _
          unfold R_nerve
          rw [if_pos h44]
        · 
          refine J_iload (pc := 47) dX8_nerve_47 rfl ?_
          refine Jn_if_eq (pc := 49) (tgt := 68) dX8_nerve_49 (by decide) (by omega) (fun h49 => absurd h49 (by omega)) (fun h49 => ?_)
          obtain ⟨q, hq, hqe⟩ := w_of h44 (by decide)
          have htq : tN n = q := by rw [hqe]; exact tN_n (by omega)
          subst hqe
          refine J_aload_n (pc := 52) dX8_nerve_52 rfl ?_
          refine J_bipush (pc := 53) dX8_nerve_53 knb_10 ?_
          refine J_iconst (pc := 55) dX8_nerve_55 kni_2 ?_
          refine J_iload_n (pc := 56) dX8_nerve_56 rfl ?_
          refine J_imulv (pc := 57) dX8_nerve_57 (pk_mul _ _) ?_
          refine J_iaddv (pc := 58) dX8_nerve_58 (nI_add _ _) ?_
          refine J_iload_n (pc := 59) dX8_nerve_59 rfl ?_
          refine J_iadd (pc := 60) dX8_nerve_60 ?_
          refine J_top (b := nI (10 + 2 * q + 1)) (by rw [h13]; exact nI_add _ _) ?_
          refine J_iload_n (pc := 61) dX8_nerve_61 rfl ?_
          refine K_callVi (pc := 62) (id := 140) (As := [_, _]) dX8_nerve_62 kl_X8_120 rfl job_140 rfl rfl (Nat.le_of_ble_eq_true rfl) (m_becomes (m := m) (a := 10 + 2 * q + 1) (by omega) v) (fun vr mr hr => ?_)
          obtain ⟨rfl, rfl⟩ := hr
          refine J_goto (pc := 65) (tgt := 70) dX8_nerve_65 (by decide) ?_
          refine K_iret (pc := 70) dX8_nerve_70 rfl ⟨_, rfl, ?_⟩
          show (_, _) = _
          unfold R_nerve
          rw [htq, if_neg (Classical.not_not.mpr h44), if_neg (fun z => h1 z.1), if_pos ⟨h13, h25⟩]
  · 
    refine J_iload_n (pc := 4) dX8_nerve_4 rfl ?_
    refine K_callSp (pc := 5) (As := [_]) dX8_nerve_5 kl_X8_117 rfl rfl (Nat.le_of_ble_eq_true rfl) (m_isGroup v) ?_
    refine J_goto (pc := 8) (tgt := 33) dX8_nerve_8 (by decide) ?_
    refine J_istore (pc := 33) (ls' := [some _, some _, some _, some _, some _]) dX8_nerve_33 rfl (Nat.le_of_ble_eq_true rfl) rfl ?_
    refine J_iload_n (pc := 35) dX8_nerve_35 rfl ?_
    refine J_i2l (pc := 36) dX8_nerve_36 ?_
    refine J_lconst (pc := 37) (v := 0) dX8_nerve_37 rfl ?_
    refine J_ldc2 (pc := 38) dX8_nerve_38 kg_X8_89 ?_
    refine K_callSp (pc := 41) (As := [_, _, _]) dX8_nerve_41 kl_X8_71 rfl rfl (Nat.le_of_ble_eq_true rfl) (m_in32 (v := n) (a := nI 0) (b := nI 9) (by decide) (by decide)) ?_
    refine Jb_eq (pc := 44) (tgt := 68) dX8_nerve_44 (by decide) (fun h44 => ?_) (fun h44 => ?_)
    · 
      refine J_ldc (pc := 68) dX8_nerve_68 kc_X8_91 ?_
      refine K_iret (pc := 70) dX8_nerve_70 rfl ⟨_, rfl, ?_⟩
      show (_, _) = _
      unfold R_nerve
      rw [if_pos h44]
    · 
      refine J_iload (pc := 47) dX8_nerve_47 rfl ?_
      refine Jb_eq (pc := 49) (tgt := 68) dX8_nerve_49 (by decide) (fun h49 => ?_) (fun h49 => ?_)
      · 
        refine J_ldc (pc := 68) dX8_nerve_68 kc_X8_91 ?_
        refine K_iret (pc := 70) dX8_nerve_70 rfl ⟨_, rfl, ?_⟩
        show (_, _) = _
        unfold R_nerve
        rw [if_neg (Classical.not_not.mpr h44), if_neg (fun z => h49 z.2), if_neg (fun z => absurd (h1.symm.trans z.1) (by decide))]
      · 
        obtain ⟨q, hq, hqe⟩ := w_of h44 (by decide)
        have htq : tN n = q := by rw [hqe]; exact tN_n (by omega)
        subst hqe
        refine J_aload_n (pc := 52) dX8_nerve_52 rfl ?_
        refine J_bipush (pc := 53) dX8_nerve_53 knb_10 ?_
        refine J_iconst (pc := 55) dX8_nerve_55 kni_2 ?_
        refine J_iload_n (pc := 56) dX8_nerve_56 rfl ?_
        refine J_imulv (pc := 57) dX8_nerve_57 (pk_mul _ _) ?_
        refine J_iaddv (pc := 58) dX8_nerve_58 (nI_add _ _) ?_
        refine J_iload_n (pc := 59) dX8_nerve_59 rfl ?_
        refine J_iadd (pc := 60) dX8_nerve_60 ?_
        refine J_top (b := nI (10 + 2 * q)) (by rw [h1]; exact Int32.add_zero _) ?_
        refine J_iload_n (pc := 61) dX8_nerve_61 rfl ?_
        refine K_callVi (pc := 62) (id := 140) (As := [_, _]) dX8_nerve_62 kl_X8_120 rfl job_140 rfl rfl (Nat.le_of_ble_eq_true rfl) (m_becomes (m := m) (a := 10 + 2 * q) (by omega) v) (fun vr mr hr => ?_)
        obtain ⟨rfl, rfl⟩ := hr
        refine J_goto (pc := 65) (tgt := 70) dX8_nerve_65 (by decide) ?_
        refine K_iret (pc := 70) dX8_nerve_70 rfl ⟨_, rfl, ?_⟩
        show (_, _) = _
        unfold R_nerve
        rw [htq, if_neg (Classical.not_not.mpr h44), if_pos ⟨h1, h49⟩]
def R_pull (m : jm) (g v : Int32) : Int32 × jm :=
  if ¬ (nI 0 ≤ g ∧ g ≤ nI 5) then (-1000000001, m) else if ¬ (nI 0 ≤ v ∧ v ≤ nI 9) then (-1000000001, m) else (m 141 (30 + tN g), becR m (30 + tN g) v)
set_option maxRecDepth 100000 in
set_option maxHeartbeats 400000 in
theorem m_pull {x : jX} {m : jm} {d : Nat} (g v : Int32) : Ct x (d + 2) eX8_pull [.ref (jxb x + 140), .int g, .int v] m (ji fun rv m' => (rv, m') = R_pull m g v) := by
  refine J_start (by decide +kernel) (Nat.le_of_ble_eq_true rfl) (ls := [some (.ref (jxb x + 140)), some (.int g), some (.int v)]) rfl rfl ?_
  refine J_iload_n (pc := 0) dX8_pull_0 rfl ?_
  refine K_callSp (pc := 1) (As := [_]) dX8_pull_1 kl_X8_117 rfl rfl (Nat.le_of_ble_eq_true rfl) (m_isGroup g) ?_
  refine Jb_eq (pc := 4) (tgt := 31) dX8_pull_4 (by decide) (fun h4 => ?_) (fun h4 => ?_)
  · 
    refine J_ldc (pc := 31) dX8_pull_31 kc_X8_91 ?_
    refine K_iret (pc := 33) dX8_pull_33 rfl ⟨_, rfl, ?_⟩
    show (_, _) = _
    unfold R_pull
    try rw [htq]
    try first | rw [if_pos h4] | rw [if_neg h4] | rw [if_neg (Classical.not_not.mpr h4)]
    try rfl
  · 
    refine J_iload_n (pc := 7) dX8_pull_7 rfl ?_
    refine J_i2l (pc := 8) dX8_pull_8 ?_
    refine J_lconst (pc := 9) (v := 0) dX8_pull_9 rfl ?_
    refine J_ldc2 (pc := 10) dX8_pull_10 kg_X8_89 ?_
    refine K_callSp (pc := 13) (As := [_, _, _]) dX8_pull_13 kl_X8_71 rfl rfl (Nat.le_of_ble_eq_true rfl) (m_in32 (v := v) (a := nI 0) (b := nI 9) (by decide) (by decide)) ?_
    refine Jb_eq (pc := 16) (tgt := 31) dX8_pull_16 (by decide) (fun h16 => ?_) (fun h16 => ?_)
    · 
      refine J_ldc (pc := 31) dX8_pull_31 kc_X8_91 ?_
      refine K_iret (pc := 33) dX8_pull_33 rfl ⟨_, rfl, ?_⟩
      show (_, _) = _
      unfold R_pull
      try rw [htq]
      try first | rw [if_pos h4] | rw [if_neg h4] | rw [if_neg (Classical.not_not.mpr h4)]
      try first | rw [if_pos h16] | rw [if_neg h16] | rw [if_neg (Classical.not_not.mpr h16)]
      try rfl
    · 
      obtain ⟨q, hq, hqe⟩ := w_of h4 (by decide)
      have htq : tN g = q := by rw [hqe]; exact tN_n (by omega)
      subst hqe
      refine J_aload_n (pc := 19) dX8_pull_19 rfl ?_
      refine J_bipush (pc := 20) dX8_pull_20 knb_30 ?_
      refine J_iload_n (pc := 22) dX8_pull_22 rfl ?_
      refine J_iaddv (pc := 23) dX8_pull_23 (nI_add _ _) ?_
      refine J_iload_n (pc := 24) dX8_pull_24 rfl ?_
      refine K_callVi (pc := 25) (id := 140) (As := [_, _]) dX8_pull_25 kl_X8_120 rfl job_140 rfl rfl (Nat.le_of_ble_eq_true rfl) (m_becomes (a := 30 + q) (by omega) v) (fun vr mr hr => ?_)
      obtain ⟨rfl, rfl⟩ := hr
      refine J_goto (pc := 28) (tgt := 33) dX8_pull_28 (by decide) ?_
      refine K_iret (pc := 33) dX8_pull_33 rfl ⟨_, rfl, ?_⟩
      show (_, _) = _
      unfold R_pull
      try rw [htq]
      try first | rw [if_pos h4] | rw [if_neg h4] | rw [if_neg (Classical.not_not.mpr h4)]
      try first | rw [if_pos h16] | rw [if_neg h16] | rw [if_neg (Classical.not_not.mpr h16)]
      try rfl
def rlg (w v : Int32) : Prop := (w = 0 ∧ nI 0 ≤ v ∧ v ≤ nI 99) ∨ (w = nI 1 ∧ nI 0 ≤ v ∧ v ≤ nI 9) ∨ (w = nI 2 ∧ nI 1 ≤ v ∧ v ≤ nI 99) ∨ (w = nI 3 ∧ nI 1 ≤ v ∧ v ≤ nI 48)
def R_rule (m : jm) (w v : Int32) : Int32 × jm :=
  if (w = 0 ∧ nI 0 ≤ v ∧ v ≤ nI 99) ∨ (w = nI 1 ∧ nI 0 ≤ v ∧ v ≤ nI 9) ∨ (w = nI 2 ∧ nI 1 ≤ v ∧ v ≤ nI 99) ∨ (w = nI 3 ∧ nI 1 ≤ v ∧ v ≤ nI 48) then (m 141 (2 + tN w), becR m (2 + tN w) v) else (-1000000001, m)
set_option maxRecDepth 100000 in
set_option maxHeartbeats 400000 in
theorem m_rule {x : jX} {m : jm} {d : Nat} (w v : Int32) : Ct x (d + 2) eX8_rule [.ref (jxb x + 140), .int w, .int v] m (ji fun rv m' => (rv, m') = R_rule m w v) := by
  refine J_start (by decide +kernel) (Nat.le_of_ble_eq_true rfl) (ls := [some (.ref (jxb x + 140)), some (.int w), some (.int v), none]) rfl rfl ?_
  refine J_iload_n (pc := 0) dX8_rule_0 rfl ?_
  refine J_if_ne (pc := 1) (tgt := 16) dX8_rule_1 (by decide) (fun h1 => ?_) (fun h1 => ?_)
  · 
    refine J_iload_n (pc := 16) dX8_rule_16 rfl ?_
    refine J_iconst (pc := 17) dX8_rule_17 kni_1 ?_
    refine J_icmp_ne (pc := 18) (tgt := 33) dX8_rule_18 (by decide) (fun h18 => ?_) (fun h18 => ?_)
    · 
      refine J_iload_n (pc := 33) dX8_rule_33 rfl ?_
      refine J_iconst (pc := 34) dX8_rule_34 kni_2 ?_
      refine J_icmp_ne (pc := 35) (tgt := 50) dX8_rule_35 (by decide) (fun h35 => ?_) (fun h35 => ?_)
      · 
        refine J_iload_n (pc := 50) dX8_rule_50 rfl ?_
        refine J_iconst (pc := 51) dX8_rule_51 kni_3 ?_
        refine J_icmp_ne (pc := 52) (tgt := 71) dX8_rule_52 (by decide) (fun h52 => ?_) (fun h52 => ?_)
        · 
          refine J_iconst (pc := 71) dX8_rule_71 kni_0 ?_
          refine J_istore_n (pc := 72) (ls' := [some _, some _, some _, some _]) dX8_rule_72 rfl (Nat.le_of_ble_eq_true rfl) rfl ?_
          refine J_iload_n (pc := 73) dX8_rule_73 rfl ?_
          refine Jn_if_eq (pc := 74) (tgt := 88) dX8_rule_74 (by decide) (by omega) (fun h74 => ?_) (fun h74 => absurd h74 (by omega))
          refine J_ldc (pc := 88) dX8_rule_88 kc_X8_91 ?_
          refine K_iret (pc := 90) dX8_rule_90 rfl ⟨_, rfl, ?_⟩
          show (_, _) = _
          unfold R_rule
          rw [if_neg (fun z => z.elim (fun z => h1 z.1) (fun z => z.elim (fun z => h18 z.1) (fun z => z.elim (fun z => h35 z.1) (fun z => h52 z.1))))]
        · 
          refine J_iload_n (pc := 55) dX8_rule_55 rfl ?_
          refine J_i2l (pc := 56) dX8_rule_56 ?_
          refine J_lconst (pc := 57) (v := 1) dX8_rule_57 rfl ?_
          refine J_ldc2 (pc := 58) dX8_rule_58 kg_X8_125 ?_
          refine K_callSp (pc := 61) (As := [_, _, _]) dX8_rule_61 kl_X8_71 rfl rfl (Nat.le_of_ble_eq_true rfl) (m_in32 (v := v) (a := nI 1) (b := nI 48) (by decide) (by decide)) ?_
          refine Jb_eq (pc := 64) (tgt := 71) dX8_rule_64 (by decide) (fun h64 => ?_) (fun h64 => ?_)
          · 
            refine J_iconst (pc := 71) dX8_rule_71 kni_0 ?_
            refine J_istore_n (pc := 72) (ls' := [some _, some _, some _, some _]) dX8_rule_72 rfl (Nat.le_of_ble_eq_true rfl) rfl ?_
            refine J_iload_n (pc := 73) dX8_rule_73 rfl ?_
            refine Jn_if_eq (pc := 74) (tgt := 88) dX8_rule_74 (by decide) (by omega) (fun h74 => ?_) (fun h74 => absurd h74 (by omega))
            refine J_ldc (pc := 88) dX8_rule_88 kc_X8_91 ?_
            refine K_iret (pc := 90) dX8_rule_90 rfl ⟨_, rfl, ?_⟩
            show (_, _) = _
            unfold R_rule
            rw [if_neg (fun z => z.elim (fun z => h1 z.1) (fun z => z.elim (fun z => h18 z.1) (fun z => z.elim (fun z => h35 z.1) (fun z => h64 z.2))))]
          · 
            refine J_iconst (pc := 67) dX8_rule_67 kni_1 ?_
            refine J_goto (pc := 68) (tgt := 72) dX8_rule_68 (by decide) ?_
            refine J_istore_n (pc := 72) (ls' := [some _, some _, some _, some _]) dX8_rule_72 rfl (Nat.le_of_ble_eq_true rfl) rfl ?_
            refine J_iload_n (pc := 73) dX8_rule_73 rfl ?_
            refine Jn_if_eq (pc := 74) (tgt := 88) dX8_rule_74 (by decide) (by omega) (fun h74 => absurd h74 (by omega)) (fun h74 => ?_)
            have hw4 : ∃ q, q < 4 ∧ tN w = q ∧ w = nI q := by first | exact ⟨0, by decide, by rw [h1]; rfl, h1⟩ | exact ⟨1, by decide, by rw [h18]; rfl, h18⟩ | exact ⟨2, by decide, by rw [h35]; rfl, h35⟩ | exact ⟨3, by decide, by rw [h52]; rfl, h52⟩
            obtain ⟨q, hq, htq, hqe⟩ := hw4
            subst hqe
            refine J_aload_n (pc := 77) dX8_rule_77 rfl ?_
            refine J_iconst (pc := 78) dX8_rule_78 kni_2 ?_
            refine J_iload_n (pc := 79) dX8_rule_79 rfl ?_
            refine J_iaddv (pc := 80) dX8_rule_80 (nI_add _ _) ?_
            refine J_iload_n (pc := 81) dX8_rule_81 rfl ?_
            refine K_callVi (pc := 82) (id := 140) (As := [_, _]) dX8_rule_82 kl_X8_120 rfl job_140 rfl rfl (Nat.le_of_ble_eq_true rfl) (m_becomes (a := 2 + q) (by omega) v) (fun vr mr hr => ?_)
            obtain ⟨rfl, rfl⟩ := hr
            refine J_goto (pc := 85) (tgt := 90) dX8_rule_85 (by decide) ?_
            refine K_iret (pc := 90) dX8_rule_90 rfl ⟨_, rfl, ?_⟩
            show (_, _) = _
            unfold R_rule
            rw [if_pos (Or.inr (Or.inr (Or.inr ⟨h52, h64⟩))), htq]
      · 
        refine J_iload_n (pc := 38) dX8_rule_38 rfl ?_
        refine J_i2l (pc := 39) dX8_rule_39 ?_
        refine J_lconst (pc := 40) (v := 1) dX8_rule_40 rfl ?_
        refine J_ldc2 (pc := 41) dX8_rule_41 kg_X8_123 ?_
        refine K_callSp (pc := 44) (As := [_, _, _]) dX8_rule_44 kl_X8_71 rfl rfl (Nat.le_of_ble_eq_true rfl) (m_in32 (v := v) (a := nI 1) (b := nI 99) (by decide) (by decide)) ?_
        refine J_goto (pc := 47) (tgt := 72) dX8_rule_47 (by decide) ?_
        refine J_istore_n (pc := 72) (ls' := [some _, some _, some _, some _]) dX8_rule_72 rfl (Nat.le_of_ble_eq_true rfl) rfl ?_
        refine J_iload_n (pc := 73) dX8_rule_73 rfl ?_
        refine Jb_eq (pc := 74) (tgt := 88) dX8_rule_74 (by decide) (fun h74 => ?_) (fun h74 => ?_)
        · 
          refine J_ldc (pc := 88) dX8_rule_88 kc_X8_91 ?_
          refine K_iret (pc := 90) dX8_rule_90 rfl ⟨_, rfl, ?_⟩
          show (_, _) = _
          unfold R_rule
          rw [if_neg (fun z => z.elim (fun z => h1 z.1) (fun z => z.elim (fun z => h18 z.1) (fun z => z.elim (fun z => h74 z.2) (fun z => absurd (h35.symm.trans z.1) (by decide)))))]
        · 
          have hw4 : ∃ q, q < 4 ∧ tN w = q ∧ w = nI q := by first | exact ⟨0, by decide, by rw [h1]; rfl, h1⟩ | exact ⟨1, by decide, by rw [h18]; rfl, h18⟩ | exact ⟨2, by decide, by rw [h35]; rfl, h35⟩ | exact ⟨3, by decide, by rw [h52]; rfl, h52⟩
          obtain ⟨q, hq, htq, hqe⟩ := hw4
          subst hqe
          refine J_aload_n (pc := 77) dX8_rule_77 rfl ?_
          refine J_iconst (pc := 78) dX8_rule_78 kni_2 ?_
          refine J_iload_n (pc := 79) dX8_rule_79 rfl ?_
          refine J_iaddv (pc := 80) dX8_rule_80 (nI_add _ _) ?_
          refine J_iload_n (pc := 81) dX8_rule_81 rfl ?_
          refine K_callVi (pc := 82) (id := 140) (As := [_, _]) dX8_rule_82 kl_X8_120 rfl job_140 rfl rfl (Nat.le_of_ble_eq_true rfl) (m_becomes (a := 2 + q) (by omega) v) (fun vr mr hr => ?_)
          obtain ⟨rfl, rfl⟩ := hr
          refine J_goto (pc := 85) (tgt := 90) dX8_rule_85 (by decide) ?_
          refine K_iret (pc := 90) dX8_rule_90 rfl ⟨_, rfl, ?_⟩
          show (_, _) = _
          unfold R_rule
          rw [if_pos (Or.inr (Or.inr (Or.inl ⟨h35, h74⟩))), htq]
    · 
      refine J_iload_n (pc := 21) dX8_rule_21 rfl ?_
      refine J_i2l (pc := 22) dX8_rule_22 ?_
      refine J_lconst (pc := 23) (v := 0) dX8_rule_23 rfl ?_
      refine J_ldc2 (pc := 24) dX8_rule_24 kg_X8_89 ?_
      refine K_callSp (pc := 27) (As := [_, _, _]) dX8_rule_27 kl_X8_71 rfl rfl (Nat.le_of_ble_eq_true rfl) (m_in32 (v := v) (a := nI 0) (b := nI 9) (by decide) (by decide)) ?_
      refine J_goto (pc := 30) (tgt := 72) dX8_rule_30 (by decide) ?_
      refine J_istore_n (pc := 72) (ls' := [some _, some _, some _, some _]) dX8_rule_72 rfl (Nat.le_of_ble_eq_true rfl) rfl ?_
      refine J_iload_n (pc := 73) dX8_rule_73 rfl ?_
      refine Jb_eq (pc := 74) (tgt := 88) dX8_rule_74 (by decide) (fun h74 => ?_) (fun h74 => ?_)
      · 
        refine J_ldc (pc := 88) dX8_rule_88 kc_X8_91 ?_
        refine K_iret (pc := 90) dX8_rule_90 rfl ⟨_, rfl, ?_⟩
        show (_, _) = _
        unfold R_rule
        rw [if_neg (fun z => z.elim (fun z => h1 z.1) (fun z => z.elim (fun z => h74 z.2) (fun z => z.elim (fun z => absurd (h18.symm.trans z.1) (by decide)) (fun z => absurd (h18.symm.trans z.1) (by decide)))))]
      · 
        have hw4 : ∃ q, q < 4 ∧ tN w = q ∧ w = nI q := by first | exact ⟨0, by decide, by rw [h1]; rfl, h1⟩ | exact ⟨1, by decide, by rw [h18]; rfl, h18⟩ | exact ⟨2, by decide, by rw [h35]; rfl, h35⟩ | exact ⟨3, by decide, by rw [h52]; rfl, h52⟩
        obtain ⟨q, hq, htq, hqe⟩ := hw4
        subst hqe
        refine J_aload_n (pc := 77) dX8_rule_77 rfl ?_
        refine J_iconst (pc := 78) dX8_rule_78 kni_2 ?_
        refine J_iload_n (pc := 79) dX8_rule_79 rfl ?_
        refine J_iaddv (pc := 80) dX8_rule_80 (nI_add _ _) ?_
        refine J_iload_n (pc := 81) dX8_rule_81 rfl ?_
        refine K_callVi (pc := 82) (id := 140) (As := [_, _]) dX8_rule_82 kl_X8_120 rfl job_140 rfl rfl (Nat.le_of_ble_eq_true rfl) (m_becomes (a := 2 + q) (by omega) v) (fun vr mr hr => ?_)
        obtain ⟨rfl, rfl⟩ := hr
        refine J_goto (pc := 85) (tgt := 90) dX8_rule_85 (by decide) ?_
        refine K_iret (pc := 90) dX8_rule_90 rfl ⟨_, rfl, ?_⟩
        show (_, _) = _
        unfold R_rule
        rw [if_pos (Or.inr (Or.inl ⟨h18, h74⟩)), htq]
  · 
    refine J_iload_n (pc := 4) dX8_rule_4 rfl ?_
    refine J_i2l (pc := 5) dX8_rule_5 ?_
    refine J_lconst (pc := 6) (v := 0) dX8_rule_6 rfl ?_
    refine J_ldc2 (pc := 7) dX8_rule_7 kg_X8_123 ?_
    refine K_callSp (pc := 10) (As := [_, _, _]) dX8_rule_10 kl_X8_71 rfl rfl (Nat.le_of_ble_eq_true rfl) (m_in32 (v := v) (a := nI 0) (b := nI 99) (by decide) (by decide)) ?_
    refine J_goto (pc := 13) (tgt := 72) dX8_rule_13 (by decide) ?_
    refine J_istore_n (pc := 72) (ls' := [some _, some _, some _, some _]) dX8_rule_72 rfl (Nat.le_of_ble_eq_true rfl) rfl ?_
    refine J_iload_n (pc := 73) dX8_rule_73 rfl ?_
    refine Jb_eq (pc := 74) (tgt := 88) dX8_rule_74 (by decide) (fun h74 => ?_) (fun h74 => ?_)
    · 
      refine J_ldc (pc := 88) dX8_rule_88 kc_X8_91 ?_
      refine K_iret (pc := 90) dX8_rule_90 rfl ⟨_, rfl, ?_⟩
      show (_, _) = _
      unfold R_rule
      rw [if_neg (fun z => z.elim (fun z => h74 z.2) (fun z => z.elim (fun z => absurd (h1.symm.trans z.1) (by decide)) (fun z => z.elim (fun z => absurd (h1.symm.trans z.1) (by decide)) (fun z => absurd (h1.symm.trans z.1) (by decide)))))]
    · 
      have hw4 : ∃ q, q < 4 ∧ tN w = q ∧ w = nI q := by first | exact ⟨0, by decide, by rw [h1]; rfl, h1⟩ | exact ⟨1, by decide, by rw [h18]; rfl, h18⟩ | exact ⟨2, by decide, by rw [h35]; rfl, h35⟩ | exact ⟨3, by decide, by rw [h52]; rfl, h52⟩
      obtain ⟨q, hq, htq, hqe⟩ := hw4
      subst hqe
      refine J_aload_n (pc := 77) dX8_rule_77 rfl ?_
      refine J_iconst (pc := 78) dX8_rule_78 kni_2 ?_
      refine J_iload_n (pc := 79) dX8_rule_79 rfl ?_
      refine J_iaddv (pc := 80) dX8_rule_80 (nI_add _ _) ?_
      refine J_iload_n (pc := 81) dX8_rule_81 rfl ?_
      refine K_callVi (pc := 82) (id := 140) (As := [_, _]) dX8_rule_82 kl_X8_120 rfl job_140 rfl rfl (Nat.le_of_ble_eq_true rfl) (m_becomes (a := 2 + q) (by omega) v) (fun vr mr hr => ?_)
      obtain ⟨rfl, rfl⟩ := hr
      refine J_goto (pc := 85) (tgt := 90) dX8_rule_85 (by decide) ?_
      refine K_iret (pc := 90) dX8_rule_90 rfl ⟨_, rfl, ?_⟩
      show (_, _) = _
      unfold R_rule
      rw [if_pos (Or.inl ⟨h1, h74⟩), htq]
