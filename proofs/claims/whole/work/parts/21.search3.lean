theorem mcpy_i {m : jm} {a b sp dp n i : Nat} (h : i ≠ b) : mcpy m a b sp dp n i = m i := by
  funext j
  unfold mcpy
  rw [if_neg h]
theorem mcpy_s {m : jm} {a b n j : Nat} (h : j < n) : mcpy m a b 0 0 n b j = m a j := by
  unfold mcpy va_cpy
  rw [if_pos rfl, if_pos ⟨Nat.zero_le _, by omega⟩]
  simp
theorem mup_i' {m : jm} {id k i : Nat} {v : Int32} (h : i ≠ id) : mup m id k v i = m i := funext fun _ => mup_i h
/-- two states that lie apart -/
def apart (o q : Nat) : Prop := o + 13 ≤ q ∨ q + 13 ≤ o
theorem bec_1 {m : jm} {o o2 j : Nat} (ha : apart o o2) (hj : j < 48) : becM m o o2 (o + 1) j = m (o2 + 1) j := by
  unfold apart at ha
  unfold becM
  rw [mup_i' (by omega), mup_i' (by omega), mup_i' (by omega), mup_i' (by omega), mcpy_i (by omega), mcpy_i (by omega), mcpy_i (by omega), mcpy_i (by omega), mcpy_i (by omega), mcpy_i (by omega), mcpy_i (by omega), mcpy_i (by omega), mcpy_i (by omega), mcpy_i (by omega), mcpy_i (by omega), mcpy_s hj, mup_i' (by omega)]
theorem bec_2 {m : jm} {o o2 j : Nat} (ha : apart o o2) (hj : j < 48) : becM m o o2 (o + 2) j = m (o2 + 2) j := by
  unfold apart at ha
  unfold becM
  rw [mup_i' (by omega), mup_i' (by omega), mup_i' (by omega), mup_i' (by omega), mcpy_i (by omega), mcpy_i (by omega), mcpy_i (by omega), mcpy_i (by omega), mcpy_i (by omega), mcpy_i (by omega), mcpy_i (by omega), mcpy_i (by omega), mcpy_i (by omega), mcpy_i (by omega), mcpy_s hj, mcpy_i (by omega), mup_i' (by omega)]
theorem bec_3 {m : jm} {o o2 j : Nat} (ha : apart o o2) (hj : j < 48) : becM m o o2 (o + 3) j = m (o2 + 3) j := by
  unfold apart at ha
  unfold becM
  rw [mup_i' (by omega), mup_i' (by omega), mup_i' (by omega), mup_i' (by omega), mcpy_i (by omega), mcpy_i (by omega), mcpy_i (by omega), mcpy_i (by omega), mcpy_i (by omega), mcpy_i (by omega), mcpy_i (by omega), mcpy_i (by omega), mcpy_i (by omega), mcpy_s hj, mcpy_i (by omega), mcpy_i (by omega), mup_i' (by omega)]
theorem bec_4 {m : jm} {o o2 j : Nat} (ha : apart o o2) (hj : j < 48) : becM m o o2 (o + 4) j = m (o2 + 4) j := by
  unfold apart at ha
  unfold becM
  rw [mup_i' (by omega), mup_i' (by omega), mup_i' (by omega), mup_i' (by omega), mcpy_i (by omega), mcpy_i (by omega), mcpy_i (by omega), mcpy_i (by omega), mcpy_i (by omega), mcpy_i (by omega), mcpy_i (by omega), mcpy_i (by omega), mcpy_s hj, mcpy_i (by omega), mcpy_i (by omega), mcpy_i (by omega), mup_i' (by omega)]
theorem bec_5 {m : jm} {o o2 j : Nat} (ha : apart o o2) (hj : j < 48) : becM m o o2 (o + 5) j = m (o2 + 5) j := by
  unfold apart at ha
  unfold becM
  rw [mup_i' (by omega), mup_i' (by omega), mup_i' (by omega), mup_i' (by omega), mcpy_i (by omega), mcpy_i (by omega), mcpy_i (by omega), mcpy_i (by omega), mcpy_i (by omega), mcpy_i (by omega), mcpy_i (by omega), mcpy_s hj, mcpy_i (by omega), mcpy_i (by omega), mcpy_i (by omega), mcpy_i (by omega), mup_i' (by omega)]
theorem bec_6 {m : jm} {o o2 j : Nat} (ha : apart o o2) (hj : j < 48) : becM m o o2 (o + 6) j = m (o2 + 6) j := by
  unfold apart at ha
  unfold becM
  rw [mup_i' (by omega), mup_i' (by omega), mup_i' (by omega), mup_i' (by omega), mcpy_i (by omega), mcpy_i (by omega), mcpy_i (by omega), mcpy_i (by omega), mcpy_i (by omega), mcpy_i (by omega), mcpy_s hj, mcpy_i (by omega), mcpy_i (by omega), mcpy_i (by omega), mcpy_i (by omega), mcpy_i (by omega), mup_i' (by omega)]
theorem bec_7 {m : jm} {o o2 j : Nat} (ha : apart o o2) (hj : j < 48) : becM m o o2 (o + 7) j = m (o2 + 7) j := by
  unfold apart at ha
  unfold becM
  rw [mup_i' (by omega), mup_i' (by omega), mup_i' (by omega), mup_i' (by omega), mcpy_i (by omega), mcpy_i (by omega), mcpy_i (by omega), mcpy_i (by omega), mcpy_i (by omega), mcpy_s hj, mcpy_i (by omega), mcpy_i (by omega), mcpy_i (by omega), mcpy_i (by omega), mcpy_i (by omega), mcpy_i (by omega), mup_i' (by omega)]
theorem bec_8 {m : jm} {o o2 j : Nat} (ha : apart o o2) (hj : j < 48) : becM m o o2 (o + 8) j = m (o2 + 8) j := by
  unfold apart at ha
  unfold becM
  rw [mup_i' (by omega), mup_i' (by omega), mup_i' (by omega), mup_i' (by omega), mcpy_i (by omega), mcpy_i (by omega), mcpy_i (by omega), mcpy_i (by omega), mcpy_s hj, mcpy_i (by omega), mcpy_i (by omega), mcpy_i (by omega), mcpy_i (by omega), mcpy_i (by omega), mcpy_i (by omega), mcpy_i (by omega), mup_i' (by omega)]
theorem bec_9 {m : jm} {o o2 j : Nat} (ha : apart o o2) (hj : j < 10) : becM m o o2 (o + 9) j = m (o2 + 9) j := by
  unfold apart at ha
  unfold becM
  rw [mup_i' (by omega), mup_i' (by omega), mup_i' (by omega), mup_i' (by omega), mcpy_i (by omega), mcpy_i (by omega), mcpy_i (by omega), mcpy_s hj, mcpy_i (by omega), mcpy_i (by omega), mcpy_i (by omega), mcpy_i (by omega), mcpy_i (by omega), mcpy_i (by omega), mcpy_i (by omega), mcpy_i (by omega), mup_i' (by omega)]
theorem bec_10 {m : jm} {o o2 j : Nat} (ha : apart o o2) (hj : j < 10) : becM m o o2 (o + 10) j = m (o2 + 10) j := by
  unfold apart at ha
  unfold becM
  rw [mup_i' (by omega), mup_i' (by omega), mup_i' (by omega), mup_i' (by omega), mcpy_i (by omega), mcpy_i (by omega), mcpy_s hj, mcpy_i (by omega), mcpy_i (by omega), mcpy_i (by omega), mcpy_i (by omega), mcpy_i (by omega), mcpy_i (by omega), mcpy_i (by omega), mcpy_i (by omega), mcpy_i (by omega), mup_i' (by omega)]
theorem bec_11 {m : jm} {o o2 j : Nat} (ha : apart o o2) (hj : j < 6) : becM m o o2 (o + 11) j = m (o2 + 11) j := by
  unfold apart at ha
  unfold becM
  rw [mup_i' (by omega), mup_i' (by omega), mup_i' (by omega), mup_i' (by omega), mcpy_i (by omega), mcpy_s hj, mcpy_i (by omega), mcpy_i (by omega), mcpy_i (by omega), mcpy_i (by omega), mcpy_i (by omega), mcpy_i (by omega), mcpy_i (by omega), mcpy_i (by omega), mcpy_i (by omega), mcpy_i (by omega), mup_i' (by omega)]
theorem bec_12 {m : jm} {o o2 j : Nat} (ha : apart o o2) (hj : j < 4) : becM m o o2 (o + 12) j = m (o2 + 12) j := by
  unfold apart at ha
  unfold becM
  rw [mup_i' (by omega), mup_i' (by omega), mup_i' (by omega), mup_i' (by omega), mcpy_s hj, mcpy_i (by omega), mcpy_i (by omega), mcpy_i (by omega), mcpy_i (by omega), mcpy_i (by omega), mcpy_i (by omega), mcpy_i (by omega), mcpy_i (by omega), mcpy_i (by omega), mcpy_i (by omega), mcpy_i (by omega), mup_i' (by omega)]
theorem bec_f16 {m : jm} {o o2 : Nat} (ha : apart o o2) : becM m o o2 o 16 = m o2 16 := by
  unfold apart at ha
  unfold becM
  rw [mup_s, mup_i' (by omega), mup_i' (by omega), mup_i' (by omega), mcpy_i (by omega), mcpy_i (by omega), mcpy_i (by omega), mcpy_i (by omega), mcpy_i (by omega), mcpy_i (by omega), mcpy_i (by omega), mcpy_i (by omega), mcpy_i (by omega), mcpy_i (by omega), mcpy_i (by omega), mcpy_i (by omega), mup_i' (by omega)]
theorem bec_f15 {m : jm} {o o2 : Nat} (ha : apart o o2) : becM m o o2 o 15 = m o2 15 := by
  unfold apart at ha
  unfold becM
  rw [mup_j (by decide), mup_s, mup_i' (by omega), mup_i' (by omega), mcpy_i (by omega), mcpy_i (by omega), mcpy_i (by omega), mcpy_i (by omega), mcpy_i (by omega), mcpy_i (by omega), mcpy_i (by omega), mcpy_i (by omega), mcpy_i (by omega), mcpy_i (by omega), mcpy_i (by omega), mcpy_i (by omega), mup_i' (by omega)]
theorem bec_f14 {m : jm} {o o2 : Nat} (ha : apart o o2) : becM m o o2 o 14 = m o2 14 := by
  unfold apart at ha
  unfold becM
  rw [mup_j (by decide), mup_j (by decide), mup_s, mup_i' (by omega), mcpy_i (by omega), mcpy_i (by omega), mcpy_i (by omega), mcpy_i (by omega), mcpy_i (by omega), mcpy_i (by omega), mcpy_i (by omega), mcpy_i (by omega), mcpy_i (by omega), mcpy_i (by omega), mcpy_i (by omega), mcpy_i (by omega), mup_i' (by omega)]
theorem bec_f13 {m : jm} {o o2 : Nat} (ha : apart o o2) : becM m o o2 o 13 = m o2 13 := by
  unfold apart at ha
  unfold becM
  rw [mup_j (by decide), mup_j (by decide), mup_j (by decide), mup_s, mcpy_i (by omega), mcpy_i (by omega), mcpy_i (by omega), mcpy_i (by omega), mcpy_i (by omega), mcpy_i (by omega), mcpy_i (by omega), mcpy_i (by omega), mcpy_i (by omega), mcpy_i (by omega), mcpy_i (by omega), mcpy_i (by omega), mup_i' (by omega)]
theorem bec_f0 {m : jm} {o o2 : Nat} (ha : apart o o2) : becM m o o2 o 0 = m o2 0 := by
  unfold apart at ha
  unfold becM
  rw [mup_j (by decide), mup_j (by decide), mup_j (by decide), mup_j (by decide), mcpy_i (by omega), mcpy_i (by omega), mcpy_i (by omega), mcpy_i (by omega), mcpy_i (by omega), mcpy_i (by omega), mcpy_i (by omega), mcpy_i (by omega), mcpy_i (by omega), mcpy_i (by omega), mcpy_i (by omega), mcpy_i (by omega), mup_s]
theorem bec_i {m : jm} {o o2 i : Nat} (h : i < o ∨ o + 12 < i) : becM m o o2 i = m i := by
  unfold becM
  rw [mup_i' (by omega), mup_i' (by omega), mup_i' (by omega), mup_i' (by omega), mcpy_i (by omega), mcpy_i (by omega), mcpy_i (by omega), mcpy_i (by omega), mcpy_i (by omega), mcpy_i (by omega), mcpy_i (by omega), mcpy_i (by omega), mcpy_i (by omega), mcpy_i (by omega), mcpy_i (by omega), mcpy_i (by omega), mup_i' (by omega)]

def begB (m : jm) (g : Nat) : jm := mfill (becM m 103 1) 117 48 (shadeS m g)
theorem wfPt_x {m m' : jm} {o o2 : Nat} (h5 : ∀ j, j < 48 → m' (o + 5) j = m (o2 + 5) j) (h9 : ∀ j, j < 10 → m' (o + 9) j = m (o2 + 9) j) (h : wfPt m o2) : wfPt m' o :=
  ⟨fun p hp => by rw [h5 p hp]; exact h.1 p hp, fun j hj => by rw [h9 j hj]; exact h.2 j hj⟩
theorem begB_sk {m : jm} {g k j : Nat} (hk : 1 ≤ k ∧ k ≤ 12) (hj : j < (if k ≤ 8 then 48 else if k ≤ 10 then 10 else if k = 11 then 6 else 4)) : begB m g (103 + k) j = m (1 + k) j := by
  unfold begB
  rw [mfill_i (by omega)]
  have ha : apart 103 1 := Or.inr (by decide)
  rcases (show k = 1 ∨ k = 2 ∨ k = 3 ∨ k = 4 ∨ k = 5 ∨ k = 6 ∨ k = 7 ∨ k = 8 ∨ k = 9 ∨ k = 10 ∨ k = 11 ∨ k = 12 by omega) with rfl | rfl | rfl | rfl | rfl | rfl | rfl | rfl | rfl | rfl | rfl | rfl
  · exact bec_1 ha hj
  · exact bec_2 ha hj
  · exact bec_3 ha hj
  · exact bec_4 ha hj
  · exact bec_5 ha hj
  · exact bec_6 ha hj
  · exact bec_7 ha hj
  · exact bec_8 ha hj
  · exact bec_9 ha hj
  · exact bec_10 ha hj
  · exact bec_11 ha hj
  · exact bec_12 ha hj
theorem begB_0 {m : jm} {g : Nat} : begB m g 103 0 = m 1 0 := by
  unfold begB
  rw [mfill_i (by decide)]
  exact bec_f0 (Or.inr (by decide))
theorem begB_i {m : jm} {g i : Nat} (h : i < 103 ∨ 115 < i) (h2 : i ≠ 117) : begB m g i = m i := by
  unfold begB
  rw [mfill_i' h2]
  exact bec_i (by omega)
set_option maxRecDepth 100000 in
set_option maxHeartbeats 400000 in
theorem c_begin {x : jX} {m : jm} {d : Nat} {g G P : Nat} (hg : g < 4) (hc : chosenG m G) (hok : okG G) (hw : wfPt m 1) (hP : m 1 0 = nI P) (h48 : P ≤ 48) (hz0 : ∀ i, i < 3 → m 124 (i * 10) = 0) : Ct x (d + 4) eX3_begin [.ref (jxb x + 102), .ref (jxb x + 1), .ref (jxb x + 40), .int (nI g)] m (jv fun m' => skI (begB m g) m' G ∧ (∀ k, k ≠ 102 → k ≠ 109 → k ≠ 114 → k ≠ 124 → m' k = begB m g k) ∧ idleI (begB m g) m' G P ∧ m' 102 6 = nI 4800 ∧ m' 102 7 = nI 0 ∧ chosenG m' G) := by
  refine J_start (by decide +kernel) (Nat.le_of_ble_eq_true rfl) (ls := [some (.ref (jxb x + 102)), some (.ref (jxb x + 1)), some (.ref (jxb x + 40)), some (.int (nI g))]) rfl rfl ?_
  refine J_aload_n (pc := 0) dX3_begin_0 rfl ?_
  refine K_getR (pc := 1) dX3_begin_1 kf_X3_14 job_102 jrf_102_0 ?_
  refine J_aload_n (pc := 4) dX3_begin_4 rfl ?_
  refine K_callVv (pc := 5) (id := 103) (As := [_]) dX3_begin_5 kl_X3_50 rfl job_103 rfl rfl (Nat.le_of_ble_eq_true rfl) (c_becomes (o := 103) (o2 := 1) (Or.inr (Or.inr (Or.inr rfl))) (Or.inl rfl)) (fun m5 h5 => ?_)
  subst h5
  refine J_aload_n (pc := 8) dX3_begin_8 rfl ?_
  refine K_getR (pc := 9) dX3_begin_9 kf_X3_21 job_102 jrf_102_1 ?_
  refine J_aload_n (pc := 12) dX3_begin_12 rfl ?_
  refine J_iload_n (pc := 13) dX3_begin_13 rfl ?_
  refine K_callVv (pc := 14) (id := 116) (As := [_, _]) dX3_begin_14 kl_X3_54 rfl job_116 rfl rfl (Nat.le_of_ble_eq_true rfl) (c_face (m := becM m 103 1) (e := 116) (Or.inr rfl) hg) (fun m14 h14 => ?_)
  have hsh : mfill (becM m 103 1) (116 + 1) 48 (shadeS (becM m 103 1) g) = begB m g := by
    funext i j
    unfold begB mfill
    by_cases hc : i = 117 ∧ j < 48
    · rw [if_pos hc, if_pos hc]
      exact shadeS_c (bec_i (by omega)) (bec_i (by omega)) (fun l hl => bec_i (by omega)) hg hc.2
    · rw [if_neg hc, if_neg hc]
  rw [hsh] at h14
  subst h14
  have hcB : chosenG (begB m g) G := ⟨by rw [begB_i (by omega) (by decide)]; exact hc.1, fun i hi => by rw [begB_i (i := 123) (by omega) (by decide)]; exact hc.2 i hi⟩
  have hwB : wfPt (begB m g) 103 := wfPt_x (o := 103) (o2 := 1) (fun j hj => begB_sk (k := 5) (by decide) hj) (fun j hj => begB_sk (k := 9) (by decide) hj) hw
  refine J_aload_n (pc := 17) dX3_begin_17 rfl ?_
  refine K_callVv (pc := 18) (id := 102) (As := []) dX3_begin_18 kl_X3_58 rfl job_102 rfl rfl (Nat.le_of_ble_eq_true rfl) (c_findIdle (m := begB m g) hcB hok hwB (by rw [begB_0]; exact hP) h48 (fun i hi => by rw [begB_i (i := 124) (by omega) (by decide)]; exact hz0 i hi) trivial) (fun m18 h18 => ?_)
  obtain ⟨hsk, hfr, hid⟩ := h18
  refine J_aload_n (pc := 21) dX3_begin_21 rfl ?_
  refine J_sipush (pc := 22) dX3_begin_22 kns_4800 ?_
  refine K_put (pc := 25) dX3_begin_25 kp_X3_40 job_102 jrf_102_6 rfl rfl ?_
  refine J_aload_n (pc := 28) dX3_begin_28 rfl ?_
  refine J_iconst (pc := 29) dX3_begin_29 kni_0 ?_
  refine K_put (pc := 30) dX3_begin_30 kp_X3_43 job_102 jrf_102_7 rfl rfl ?_
  refine K_vret (pc := 33) dX3_begin_33 rfl ⟨rfl, ?_⟩
  have e102 : m18 102 = m 102 := (hfr 102 (by decide) (by decide) (by decide)).trans (begB_i (by omega) (by decide))
  refine ⟨⟨fun k h1 h2 h3 => ?_, fun p h1 h2 => ?_, fun q h1 h2 => ?_⟩, fun k h1 h2 h3 h4 => ?_, ⟨fun i hi => ?_, fun i hi v hv hne => ?_⟩, ?_, ?_, ?_, fun i hi => ?_⟩
  · rw [mup_i' (by omega), mup_i' (by omega)]; exact hsk.1 k h1 h2 h3
  · rw [mup_i' (by decide), mup_i' (by decide)]; exact hsk.2.1 p h1 h2
  · rw [mup_i' (by decide), mup_i' (by decide)]; exact hsk.2.2 q h1 h2
  · rw [mup_i' h1, mup_i' h1]; exact hfr k h2 h3 h4
  · rw [mup_i' (by decide), mup_i' (by decide)]; exact hid.1 i hi
  · rw [mup_i' (by decide), mup_i' (by decide)] at hne; exact hid.2 i hi v hv hne
  · rw [mup_j (by decide), mup_s]
  · rw [mup_s]
  · rw [mup_j (by decide), mup_j (by decide), e102]; exact hc.1
  · rw [mup_i' (by decide), mup_i' (by decide), hfr 123 (by decide) (by decide) (by decide)]; exact hcB.2 i hi
