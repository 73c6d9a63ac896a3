def mC8 : jm := (mfill (mst2 (mst2 (mup (mup (mup mC7 141 2 (nI 50)) 141 4 (nI 20)) 141 5 (nI 6)) 141 (fun j => decide (10 < j ∧ j < 10 + 2 * 10 ∧ j % 2 = 1)) (nI 5)) 141 (fun j => decide (40 ≤ j ∧ j < 40 + 48)) (nI 50)) 144 24 (fun _ => (-1)))
theorem zr_7 : zr mC7 140 := (zr_up (zr_4 (zr_up (zr_up (zr_fill (zr_4 (zr_4 (zr_4 (zr_z _) (by decide)) (by decide)) (by decide)) (by decide)) (by decide)) (by decide)) (by decide)) (by decide))
theorem vp_0 {v : Int32} {n : Nat} (h : v = nI 0) (hn : 0 < n) (h2 : n < 2 ^ 31) : vp_in v n := by rw [h]; exact vp_in_nI hn h2
theorem Rel_0 : RelA mC8 mC8 0 := by
  have z1 : ∀ j, j < 10 → mC8 141 (10 + 2 * j) = nI 0 := by decide +kernel
  have z2 : ∀ j, j < 6 → mC8 141 (30 + j) = nI 0 := by decide +kernel
  have z3 : ∀ j, j < 10 → mC8 141 (10 + 2 * j + 1) = nI 5 := by decide +kernel
  have z4 : ∀ p, p < 48 → mC8 141 (90 + 6 * p + 4) = nI 0 := by decide +kernel
  have z5 : ∀ p, p < 48 → mC8 6 p = nI 0 := by decide +kernel
  have z6 : ∀ j, j < 10 → mC8 10 j = nI 0 := by decide +kernel
  refine ⟨0, 0, 0, 0, ⟨by decide, by decide +kernel, by decide +kernel, by decide +kernel, fun p hp => absurd hp (Nat.not_lt_zero _), fun p hp => absurd hp (Nat.not_lt_zero _), by decide +kernel, by decide +kernel, by decide +kernel, by decide +kernel, by decide +kernel, ⟨fun p hp => vp_0 (z5 p hp) (by decide) (by decide), fun j hj => vp_0 (z6 j hj) (by decide) (by decide)⟩, ⟨fun p hp => vp_0 (z4 p hp) (by decide) (by decide), fun j hj => vp_0 (z1 j hj) (by decide) (by decide)⟩, fun p q hp => absurd hp (Nat.not_lt_zero _), by decide +kernel, fun p hp => absurd hp (Nat.not_lt_zero _), fun j hj => vp_0 (z2 j hj) (by decide) (by decide), fun j hj => by rw [z3 j hj]; exact vp_in_nI (by decide) (by decide)⟩,
    ⟨by decide, by decide +kernel, by decide +kernel, by decide, by decide +kernel, by decide +kernel, by decide, by decide +kernel, by decide +kernel⟩,
    fun t ht => absurd ht (Nat.not_lt_zero _), fun t ht => absurd ht (Nat.not_lt_zero _), fun t ht => absurd ht (Nat.not_lt_zero _), ?_, ⟨0, by decide, by decide +kernel, by decide +kernel, fun i hi => absurd hi (Nat.not_lt_zero _)⟩, ⟨0, by decide, by decide +kernel, by decide +kernel, fun i hi => absurd hi (Nat.not_lt_zero _)⟩, ⟨by decide +kernel, by decide +kernel⟩, ⟨by decide +kernel, fun z => absurd (by decide +kernel) z⟩, Or.inl (by decide +kernel)⟩
  · have x1 : ∀ l, l < 24 → mC8 41 l = mC8 144 l := by decide +kernel
    have x2 : ∀ l, l < 24 → mC8 41 l = -1 := by decide +kernel
    have x3 : ∀ l, l < 24 → mC8 42 l = mC8 145 l := by decide +kernel
    have x4 : ∀ l, l < 24 → mC8 145 l = nI 0 := by decide +kernel
    have x5 : ∀ l, l < 24 → ∀ j, j < 24 → mC8 (44 + l) j = mC8 146 (24 * l + j) := by decide +kernel
    exact fun l hl => ⟨x1 l hl, Or.inl (x2 l hl), x3 l hl, ⟨0, by decide, x4 l hl⟩, x5 l hl⟩
theorem law_all {x : jX} {d : Nat} (hl : (jxS x).2.1 ≤ 3072) : J x (d + 121) 159 45566 eL_law 0 [some (.ref (jxS x).1), none, none, none] [] [] (jEs x mz ov0) (jQ x (fun r _ => r = some (.int 1))) := by
  show KC x (d + 121) 159 45566 eL_law 0 [some (.ref (jxS x).1), none, none, none] [] 0 mz ov0 _
  refine C_new (pc := 0) (ci := 7) (N := 12) (k' := 158) (n' := 45554) dL_law_0 kn_L_7 rfl (by decide) (by decide +kernel) rfl (zr_z _) rfl rfl ?_
  refine J_dup (pc := 3) dL_law_3 rfl ?_
  refine C_call (pc := 4) (k' := 139) (n' := 9835) (k0 := 19) (n0 := 35719) (q' := 140) dL_law_4 kl_L_9 (Nat.le_of_ble_eq_true rfl) (b_X7_0 (d := d + 117)) rfl rfl ?_
  refine J_astore_n (pc := 7) (ls' := [some _, some _, none, none]) dL_law_7 rfl (Nat.le_of_ble_eq_true rfl) rfl ?_
  refine C_new (pc := 8) (ci := 8) (N := 37) (k' := 18) (n' := 35682) dL_law_8 kn_L_10 rfl (by decide) (by decide +kernel) rfl zr_7 rfl rfl ?_
  refine J_dup (pc := 11) dL_law_11 rfl ?_
  refine C_call (pc := 12) (k' := 18) (n' := 35682) (k0 := 0) (n0 := 0) (q' := 159) dL_law_12 kl_L_12 (Nat.le_of_ble_eq_true rfl) (b_X8_140 (d := d + 119) zr_7 rfl) rfl rfl ?_
  refine J_astore_n (pc := 15) (ls' := [some _, some _, some _, none]) dL_law_15 rfl (Nat.le_of_ble_eq_true rfl) rfl ?_
  refine J_iconst (pc := 16) dL_law_16 kni_0 ?_
  refine J_istore_n (pc := 17) (ls' := [some _, some _, some _, some _]) dL_law_17 rfl (Nat.le_of_ble_eq_true rfl) rfl ?_
  have e : jEs x (mfill (mst2 (mst2 (mup (mup (mup mC7 141 2 (nI 50)) 141 4 (nI 20)) 141 5 (nI 6)) 141 (fun j => decide (10 < j ∧ j < 10 + 2 * 10 ∧ j % 2 = 1)) (nI 5)) 141 (fun j => decide (40 ≤ j ∧ j < 40 + 48)) (nI 50)) 144 24 (fun _ => (-1))) (ovs ovC7 140 37) = jE x mC8 := jEs_all (m := mC8) (by decide +kernel)
  show J x (d + 121) 0 0 eL_law 18 _ [] (jL0.take 159) (jEs x (mfill (mst2 (mst2 (mup (mup (mup mC7 141 2 (nI 50)) 141 4 (nI 20)) 141 5 (nI 6)) 141 (fun j => decide (10 < j ∧ j < 10 + 2 * 10 ∧ j % 2 = 1)) (nI 5)) 141 (fun j => decide (40 ≤ j ∧ j < 40 + 48)) (nI 50)) 144 24 (fun _ => (-1))) (ovs ovC7 140 37)) _
  rw [e]
  exact law_run hl 512 Rel_0 (by omega) (by omega) (by omega)
