def iu (a b : Int32) : Int32 := (a.toUInt32 >>> (b.toUInt32 &&& Int32.toUInt32 31)).toInt32
def bc1 (a : Int32) : Int32 := a - (iu a (nI 1) &&& 1431655765)
def bc2 (b : Int32) : Int32 := (b &&& 858993459) + (iu b (nI 2) &&& 858993459)
def bc3 (b : Int32) : Int32 := (b + iu b (nI 4)) &&& 252645135
def bc4 (b : Int32) : Int32 := b + iu b (nI 8)
def bc5 (b : Int32) : Int32 := b + iu b (nI 16)
def onS (s : Nat) : Nat := s % 2 + s / 2 % 2 + s / 4 % 2 + s / 8 % 2
theorem bc_on : ∀ s, s < 16 → bc5 (bc4 (bc3 (bc2 (bc1 (nI s))))) &&& nI 63 = nI (onS s) := by decide +kernel
theorem onS_4 (s : Nat) : onS s ≤ 4 := by unfold onS; omega
set_option maxRecDepth 100000 in
set_option maxHeartbeats 400000 in
theorem c_bitCount {x : jX} {m : jm} {d : Nat} {s : Nat} (hs : s < 16) : Ct x d eJ6_bitCount_0f7a4 [.int (nI s)] m (jp (nI (onS s)) m) := by
  refine J_start (by decide +kernel) (Nat.le_of_ble_eq_true rfl) (ls := [some (.int (nI s))]) rfl rfl ?_
  refine J_iload_n (pc := 0) dJ6_bitCount_0f7a4_0 rfl ?_
  refine J_iload_n (pc := 1) dJ6_bitCount_0f7a4_1 rfl ?_
  refine J_iconst (pc := 2) dJ6_bitCount_0f7a4_2 kni_1 ?_
  refine J_iushr (pc := 3) (v := iu (nI s) (nI 1)) dJ6_bitCount_0f7a4_3 rfl ?_
  refine J_ldcw (pc := 4) dJ6_bitCount_0f7a4_4 kc_J6_265 ?_
  refine J_iand (pc := 7) dJ6_bitCount_0f7a4_7 ?_
  refine J_isub (pc := 8) dJ6_bitCount_0f7a4_8 ?_
  refine J_top (b := (bc1 (nI s))) (rfl) ?_
  refine J_istore_n (pc := 9) (ls' := [some _]) dJ6_bitCount_0f7a4_9 rfl (Nat.le_of_ble_eq_true rfl) rfl ?_
  refine J_iload_n (pc := 10) dJ6_bitCount_0f7a4_10 rfl ?_
  refine J_ldcw (pc := 11) dJ6_bitCount_0f7a4_11 kc_J6_266 ?_
  refine J_iand (pc := 14) dJ6_bitCount_0f7a4_14 ?_
  refine J_iload_n (pc := 15) dJ6_bitCount_0f7a4_15 rfl ?_
  refine J_iconst (pc := 16) dJ6_bitCount_0f7a4_16 kni_2 ?_
  refine J_iushr (pc := 17) (v := iu (((bc1 (nI s)))) (nI 2)) dJ6_bitCount_0f7a4_17 rfl ?_
  refine J_ldcw (pc := 18) dJ6_bitCount_0f7a4_18 kc_J6_266 ?_
  refine J_iand (pc := 21) dJ6_bitCount_0f7a4_21 ?_
  refine J_iadd (pc := 22) dJ6_bitCount_0f7a4_22 ?_
  refine J_top (b := (bc2 (bc1 (nI s)))) (rfl) ?_
  refine J_istore_n (pc := 23) (ls' := [some _]) dJ6_bitCount_0f7a4_23 rfl (Nat.le_of_ble_eq_true rfl) rfl ?_
  refine J_iload_n (pc := 24) dJ6_bitCount_0f7a4_24 rfl ?_
  refine J_iload_n (pc := 25) dJ6_bitCount_0f7a4_25 rfl ?_
  refine J_iconst (pc := 26) dJ6_bitCount_0f7a4_26 kni_4 ?_
  refine J_iushr (pc := 27) (v := iu (((bc2 (bc1 (nI s))))) (nI 4)) dJ6_bitCount_0f7a4_27 rfl ?_
  refine J_iadd (pc := 28) dJ6_bitCount_0f7a4_28 ?_
  refine J_ldcw (pc := 29) dJ6_bitCount_0f7a4_29 kc_J6_267 ?_
  refine J_iand (pc := 32) dJ6_bitCount_0f7a4_32 ?_
  refine J_top (b := (bc3 (bc2 (bc1 (nI s))))) (rfl) ?_
  refine J_istore_n (pc := 33) (ls' := [some _]) dJ6_bitCount_0f7a4_33 rfl (Nat.le_of_ble_eq_true rfl) rfl ?_
  refine J_iload_n (pc := 34) dJ6_bitCount_0f7a4_34 rfl ?_
  refine J_iload_n (pc := 35) dJ6_bitCount_0f7a4_35 rfl ?_
  refine J_bipush (pc := 36) dJ6_bitCount_0f7a4_36 knb_8 ?_
  refine J_iushr (pc := 38) (v := iu (((bc3 (bc2 (bc1 (nI s)))))) (nI 8)) dJ6_bitCount_0f7a4_38 rfl ?_
  refine J_iadd (pc := 39) dJ6_bitCount_0f7a4_39 ?_
  refine J_top (b := (bc4 (bc3 (bc2 (bc1 (nI s)))))) (rfl) ?_
  refine J_istore_n (pc := 40) (ls' := [some _]) dJ6_bitCount_0f7a4_40 rfl (Nat.le_of_ble_eq_true rfl) rfl ?_
  refine J_iload_n (pc := 41) dJ6_bitCount_0f7a4_41 rfl ?_
  refine J_iload_n (pc := 42) dJ6_bitCount_0f7a4_42 rfl ?_
  refine J_bipush (pc := 43) dJ6_bitCount_0f7a4_43 knb_16 ?_
  refine J_iushr (pc := 45) (v := iu (((bc4 (bc3 (bc2 (bc1 (nI s))))))) (nI 16)) dJ6_bitCount_0f7a4_45 rfl ?_
  refine J_iadd (pc := 46) dJ6_bitCount_0f7a4_46 ?_
  refine J_top (b := (bc5 (bc4 (bc3 (bc2 (bc1 (nI s))))))) (rfl) ?_
  refine J_istore_n (pc := 47) (ls' := [some _]) dJ6_bitCount_0f7a4_47 rfl (Nat.le_of_ble_eq_true rfl) rfl ?_
  refine J_iload_n (pc := 48) dJ6_bitCount_0f7a4_48 rfl ?_
  refine J_bipush (pc := 49) dJ6_bitCount_0f7a4_49 knb_63 ?_
  refine J_iand (pc := 51) dJ6_bitCount_0f7a4_51 ?_
  refine J_top (b := nI (onS s)) (bc_on s hs) ?_
  refine K_iret (pc := 52) dJ6_bitCount_0f7a4_52 rfl ⟨_, rfl, ?_⟩
  exact ⟨rfl, rfl⟩
def tapP (m : jm) (n s : Nat) : Prop := ∀ i, i < n → ∀ j, j < i → apaP m (nI s) i j
def fwP (s : Nat) : Option Nat → Prop
  | none => True
  | some b => onS s < onS b
/-- the fewest questions of the sets below s -/
noncomputable def fewS (m : jm) (n : Nat) : Nat → Option Nat
  | 0 => none
  | s + 1 => by classical exact if fwP s (fewS m n s) ∧ tapP m n s then some s else fewS m n s
def opV : Option Nat → Int32
  | none => -1000000005
  | some b => nI b
theorem fewS_lt {m : jm} {n : Nat} : ∀ s b, fewS m n s = some b → b < s
  | 0, b, h => by cases h
  | s + 1, b, h => by
    unfold fewS at h
    split at h
    · cases h; omega
    · have := fewS_lt s b h; omega
theorem fewS_y {m : jm} {n s : Nat} (h : fwP s (fewS m n s)) (h2 : tapP m n s) : fewS m n (s + 1) = some s := by
  unfold fewS
  exact if_pos ⟨h, h2⟩
theorem fewS_n {m : jm} {n s : Nat} (h : ¬ (fwP s (fewS m n s) ∧ tapP m n s)) : fewS m n (s + 1) = fewS m n s := by
  rw [fewS]
  exact if_neg h
theorem opV_no {o : Option Nat} {s : Nat} (hs : s ≤ 16) (hb : ∀ b, o = some b → b < s) (h : opV o = -1000000005) : o = none := by
  cases o with
  | none => rfl
  | some b => exact absurd h (nI_NONE (by have := hb b rfl; omega))
theorem opV_so {o : Option Nat} (h : ¬ opV o = -1000000005) : ∃ b, o = some b := by
  cases o with
  | none => exact absurd rfl h
  | some b => exact ⟨b, rfl⟩
set_option maxRecDepth 100000 in
set_option maxHeartbeats 400000 in
theorem p_fewest {x : jX} {m : jm} {d : Nat} {n : Nat} (hn : m 1 15 = nI n) (hn8 : n ≤ 8) : Ct x (d + 2) eX7_fewest [.ref (jxb x + 0)] m (ji fun rv m' => rv = opV (fewS m n 16) ∧ m' = m) := by
  refine J_start (by decide +kernel) (Nat.le_of_ble_eq_true rfl) (ls := [some (.ref (jxb x + 0)), none, none, none]) rfl rfl ?_
  refine J_ldc (pc := 0) dX7_fewest_0 kc_X7_84 ?_
  refine J_istore_n (pc := 2) (ls' := [some _, some _, none, none]) dX7_fewest_2 rfl (Nat.le_of_ble_eq_true rfl) rfl ?_
  refine J_iconst (pc := 3) dX7_fewest_3 kni_0 ?_
  refine J_istore_n (pc := 4) (ls' := [some _, some _, some _, none]) dX7_fewest_4 rfl (Nat.le_of_ble_eq_true rfl) rfl ?_
  refine K_for' (pc := 5) 16 (fun i => [some (.ref (jxb x + 0)), some (.int ((opV (fewS m n i)))), some (.int (nI i)), none]) (fun i => m) (by rfl) (by rfl) (fun i hi ih5 => ?_) ?_
  ·
    show K x _ _ 5 [some (.ref (jxb x + 0)), some (.int ((opV (fewS m n i)))), some (.int (nI i)), none] _ m _
    refine J_iload_n (pc := 5) dX7_fewest_5 rfl ?_
    refine J_bipush (pc := 6) dX7_fewest_6 knb_15 ?_
    refine Jn_gt (pc := 8) (tgt := 64) dX7_fewest_8 (by decide) (by omega) (by omega) (fun h8 => absurd h8 (by omega)) (fun h8 => ?_)
    refine J_iload_n (pc := 11) dX7_fewest_11 rfl ?_
    refine J_ldc (pc := 12) dX7_fewest_12 kc_X7_84 ?_
    refine J_icmp_eq (pc := 14) (tgt := 28) dX7_fewest_14 (by decide) (fun h14 => ?_) (fun h14 => ?_)
    · 
      refine J_iconst (pc := 28) dX7_fewest_28 kni_1 ?_
      refine J_goto (pc := 29) (tgt := 33) dX7_fewest_29 (by decide) ?_
      refine J_istore_n (pc := 33) (ls' := [some _, some _, some _, some _]) dX7_fewest_33 rfl (Nat.le_of_ble_eq_true rfl) rfl ?_
      refine J_iload_n (pc := 34) dX7_fewest_34 rfl ?_
      refine Jn_if_eq (pc := 35) (tgt := 58) dX7_fewest_35 (by decide) (by omega) (fun h35 => absurd h35 (by omega)) (fun h35 => ?_)
      refine J_aload_n (pc := 38) dX7_fewest_38 rfl ?_
      refine K_getR (pc := 39) dX7_fewest_39 kf_X7_60 job_0 jrf_0_8 ?_
      refine J_iload_n (pc := 42) dX7_fewest_42 rfl ?_
      refine J_aload_n (pc := 43) dX7_fewest_43 rfl ?_
      refine K_getR (pc := 44) dX7_fewest_44 kf_X7_10 job_0 jrf_0_0 ?_
      refine K_getI (pc := 47) dX7_fewest_47 kf_X7_300 job_1 jrf_1_15 ?_
      refine J_top (b := nI n) (hn) ?_
      refine K_callVp (pc := 50) (id := 126) (As := [_, _]) dX7_fewest_50 kl_X7_309 rfl job_126 rfl rfl (Nat.le_of_ble_eq_true rfl) (c_tellsApart hn8 (nI i)) ?_
      refine Jp_eq (pc := 53) (tgt := 58) dX7_fewest_53 (by decide) (fun h53 => ?_) (fun h53 => ?_)
      · 
        refine Jn_iinc (pc := 58) (ls' := [some _, some _, some _, some _]) dX7_fewest_58 rfl knz_1 rfl rfl ?_
        refine J_goto (pc := 61) (tgt := 5) dX7_fewest_61 (by decide) ?_
        have ef : fewS m n (i + 1) = fewS m n i := fewS_n (fun q => h53 q.2)
        refine J_wk' (ls' := [some (.ref (jxb x + 0)), some (.int ((opV (fewS m n i)))), some (.int (nI (i + 1))), none]) ?_ rfl ?_
        · rw [← ef]
          exact ih5
        · rintro (_ | _ | _ | _ | k) v hv <;> first | exact hv | cases hv
      · 
        refine J_iload_n (pc := 56) dX7_fewest_56 rfl ?_
        refine J_istore_n (pc := 57) (ls' := [some _, some _, some _, some _]) dX7_fewest_57 rfl (Nat.le_of_ble_eq_true rfl) rfl ?_
        refine Jn_iinc (pc := 58) (ls' := [some _, some _, some _, some _]) dX7_fewest_58 rfl knz_1 rfl rfl ?_
        refine J_goto (pc := 61) (tgt := 5) dX7_fewest_61 (by decide) ?_
        have ef : fewS m n (i + 1) = some i := fewS_y (by rw [opV_no (by omega) (fewS_lt i) h14]; trivial) h53
        have ih := ih5
        refine J_wk' (ls' := [some (.ref (jxb x + 0)), some (.int (nI i)), some (.int (nI (i + 1))), none]) ?_ rfl ?_
        · have e2 : opV (fewS m n (i + 1)) = nI i := by rw [ef]; rfl
          rw [← e2]
          exact ih5
        · rintro (_ | _ | _ | _ | k) v hv <;> first | exact hv | cases hv
    · 
      obtain ⟨b, hbe⟩ := opV_so h14
      have hb16 := fewS_lt i b hbe
      have ho1 := onS_4 i
      have ho2 := onS_4 b
      refine J_iload_n (pc := 17) dX7_fewest_17 rfl ?_
      refine K_callSp (pc := 18) (As := [_]) dX7_fewest_18 kl_X7_312 rfl rfl (Nat.le_of_ble_eq_true rfl) (c_bitCount hi) ?_
      refine J_iload_n (pc := 21) dX7_fewest_21 rfl ?_
      refine J_top (b := nI b) (by rw [hbe]; rfl) ?_
      refine K_callSp (pc := 22) (As := [_]) dX7_fewest_22 kl_X7_312 rfl rfl (Nat.le_of_ble_eq_true rfl) (c_bitCount (by omega)) ?_
      refine Jn_ge (pc := 25) (tgt := 32) dX7_fewest_25 (by decide) (by omega) (by omega) (fun h25 => ?_) (fun h25 => ?_)
      · 
        refine J_iconst (pc := 32) dX7_fewest_32 kni_0 ?_
        refine J_istore_n (pc := 33) (ls' := [some _, some _, some _, some _]) dX7_fewest_33 rfl (Nat.le_of_ble_eq_true rfl) rfl ?_
        refine J_iload_n (pc := 34) dX7_fewest_34 rfl ?_
        refine Jn_if_eq (pc := 35) (tgt := 58) dX7_fewest_35 (by decide) (by omega) (fun h35 => ?_) (fun h35 => absurd h35 (by omega))
        refine Jn_iinc (pc := 58) (ls' := [some _, some _, some _, some _]) dX7_fewest_58 rfl knz_1 rfl rfl ?_
        refine J_goto (pc := 61) (tgt := 5) dX7_fewest_61 (by decide) ?_
        have ef : fewS m n (i + 1) = fewS m n i := fewS_n (fun q => by rw [hbe] at q; exact absurd q.1 (Nat.not_lt.mpr h25))
        refine J_wk' (ls' := [some (.ref (jxb x + 0)), some (.int ((opV (fewS m n i)))), some (.int (nI (i + 1))), none]) ?_ rfl ?_
        · rw [← ef]
          exact ih5
        · rintro (_ | _ | _ | _ | k) v hv <;> first | exact hv | cases hv
      · 
        refine J_iconst (pc := 28) dX7_fewest_28 kni_1 ?_
        refine J_goto (pc := 29) (tgt := 33) dX7_fewest_29 (by decide) ?_
        refine J_istore_n (pc := 33) (ls' := [some _, some _, some _, some _]) dX7_fewest_33 rfl (Nat.le_of_ble_eq_true rfl) rfl ?_
        refine J_iload_n (pc := 34) dX7_fewest_34 rfl ?_
        refine Jn_if_eq (pc := 35) (tgt := 58) dX7_fewest_35 (by decide) (by omega) (fun h35 => absurd h35 (by omega)) (fun h35 => ?_)
        refine J_aload_n (pc := 38) dX7_fewest_38 rfl ?_
        refine K_getR (pc := 39) dX7_fewest_39 kf_X7_60 job_0 jrf_0_8 ?_
        refine J_iload_n (pc := 42) dX7_fewest_42 rfl ?_
        refine J_aload_n (pc := 43) dX7_fewest_43 rfl ?_
        refine K_getR (pc := 44) dX7_fewest_44 kf_X7_10 job_0 jrf_0_0 ?_
        refine K_getI (pc := 47) dX7_fewest_47 kf_X7_300 job_1 jrf_1_15 ?_
        refine J_top (b := nI n) (hn) ?_
        refine K_callVp (pc := 50) (id := 126) (As := [_, _]) dX7_fewest_50 kl_X7_309 rfl job_126 rfl rfl (Nat.le_of_ble_eq_true rfl) (c_tellsApart hn8 (nI i)) ?_
        refine Jp_eq (pc := 53) (tgt := 58) dX7_fewest_53 (by decide) (fun h53 => ?_) (fun h53 => ?_)
        · 
          refine Jn_iinc (pc := 58) (ls' := [some _, some _, some _, some _]) dX7_fewest_58 rfl knz_1 rfl rfl ?_
          refine J_goto (pc := 61) (tgt := 5) dX7_fewest_61 (by decide) ?_
          have ef : fewS m n (i + 1) = fewS m n i := fewS_n (fun q => h53 q.2)
          refine J_wk' (ls' := [some (.ref (jxb x + 0)), some (.int ((opV (fewS m n i)))), some (.int (nI (i + 1))), none]) ?_ rfl ?_
          · rw [← ef]
            exact ih5
          · rintro (_ | _ | _ | _ | k) v hv <;> first | exact hv | cases hv
        · 
          refine J_iload_n (pc := 56) dX7_fewest_56 rfl ?_
          refine J_istore_n (pc := 57) (ls' := [some _, some _, some _, some _]) dX7_fewest_57 rfl (Nat.le_of_ble_eq_true rfl) rfl ?_
          refine Jn_iinc (pc := 58) (ls' := [some _, some _, some _, some _]) dX7_fewest_58 rfl knz_1 rfl rfl ?_
          refine J_goto (pc := 61) (tgt := 5) dX7_fewest_61 (by decide) ?_
          have ef : fewS m n (i + 1) = some i := fewS_y (by rw [hbe]; exact h25) h53
          have ih := ih5
          refine J_wk' (ls' := [some (.ref (jxb x + 0)), some (.int (nI i)), some (.int (nI (i + 1))), none]) ?_ rfl ?_
          · have e2 : opV (fewS m n (i + 1)) = nI i := by rw [ef]; rfl
            rw [← e2]
            exact ih5
          · rintro (_ | _ | _ | _ | k) v hv <;> first | exact hv | cases hv
  ·
    show K x _ _ 5 [some (.ref (jxb x + 0)), some (.int ((opV (fewS m n 16)))), some (.int (nI 16)), none] _ m _
    refine J_iload_n (pc := 5) dX7_fewest_5 rfl ?_
    refine J_bipush (pc := 6) dX7_fewest_6 knb_15 ?_
    refine Jn_gt (pc := 8) (tgt := 64) dX7_fewest_8 (by decide) (by omega) (by omega) (fun h8 => ?_) (fun h8 => absurd h8 (by omega))
    refine J_iload_n (pc := 64) dX7_fewest_64 rfl ?_
    refine K_iret (pc := 65) dX7_fewest_65 rfl ⟨_, rfl, ?_⟩
    exact ⟨rfl, rfl⟩
