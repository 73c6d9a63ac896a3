def m4 (m : jm) (o : Nat) : jm := mfill (mfill (mfill (mfill m (o + 7) 48 (fun _ => (-1000000005))) (o + 8) 48 (fun _ => nI 50)) (o + 10) 10 (fun _ => nI 5)) (o + 12) 4 (fun i => (jtb 1).getD i 0)
theorem zr_4 {m : jm} {o q : Nat} (h : zr m q) (hi : o + 12 < q) : zr (m4 m o) q := zr_fill (zr_fill (zr_fill (zr_fill h (by omega)) (by omega)) (by omega)) (by omega)
theorem ovs_o {ov : Nat → Nat} {i a b : Nat} : ovs (ovs ov i a) i b = ovs ov i b := by
  funext j
  unfold ovs
  by_cases c : j = i
  · rw [if_pos c, if_pos c]
  · rw [if_neg c, if_neg c, if_neg c]
theorem m2_s {m : jm} {a b i : Nat} {f g : Nat → Int32} (hab : a ≠ b) : mup (mup (mfill (mfill m a i f) b i g) a i (f i)) b i (g i) = mfill (mfill m a (i + 1) f) b (i + 1) g := by
  have e : mup (mfill (mfill m a i f) b i g) a i (f i) = mfill (mfill m a (i + 1) f) b i g := by
    rw [← mfill_s m a i f rfl]
    funext p q
    unfold mfill mup
    by_cases c : p = b
    · subst c
      have c' : ¬ p = a := fun z => hab z.symm
      simp [c']
    · simp [c]
  rw [e]
  exact mfill_s _ _ _ _ rfl
def mst2 (m : jm) (id : Nat) (c : Nat → Bool) (v : Int32) : jm := fun i j => if i = id ∧ c j = true then v else m i j
theorem zr_set {m : jm} {id q : Nat} {c : Nat → Bool} {v : Int32} (h : zr m q) (hi : id < q) : zr (mst2 m id c v) q := fun i j h1 => (if_neg (fun z => by omega)).trans (h i j h1)
theorem mst2_0 {m : jm} {id : Nat} {c : Nat → Bool} {v : Int32} (h : ∀ j, c j = false) : m = mst2 m id c v := by
  funext i j
  unfold mst2
  rw [if_neg (fun z => by rw [h j] at z; exact absurd z.2 (by decide))]
theorem mst2_s {m : jm} {id k : Nat} {c c' : Nat → Bool} {v : Int32} (h : ∀ j, c' j = true ↔ (c j = true ∨ j = k)) : mup (mst2 m id c v) id k v = mst2 m id c' v := by
  funext i j
  show (if i = id ∧ j = k then v else if i = id ∧ c j = true then v else m i j) = if i = id ∧ c' j = true then v else m i j
  by_cases e : i = id
  · by_cases f : j = k
    · rw [if_pos ⟨e, f⟩, if_pos ⟨e, (h j).mpr (Or.inr f)⟩]
    · rw [if_neg (fun z => f z.2)]
      by_cases g : c j = true
      · rw [if_pos ⟨e, g⟩, if_pos ⟨e, (h j).mpr (Or.inl g)⟩]
      · rw [if_neg (fun z => g z.2), if_neg (fun z => ((h j).mp z.2).elim g f)]
  · rw [if_neg (fun z => e z.1), if_neg (fun z => e z.1), if_neg (fun z => e z.1)]
def mz : jm := fun _ _ => 0
theorem zr_z (q : Nat) : zr mz q := fun _ _ _ => rfl
def ov0 : Nat → Nat := fun i => if i = 43 ∨ i = 79 ∨ i = 128 then 1000 else 0
set_option maxRecDepth 100000 in
set_option maxHeartbeats 400000 in
theorem b_X4_1 {x : jX} {d : Nat} {m : jm} {ov : Nat → Nat} (hz : zr m 1) (ho1 : ov 1 = 0) : jCt x (d + 1) 12 414 eX4_init [.ref (jxb x + 1)] (jL0.take 2) (jEs x m ov) (fun r L M => r = none ∧ L = jL0.take 14 ∧ M = jEs x (m4 m 1) (ovs ov 1 13)) := by
  refine J_start (by decide +kernel) (Nat.le_of_ble_eq_true rfl) (ls := [some (.ref (jxb x + 1)), none]) rfl rfl ?_
  refine J_aload_n (pc := 0) dX4_init_0 rfl ?_
  refine C_obj (pc := 1) dX4_init_1 ko_X4_3 (Nat.le_of_ble_eq_true rfl) ?_
  refine J_aload_n (pc := 4) dX4_init_4 rfl ?_
  refine J_iconst (pc := 5) dX4_init_5 kni_0 ?_
  refine C_put0 (pc := 6) (id := 1) (kf := 0) dX4_init_6 kp_X4_9 (by rfl) rfl rfl rfl (hz 1 0 (by decide)) ?_
  refine J_aload_n (pc := 9) dX4_init_9 rfl ?_
  refine J_bipush (pc := 10) dX4_init_10 knb_48 ?_
  refine C_newa (pc := 12) (t := 0) (N := 48) (k' := 11) (n' := 366) dX4_init_12 (by decide) rfl ka_int (by decide) rfl (by decide) rfl (zr_le hz (by decide)) rfl rfl ?_
  refine C_putR (pc := 14) (id := 1) (kf := 1) (t := 2) dX4_init_14 kp_X4_15 (by rfl) rfl rfl (fun _ => rfl) (fun _ => rfl) rfl (fun j g1 g2 => (show ∀ j, j < 1 → jlay 1 j = 0 by decide +kernel) j g1) (Nat.le_trans (Nat.le_of_eq ho1) (Nat.zero_le _)) ?_
  refine J_aload_n (pc := 17) dX4_init_17 rfl ?_
  refine J_bipush (pc := 18) dX4_init_18 knb_48 ?_
  refine C_newa (pc := 20) (t := 0) (N := 48) (k' := 10) (n' := 318) dX4_init_20 (by decide) rfl ka_int (by decide) rfl (by decide) rfl (zr_le hz (by decide)) rfl rfl ?_
  refine C_putR (pc := 22) (id := 1) (kf := 2) (t := 3) dX4_init_22 kp_X4_19 (by rfl) rfl rfl (fun _ => rfl) (fun _ => rfl) rfl (show ∀ j, j < 2 → 2 ≤ j → jlay 1 j = 0 by decide +kernel) (Nat.le_of_ble_eq_true rfl) ?_
  rw [ovs_o]
  refine J_aload_n (pc := 25) dX4_init_25 rfl ?_
  refine J_bipush (pc := 26) dX4_init_26 knb_48 ?_
  refine C_newa (pc := 28) (t := 0) (N := 48) (k' := 9) (n' := 270) dX4_init_28 (by decide) rfl ka_int (by decide) rfl (by decide) rfl (zr_le hz (by decide)) rfl rfl ?_
  refine C_putR (pc := 30) (id := 1) (kf := 3) (t := 4) dX4_init_30 kp_X4_22 (by rfl) rfl rfl (fun _ => rfl) (fun _ => rfl) rfl (show ∀ j, j < 3 → 3 ≤ j → jlay 1 j = 0 by decide +kernel) (Nat.le_of_ble_eq_true rfl) ?_
  rw [ovs_o]
  refine J_aload_n (pc := 33) dX4_init_33 rfl ?_
  refine J_bipush (pc := 34) dX4_init_34 knb_48 ?_
  refine C_newa (pc := 36) (t := 0) (N := 48) (k' := 8) (n' := 222) dX4_init_36 (by decide) rfl ka_int (by decide) rfl (by decide) rfl (zr_le hz (by decide)) rfl rfl ?_
  refine C_putR (pc := 38) (id := 1) (kf := 4) (t := 5) dX4_init_38 kp_X4_25 (by rfl) rfl rfl (fun _ => rfl) (fun _ => rfl) rfl (show ∀ j, j < 4 → 4 ≤ j → jlay 1 j = 0 by decide +kernel) (Nat.le_of_ble_eq_true rfl) ?_
  rw [ovs_o]
  refine J_aload_n (pc := 41) dX4_init_41 rfl ?_
  refine J_bipush (pc := 42) dX4_init_42 knb_48 ?_
  refine C_newa (pc := 44) (t := 0) (N := 48) (k' := 7) (n' := 174) dX4_init_44 (by decide) rfl ka_int (by decide) rfl (by decide) rfl (zr_le hz (by decide)) rfl rfl ?_
  refine C_putR (pc := 46) (id := 1) (kf := 5) (t := 6) dX4_init_46 kp_X4_28 (by rfl) rfl rfl (fun _ => rfl) (fun _ => rfl) rfl (show ∀ j, j < 5 → 5 ≤ j → jlay 1 j = 0 by decide +kernel) (Nat.le_of_ble_eq_true rfl) ?_
  rw [ovs_o]
  refine J_aload_n (pc := 49) dX4_init_49 rfl ?_
  refine J_bipush (pc := 50) dX4_init_50 knb_48 ?_
  refine C_newa (pc := 52) (t := 0) (N := 48) (k' := 6) (n' := 126) dX4_init_52 (by decide) rfl ka_int (by decide) rfl (by decide) rfl (zr_le hz (by decide)) rfl rfl ?_
  refine C_putR (pc := 54) (id := 1) (kf := 6) (t := 7) dX4_init_54 kp_X4_31 (by rfl) rfl rfl (fun _ => rfl) (fun _ => rfl) rfl (show ∀ j, j < 6 → 6 ≤ j → jlay 1 j = 0 by decide +kernel) (Nat.le_of_ble_eq_true rfl) ?_
  rw [ovs_o]
  refine J_aload_n (pc := 57) dX4_init_57 rfl ?_
  refine J_bipush (pc := 58) dX4_init_58 knb_48 ?_
  refine C_newa (pc := 60) (t := 0) (N := 48) (k' := 5) (n' := 78) dX4_init_60 (by decide) rfl ka_int (by decide) rfl (by decide) rfl (zr_le hz (by decide)) rfl rfl ?_
  refine C_putR (pc := 62) (id := 1) (kf := 7) (t := 8) dX4_init_62 kp_X4_34 (by rfl) rfl rfl (fun _ => rfl) (fun _ => rfl) rfl (show ∀ j, j < 7 → 7 ≤ j → jlay 1 j = 0 by decide +kernel) (Nat.le_of_ble_eq_true rfl) ?_
  rw [ovs_o]
  refine J_aload_n (pc := 65) dX4_init_65 rfl ?_
  refine J_bipush (pc := 66) dX4_init_66 knb_48 ?_
  refine C_newa (pc := 68) (t := 0) (N := 48) (k' := 4) (n' := 30) dX4_init_68 (by decide) rfl ka_int (by decide) rfl (by decide) rfl (zr_le hz (by decide)) rfl rfl ?_
  refine C_putR (pc := 70) (id := 1) (kf := 8) (t := 9) dX4_init_70 kp_X4_37 (by rfl) rfl rfl (fun _ => rfl) (fun _ => rfl) rfl (show ∀ j, j < 8 → 8 ≤ j → jlay 1 j = 0 by decide +kernel) (Nat.le_of_ble_eq_true rfl) ?_
  rw [ovs_o]
  refine J_aload_n (pc := 73) dX4_init_73 rfl ?_
  refine J_bipush (pc := 74) dX4_init_74 knb_10 ?_
  refine C_newa (pc := 76) (t := 0) (N := 10) (k' := 3) (n' := 20) dX4_init_76 (by decide) rfl ka_int (by decide) rfl (by decide) rfl (zr_le hz (by decide)) rfl rfl ?_
  refine C_putR (pc := 78) (id := 1) (kf := 9) (t := 10) dX4_init_78 kp_X4_40 (by rfl) rfl rfl (fun _ => rfl) (fun _ => rfl) rfl (show ∀ j, j < 9 → 9 ≤ j → jlay 1 j = 0 by decide +kernel) (Nat.le_of_ble_eq_true rfl) ?_
  rw [ovs_o]
  refine J_aload_n (pc := 81) dX4_init_81 rfl ?_
  refine J_bipush (pc := 82) dX4_init_82 knb_10 ?_
  refine C_newa (pc := 84) (t := 0) (N := 10) (k' := 2) (n' := 10) dX4_init_84 (by decide) rfl ka_int (by decide) rfl (by decide) rfl (zr_le hz (by decide)) rfl rfl ?_
  refine C_putR (pc := 86) (id := 1) (kf := 10) (t := 11) dX4_init_86 kp_X4_43 (by rfl) rfl rfl (fun _ => rfl) (fun _ => rfl) rfl (show ∀ j, j < 10 → 10 ≤ j → jlay 1 j = 0 by decide +kernel) (Nat.le_of_ble_eq_true rfl) ?_
  rw [ovs_o]
  refine J_aload_n (pc := 89) dX4_init_89 rfl ?_
  refine J_bipush (pc := 90) dX4_init_90 knb_6 ?_
  refine C_newa (pc := 92) (t := 0) (N := 6) (k' := 1) (n' := 4) dX4_init_92 (by decide) rfl ka_int (by decide) rfl (by decide) rfl (zr_le hz (by decide)) rfl rfl ?_
  refine C_putR (pc := 94) (id := 1) (kf := 11) (t := 12) dX4_init_94 kp_X4_46 (by rfl) rfl rfl (fun _ => rfl) (fun _ => rfl) rfl (show ∀ j, j < 11 → 11 ≤ j → jlay 1 j = 0 by decide +kernel) (Nat.le_of_ble_eq_true rfl) ?_
  rw [ovs_o]
  refine J_aload_n (pc := 97) dX4_init_97 rfl ?_
  refine J_iconst (pc := 98) dX4_init_98 kni_4 ?_
  refine C_newa (pc := 99) (t := 0) (N := 4) (k' := 0) (n' := 0) dX4_init_99 (by decide) rfl ka_int (by decide) rfl (by decide) rfl (zr_le hz (by decide)) rfl rfl ?_
  refine C_putR (pc := 101) (id := 1) (kf := 12) (t := 13) dX4_init_101 kp_X4_49 (by rfl) rfl rfl (fun _ => rfl) (fun _ => rfl) rfl (show ∀ j, j < 12 → 12 ≤ j → jlay 1 j = 0 by decide +kernel) (Nat.le_of_ble_eq_true rfl) ?_
  rw [ovs_o]
  refine J_aload_n (pc := 104) dX4_init_104 rfl ?_
  refine J_iconst (pc := 105) dX4_init_105 kni_0 ?_
  refine C_put0 (pc := 106) (id := 1) (kf := 13) dX4_init_106 kp_X4_52 (by rfl) rfl rfl rfl (hz 1 13 (by decide)) ?_
  refine J_aload_n (pc := 109) dX4_init_109 rfl ?_
  refine J_iconst (pc := 110) dX4_init_110 kni_0 ?_
  refine C_put0 (pc := 111) (id := 1) (kf := 14) dX4_init_111 kp_X4_55 (by rfl) rfl rfl rfl (hz 1 14 (by decide)) ?_
  refine J_aload_n (pc := 114) dX4_init_114 rfl ?_
  refine J_iconst (pc := 115) dX4_init_115 kni_0 ?_
  refine C_put0 (pc := 116) (id := 1) (kf := 15) dX4_init_116 kp_X4_58 (by rfl) rfl rfl rfl (hz 1 15 (by decide)) ?_
  refine J_aload_n (pc := 119) dX4_init_119 rfl ?_
  refine J_iconst (pc := 120) dX4_init_120 kni_0 ?_
  refine C_put0 (pc := 121) (id := 1) (kf := 16) dX4_init_121 kp_X4_61 (by rfl) rfl rfl rfl (hz 1 16 (by decide)) ?_
  refine J_iconst (pc := 124) dX4_init_124 kni_0 ?_
  refine J_istore_n (pc := 125) (ls' := [some _, some _]) dX4_init_125 rfl (Nat.le_of_ble_eq_true rfl) rfl ?_
  refine C_for' (pc := 126) 48 (fun i => [some (.ref (jxb x + 1)), some (.int (nI i))]) (fun i => (mfill (mfill m 8 i (fun _ => (-1000000005))) 9 i (fun _ => nI 50))) rfl (by rw [mfill_0, mfill_0]) (fun i hi ih126 => ?_) ?_
  ·
    show KC x _ _ _ _ 126 [some (.ref (jxb x + 1)), some (.int (nI i))] _ _ (mfill (mfill m 8 i (fun _ => (-1000000005))) 9 i (fun _ => nI 50)) _ _
    refine J_iload_n (pc := 126) dX4_init_126 rfl ?_
    refine J_bipush (pc := 127) dX4_init_127 knb_48 ?_
    refine Jn_ge (pc := 129) (tgt := 154) dX4_init_129 (by decide) (by omega) (by omega) (fun h129 => absurd h129 (by omega)) (fun h129 => ?_)
    refine J_aload_n (pc := 132) dX4_init_132 rfl ?_
    refine C_getR (pc := 133) (id := 1) (kf := 7) (t := 8) dX4_init_133 kf_X4_34 (by rfl) rfl (Nat.le_of_ble_eq_true rfl) ?_
    refine J_iload_n (pc := 136) dX4_init_136 rfl ?_
    refine J_ldc (pc := 137) dX4_init_137 kc_X4_64 ?_
    refine C_iast (pc := 139) (id := 8) (N := 48) (j := i) dX4_init_139 (by rfl) rfl (by omega) (by decide) ?_
    refine J_aload_n (pc := 140) dX4_init_140 rfl ?_
    refine C_getR (pc := 141) (id := 1) (kf := 8) (t := 9) dX4_init_141 kf_X4_37 (by rfl) rfl (Nat.le_of_ble_eq_true rfl) ?_
    refine J_iload_n (pc := 144) dX4_init_144 rfl ?_
    refine J_bipush (pc := 145) dX4_init_145 knb_50 ?_
    refine C_iast (pc := 147) (id := 9) (N := 48) (j := i) dX4_init_147 (by rfl) rfl (by omega) (by decide) ?_
    refine Jn_iinc (pc := 148) (ls' := [some _, some _]) dX4_init_148 rfl knz_1 rfl rfl ?_
    refine J_goto (pc := 151) (tgt := 126) dX4_init_151 (by decide) ?_
    rw [m2_s (f := fun _ => (-1000000005)) (g := fun _ => nI 50) (by decide)]
    exact ih126
  ·
    show KC x _ _ _ _ 126 [some (.ref (jxb x + 1)), some (.int (nI 48))] _ _ (mfill (mfill m 8 48 (fun _ => (-1000000005))) 9 48 (fun _ => nI 50)) _ _
    refine J_iload_n (pc := 126) dX4_init_126 rfl ?_
    refine J_bipush (pc := 127) dX4_init_127 knb_48 ?_
    refine Jn_ge (pc := 129) (tgt := 154) dX4_init_129 (by decide) (by omega) (by omega) (fun h129 => ?_) (fun h129 => absurd h129 (by omega))
    refine J_iconst (pc := 154) dX4_init_154 kni_0 ?_
    refine J_istore_n (pc := 155) (ls' := [some _, some _]) dX4_init_155 rfl (Nat.le_of_ble_eq_true rfl) rfl ?_
    refine C_for' (pc := 156) 10 (fun i => [some (.ref (jxb x + 1)), some (.int (nI i))]) (fun i => (mfill (mfill (mfill m 8 48 (fun _ => (-1000000005))) 9 48 (fun _ => nI 50)) 11 i (fun _ => nI 5))) rfl (by rw [mfill_0]) (fun i hi ih156 => ?_) ?_
    ·
      show KC x _ _ _ _ 156 [some (.ref (jxb x + 1)), some (.int (nI i))] _ _ (mfill (mfill (mfill m 8 48 (fun _ => (-1000000005))) 9 48 (fun _ => nI 50)) 11 i (fun _ => nI 5)) _ _
      refine J_iload_n (pc := 156) dX4_init_156 rfl ?_
      refine J_bipush (pc := 157) dX4_init_157 knb_10 ?_
      refine Jn_ge (pc := 159) (tgt := 175) dX4_init_159 (by decide) (by omega) (by omega) (fun h159 => absurd h159 (by omega)) (fun h159 => ?_)
      refine J_aload_n (pc := 162) dX4_init_162 rfl ?_
      refine C_getR (pc := 163) (id := 1) (kf := 10) (t := 11) dX4_init_163 kf_X4_43 (by rfl) rfl (Nat.le_of_ble_eq_true rfl) ?_
      refine J_iload_n (pc := 166) dX4_init_166 rfl ?_
      refine J_iconst (pc := 167) dX4_init_167 kni_5 ?_
      refine C_iast (pc := 168) (id := 11) (N := 10) (j := i) dX4_init_168 (by rfl) rfl (by omega) (by decide) ?_
      refine Jn_iinc (pc := 169) (ls' := [some _, some _]) dX4_init_169 rfl knz_1 rfl rfl ?_
      refine J_goto (pc := 172) (tgt := 156) dX4_init_172 (by decide) ?_
      rw [mfill_s _ _ _ _ rfl]
      exact ih156
    ·
      show KC x _ _ _ _ 156 [some (.ref (jxb x + 1)), some (.int (nI 10))] _ _ (mfill (mfill (mfill m 8 48 (fun _ => (-1000000005))) 9 48 (fun _ => nI 50)) 11 10 (fun _ => nI 5)) _ _
      refine J_iload_n (pc := 156) dX4_init_156 rfl ?_
      refine J_bipush (pc := 157) dX4_init_157 knb_10 ?_
      refine Jn_ge (pc := 159) (tgt := 175) dX4_init_159 (by decide) (by omega) (by omega) (fun h159 => ?_) (fun h159 => absurd h159 (by omega))
      refine J_iconst (pc := 175) dX4_init_175 kni_0 ?_
      refine J_istore_n (pc := 176) (ls' := [some _, some _]) dX4_init_176 rfl (Nat.le_of_ble_eq_true rfl) rfl ?_
      refine C_for' (pc := 177) 4 (fun i => [some (.ref (jxb x + 1)), some (.int (nI i))]) (fun i => (mfill (mfill (mfill (mfill m 8 48 (fun _ => (-1000000005))) 9 48 (fun _ => nI 50)) 11 10 (fun _ => nI 5)) 13 i (fun i => (jtb 1).getD i 0))) rfl (by rw [mfill_0]) (fun i hi ih177 => ?_) ?_
      ·
        show KC x _ _ _ _ 177 [some (.ref (jxb x + 1)), some (.int (nI i))] _ _ (mfill (mfill (mfill (mfill m 8 48 (fun _ => (-1000000005))) 9 48 (fun _ => nI 50)) 11 10 (fun _ => nI 5)) 13 i (fun i => (jtb 1).getD i 0)) _ _
        refine J_iload_n (pc := 177) dX4_init_177 rfl ?_
        refine J_iconst (pc := 178) dX4_init_178 kni_4 ?_
        refine Jn_ge (pc := 179) (tgt := 199) dX4_init_179 (by decide) (by omega) (by omega) (fun h179 => absurd h179 (by omega)) (fun h179 => ?_)
        refine J_aload_n (pc := 182) dX4_init_182 rfl ?_
        refine C_getR (pc := 183) (id := 1) (kf := 12) (t := 13) dX4_init_183 kf_X4_49 (by rfl) rfl (Nat.le_of_ble_eq_true rfl) ?_
        refine J_iload_n (pc := 186) dX4_init_186 rfl ?_
        refine J_gets (pc := 187) (j := 1) dX4_init_187 (by decide) ks_X4_65 ?_
        refine J_iload_n (pc := 190) dX4_init_190 rfl ?_
        refine C_tldn (pc := 191) (j0 := 1) (j := i) dX4_init_191 (by decide) (show i < 4 by omega) ?_
        refine C_iast (pc := 192) (id := 13) (N := 4) (j := i) dX4_init_192 (by rfl) rfl (by omega) (by decide) ?_
        refine Jn_iinc (pc := 193) (ls' := [some _, some _]) dX4_init_193 rfl knz_1 rfl rfl ?_
        refine J_goto (pc := 196) (tgt := 177) dX4_init_196 (by decide) ?_
        rw [mfill_s _ _ _ _ rfl]
        exact ih177
      ·
        show KC x _ _ _ _ 177 [some (.ref (jxb x + 1)), some (.int (nI 4))] _ _ (mfill (mfill (mfill (mfill m 8 48 (fun _ => (-1000000005))) 9 48 (fun _ => nI 50)) 11 10 (fun _ => nI 5)) 13 4 (fun i => (jtb 1).getD i 0)) _ _
        refine J_iload_n (pc := 177) dX4_init_177 rfl ?_
        refine J_iconst (pc := 178) dX4_init_178 kni_4 ?_
        refine Jn_ge (pc := 179) (tgt := 199) dX4_init_179 (by decide) (by omega) (by omega) (fun h179 => ?_) (fun h179 => absurd h179 (by omega))
        exact J_vret (pc := 199) dX4_init_199 rfl ⟨rfl, rfl, rfl⟩
set_option maxRecDepth 100000 in
set_option maxHeartbeats 400000 in
theorem b_X4_14 {x : jX} {d : Nat} {m : jm} {ov : Nat → Nat} (hz : zr m 14) (ho14 : ov 14 = 0) : jCt x (d + 1) 12 414 eX4_init [.ref (jxb x + 14)] (jL0.take 15) (jEs x m ov) (fun r L M => r = none ∧ L = jL0.take 27 ∧ M = jEs x (m4 m 14) (ovs ov 14 13)) := by
  refine J_start (by decide +kernel) (Nat.le_of_ble_eq_true rfl) (ls := [some (.ref (jxb x + 14)), none]) rfl rfl ?_
  refine J_aload_n (pc := 0) dX4_init_0 rfl ?_
  refine C_obj (pc := 1) dX4_init_1 ko_X4_3 (Nat.le_of_ble_eq_true rfl) ?_
  refine J_aload_n (pc := 4) dX4_init_4 rfl ?_
  refine J_iconst (pc := 5) dX4_init_5 kni_0 ?_
  refine C_put0 (pc := 6) (id := 14) (kf := 0) dX4_init_6 kp_X4_9 (by rfl) rfl rfl rfl (hz 14 0 (by decide)) ?_
  refine J_aload_n (pc := 9) dX4_init_9 rfl ?_
  refine J_bipush (pc := 10) dX4_init_10 knb_48 ?_
  refine C_newa (pc := 12) (t := 0) (N := 48) (k' := 11) (n' := 366) dX4_init_12 (by decide) rfl ka_int (by decide) rfl (by decide) rfl (zr_le hz (by decide)) rfl rfl ?_
  refine C_putR (pc := 14) (id := 14) (kf := 1) (t := 15) dX4_init_14 kp_X4_15 (by rfl) rfl rfl (fun _ => rfl) (fun _ => rfl) rfl (fun j g1 g2 => (show ∀ j, j < 1 → jlay 14 j = 0 by decide +kernel) j g1) (Nat.le_trans (Nat.le_of_eq ho14) (Nat.zero_le _)) ?_
  refine J_aload_n (pc := 17) dX4_init_17 rfl ?_
  refine J_bipush (pc := 18) dX4_init_18 knb_48 ?_
  refine C_newa (pc := 20) (t := 0) (N := 48) (k' := 10) (n' := 318) dX4_init_20 (by decide) rfl ka_int (by decide) rfl (by decide) rfl (zr_le hz (by decide)) rfl rfl ?_
  refine C_putR (pc := 22) (id := 14) (kf := 2) (t := 16) dX4_init_22 kp_X4_19 (by rfl) rfl rfl (fun _ => rfl) (fun _ => rfl) rfl (show ∀ j, j < 2 → 2 ≤ j → jlay 14 j = 0 by decide +kernel) (Nat.le_of_ble_eq_true rfl) ?_
  rw [ovs_o]
  refine J_aload_n (pc := 25) dX4_init_25 rfl ?_
  refine J_bipush (pc := 26) dX4_init_26 knb_48 ?_
  refine C_newa (pc := 28) (t := 0) (N := 48) (k' := 9) (n' := 270) dX4_init_28 (by decide) rfl ka_int (by decide) rfl (by decide) rfl (zr_le hz (by decide)) rfl rfl ?_
  refine C_putR (pc := 30) (id := 14) (kf := 3) (t := 17) dX4_init_30 kp_X4_22 (by rfl) rfl rfl (fun _ => rfl) (fun _ => rfl) rfl (show ∀ j, j < 3 → 3 ≤ j → jlay 14 j = 0 by decide +kernel) (Nat.le_of_ble_eq_true rfl) ?_
  rw [ovs_o]
  refine J_aload_n (pc := 33) dX4_init_33 rfl ?_
  refine J_bipush (pc := 34) dX4_init_34 knb_48 ?_
  refine C_newa (pc := 36) (t := 0) (N := 48) (k' := 8) (n' := 222) dX4_init_36 (by decide) rfl ka_int (by decide) rfl (by decide) rfl (zr_le hz (by decide)) rfl rfl ?_
  refine C_putR (pc := 38) (id := 14) (kf := 4) (t := 18) dX4_init_38 kp_X4_25 (by rfl) rfl rfl (fun _ => rfl) (fun _ => rfl) rfl (show ∀ j, j < 4 → 4 ≤ j → jlay 14 j = 0 by decide +kernel) (Nat.le_of_ble_eq_true rfl) ?_
  rw [ovs_o]
  refine J_aload_n (pc := 41) dX4_init_41 rfl ?_
  refine J_bipush (pc := 42) dX4_init_42 knb_48 ?_
  refine C_newa (pc := 44) (t := 0) (N := 48) (k' := 7) (n' := 174) dX4_init_44 (by decide) rfl ka_int (by decide) rfl (by decide) rfl (zr_le hz (by decide)) rfl rfl ?_
  refine C_putR (pc := 46) (id := 14) (kf := 5) (t := 19) dX4_init_46 kp_X4_28 (by rfl) rfl rfl (fun _ => rfl) (fun _ => rfl) rfl (show ∀ j, j < 5 → 5 ≤ j → jlay 14 j = 0 by decide +kernel) (Nat.le_of_ble_eq_true rfl) ?_
  rw [ovs_o]
  refine J_aload_n (pc := 49) dX4_init_49 rfl ?_
  refine J_bipush (pc := 50) dX4_init_50 knb_48 ?_
  refine C_newa (pc := 52) (t := 0) (N := 48) (k' := 6) (n' := 126) dX4_init_52 (by decide) rfl ka_int (by decide) rfl (by decide) rfl (zr_le hz (by decide)) rfl rfl ?_
  refine C_putR (pc := 54) (id := 14) (kf := 6) (t := 20) dX4_init_54 kp_X4_31 (by rfl) rfl rfl (fun _ => rfl) (fun _ => rfl) rfl (show ∀ j, j < 6 → 6 ≤ j → jlay 14 j = 0 by decide +kernel) (Nat.le_of_ble_eq_true rfl) ?_
  rw [ovs_o]
  refine J_aload_n (pc := 57) dX4_init_57 rfl ?_
  refine J_bipush (pc := 58) dX4_init_58 knb_48 ?_
  refine C_newa (pc := 60) (t := 0) (N := 48) (k' := 5) (n' := 78) dX4_init_60 (by decide) rfl ka_int (by decide) rfl (by decide) rfl (zr_le hz (by decide)) rfl rfl ?_
  refine C_putR (pc := 62) (id := 14) (kf := 7) (t := 21) dX4_init_62 kp_X4_34 (by rfl) rfl rfl (fun _ => rfl) (fun _ => rfl) rfl (show ∀ j, j < 7 → 7 ≤ j → jlay 14 j = 0 by decide +kernel) (Nat.le_of_ble_eq_true rfl) ?_
  rw [ovs_o]
  refine J_aload_n (pc := 65) dX4_init_65 rfl ?_
  refine J_bipush (pc := 66) dX4_init_66 knb_48 ?_
  refine C_newa (pc := 68) (t := 0) (N := 48) (k' := 4) (n' := 30) dX4_init_68 (by decide) rfl ka_int (by decide) rfl (by decide) rfl (zr_le hz (by decide)) rfl rfl ?_
  refine C_putR (pc := 70) (id := 14) (kf := 8) (t := 22) dX4_init_70 kp_X4_37 (by rfl) rfl rfl (fun _ => rfl) (fun _ => rfl) rfl (show ∀ j, j < 8 → 8 ≤ j → jlay 14 j = 0 by decide +kernel) (Nat.le_of_ble_eq_true rfl) ?_
  rw [ovs_o]
  refine J_aload_n (pc := 73) dX4_init_73 rfl ?_
  refine J_bipush (pc := 74) dX4_init_74 knb_10 ?_
  refine C_newa (pc := 76) (t := 0) (N := 10) (k' := 3) (n' := 20) dX4_init_76 (by decide) rfl ka_int (by decide) rfl (by decide) rfl (zr_le hz (by decide)) rfl rfl ?_
  refine C_putR (pc := 78) (id := 14) (kf := 9) (t := 23) dX4_init_78 kp_X4_40 (by rfl) rfl rfl (fun _ => rfl) (fun _ => rfl) rfl (show ∀ j, j < 9 → 9 ≤ j → jlay 14 j = 0 by decide +kernel) (Nat.le_of_ble_eq_true rfl) ?_
  rw [ovs_o]
  refine J_aload_n (pc := 81) dX4_init_81 rfl ?_
  refine J_bipush (pc := 82) dX4_init_82 knb_10 ?_
  refine C_newa (pc := 84) (t := 0) (N := 10) (k' := 2) (n' := 10) dX4_init_84 (by decide) rfl ka_int (by decide) rfl (by decide) rfl (zr_le hz (by decide)) rfl rfl ?_
  refine C_putR (pc := 86) (id := 14) (kf := 10) (t := 24) dX4_init_86 kp_X4_43 (by rfl) rfl rfl (fun _ => rfl) (fun _ => rfl) rfl (show ∀ j, j < 10 → 10 ≤ j → jlay 14 j = 0 by decide +kernel) (Nat.le_of_ble_eq_true rfl) ?_
  rw [ovs_o]
  refine J_aload_n (pc := 89) dX4_init_89 rfl ?_
  refine J_bipush (pc := 90) dX4_init_90 knb_6 ?_
  refine C_newa (pc := 92) (t := 0) (N := 6) (k' := 1) (n' := 4) dX4_init_92 (by decide) rfl ka_int (by decide) rfl (by decide) rfl (zr_le hz (by decide)) rfl rfl ?_
  refine C_putR (pc := 94) (id := 14) (kf := 11) (t := 25) dX4_init_94 kp_X4_46 (by rfl) rfl rfl (fun _ => rfl) (fun _ => rfl) rfl (show ∀ j, j < 11 → 11 ≤ j → jlay 14 j = 0 by decide +kernel) (Nat.le_of_ble_eq_true rfl) ?_
  rw [ovs_o]
  refine J_aload_n (pc := 97) dX4_init_97 rfl ?_
  refine J_iconst (pc := 98) dX4_init_98 kni_4 ?_
  refine C_newa (pc := 99) (t := 0) (N := 4) (k' := 0) (n' := 0) dX4_init_99 (by decide) rfl ka_int (by decide) rfl (by decide) rfl (zr_le hz (by decide)) rfl rfl ?_
  refine C_putR (pc := 101) (id := 14) (kf := 12) (t := 26) dX4_init_101 kp_X4_49 (by rfl) rfl rfl (fun _ => rfl) (fun _ => rfl) rfl (show ∀ j, j < 12 → 12 ≤ j → jlay 14 j = 0 by decide +kernel) (Nat.le_of_ble_eq_true rfl) ?_
  rw [ovs_o]
  refine J_aload_n (pc := 104) dX4_init_104 rfl ?_
  refine J_iconst (pc := 105) dX4_init_105 kni_0 ?_
  refine C_put0 (pc := 106) (id := 14) (kf := 13) dX4_init_106 kp_X4_52 (by rfl) rfl rfl rfl (hz 14 13 (by decide)) ?_
  refine J_aload_n (pc := 109) dX4_init_109 rfl ?_
  refine J_iconst (pc := 110) dX4_init_110 kni_0 ?_
  refine C_put0 (pc := 111) (id := 14) (kf := 14) dX4_init_111 kp_X4_55 (by rfl) rfl rfl rfl (hz 14 14 (by decide)) ?_
  refine J_aload_n (pc := 114) dX4_init_114 rfl ?_
  refine J_iconst (pc := 115) dX4_init_115 kni_0 ?_
  refine C_put0 (pc := 116) (id := 14) (kf := 15) dX4_init_116 kp_X4_58 (by rfl) rfl rfl rfl (hz 14 15 (by decide)) ?_
  refine J_aload_n (pc := 119) dX4_init_119 rfl ?_
  refine J_iconst (pc := 120) dX4_init_120 kni_0 ?_
  refine C_put0 (pc := 121) (id := 14) (kf := 16) dX4_init_121 kp_X4_61 (by rfl) rfl rfl rfl (hz 14 16 (by decide)) ?_
  refine J_iconst (pc := 124) dX4_init_124 kni_0 ?_
  refine J_istore_n (pc := 125) (ls' := [some _, some _]) dX4_init_125 rfl (Nat.le_of_ble_eq_true rfl) rfl ?_
  refine C_for' (pc := 126) 48 (fun i => [some (.ref (jxb x + 14)), some (.int (nI i))]) (fun i => (mfill (mfill m 21 i (fun _ => (-1000000005))) 22 i (fun _ => nI 50))) rfl (by rw [mfill_0, mfill_0]) (fun i hi ih126 => ?_) ?_
  ·
    show KC x _ _ _ _ 126 [some (.ref (jxb x + 14)), some (.int (nI i))] _ _ (mfill (mfill m 21 i (fun _ => (-1000000005))) 22 i (fun _ => nI 50)) _ _
    refine J_iload_n (pc := 126) dX4_init_126 rfl ?_
    refine J_bipush (pc := 127) dX4_init_127 knb_48 ?_
    refine Jn_ge (pc := 129) (tgt := 154) dX4_init_129 (by decide) (by omega) (by omega) (fun h129 => absurd h129 (by omega)) (fun h129 => ?_)
    refine J_aload_n (pc := 132) dX4_init_132 rfl ?_
    refine C_getR (pc := 133) (id := 14) (kf := 7) (t := 21) dX4_init_133 kf_X4_34 (by rfl) rfl (Nat.le_of_ble_eq_true rfl) ?_
    refine J_iload_n (pc := 136) dX4_init_136 rfl ?_
    refine J_ldc (pc := 137) dX4_init_137 kc_X4_64 ?_
    refine C_iast (pc := 139) (id := 21) (N := 48) (j := i) dX4_init_139 (by rfl) rfl (by omega) (by decide) ?_
    refine J_aload_n (pc := 140) dX4_init_140 rfl ?_
    refine C_getR (pc := 141) (id := 14) (kf := 8) (t := 22) dX4_init_141 kf_X4_37 (by rfl) rfl (Nat.le_of_ble_eq_true rfl) ?_
    refine J_iload_n (pc := 144) dX4_init_144 rfl ?_
    refine J_bipush (pc := 145) dX4_init_145 knb_50 ?_
    refine C_iast (pc := 147) (id := 22) (N := 48) (j := i) dX4_init_147 (by rfl) rfl (by omega) (by decide) ?_
    refine Jn_iinc (pc := 148) (ls' := [some _, some _]) dX4_init_148 rfl knz_1 rfl rfl ?_
    refine J_goto (pc := 151) (tgt := 126) dX4_init_151 (by decide) ?_
    rw [m2_s (f := fun _ => (-1000000005)) (g := fun _ => nI 50) (by decide)]
    exact ih126
  ·
    show KC x _ _ _ _ 126 [some (.ref (jxb x + 14)), some (.int (nI 48))] _ _ (mfill (mfill m 21 48 (fun _ => (-1000000005))) 22 48 (fun _ => nI 50)) _ _
    refine J_iload_n (pc := 126) dX4_init_126 rfl ?_
    refine J_bipush (pc := 127) dX4_init_127 knb_48 ?_
    refine Jn_ge (pc := 129) (tgt := 154) dX4_init_129 (by decide) (by omega) (by omega) (fun h129 => ?_) (fun h129 => absurd h129 (by omega))
    refine J_iconst (pc := 154) dX4_init_154 kni_0 ?_
    refine J_istore_n (pc := 155) (ls' := [some _, some _]) dX4_init_155 rfl (Nat.le_of_ble_eq_true rfl) rfl ?_
    refine C_for' (pc := 156) 10 (fun i => [some (.ref (jxb x + 14)), some (.int (nI i))]) (fun i => (mfill (mfill (mfill m 21 48 (fun _ => (-1000000005))) 22 48 (fun _ => nI 50)) 24 i (fun _ => nI 5))) rfl (by rw [mfill_0]) (fun i hi ih156 => ?_) ?_
    ·
      show KC x _ _ _ _ 156 [some (.ref (jxb x + 14)), some (.int (nI i))] _ _ (mfill (mfill (mfill m 21 48 (fun _ => (-1000000005))) 22 48 (fun _ => nI 50)) 24 i (fun _ => nI 5)) _ _
      refine J_iload_n (pc := 156) dX4_init_156 rfl ?_
      refine J_bipush (pc := 157) dX4_init_157 knb_10 ?_
      refine Jn_ge (pc := 159) (tgt := 175) dX4_init_159 (by decide) (by omega) (by omega) (fun h159 => absurd h159 (by omega)) (fun h159 => ?_)
      refine J_aload_n (pc := 162) dX4_init_162 rfl ?_
      refine C_getR (pc := 163) (id := 14) (kf := 10) (t := 24) dX4_init_163 kf_X4_43 (by rfl) rfl (Nat.le_of_ble_eq_true rfl) ?_
      refine J_iload_n (pc := 166) dX4_init_166 rfl ?_
      refine J_iconst (pc := 167) dX4_init_167 kni_5 ?_
      refine C_iast (pc := 168) (id := 24) (N := 10) (j := i) dX4_init_168 (by rfl) rfl (by omega) (by decide) ?_
      refine Jn_iinc (pc := 169) (ls' := [some _, some _]) dX4_init_169 rfl knz_1 rfl rfl ?_
      refine J_goto (pc := 172) (tgt := 156) dX4_init_172 (by decide) ?_
      rw [mfill_s _ _ _ _ rfl]
      exact ih156
    ·
      show KC x _ _ _ _ 156 [some (.ref (jxb x + 14)), some (.int (nI 10))] _ _ (mfill (mfill (mfill m 21 48 (fun _ => (-1000000005))) 22 48 (fun _ => nI 50)) 24 10 (fun _ => nI 5)) _ _
      refine J_iload_n (pc := 156) dX4_init_156 rfl ?_
      refine J_bipush (pc := 157) dX4_init_157 knb_10 ?_
      refine Jn_ge (pc := 159) (tgt := 175) dX4_init_159 (by decide) (by omega) (by omega) (fun h159 => ?_) (fun h159 => absurd h159 (by omega))
      refine J_iconst (pc := 175) dX4_init_175 kni_0 ?_
      refine J_istore_n (pc := 176) (ls' := [some _, some _]) dX4_init_176 rfl (Nat.le_of_ble_eq_true rfl) rfl ?_
      refine C_for' (pc := 177) 4 (fun i => [some (.ref (jxb x + 14)), some (.int (nI i))]) (fun i => (mfill (mfill (mfill (mfill m 21 48 (fun _ => (-1000000005))) 22 48 (fun _ => nI 50)) 24 10 (fun _ => nI 5)) 26 i (fun i => (jtb 1).getD i 0))) rfl (by rw [mfill_0]) (fun i hi ih177 => ?_) ?_
      ·
        show KC x _ _ _ _ 177 [some (.ref (jxb x + 14)), some (.int (nI i))] _ _ (mfill (mfill (mfill (mfill m 21 48 (fun _ => (-1000000005))) 22 48 (fun _ => nI 50)) 24 10 (fun _ => nI 5)) 26 i (fun i => (jtb 1).getD i 0)) _ _
        refine J_iload_n (pc := 177) dX4_init_177 rfl ?_
        refine J_iconst (pc := 178) dX4_init_178 kni_4 ?_
        refine Jn_ge (pc := 179) (tgt := 199) dX4_init_179 (by decide) (by omega) (by omega) (fun h179 => absurd h179 (by omega)) (fun h179 => ?_)
        refine J_aload_n (pc := 182) dX4_init_182 rfl ?_
        refine C_getR (pc := 183) (id := 14) (kf := 12) (t := 26) dX4_init_183 kf_X4_49 (by rfl) rfl (Nat.le_of_ble_eq_true rfl) ?_
        refine J_iload_n (pc := 186) dX4_init_186 rfl ?_
        refine J_gets (pc := 187) (j := 1) dX4_init_187 (by decide) ks_X4_65 ?_
        refine J_iload_n (pc := 190) dX4_init_190 rfl ?_
        refine C_tldn (pc := 191) (j0 := 1) (j := i) dX4_init_191 (by decide) (show i < 4 by omega) ?_
        refine C_iast (pc := 192) (id := 26) (N := 4) (j := i) dX4_init_192 (by rfl) rfl (by omega) (by decide) ?_
        refine Jn_iinc (pc := 193) (ls' := [some _, some _]) dX4_init_193 rfl knz_1 rfl rfl ?_
        refine J_goto (pc := 196) (tgt := 177) dX4_init_196 (by decide) ?_
        rw [mfill_s _ _ _ _ rfl]
        exact ih177
      ·
        show KC x _ _ _ _ 177 [some (.ref (jxb x + 14)), some (.int (nI 4))] _ _ (mfill (mfill (mfill (mfill m 21 48 (fun _ => (-1000000005))) 22 48 (fun _ => nI 50)) 24 10 (fun _ => nI 5)) 26 4 (fun i => (jtb 1).getD i 0)) _ _
        refine J_iload_n (pc := 177) dX4_init_177 rfl ?_
        refine J_iconst (pc := 178) dX4_init_178 kni_4 ?_
        refine Jn_ge (pc := 179) (tgt := 199) dX4_init_179 (by decide) (by omega) (by omega) (fun h179 => ?_) (fun h179 => absurd h179 (by omega))
        exact J_vret (pc := 199) dX4_init_199 rfl ⟨rfl, rfl, rfl⟩
set_option maxRecDepth 100000 in
set_option maxHeartbeats 400000 in
theorem b_X4_27 {x : jX} {d : Nat} {m : jm} {ov : Nat → Nat} (hz : zr m 27) (ho27 : ov 27 = 0) : jCt x (d + 1) 12 414 eX4_init [.ref (jxb x + 27)] (jL0.take 28) (jEs x m ov) (fun r L M => r = none ∧ L = jL0.take 40 ∧ M = jEs x (m4 m 27) (ovs ov 27 13)) := by
  refine J_start (by decide +kernel) (Nat.le_of_ble_eq_true rfl) (ls := [some (.ref (jxb x + 27)), none]) rfl rfl ?_
  refine J_aload_n (pc := 0) dX4_init_0 rfl ?_
  refine C_obj (pc := 1) dX4_init_1 ko_X4_3 (Nat.le_of_ble_eq_true rfl) ?_
  refine J_aload_n (pc := 4) dX4_init_4 rfl ?_
  refine J_iconst (pc := 5) dX4_init_5 kni_0 ?_
  refine C_put0 (pc := 6) (id := 27) (kf := 0) dX4_init_6 kp_X4_9 (by rfl) rfl rfl rfl (hz 27 0 (by decide)) ?_
  refine J_aload_n (pc := 9) dX4_init_9 rfl ?_
  refine J_bipush (pc := 10) dX4_init_10 knb_48 ?_
  refine C_newa (pc := 12) (t := 0) (N := 48) (k' := 11) (n' := 366) dX4_init_12 (by decide) rfl ka_int (by decide) rfl (by decide) rfl (zr_le hz (by decide)) rfl rfl ?_
  refine C_putR (pc := 14) (id := 27) (kf := 1) (t := 28) dX4_init_14 kp_X4_15 (by rfl) rfl rfl (fun _ => rfl) (fun _ => rfl) rfl (fun j g1 g2 => (show ∀ j, j < 1 → jlay 27 j = 0 by decide +kernel) j g1) (Nat.le_trans (Nat.le_of_eq ho27) (Nat.zero_le _)) ?_
  refine J_aload_n (pc := 17) dX4_init_17 rfl ?_
  refine J_bipush (pc := 18) dX4_init_18 knb_48 ?_
  refine C_newa (pc := 20) (t := 0) (N := 48) (k' := 10) (n' := 318) dX4_init_20 (by decide) rfl ka_int (by decide) rfl (by decide) rfl (zr_le hz (by decide)) rfl rfl ?_
  refine C_putR (pc := 22) (id := 27) (kf := 2) (t := 29) dX4_init_22 kp_X4_19 (by rfl) rfl rfl (fun _ => rfl) (fun _ => rfl) rfl (show ∀ j, j < 2 → 2 ≤ j → jlay 27 j = 0 by decide +kernel) (Nat.le_of_ble_eq_true rfl) ?_
  rw [ovs_o]
  refine J_aload_n (pc := 25) dX4_init_25 rfl ?_
  refine J_bipush (pc := 26) dX4_init_26 knb_48 ?_
  refine C_newa (pc := 28) (t := 0) (N := 48) (k' := 9) (n' := 270) dX4_init_28 (by decide) rfl ka_int (by decide) rfl (by decide) rfl (zr_le hz (by decide)) rfl rfl ?_
  refine C_putR (pc := 30) (id := 27) (kf := 3) (t := 30) dX4_init_30 kp_X4_22 (by rfl) rfl rfl (fun _ => rfl) (fun _ => rfl) rfl (show ∀ j, j < 3 → 3 ≤ j → jlay 27 j = 0 by decide +kernel) (Nat.le_of_ble_eq_true rfl) ?_
  rw [ovs_o]
  refine J_aload_n (pc := 33) dX4_init_33 rfl ?_
  refine J_bipush (pc := 34) dX4_init_34 knb_48 ?_
  refine C_newa (pc := 36) (t := 0) (N := 48) (k' := 8) (n' := 222) dX4_init_36 (by decide) rfl ka_int (by decide) rfl (by decide) rfl (zr_le hz (by decide)) rfl rfl ?_
  refine C_putR (pc := 38) (id := 27) (kf := 4) (t := 31) dX4_init_38 kp_X4_25 (by rfl) rfl rfl (fun _ => rfl) (fun _ => rfl) rfl (show ∀ j, j < 4 → 4 ≤ j → jlay 27 j = 0 by decide +kernel) (Nat.le_of_ble_eq_true rfl) ?_
  rw [ovs_o]
  refine J_aload_n (pc := 41) dX4_init_41 rfl ?_
  refine J_bipush (pc := 42) dX4_init_42 knb_48 ?_
  refine C_newa (pc := 44) (t := 0) (N := 48) (k' := 7) (n' := 174) dX4_init_44 (by decide) rfl ka_int (by decide) rfl (by decide) rfl (zr_le hz (by decide)) rfl rfl ?_
  refine C_putR (pc := 46) (id := 27) (kf := 5) (t := 32) dX4_init_46 kp_X4_28 (by rfl) rfl rfl (fun _ => rfl) (fun _ => rfl) rfl (show ∀ j, j < 5 → 5 ≤ j → jlay 27 j = 0 by decide +kernel) (Nat.le_of_ble_eq_true rfl) ?_
  rw [ovs_o]
  refine J_aload_n (pc := 49) dX4_init_49 rfl ?_
  refine J_bipush (pc := 50) dX4_init_50 knb_48 ?_
  refine C_newa (pc := 52) (t := 0) (N := 48) (k' := 6) (n' := 126) dX4_init_52 (by decide) rfl ka_int (by decide) rfl (by decide) rfl (zr_le hz (by decide)) rfl rfl ?_
  refine C_putR (pc := 54) (id := 27) (kf := 6) (t := 33) dX4_init_54 kp_X4_31 (by rfl) rfl rfl (fun _ => rfl) (fun _ => rfl) rfl (show ∀ j, j < 6 → 6 ≤ j → jlay 27 j = 0 by decide +kernel) (Nat.le_of_ble_eq_true rfl) ?_
  rw [ovs_o]
  refine J_aload_n (pc := 57) dX4_init_57 rfl ?_
  refine J_bipush (pc := 58) dX4_init_58 knb_48 ?_
  refine C_newa (pc := 60) (t := 0) (N := 48) (k' := 5) (n' := 78) dX4_init_60 (by decide) rfl ka_int (by decide) rfl (by decide) rfl (zr_le hz (by decide)) rfl rfl ?_
  refine C_putR (pc := 62) (id := 27) (kf := 7) (t := 34) dX4_init_62 kp_X4_34 (by rfl) rfl rfl (fun _ => rfl) (fun _ => rfl) rfl (show ∀ j, j < 7 → 7 ≤ j → jlay 27 j = 0 by decide +kernel) (Nat.le_of_ble_eq_true rfl) ?_
  rw [ovs_o]
  refine J_aload_n (pc := 65) dX4_init_65 rfl ?_
  refine J_bipush (pc := 66) dX4_init_66 knb_48 ?_
  refine C_newa (pc := 68) (t := 0) (N := 48) (k' := 4) (n' := 30) dX4_init_68 (by decide) rfl ka_int (by decide) rfl (by decide) rfl (zr_le hz (by decide)) rfl rfl ?_
  refine C_putR (pc := 70) (id := 27) (kf := 8) (t := 35) dX4_init_70 kp_X4_37 (by rfl) rfl rfl (fun _ => rfl) (fun _ => rfl) rfl (show ∀ j, j < 8 → 8 ≤ j → jlay 27 j = 0 by decide +kernel) (Nat.le_of_ble_eq_true rfl) ?_
  rw [ovs_o]
  refine J_aload_n (pc := 73) dX4_init_73 rfl ?_
  refine J_bipush (pc := 74) dX4_init_74 knb_10 ?_
  refine C_newa (pc := 76) (t := 0) (N := 10) (k' := 3) (n' := 20) dX4_init_76 (by decide) rfl ka_int (by decide) rfl (by decide) rfl (zr_le hz (by decide)) rfl rfl ?_
  refine C_putR (pc := 78) (id := 27) (kf := 9) (t := 36) dX4_init_78 kp_X4_40 (by rfl) rfl rfl (fun _ => rfl) (fun _ => rfl) rfl (show ∀ j, j < 9 → 9 ≤ j → jlay 27 j = 0 by decide +kernel) (Nat.le_of_ble_eq_true rfl) ?_
  rw [ovs_o]
  refine J_aload_n (pc := 81) dX4_init_81 rfl ?_
  refine J_bipush (pc := 82) dX4_init_82 knb_10 ?_
  refine C_newa (pc := 84) (t := 0) (N := 10) (k' := 2) (n' := 10) dX4_init_84 (by decide) rfl ka_int (by decide) rfl (by decide) rfl (zr_le hz (by decide)) rfl rfl ?_
  refine C_putR (pc := 86) (id := 27) (kf := 10) (t := 37) dX4_init_86 kp_X4_43 (by rfl) rfl rfl (fun _ => rfl) (fun _ => rfl) rfl (show ∀ j, j < 10 → 10 ≤ j → jlay 27 j = 0 by decide +kernel) (Nat.le_of_ble_eq_true rfl) ?_
  rw [ovs_o]
  refine J_aload_n (pc := 89) dX4_init_89 rfl ?_
  refine J_bipush (pc := 90) dX4_init_90 knb_6 ?_
  refine C_newa (pc := 92) (t := 0) (N := 6) (k' := 1) (n' := 4) dX4_init_92 (by decide) rfl ka_int (by decide) rfl (by decide) rfl (zr_le hz (by decide)) rfl rfl ?_
  refine C_putR (pc := 94) (id := 27) (kf := 11) (t := 38) dX4_init_94 kp_X4_46 (by rfl) rfl rfl (fun _ => rfl) (fun _ => rfl) rfl (show ∀ j, j < 11 → 11 ≤ j → jlay 27 j = 0 by decide +kernel) (Nat.le_of_ble_eq_true rfl) ?_
  rw [ovs_o]
  refine J_aload_n (pc := 97) dX4_init_97 rfl ?_
  refine J_iconst (pc := 98) dX4_init_98 kni_4 ?_
  refine C_newa (pc := 99) (t := 0) (N := 4) (k' := 0) (n' := 0) dX4_init_99 (by decide) rfl ka_int (by decide) rfl (by decide) rfl (zr_le hz (by decide)) rfl rfl ?_
  refine C_putR (pc := 101) (id := 27) (kf := 12) (t := 39) dX4_init_101 kp_X4_49 (by rfl) rfl rfl (fun _ => rfl) (fun _ => rfl) rfl (show ∀ j, j < 12 → 12 ≤ j → jlay 27 j = 0 by decide +kernel) (Nat.le_of_ble_eq_true rfl) ?_
  rw [ovs_o]
  refine J_aload_n (pc := 104) dX4_init_104 rfl ?_
  refine J_iconst (pc := 105) dX4_init_105 kni_0 ?_
  refine C_put0 (pc := 106) (id := 27) (kf := 13) dX4_init_106 kp_X4_52 (by rfl) rfl rfl rfl (hz 27 13 (by decide)) ?_
  refine J_aload_n (pc := 109) dX4_init_109 rfl ?_
  refine J_iconst (pc := 110) dX4_init_110 kni_0 ?_
  refine C_put0 (pc := 111) (id := 27) (kf := 14) dX4_init_111 kp_X4_55 (by rfl) rfl rfl rfl (hz 27 14 (by decide)) ?_
  refine J_aload_n (pc := 114) dX4_init_114 rfl ?_
  refine J_iconst (pc := 115) dX4_init_115 kni_0 ?_
  refine C_put0 (pc := 116) (id := 27) (kf := 15) dX4_init_116 kp_X4_58 (by rfl) rfl rfl rfl (hz 27 15 (by decide)) ?_
  refine J_aload_n (pc := 119) dX4_init_119 rfl ?_
  refine J_iconst (pc := 120) dX4_init_120 kni_0 ?_
  refine C_put0 (pc := 121) (id := 27) (kf := 16) dX4_init_121 kp_X4_61 (by rfl) rfl rfl rfl (hz 27 16 (by decide)) ?_
  refine J_iconst (pc := 124) dX4_init_124 kni_0 ?_
  refine J_istore_n (pc := 125) (ls' := [some _, some _]) dX4_init_125 rfl (Nat.le_of_ble_eq_true rfl) rfl ?_
  refine C_for' (pc := 126) 48 (fun i => [some (.ref (jxb x + 27)), some (.int (nI i))]) (fun i => (mfill (mfill m 34 i (fun _ => (-1000000005))) 35 i (fun _ => nI 50))) rfl (by rw [mfill_0, mfill_0]) (fun i hi ih126 => ?_) ?_
  ·
    show KC x _ _ _ _ 126 [some (.ref (jxb x + 27)), some (.int (nI i))] _ _ (mfill (mfill m 34 i (fun _ => (-1000000005))) 35 i (fun _ => nI 50)) _ _
    refine J_iload_n (pc := 126) dX4_init_126 rfl ?_
    refine J_bipush (pc := 127) dX4_init_127 knb_48 ?_
    refine Jn_ge (pc := 129) (tgt := 154) dX4_init_129 (by decide) (by omega) (by omega) (fun h129 => absurd h129 (by omega)) (fun h129 => ?_)
    refine J_aload_n (pc := 132) dX4_init_132 rfl ?_
    refine C_getR (pc := 133) (id := 27) (kf := 7) (t := 34) dX4_init_133 kf_X4_34 (by rfl) rfl (Nat.le_of_ble_eq_true rfl) ?_
    refine J_iload_n (pc := 136) dX4_init_136 rfl ?_
    refine J_ldc (pc := 137) dX4_init_137 kc_X4_64 ?_
    refine C_iast (pc := 139) (id := 34) (N := 48) (j := i) dX4_init_139 (by rfl) rfl (by omega) (by decide) ?_
    refine J_aload_n (pc := 140) dX4_init_140 rfl ?_
    refine C_getR (pc := 141) (id := 27) (kf := 8) (t := 35) dX4_init_141 kf_X4_37 (by rfl) rfl (Nat.le_of_ble_eq_true rfl) ?_
    refine J_iload_n (pc := 144) dX4_init_144 rfl ?_
    refine J_bipush (pc := 145) dX4_init_145 knb_50 ?_
    refine C_iast (pc := 147) (id := 35) (N := 48) (j := i) dX4_init_147 (by rfl) rfl (by omega) (by decide) ?_
    refine Jn_iinc (pc := 148) (ls' := [some _, some _]) dX4_init_148 rfl knz_1 rfl rfl ?_
    refine J_goto (pc := 151) (tgt := 126) dX4_init_151 (by decide) ?_
    rw [m2_s (f := fun _ => (-1000000005)) (g := fun _ => nI 50) (by decide)]
    exact ih126
  ·
    show KC x _ _ _ _ 126 [some (.ref (jxb x + 27)), some (.int (nI 48))] _ _ (mfill (mfill m 34 48 (fun _ => (-1000000005))) 35 48 (fun _ => nI 50)) _ _
    refine J_iload_n (pc := 126) dX4_init_126 rfl ?_
    refine J_bipush (pc := 127) dX4_init_127 knb_48 ?_
    refine Jn_ge (pc := 129) (tgt := 154) dX4_init_129 (by decide) (by omega) (by omega) (fun h129 => ?_) (fun h129 => absurd h129 (by omega))
    refine J_iconst (pc := 154) dX4_init_154 kni_0 ?_
    refine J_istore_n (pc := 155) (ls' := [some _, some _]) dX4_init_155 rfl (Nat.le_of_ble_eq_true rfl) rfl ?_
    refine C_for' (pc := 156) 10 (fun i => [some (.ref (jxb x + 27)), some (.int (nI i))]) (fun i => (mfill (mfill (mfill m 34 48 (fun _ => (-1000000005))) 35 48 (fun _ => nI 50)) 37 i (fun _ => nI 5))) rfl (by rw [mfill_0]) (fun i hi ih156 => ?_) ?_
    ·
      show KC x _ _ _ _ 156 [some (.ref (jxb x + 27)), some (.int (nI i))] _ _ (mfill (mfill (mfill m 34 48 (fun _ => (-1000000005))) 35 48 (fun _ => nI 50)) 37 i (fun _ => nI 5)) _ _
      refine J_iload_n (pc := 156) dX4_init_156 rfl ?_
      refine J_bipush (pc := 157) dX4_init_157 knb_10 ?_
      refine Jn_ge (pc := 159) (tgt := 175) dX4_init_159 (by decide) (by omega) (by omega) (fun h159 => absurd h159 (by omega)) (fun h159 => ?_)
      refine J_aload_n (pc := 162) dX4_init_162 rfl ?_
      refine C_getR (pc := 163) (id := 27) (kf := 10) (t := 37) dX4_init_163 kf_X4_43 (by rfl) rfl (Nat.le_of_ble_eq_true rfl) ?_
      refine J_iload_n (pc := 166) dX4_init_166 rfl ?_
      refine J_iconst (pc := 167) dX4_init_167 kni_5 ?_
      refine C_iast (pc := 168) (id := 37) (N := 10) (j := i) dX4_init_168 (by rfl) rfl (by omega) (by decide) ?_
      refine Jn_iinc (pc := 169) (ls' := [some _, some _]) dX4_init_169 rfl knz_1 rfl rfl ?_
      refine J_goto (pc := 172) (tgt := 156) dX4_init_172 (by decide) ?_
      rw [mfill_s _ _ _ _ rfl]
      exact ih156
    ·
      show KC x _ _ _ _ 156 [some (.ref (jxb x + 27)), some (.int (nI 10))] _ _ (mfill (mfill (mfill m 34 48 (fun _ => (-1000000005))) 35 48 (fun _ => nI 50)) 37 10 (fun _ => nI 5)) _ _
      refine J_iload_n (pc := 156) dX4_init_156 rfl ?_
      refine J_bipush (pc := 157) dX4_init_157 knb_10 ?_
      refine Jn_ge (pc := 159) (tgt := 175) dX4_init_159 (by decide) (by omega) (by omega) (fun h159 => ?_) (fun h159 => absurd h159 (by omega))
      refine J_iconst (pc := 175) dX4_init_175 kni_0 ?_
      refine J_istore_n (pc := 176) (ls' := [some _, some _]) dX4_init_176 rfl (Nat.le_of_ble_eq_true rfl) rfl ?_
      refine C_for' (pc := 177) 4 (fun i => [some (.ref (jxb x + 27)), some (.int (nI i))]) (fun i => (mfill (mfill (mfill (mfill m 34 48 (fun _ => (-1000000005))) 35 48 (fun _ => nI 50)) 37 10 (fun _ => nI 5)) 39 i (fun i => (jtb 1).getD i 0))) rfl (by rw [mfill_0]) (fun i hi ih177 => ?_) ?_
      ·
        show KC x _ _ _ _ 177 [some (.ref (jxb x + 27)), some (.int (nI i))] _ _ (mfill (mfill (mfill (mfill m 34 48 (fun _ => (-1000000005))) 35 48 (fun _ => nI 50)) 37 10 (fun _ => nI 5)) 39 i (fun i => (jtb 1).getD i 0)) _ _
        refine J_iload_n (pc := 177) dX4_init_177 rfl ?_
        refine J_iconst (pc := 178) dX4_init_178 kni_4 ?_
        refine Jn_ge (pc := 179) (tgt := 199) dX4_init_179 (by decide) (by omega) (by omega) (fun h179 => absurd h179 (by omega)) (fun h179 => ?_)
        refine J_aload_n (pc := 182) dX4_init_182 rfl ?_
        refine C_getR (pc := 183) (id := 27) (kf := 12) (t := 39) dX4_init_183 kf_X4_49 (by rfl) rfl (Nat.le_of_ble_eq_true rfl) ?_
        refine J_iload_n (pc := 186) dX4_init_186 rfl ?_
        refine J_gets (pc := 187) (j := 1) dX4_init_187 (by decide) ks_X4_65 ?_
        refine J_iload_n (pc := 190) dX4_init_190 rfl ?_
        refine C_tldn (pc := 191) (j0 := 1) (j := i) dX4_init_191 (by decide) (show i < 4 by omega) ?_
        refine C_iast (pc := 192) (id := 39) (N := 4) (j := i) dX4_init_192 (by rfl) rfl (by omega) (by decide) ?_
        refine Jn_iinc (pc := 193) (ls' := [some _, some _]) dX4_init_193 rfl knz_1 rfl rfl ?_
        refine J_goto (pc := 196) (tgt := 177) dX4_init_196 (by decide) ?_
        rw [mfill_s _ _ _ _ rfl]
        exact ih177
      ·
        show KC x _ _ _ _ 177 [some (.ref (jxb x + 27)), some (.int (nI 4))] _ _ (mfill (mfill (mfill (mfill m 34 48 (fun _ => (-1000000005))) 35 48 (fun _ => nI 50)) 37 10 (fun _ => nI 5)) 39 4 (fun i => (jtb 1).getD i 0)) _ _
        refine J_iload_n (pc := 177) dX4_init_177 rfl ?_
        refine J_iconst (pc := 178) dX4_init_178 kni_4 ?_
        refine Jn_ge (pc := 179) (tgt := 199) dX4_init_179 (by decide) (by omega) (by omega) (fun h179 => ?_) (fun h179 => absurd h179 (by omega))
        exact J_vret (pc := 199) dX4_init_199 rfl ⟨rfl, rfl, rfl⟩
set_option maxRecDepth 100000 in
set_option maxHeartbeats 400000 in
theorem b_X4_103 {x : jX} {d : Nat} {m : jm} {ov : Nat → Nat} (hz : zr m 103) (ho103 : ov 103 = 0) : jCt x (d + 1) 12 414 eX4_init [.ref (jxb x + 103)] (jL0.take 104) (jEs x m ov) (fun r L M => r = none ∧ L = jL0.take 116 ∧ M = jEs x (m4 m 103) (ovs ov 103 13)) := by
  refine J_start (by decide +kernel) (Nat.le_of_ble_eq_true rfl) (ls := [some (.ref (jxb x + 103)), none]) rfl rfl ?_
  refine J_aload_n (pc := 0) dX4_init_0 rfl ?_
  refine C_obj (pc := 1) dX4_init_1 ko_X4_3 (Nat.le_of_ble_eq_true rfl) ?_
  refine J_aload_n (pc := 4) dX4_init_4 rfl ?_
  refine J_iconst (pc := 5) dX4_init_5 kni_0 ?_
  refine C_put0 (pc := 6) (id := 103) (kf := 0) dX4_init_6 kp_X4_9 (by rfl) rfl rfl rfl (hz 103 0 (by decide)) ?_
  refine J_aload_n (pc := 9) dX4_init_9 rfl ?_
  refine J_bipush (pc := 10) dX4_init_10 knb_48 ?_
  refine C_newa (pc := 12) (t := 0) (N := 48) (k' := 11) (n' := 366) dX4_init_12 (by decide) rfl ka_int (by decide) rfl (by decide) rfl (zr_le hz (by decide)) rfl rfl ?_
  refine C_putR (pc := 14) (id := 103) (kf := 1) (t := 104) dX4_init_14 kp_X4_15 (by rfl) rfl rfl (fun _ => rfl) (fun _ => rfl) rfl (fun j g1 g2 => (show ∀ j, j < 1 → jlay 103 j = 0 by decide +kernel) j g1) (Nat.le_trans (Nat.le_of_eq ho103) (Nat.zero_le _)) ?_
  refine J_aload_n (pc := 17) dX4_init_17 rfl ?_
  refine J_bipush (pc := 18) dX4_init_18 knb_48 ?_
  refine C_newa (pc := 20) (t := 0) (N := 48) (k' := 10) (n' := 318) dX4_init_20 (by decide) rfl ka_int (by decide) rfl (by decide) rfl (zr_le hz (by decide)) rfl rfl ?_
  refine C_putR (pc := 22) (id := 103) (kf := 2) (t := 105) dX4_init_22 kp_X4_19 (by rfl) rfl rfl (fun _ => rfl) (fun _ => rfl) rfl (show ∀ j, j < 2 → 2 ≤ j → jlay 103 j = 0 by decide +kernel) (Nat.le_of_ble_eq_true rfl) ?_
  rw [ovs_o]
  refine J_aload_n (pc := 25) dX4_init_25 rfl ?_
  refine J_bipush (pc := 26) dX4_init_26 knb_48 ?_
  refine C_newa (pc := 28) (t := 0) (N := 48) (k' := 9) (n' := 270) dX4_init_28 (by decide) rfl ka_int (by decide) rfl (by decide) rfl (zr_le hz (by decide)) rfl rfl ?_
  refine C_putR (pc := 30) (id := 103) (kf := 3) (t := 106) dX4_init_30 kp_X4_22 (by rfl) rfl rfl (fun _ => rfl) (fun _ => rfl) rfl (show ∀ j, j < 3 → 3 ≤ j → jlay 103 j = 0 by decide +kernel) (Nat.le_of_ble_eq_true rfl) ?_
  rw [ovs_o]
  refine J_aload_n (pc := 33) dX4_init_33 rfl ?_
  refine J_bipush (pc := 34) dX4_init_34 knb_48 ?_
  refine C_newa (pc := 36) (t := 0) (N := 48) (k' := 8) (n' := 222) dX4_init_36 (by decide) rfl ka_int (by decide) rfl (by decide) rfl (zr_le hz (by decide)) rfl rfl ?_
  refine C_putR (pc := 38) (id := 103) (kf := 4) (t := 107) dX4_init_38 kp_X4_25 (by rfl) rfl rfl (fun _ => rfl) (fun _ => rfl) rfl (show ∀ j, j < 4 → 4 ≤ j → jlay 103 j = 0 by decide +kernel) (Nat.le_of_ble_eq_true rfl) ?_
  rw [ovs_o]
  refine J_aload_n (pc := 41) dX4_init_41 rfl ?_
  refine J_bipush (pc := 42) dX4_init_42 knb_48 ?_
  refine C_newa (pc := 44) (t := 0) (N := 48) (k' := 7) (n' := 174) dX4_init_44 (by decide) rfl ka_int (by decide) rfl (by decide) rfl (zr_le hz (by decide)) rfl rfl ?_
  refine C_putR (pc := 46) (id := 103) (kf := 5) (t := 108) dX4_init_46 kp_X4_28 (by rfl) rfl rfl (fun _ => rfl) (fun _ => rfl) rfl (show ∀ j, j < 5 → 5 ≤ j → jlay 103 j = 0 by decide +kernel) (Nat.le_of_ble_eq_true rfl) ?_
  rw [ovs_o]
  refine J_aload_n (pc := 49) dX4_init_49 rfl ?_
  refine J_bipush (pc := 50) dX4_init_50 knb_48 ?_
  refine C_newa (pc := 52) (t := 0) (N := 48) (k' := 6) (n' := 126) dX4_init_52 (by decide) rfl ka_int (by decide) rfl (by decide) rfl (zr_le hz (by decide)) rfl rfl ?_
  refine C_putR (pc := 54) (id := 103) (kf := 6) (t := 109) dX4_init_54 kp_X4_31 (by rfl) rfl rfl (fun _ => rfl) (fun _ => rfl) rfl (show ∀ j, j < 6 → 6 ≤ j → jlay 103 j = 0 by decide +kernel) (Nat.le_of_ble_eq_true rfl) ?_
  rw [ovs_o]
  refine J_aload_n (pc := 57) dX4_init_57 rfl ?_
  refine J_bipush (pc := 58) dX4_init_58 knb_48 ?_
  refine C_newa (pc := 60) (t := 0) (N := 48) (k' := 5) (n' := 78) dX4_init_60 (by decide) rfl ka_int (by decide) rfl (by decide) rfl (zr_le hz (by decide)) rfl rfl ?_
  refine C_putR (pc := 62) (id := 103) (kf := 7) (t := 110) dX4_init_62 kp_X4_34 (by rfl) rfl rfl (fun _ => rfl) (fun _ => rfl) rfl (show ∀ j, j < 7 → 7 ≤ j → jlay 103 j = 0 by decide +kernel) (Nat.le_of_ble_eq_true rfl) ?_
  rw [ovs_o]
  refine J_aload_n (pc := 65) dX4_init_65 rfl ?_
  refine J_bipush (pc := 66) dX4_init_66 knb_48 ?_
  refine C_newa (pc := 68) (t := 0) (N := 48) (k' := 4) (n' := 30) dX4_init_68 (by decide) rfl ka_int (by decide) rfl (by decide) rfl (zr_le hz (by decide)) rfl rfl ?_
  refine C_putR (pc := 70) (id := 103) (kf := 8) (t := 111) dX4_init_70 kp_X4_37 (by rfl) rfl rfl (fun _ => rfl) (fun _ => rfl) rfl (show ∀ j, j < 8 → 8 ≤ j → jlay 103 j = 0 by decide +kernel) (Nat.le_of_ble_eq_true rfl) ?_
  rw [ovs_o]
  refine J_aload_n (pc := 73) dX4_init_73 rfl ?_
  refine J_bipush (pc := 74) dX4_init_74 knb_10 ?_
  refine C_newa (pc := 76) (t := 0) (N := 10) (k' := 3) (n' := 20) dX4_init_76 (by decide) rfl ka_int (by decide) rfl (by decide) rfl (zr_le hz (by decide)) rfl rfl ?_
  refine C_putR (pc := 78) (id := 103) (kf := 9) (t := 112) dX4_init_78 kp_X4_40 (by rfl) rfl rfl (fun _ => rfl) (fun _ => rfl) rfl (show ∀ j, j < 9 → 9 ≤ j → jlay 103 j = 0 by decide +kernel) (Nat.le_of_ble_eq_true rfl) ?_
  rw [ovs_o]
  refine J_aload_n (pc := 81) dX4_init_81 rfl ?_
  refine J_bipush (pc := 82) dX4_init_82 knb_10 ?_
  refine C_newa (pc := 84) (t := 0) (N := 10) (k' := 2) (n' := 10) dX4_init_84 (by decide) rfl ka_int (by decide) rfl (by decide) rfl (zr_le hz (by decide)) rfl rfl ?_
  refine C_putR (pc := 86) (id := 103) (kf := 10) (t := 113) dX4_init_86 kp_X4_43 (by rfl) rfl rfl (fun _ => rfl) (fun _ => rfl) rfl (show ∀ j, j < 10 → 10 ≤ j → jlay 103 j = 0 by decide +kernel) (Nat.le_of_ble_eq_true rfl) ?_
  rw [ovs_o]
  refine J_aload_n (pc := 89) dX4_init_89 rfl ?_
  refine J_bipush (pc := 90) dX4_init_90 knb_6 ?_
  refine C_newa (pc := 92) (t := 0) (N := 6) (k' := 1) (n' := 4) dX4_init_92 (by decide) rfl ka_int (by decide) rfl (by decide) rfl (zr_le hz (by decide)) rfl rfl ?_
  refine C_putR (pc := 94) (id := 103) (kf := 11) (t := 114) dX4_init_94 kp_X4_46 (by rfl) rfl rfl (fun _ => rfl) (fun _ => rfl) rfl (show ∀ j, j < 11 → 11 ≤ j → jlay 103 j = 0 by decide +kernel) (Nat.le_of_ble_eq_true rfl) ?_
  rw [ovs_o]
  refine J_aload_n (pc := 97) dX4_init_97 rfl ?_
  refine J_iconst (pc := 98) dX4_init_98 kni_4 ?_
  refine C_newa (pc := 99) (t := 0) (N := 4) (k' := 0) (n' := 0) dX4_init_99 (by decide) rfl ka_int (by decide) rfl (by decide) rfl (zr_le hz (by decide)) rfl rfl ?_
  refine C_putR (pc := 101) (id := 103) (kf := 12) (t := 115) dX4_init_101 kp_X4_49 (by rfl) rfl rfl (fun _ => rfl) (fun _ => rfl) rfl (show ∀ j, j < 12 → 12 ≤ j → jlay 103 j = 0 by decide +kernel) (Nat.le_of_ble_eq_true rfl) ?_
  rw [ovs_o]
  refine J_aload_n (pc := 104) dX4_init_104 rfl ?_
  refine J_iconst (pc := 105) dX4_init_105 kni_0 ?_
  refine C_put0 (pc := 106) (id := 103) (kf := 13) dX4_init_106 kp_X4_52 (by rfl) rfl rfl rfl (hz 103 13 (by decide)) ?_
  refine J_aload_n (pc := 109) dX4_init_109 rfl ?_
  refine J_iconst (pc := 110) dX4_init_110 kni_0 ?_
  refine C_put0 (pc := 111) (id := 103) (kf := 14) dX4_init_111 kp_X4_55 (by rfl) rfl rfl rfl (hz 103 14 (by decide)) ?_
  refine J_aload_n (pc := 114) dX4_init_114 rfl ?_
  refine J_iconst (pc := 115) dX4_init_115 kni_0 ?_
  refine C_put0 (pc := 116) (id := 103) (kf := 15) dX4_init_116 kp_X4_58 (by rfl) rfl rfl rfl (hz 103 15 (by decide)) ?_
  refine J_aload_n (pc := 119) dX4_init_119 rfl ?_
  refine J_iconst (pc := 120) dX4_init_120 kni_0 ?_
  refine C_put0 (pc := 121) (id := 103) (kf := 16) dX4_init_121 kp_X4_61 (by rfl) rfl rfl rfl (hz 103 16 (by decide)) ?_
  refine J_iconst (pc := 124) dX4_init_124 kni_0 ?_
  refine J_istore_n (pc := 125) (ls' := [some _, some _]) dX4_init_125 rfl (Nat.le_of_ble_eq_true rfl) rfl ?_
  refine C_for' (pc := 126) 48 (fun i => [some (.ref (jxb x + 103)), some (.int (nI i))]) (fun i => (mfill (mfill m 110 i (fun _ => (-1000000005))) 111 i (fun _ => nI 50))) rfl (by rw [mfill_0, mfill_0]) (fun i hi ih126 => ?_) ?_
  ·
    show KC x _ _ _ _ 126 [some (.ref (jxb x + 103)), some (.int (nI i))] _ _ (mfill (mfill m 110 i (fun _ => (-1000000005))) 111 i (fun _ => nI 50)) _ _
    refine J_iload_n (pc := 126) dX4_init_126 rfl ?_
    refine J_bipush (pc := 127) dX4_init_127 knb_48 ?_
    refine Jn_ge (pc := 129) (tgt := 154) dX4_init_129 (by decide) (by omega) (by omega) (fun h129 => absurd h129 (by omega)) (fun h129 => ?_)
    refine J_aload_n (pc := 132) dX4_init_132 rfl ?_
    refine C_getR (pc := 133) (id := 103) (kf := 7) (t := 110) dX4_init_133 kf_X4_34 (by rfl) rfl (Nat.le_of_ble_eq_true rfl) ?_
    refine J_iload_n (pc := 136) dX4_init_136 rfl ?_
    refine J_ldc (pc := 137) dX4_init_137 kc_X4_64 ?_
    refine C_iast (pc := 139) (id := 110) (N := 48) (j := i) dX4_init_139 (by rfl) rfl (by omega) (by decide) ?_
    refine J_aload_n (pc := 140) dX4_init_140 rfl ?_
    refine C_getR (pc := 141) (id := 103) (kf := 8) (t := 111) dX4_init_141 kf_X4_37 (by rfl) rfl (Nat.le_of_ble_eq_true rfl) ?_
    refine J_iload_n (pc := 144) dX4_init_144 rfl ?_
    refine J_bipush (pc := 145) dX4_init_145 knb_50 ?_
    refine C_iast (pc := 147) (id := 111) (N := 48) (j := i) dX4_init_147 (by rfl) rfl (by omega) (by decide) ?_
    refine Jn_iinc (pc := 148) (ls' := [some _, some _]) dX4_init_148 rfl knz_1 rfl rfl ?_
    refine J_goto (pc := 151) (tgt := 126) dX4_init_151 (by decide) ?_
    rw [m2_s (f := fun _ => (-1000000005)) (g := fun _ => nI 50) (by decide)]
    exact ih126
  ·
    show KC x _ _ _ _ 126 [some (.ref (jxb x + 103)), some (.int (nI 48))] _ _ (mfill (mfill m 110 48 (fun _ => (-1000000005))) 111 48 (fun _ => nI 50)) _ _
    refine J_iload_n (pc := 126) dX4_init_126 rfl ?_
    refine J_bipush (pc := 127) dX4_init_127 knb_48 ?_
    refine Jn_ge (pc := 129) (tgt := 154) dX4_init_129 (by decide) (by omega) (by omega) (fun h129 => ?_) (fun h129 => absurd h129 (by omega))
    refine J_iconst (pc := 154) dX4_init_154 kni_0 ?_
    refine J_istore_n (pc := 155) (ls' := [some _, some _]) dX4_init_155 rfl (Nat.le_of_ble_eq_true rfl) rfl ?_
    refine C_for' (pc := 156) 10 (fun i => [some (.ref (jxb x + 103)), some (.int (nI i))]) (fun i => (mfill (mfill (mfill m 110 48 (fun _ => (-1000000005))) 111 48 (fun _ => nI 50)) 113 i (fun _ => nI 5))) rfl (by rw [mfill_0]) (fun i hi ih156 => ?_) ?_
    ·
      show KC x _ _ _ _ 156 [some (.ref (jxb x + 103)), some (.int (nI i))] _ _ (mfill (mfill (mfill m 110 48 (fun _ => (-1000000005))) 111 48 (fun _ => nI 50)) 113 i (fun _ => nI 5)) _ _
      refine J_iload_n (pc := 156) dX4_init_156 rfl ?_
      refine J_bipush (pc := 157) dX4_init_157 knb_10 ?_
      refine Jn_ge (pc := 159) (tgt := 175) dX4_init_159 (by decide) (by omega) (by omega) (fun h159 => absurd h159 (by omega)) (fun h159 => ?_)
      refine J_aload_n (pc := 162) dX4_init_162 rfl ?_
      refine C_getR (pc := 163) (id := 103) (kf := 10) (t := 113) dX4_init_163 kf_X4_43 (by rfl) rfl (Nat.le_of_ble_eq_true rfl) ?_
      refine J_iload_n (pc := 166) dX4_init_166 rfl ?_
      refine J_iconst (pc := 167) dX4_init_167 kni_5 ?_
      refine C_iast (pc := 168) (id := 113) (N := 10) (j := i) dX4_init_168 (by rfl) rfl (by omega) (by decide) ?_
      refine Jn_iinc (pc := 169) (ls' := [some _, some _]) dX4_init_169 rfl knz_1 rfl rfl ?_
      refine J_goto (pc := 172) (tgt := 156) dX4_init_172 (by decide) ?_
      rw [mfill_s _ _ _ _ rfl]
      exact ih156
    ·
      show KC x _ _ _ _ 156 [some (.ref (jxb x + 103)), some (.int (nI 10))] _ _ (mfill (mfill (mfill m 110 48 (fun _ => (-1000000005))) 111 48 (fun _ => nI 50)) 113 10 (fun _ => nI 5)) _ _
      refine J_iload_n (pc := 156) dX4_init_156 rfl ?_
      refine J_bipush (pc := 157) dX4_init_157 knb_10 ?_
      refine Jn_ge (pc := 159) (tgt := 175) dX4_init_159 (by decide) (by omega) (by omega) (fun h159 => ?_) (fun h159 => absurd h159 (by omega))
      refine J_iconst (pc := 175) dX4_init_175 kni_0 ?_
      refine J_istore_n (pc := 176) (ls' := [some _, some _]) dX4_init_176 rfl (Nat.le_of_ble_eq_true rfl) rfl ?_
      refine C_for' (pc := 177) 4 (fun i => [some (.ref (jxb x + 103)), some (.int (nI i))]) (fun i => (mfill (mfill (mfill (mfill m 110 48 (fun _ => (-1000000005))) 111 48 (fun _ => nI 50)) 113 10 (fun _ => nI 5)) 115 i (fun i => (jtb 1).getD i 0))) rfl (by rw [mfill_0]) (fun i hi ih177 => ?_) ?_
      ·
        show KC x _ _ _ _ 177 [some (.ref (jxb x + 103)), some (.int (nI i))] _ _ (mfill (mfill (mfill (mfill m 110 48 (fun _ => (-1000000005))) 111 48 (fun _ => nI 50)) 113 10 (fun _ => nI 5)) 115 i (fun i => (jtb 1).getD i 0)) _ _
        refine J_iload_n (pc := 177) dX4_init_177 rfl ?_
        refine J_iconst (pc := 178) dX4_init_178 kni_4 ?_
        refine Jn_ge (pc := 179) (tgt := 199) dX4_init_179 (by decide) (by omega) (by omega) (fun h179 => absurd h179 (by omega)) (fun h179 => ?_)
        refine J_aload_n (pc := 182) dX4_init_182 rfl ?_
        refine C_getR (pc := 183) (id := 103) (kf := 12) (t := 115) dX4_init_183 kf_X4_49 (by rfl) rfl (Nat.le_of_ble_eq_true rfl) ?_
        refine J_iload_n (pc := 186) dX4_init_186 rfl ?_
        refine J_gets (pc := 187) (j := 1) dX4_init_187 (by decide) ks_X4_65 ?_
        refine J_iload_n (pc := 190) dX4_init_190 rfl ?_
        refine C_tldn (pc := 191) (j0 := 1) (j := i) dX4_init_191 (by decide) (show i < 4 by omega) ?_
        refine C_iast (pc := 192) (id := 115) (N := 4) (j := i) dX4_init_192 (by rfl) rfl (by omega) (by decide) ?_
        refine Jn_iinc (pc := 193) (ls' := [some _, some _]) dX4_init_193 rfl knz_1 rfl rfl ?_
        refine J_goto (pc := 196) (tgt := 177) dX4_init_196 (by decide) ?_
        rw [mfill_s _ _ _ _ rfl]
        exact ih177
      ·
        show KC x _ _ _ _ 177 [some (.ref (jxb x + 103)), some (.int (nI 4))] _ _ (mfill (mfill (mfill (mfill m 110 48 (fun _ => (-1000000005))) 111 48 (fun _ => nI 50)) 113 10 (fun _ => nI 5)) 115 4 (fun i => (jtb 1).getD i 0)) _ _
        refine J_iload_n (pc := 177) dX4_init_177 rfl ?_
        refine J_iconst (pc := 178) dX4_init_178 kni_4 ?_
        refine Jn_ge (pc := 179) (tgt := 199) dX4_init_179 (by decide) (by omega) (by omega) (fun h179 => ?_) (fun h179 => absurd h179 (by omega))
        exact J_vret (pc := 199) dX4_init_199 rfl ⟨rfl, rfl, rfl⟩
set_option maxRecDepth 100000 in
set_option maxHeartbeats 400000 in
theorem b_X1_40 {x : jX} {d : Nat} {m : jm} {ov : Nat → Nat} (hz : zr m 40) (ho40 : ov 40 = 0) (hg43 : ov 43 = 1000) : jCt x (d + 1) 29 700 eX1_init [.ref (jxb x + 40)] (jL0.take 41) (jEs x m ov) (fun r L M => r = none ∧ L = jL0.take 70 ∧ M = jEs x (mfill m 41 24 (fun _ => (-1))) (ovs ov 40 5)) := by
  refine J_start (by decide +kernel) (Nat.le_of_ble_eq_true rfl) (ls := [some (.ref (jxb x + 40)), none]) rfl rfl ?_
  refine J_aload_n (pc := 0) dX1_init_0 rfl ?_
  refine C_obj (pc := 1) dX1_init_1 ko_X1_3 (Nat.le_of_ble_eq_true rfl) ?_
  refine J_aload_n (pc := 4) dX1_init_4 rfl ?_
  refine J_bipush (pc := 5) dX1_init_5 knb_24 ?_
  refine C_newa (pc := 7) (t := 0) (N := 24) (k' := 28) (n' := 676) dX1_init_7 (by decide) rfl ka_int (by decide) rfl (by decide) rfl (zr_le hz (by decide)) rfl rfl ?_
  refine C_putR (pc := 9) (id := 40) (kf := 0) (t := 41) dX1_init_9 kp_X1_9 (by rfl) rfl rfl (fun _ => rfl) (fun _ => rfl) rfl (fun j g1 g2 => (show ∀ j, j < 0 → jlay 40 j = 0 by decide +kernel) j g1) (Nat.le_trans (Nat.le_of_eq ho40) (Nat.zero_le _)) ?_
  refine J_aload_n (pc := 12) dX1_init_12 rfl ?_
  refine J_bipush (pc := 13) dX1_init_13 knb_24 ?_
  refine C_newa (pc := 15) (t := 0) (N := 24) (k' := 27) (n' := 652) dX1_init_15 (by decide) rfl ka_int (by decide) rfl (by decide) rfl (zr_le hz (by decide)) rfl rfl ?_
  refine C_putR (pc := 17) (id := 40) (kf := 1) (t := 42) dX1_init_17 kp_X1_15 (by rfl) rfl rfl (fun _ => rfl) (fun _ => rfl) rfl (show ∀ j, j < 1 → 1 ≤ j → jlay 40 j = 0 by decide +kernel) (Nat.le_of_ble_eq_true rfl) ?_
  rw [ovs_o]
  refine J_aload_n (pc := 20) dX1_init_20 rfl ?_
  refine J_bipush (pc := 21) dX1_init_21 knb_24 ?_
  refine J_bipush (pc := 23) dX1_init_23 knb_24 ?_
  refine C_mna (pc := 25) (N := 24) (K := 24) (k' := 2) (n' := 52) dX1_init_25 kn_X1_18 (by decide) (by decide) rfl (by decide) (by decide +kernel) (by decide +kernel) (Nat.le_trans (show 24 ≤ 1000 by decide) (Nat.le_of_eq hg43.symm)) (zr_le hz (by decide)) rfl rfl ?_
  refine C_putR (pc := 29) (id := 40) (kf := 2) (t := 43) dX1_init_29 kp_X1_20 (by rfl) rfl rfl (fun _ => rfl) (fun _ => rfl) rfl (show ∀ j, j < 2 → 2 ≤ j → jlay 40 j = 0 by decide +kernel) (Nat.le_of_ble_eq_true rfl) ?_
  rw [ovs_o]
  refine J_aload_n (pc := 32) dX1_init_32 rfl ?_
  refine J_bipush (pc := 33) dX1_init_33 knb_48 ?_
  refine C_newa (pc := 35) (t := 0) (N := 48) (k' := 1) (n' := 4) dX1_init_35 (by decide) rfl ka_int (by decide) rfl (by decide) rfl (zr_le hz (by decide)) rfl rfl ?_
  refine C_putR (pc := 37) (id := 40) (kf := 3) (t := 68) dX1_init_37 kp_X1_23 (by rfl) rfl rfl (fun _ => rfl) (fun _ => rfl) rfl (show ∀ j, j < 3 → 3 ≤ j → jlay 40 j = 0 by decide +kernel) (Nat.le_of_ble_eq_true rfl) ?_
  rw [ovs_o]
  refine J_aload_n (pc := 40) dX1_init_40 rfl ?_
  refine J_iconst (pc := 41) dX1_init_41 kni_4 ?_
  refine C_newa (pc := 42) (t := 0) (N := 4) (k' := 0) (n' := 0) dX1_init_42 (by decide) rfl ka_int (by decide) rfl (by decide) rfl (zr_le hz (by decide)) rfl rfl ?_
  refine C_putR (pc := 44) (id := 40) (kf := 4) (t := 69) dX1_init_44 kp_X1_26 (by rfl) rfl rfl (fun _ => rfl) (fun _ => rfl) rfl (show ∀ j, j < 4 → 4 ≤ j → jlay 40 j = 0 by decide +kernel) (Nat.le_of_ble_eq_true rfl) ?_
  rw [ovs_o]
  refine J_iconst (pc := 47) dX1_init_47 kni_0 ?_
  refine J_istore_n (pc := 48) (ls' := [some _, some _]) dX1_init_48 rfl (Nat.le_of_ble_eq_true rfl) rfl ?_
  refine C_for' (pc := 49) 24 (fun i => [some (.ref (jxb x + 40)), some (.int (nI i))]) (fun i => (mfill m 41 i (fun _ => (-1)))) rfl (by rw [mfill_0]) (fun i hi ih49 => ?_) ?_
  ·
    show KC x _ _ _ _ 49 [some (.ref (jxb x + 40)), some (.int (nI i))] _ _ (mfill m 41 i (fun _ => (-1))) _ _
    refine J_iload_n (pc := 49) dX1_init_49 rfl ?_
    refine J_bipush (pc := 50) dX1_init_50 knb_24 ?_
    refine Jn_ge (pc := 52) (tgt := 68) dX1_init_52 (by decide) (by omega) (by omega) (fun h52 => absurd h52 (by omega)) (fun h52 => ?_)
    refine J_aload_n (pc := 55) dX1_init_55 rfl ?_
    refine C_getR (pc := 56) (id := 40) (kf := 0) (t := 41) dX1_init_56 kf_X1_9 (by rfl) rfl (Nat.le_of_ble_eq_true rfl) ?_
    refine J_iload_n (pc := 59) dX1_init_59 rfl ?_
    refine J_iconst (pc := 60) dX1_init_60 kni_m1 ?_
    refine C_iast (pc := 61) (id := 41) (N := 24) (j := i) dX1_init_61 (by rfl) rfl (by omega) (by decide) ?_
    refine Jn_iinc (pc := 62) (ls' := [some _, some _]) dX1_init_62 rfl knz_1 rfl rfl ?_
    refine J_goto (pc := 65) (tgt := 49) dX1_init_65 (by decide) ?_
    rw [mfill_s _ _ _ _ rfl]
    exact ih49
  ·
    show KC x _ _ _ _ 49 [some (.ref (jxb x + 40)), some (.int (nI 24))] _ _ (mfill m 41 24 (fun _ => (-1))) _ _
    refine J_iload_n (pc := 49) dX1_init_49 rfl ?_
    refine J_bipush (pc := 50) dX1_init_50 knb_24 ?_
    refine Jn_ge (pc := 52) (tgt := 68) dX1_init_52 (by decide) (by omega) (by omega) (fun h52 => ?_) (fun h52 => absurd h52 (by omega))
    exact J_vret (pc := 68) dX1_init_68 rfl ⟨rfl, rfl, rfl⟩
set_option maxRecDepth 100000 in
set_option maxHeartbeats 400000 in
theorem b_X5_70 {x : jX} {d : Nat} {m : jm} {ov : Nat → Nat} (hz : zr m 70) (ho70 : ov 70 = 0) : jCt x (d + 1) 3 288 eX5_init [.ref (jxb x + 70)] (jL0.take 71) (jEs x m ov) (fun r L M => r = none ∧ L = jL0.take 74 ∧ M = jEs x (mup m 70 13 (nI 1)) (ovs ov 70 10)) := by
  refine J_start (by decide +kernel) (Nat.le_of_ble_eq_true rfl) (ls := [some (.ref (jxb x + 70))]) rfl rfl ?_
  refine J_aload_n (pc := 0) dX5_init_0 rfl ?_
  refine C_obj (pc := 1) dX5_init_1 ko_X5_3 (Nat.le_of_ble_eq_true rfl) ?_
  refine J_aload_n (pc := 4) dX5_init_4 rfl ?_
  refine J_bipush (pc := 5) dX5_init_5 knb_96 ?_
  refine C_newa (pc := 7) (t := 1) (N := 96) (k' := 2) (n' := 192) dX5_init_7 (by decide) rfl ka_byte (by decide) rfl (by decide) rfl (zr_le hz (by decide)) rfl rfl ?_
  refine C_putR (pc := 9) (id := 70) (kf := 0) (t := 71) dX5_init_9 kp_X5_9 (by rfl) rfl rfl (fun _ => rfl) (fun _ => rfl) rfl (fun j g1 g2 => (show ∀ j, j < 0 → jlay 70 j = 0 by decide +kernel) j g1) (Nat.le_trans (Nat.le_of_eq ho70) (Nat.zero_le _)) ?_
  refine J_aload_n (pc := 12) dX5_init_12 rfl ?_
  refine J_iconst (pc := 13) dX5_init_13 kni_0 ?_
  refine C_put0 (pc := 14) (id := 70) (kf := 1) dX5_init_14 kp_X5_15 (by rfl) rfl rfl rfl (hz 70 1 (by decide)) ?_
  refine J_aload_n (pc := 17) dX5_init_17 rfl ?_
  refine J_iconst (pc := 18) dX5_init_18 kni_0 ?_
  refine C_put0 (pc := 19) (id := 70) (kf := 2) dX5_init_19 kp_X5_19 (by rfl) rfl rfl rfl (hz 70 2 (by decide)) ?_
  refine J_aload_n (pc := 22) dX5_init_22 rfl ?_
  refine J_iconst (pc := 23) dX5_init_23 kni_0 ?_
  refine C_put0 (pc := 24) (id := 70) (kf := 3) dX5_init_24 kp_X5_22 (by rfl) rfl rfl rfl (hz 70 3 (by decide)) ?_
  refine J_aload_n (pc := 27) dX5_init_27 rfl ?_
  refine J_ldcS (pc := 28) (j := 0) dX5_init_28 (by decide) rfl rfl ?_
  refine C_putS (pc := 30) (id := 70) (kf := 4) (j0 := 0) dX5_init_30 kp_X5_27 (by rfl) (fun _ => rfl) (fun _ => rfl) rfl (hz 70 4 (by decide)) (by decide) (show ∀ j, j < 4 → 1 ≤ j → jlay 70 j = 0 by decide +kernel) (Nat.le_of_ble_eq_true rfl) ?_
  rw [ovs_o]
  refine J_aload_n (pc := 33) dX5_init_33 rfl ?_
  refine J_iconst (pc := 34) dX5_init_34 kni_0 ?_
  refine C_put0 (pc := 35) (id := 70) (kf := 5) dX5_init_35 kp_X5_31 (by rfl) rfl rfl rfl (hz 70 5 (by decide)) ?_
  refine J_aload_n (pc := 38) dX5_init_38 rfl ?_
  refine J_bipush (pc := 39) dX5_init_39 knb_96 ?_
  refine C_newa (pc := 41) (t := 0) (N := 96) (k' := 1) (n' := 96) dX5_init_41 (by decide) rfl ka_int (by decide) rfl (by decide) rfl (zr_le hz (by decide)) rfl rfl ?_
  refine C_putR (pc := 43) (id := 70) (kf := 6) (t := 72) dX5_init_43 kp_X5_34 (by rfl) rfl rfl (fun _ => rfl) (fun _ => rfl) rfl (show ∀ j, j < 6 → 5 ≤ j → jlay 70 j = 0 by decide +kernel) (Nat.le_of_ble_eq_true rfl) ?_
  rw [ovs_o]
  refine J_aload_n (pc := 46) dX5_init_46 rfl ?_
  refine J_iconst (pc := 47) dX5_init_47 kni_0 ?_
  refine C_put0 (pc := 48) (id := 70) (kf := 7) dX5_init_48 kp_X5_38 (by rfl) rfl rfl rfl (hz 70 7 (by decide)) ?_
  refine J_aload_n (pc := 51) dX5_init_51 rfl ?_
  refine J_iconst (pc := 52) dX5_init_52 kni_0 ?_
  refine C_put0 (pc := 53) (id := 70) (kf := 8) dX5_init_53 kp_X5_41 (by rfl) rfl rfl rfl (hz 70 8 (by decide)) ?_
  refine J_aload_n (pc := 56) dX5_init_56 rfl ?_
  refine J_bipush (pc := 57) dX5_init_57 knb_96 ?_
  refine C_newa (pc := 59) (t := 0) (N := 96) (k' := 0) (n' := 0) dX5_init_59 (by decide) rfl ka_int (by decide) rfl (by decide) rfl (zr_le hz (by decide)) rfl rfl ?_
  refine C_putR (pc := 61) (id := 70) (kf := 9) (t := 73) dX5_init_61 kp_X5_44 (by rfl) rfl rfl (fun _ => rfl) (fun _ => rfl) rfl (show ∀ j, j < 9 → 7 ≤ j → jlay 70 j = 0 by decide +kernel) (Nat.le_of_ble_eq_true rfl) ?_
  rw [ovs_o]
  refine J_aload_n (pc := 64) dX5_init_64 rfl ?_
  refine J_iconst (pc := 65) dX5_init_65 kni_0 ?_
  refine C_put0 (pc := 66) (id := 70) (kf := 10) dX5_init_66 kp_X5_47 (by rfl) rfl rfl rfl (hz 70 10 (by decide)) ?_
  refine J_aload_n (pc := 69) dX5_init_69 rfl ?_
  refine J_iconst (pc := 70) dX5_init_70 kni_0 ?_
  refine C_put0 (pc := 71) (id := 70) (kf := 11) dX5_init_71 kp_X5_50 (by rfl) rfl rfl rfl (hz 70 11 (by decide)) ?_
  refine J_aload_n (pc := 74) dX5_init_74 rfl ?_
  refine J_iconst (pc := 75) dX5_init_75 kni_0 ?_
  refine C_put0 (pc := 76) (id := 70) (kf := 12) dX5_init_76 kp_X5_53 (by rfl) rfl rfl rfl (hz 70 12 (by decide)) ?_
  refine J_aload_n (pc := 79) dX5_init_79 rfl ?_
  refine J_iconst (pc := 80) dX5_init_80 kni_1 ?_
  refine C_putI (pc := 81) (id := 70) (kf := 13) dX5_init_81 kp_X5_56 (by rfl) rfl rfl rfl ?_
  exact J_vret (pc := 84) dX5_init_84 rfl ⟨rfl, rfl, rfl⟩
set_option maxRecDepth 100000 in
set_option maxHeartbeats 400000 in
theorem b_X6_74 {x : jX} {d : Nat} {m : jm} {ov : Nat → Nat} (hz : zr m 74) (ho74 : ov 74 = 0) (hg79 : ov 79 = 1000) : jCt x (d + 1) 20 1510 eX6_init [.ref (jxb x + 74)] (jL0.take 75) (jEs x m ov) (fun r L M => r = none ∧ L = jL0.take 95 ∧ M = jEs x m (ovs ov 74 6)) := by
  refine J_start (by decide +kernel) (Nat.le_of_ble_eq_true rfl) (ls := [some (.ref (jxb x + 74))]) rfl rfl ?_
  refine J_aload_n (pc := 0) dX6_init_0 rfl ?_
  refine C_obj (pc := 1) dX6_init_1 ko_X6_3 (Nat.le_of_ble_eq_true rfl) ?_
  refine J_aload_n (pc := 4) dX6_init_4 rfl ?_
  refine J_bipush (pc := 5) dX6_init_5 knb_14 ?_
  refine C_newa (pc := 7) (t := 0) (N := 14) (k' := 19) (n' := 1496) dX6_init_7 (by decide) rfl ka_int (by decide) rfl (by decide) rfl (zr_le hz (by decide)) rfl rfl ?_
  refine C_putR (pc := 9) (id := 74) (kf := 0) (t := 75) dX6_init_9 kp_X6_9 (by rfl) rfl rfl (fun _ => rfl) (fun _ => rfl) rfl (fun j g1 g2 => (show ∀ j, j < 0 → jlay 74 j = 0 by decide +kernel) j g1) (Nat.le_trans (Nat.le_of_eq ho74) (Nat.zero_le _)) ?_
  refine J_aload_n (pc := 12) dX6_init_12 rfl ?_
  refine J_bipush (pc := 13) dX6_init_13 knb_14 ?_
  refine C_newa (pc := 15) (t := 0) (N := 14) (k' := 18) (n' := 1482) dX6_init_15 (by decide) rfl ka_int (by decide) rfl (by decide) rfl (zr_le hz (by decide)) rfl rfl ?_
  refine C_putR (pc := 17) (id := 74) (kf := 1) (t := 76) dX6_init_17 kp_X6_15 (by rfl) rfl rfl (fun _ => rfl) (fun _ => rfl) rfl (show ∀ j, j < 1 → 1 ≤ j → jlay 74 j = 0 by decide +kernel) (Nat.le_of_ble_eq_true rfl) ?_
  rw [ovs_o]
  refine J_aload_n (pc := 20) dX6_init_20 rfl ?_
  refine J_bipush (pc := 21) dX6_init_21 knb_14 ?_
  refine C_newa (pc := 23) (t := 0) (N := 14) (k' := 17) (n' := 1468) dX6_init_23 (by decide) rfl ka_int (by decide) rfl (by decide) rfl (zr_le hz (by decide)) rfl rfl ?_
  refine C_putR (pc := 25) (id := 74) (kf := 2) (t := 77) dX6_init_25 kp_X6_18 (by rfl) rfl rfl (fun _ => rfl) (fun _ => rfl) rfl (show ∀ j, j < 2 → 2 ≤ j → jlay 74 j = 0 by decide +kernel) (Nat.le_of_ble_eq_true rfl) ?_
  rw [ovs_o]
  refine J_aload_n (pc := 28) dX6_init_28 rfl ?_
  refine J_bipush (pc := 29) dX6_init_29 knb_14 ?_
  refine C_newa (pc := 31) (t := 0) (N := 14) (k' := 16) (n' := 1454) dX6_init_31 (by decide) rfl ka_int (by decide) rfl (by decide) rfl (zr_le hz (by decide)) rfl rfl ?_
  refine C_putR (pc := 33) (id := 74) (kf := 3) (t := 78) dX6_init_33 kp_X6_21 (by rfl) rfl rfl (fun _ => rfl) (fun _ => rfl) rfl (show ∀ j, j < 3 → 3 ≤ j → jlay 74 j = 0 by decide +kernel) (Nat.le_of_ble_eq_true rfl) ?_
  rw [ovs_o]
  refine J_aload_n (pc := 36) dX6_init_36 rfl ?_
  refine J_bipush (pc := 37) dX6_init_37 knb_14 ?_
  refine J_bipush (pc := 39) dX6_init_39 knb_96 ?_
  refine C_mna (pc := 41) (N := 14) (K := 96) (k' := 1) (n' := 96) dX6_init_41 kn_X6_24 (by decide) (by decide) rfl (by decide) (by decide +kernel) (by decide +kernel) (Nat.le_trans (show 14 ≤ 1000 by decide) (Nat.le_of_eq hg79.symm)) (zr_le hz (by decide)) rfl rfl ?_
  refine C_putR (pc := 45) (id := 74) (kf := 4) (t := 79) dX6_init_45 kp_X6_26 (by rfl) rfl rfl (fun _ => rfl) (fun _ => rfl) rfl (show ∀ j, j < 4 → 4 ≤ j → jlay 74 j = 0 by decide +kernel) (Nat.le_of_ble_eq_true rfl) ?_
  rw [ovs_o]
  refine J_aload_n (pc := 48) dX6_init_48 rfl ?_
  refine J_bipush (pc := 49) dX6_init_49 knb_96 ?_
  refine C_newa (pc := 51) (t := 0) (N := 96) (k' := 0) (n' := 0) dX6_init_51 (by decide) rfl ka_int (by decide) rfl (by decide) rfl (zr_le hz (by decide)) rfl rfl ?_
  refine C_putR (pc := 53) (id := 74) (kf := 5) (t := 94) dX6_init_53 kp_X6_29 (by rfl) rfl rfl (fun _ => rfl) (fun _ => rfl) rfl (show ∀ j, j < 5 → 5 ≤ j → jlay 74 j = 0 by decide +kernel) (Nat.le_of_ble_eq_true rfl) ?_
  rw [ovs_o]
  exact J_vret (pc := 56) dX6_init_56 rfl ⟨rfl, rfl, rfl⟩
set_option maxRecDepth 100000 in
set_option maxHeartbeats 400000 in
theorem b_X0_95 {x : jX} {d : Nat} {m : jm} {ov : Nat → Nat} (hz : zr m 95) (ho95 : ov 95 = 0) : jCt x (d + 1) 6 288 eX0_init [.ref (jxb x + 95)] (jL0.take 96) (jEs x m ov) (fun r L M => r = none ∧ L = jL0.take 102 ∧ M = jEs x (mup m 95 8 (-1000000005)) (ovs ov 95 6)) := by
  refine J_start (by decide +kernel) (Nat.le_of_ble_eq_true rfl) (ls := [some (.ref (jxb x + 95))]) rfl rfl ?_
  refine J_aload_n (pc := 0) dX0_init_0 rfl ?_
  refine C_obj (pc := 1) dX0_init_1 ko_X0_3 (Nat.le_of_ble_eq_true rfl) ?_
  refine J_aload_n (pc := 4) dX0_init_4 rfl ?_
  refine J_bipush (pc := 5) dX0_init_5 knb_48 ?_
  refine C_newa (pc := 7) (t := 0) (N := 48) (k' := 5) (n' := 240) dX0_init_7 (by decide) rfl ka_int (by decide) rfl (by decide) rfl (zr_le hz (by decide)) rfl rfl ?_
  refine C_putR (pc := 9) (id := 95) (kf := 0) (t := 96) dX0_init_9 kp_X0_9 (by rfl) rfl rfl (fun _ => rfl) (fun _ => rfl) rfl (fun j g1 g2 => (show ∀ j, j < 0 → jlay 95 j = 0 by decide +kernel) j g1) (Nat.le_trans (Nat.le_of_eq ho95) (Nat.zero_le _)) ?_
  refine J_aload_n (pc := 12) dX0_init_12 rfl ?_
  refine J_bipush (pc := 13) dX0_init_13 knb_48 ?_
  refine C_newa (pc := 15) (t := 0) (N := 48) (k' := 4) (n' := 192) dX0_init_15 (by decide) rfl ka_int (by decide) rfl (by decide) rfl (zr_le hz (by decide)) rfl rfl ?_
  refine C_putR (pc := 17) (id := 95) (kf := 1) (t := 97) dX0_init_17 kp_X0_15 (by rfl) rfl rfl (fun _ => rfl) (fun _ => rfl) rfl (show ∀ j, j < 1 → 1 ≤ j → jlay 95 j = 0 by decide +kernel) (Nat.le_of_ble_eq_true rfl) ?_
  rw [ovs_o]
  refine J_aload_n (pc := 20) dX0_init_20 rfl ?_
  refine J_bipush (pc := 21) dX0_init_21 knb_48 ?_
  refine C_newa (pc := 23) (t := 0) (N := 48) (k' := 3) (n' := 144) dX0_init_23 (by decide) rfl ka_int (by decide) rfl (by decide) rfl (zr_le hz (by decide)) rfl rfl ?_
  refine C_putR (pc := 25) (id := 95) (kf := 2) (t := 98) dX0_init_25 kp_X0_18 (by rfl) rfl rfl (fun _ => rfl) (fun _ => rfl) rfl (show ∀ j, j < 2 → 2 ≤ j → jlay 95 j = 0 by decide +kernel) (Nat.le_of_ble_eq_true rfl) ?_
  rw [ovs_o]
  refine J_aload_n (pc := 28) dX0_init_28 rfl ?_
  refine J_bipush (pc := 29) dX0_init_29 knb_48 ?_
  refine C_newa (pc := 31) (t := 0) (N := 48) (k' := 2) (n' := 96) dX0_init_31 (by decide) rfl ka_int (by decide) rfl (by decide) rfl (zr_le hz (by decide)) rfl rfl ?_
  refine C_putR (pc := 33) (id := 95) (kf := 3) (t := 99) dX0_init_33 kp_X0_21 (by rfl) rfl rfl (fun _ => rfl) (fun _ => rfl) rfl (show ∀ j, j < 3 → 3 ≤ j → jlay 95 j = 0 by decide +kernel) (Nat.le_of_ble_eq_true rfl) ?_
  rw [ovs_o]
  refine J_aload_n (pc := 36) dX0_init_36 rfl ?_
  refine J_bipush (pc := 37) dX0_init_37 knb_48 ?_
  refine C_newa (pc := 39) (t := 2) (N := 48) (k' := 1) (n' := 48) dX0_init_39 (by decide) rfl ka_boolean (by decide) rfl (by decide) rfl (zr_le hz (by decide)) rfl rfl ?_
  refine C_putR (pc := 41) (id := 95) (kf := 4) (t := 100) dX0_init_41 kp_X0_24 (by rfl) rfl rfl (fun _ => rfl) (fun _ => rfl) rfl (show ∀ j, j < 4 → 4 ≤ j → jlay 95 j = 0 by decide +kernel) (Nat.le_of_ble_eq_true rfl) ?_
  rw [ovs_o]
  refine J_aload_n (pc := 44) dX0_init_44 rfl ?_
  refine J_bipush (pc := 45) dX0_init_45 knb_48 ?_
  refine C_newa (pc := 47) (t := 0) (N := 48) (k' := 0) (n' := 0) dX0_init_47 (by decide) rfl ka_int (by decide) rfl (by decide) rfl (zr_le hz (by decide)) rfl rfl ?_
  refine C_putR (pc := 49) (id := 95) (kf := 5) (t := 101) dX0_init_49 kp_X0_28 (by rfl) rfl rfl (fun _ => rfl) (fun _ => rfl) rfl (show ∀ j, j < 5 → 5 ≤ j → jlay 95 j = 0 by decide +kernel) (Nat.le_of_ble_eq_true rfl) ?_
  rw [ovs_o]
  refine J_aload_n (pc := 52) dX0_init_52 rfl ?_
  refine J_iconst (pc := 53) dX0_init_53 kni_0 ?_
  refine C_put0 (pc := 54) (id := 95) (kf := 6) dX0_init_54 kp_X0_31 (by rfl) rfl rfl rfl (hz 95 6 (by decide)) ?_
  refine J_aload_n (pc := 57) dX0_init_57 rfl ?_
  refine J_iconst (pc := 58) dX0_init_58 kni_0 ?_
  refine C_put0 (pc := 59) (id := 95) (kf := 7) dX0_init_59 kp_X0_35 (by rfl) rfl rfl rfl (hz 95 7 (by decide)) ?_
  refine J_aload_n (pc := 62) dX0_init_62 rfl ?_
  refine J_ldc (pc := 63) dX0_init_63 kc_X0_38 ?_
  refine C_putI (pc := 65) (id := 95) (kf := 8) dX0_init_65 kp_X0_39 (by rfl) rfl rfl rfl ?_
  exact J_vret (pc := 68) dX0_init_68 rfl ⟨rfl, rfl, rfl⟩
set_option maxRecDepth 100000 in
set_option maxHeartbeats 400000 in
theorem b_X0_116 {x : jX} {d : Nat} {m : jm} {ov : Nat → Nat} (hz : zr m 116) (ho116 : ov 116 = 0) : jCt x (d + 1) 6 288 eX0_init [.ref (jxb x + 116)] (jL0.take 117) (jEs x m ov) (fun r L M => r = none ∧ L = jL0.take 123 ∧ M = jEs x (mup m 116 8 (-1000000005)) (ovs ov 116 6)) := by
  refine J_start (by decide +kernel) (Nat.le_of_ble_eq_true rfl) (ls := [some (.ref (jxb x + 116))]) rfl rfl ?_
  refine J_aload_n (pc := 0) dX0_init_0 rfl ?_
  refine C_obj (pc := 1) dX0_init_1 ko_X0_3 (Nat.le_of_ble_eq_true rfl) ?_
  refine J_aload_n (pc := 4) dX0_init_4 rfl ?_
  refine J_bipush (pc := 5) dX0_init_5 knb_48 ?_
  refine C_newa (pc := 7) (t := 0) (N := 48) (k' := 5) (n' := 240) dX0_init_7 (by decide) rfl ka_int (by decide) rfl (by decide) rfl (zr_le hz (by decide)) rfl rfl ?_
  refine C_putR (pc := 9) (id := 116) (kf := 0) (t := 117) dX0_init_9 kp_X0_9 (by rfl) rfl rfl (fun _ => rfl) (fun _ => rfl) rfl (fun j g1 g2 => (show ∀ j, j < 0 → jlay 116 j = 0 by decide +kernel) j g1) (Nat.le_trans (Nat.le_of_eq ho116) (Nat.zero_le _)) ?_
  refine J_aload_n (pc := 12) dX0_init_12 rfl ?_
  refine J_bipush (pc := 13) dX0_init_13 knb_48 ?_
  refine C_newa (pc := 15) (t := 0) (N := 48) (k' := 4) (n' := 192) dX0_init_15 (by decide) rfl ka_int (by decide) rfl (by decide) rfl (zr_le hz (by decide)) rfl rfl ?_
  refine C_putR (pc := 17) (id := 116) (kf := 1) (t := 118) dX0_init_17 kp_X0_15 (by rfl) rfl rfl (fun _ => rfl) (fun _ => rfl) rfl (show ∀ j, j < 1 → 1 ≤ j → jlay 116 j = 0 by decide +kernel) (Nat.le_of_ble_eq_true rfl) ?_
  rw [ovs_o]
  refine J_aload_n (pc := 20) dX0_init_20 rfl ?_
  refine J_bipush (pc := 21) dX0_init_21 knb_48 ?_
  refine C_newa (pc := 23) (t := 0) (N := 48) (k' := 3) (n' := 144) dX0_init_23 (by decide) rfl ka_int (by decide) rfl (by decide) rfl (zr_le hz (by decide)) rfl rfl ?_
  refine C_putR (pc := 25) (id := 116) (kf := 2) (t := 119) dX0_init_25 kp_X0_18 (by rfl) rfl rfl (fun _ => rfl) (fun _ => rfl) rfl (show ∀ j, j < 2 → 2 ≤ j → jlay 116 j = 0 by decide +kernel) (Nat.le_of_ble_eq_true rfl) ?_
  rw [ovs_o]
  refine J_aload_n (pc := 28) dX0_init_28 rfl ?_
  refine J_bipush (pc := 29) dX0_init_29 knb_48 ?_
  refine C_newa (pc := 31) (t := 0) (N := 48) (k' := 2) (n' := 96) dX0_init_31 (by decide) rfl ka_int (by decide) rfl (by decide) rfl (zr_le hz (by decide)) rfl rfl ?_
  refine C_putR (pc := 33) (id := 116) (kf := 3) (t := 120) dX0_init_33 kp_X0_21 (by rfl) rfl rfl (fun _ => rfl) (fun _ => rfl) rfl (show ∀ j, j < 3 → 3 ≤ j → jlay 116 j = 0 by decide +kernel) (Nat.le_of_ble_eq_true rfl) ?_
  rw [ovs_o]
  refine J_aload_n (pc := 36) dX0_init_36 rfl ?_
  refine J_bipush (pc := 37) dX0_init_37 knb_48 ?_
  refine C_newa (pc := 39) (t := 2) (N := 48) (k' := 1) (n' := 48) dX0_init_39 (by decide) rfl ka_boolean (by decide) rfl (by decide) rfl (zr_le hz (by decide)) rfl rfl ?_
  refine C_putR (pc := 41) (id := 116) (kf := 4) (t := 121) dX0_init_41 kp_X0_24 (by rfl) rfl rfl (fun _ => rfl) (fun _ => rfl) rfl (show ∀ j, j < 4 → 4 ≤ j → jlay 116 j = 0 by decide +kernel) (Nat.le_of_ble_eq_true rfl) ?_
  rw [ovs_o]
  refine J_aload_n (pc := 44) dX0_init_44 rfl ?_
  refine J_bipush (pc := 45) dX0_init_45 knb_48 ?_
  refine C_newa (pc := 47) (t := 0) (N := 48) (k' := 0) (n' := 0) dX0_init_47 (by decide) rfl ka_int (by decide) rfl (by decide) rfl (zr_le hz (by decide)) rfl rfl ?_
  refine C_putR (pc := 49) (id := 116) (kf := 5) (t := 122) dX0_init_49 kp_X0_28 (by rfl) rfl rfl (fun _ => rfl) (fun _ => rfl) rfl (show ∀ j, j < 5 → 5 ≤ j → jlay 116 j = 0 by decide +kernel) (Nat.le_of_ble_eq_true rfl) ?_
  rw [ovs_o]
  refine J_aload_n (pc := 52) dX0_init_52 rfl ?_
  refine J_iconst (pc := 53) dX0_init_53 kni_0 ?_
  refine C_put0 (pc := 54) (id := 116) (kf := 6) dX0_init_54 kp_X0_31 (by rfl) rfl rfl rfl (hz 116 6 (by decide)) ?_
  refine J_aload_n (pc := 57) dX0_init_57 rfl ?_
  refine J_iconst (pc := 58) dX0_init_58 kni_0 ?_
  refine C_put0 (pc := 59) (id := 116) (kf := 7) dX0_init_59 kp_X0_35 (by rfl) rfl rfl rfl (hz 116 7 (by decide)) ?_
  refine J_aload_n (pc := 62) dX0_init_62 rfl ?_
  refine J_ldc (pc := 63) dX0_init_63 kc_X0_38 ?_
  refine C_putI (pc := 65) (id := 116) (kf := 8) dX0_init_65 kp_X0_39 (by rfl) rfl rfl rfl ?_
  exact J_vret (pc := 68) dX0_init_68 rfl ⟨rfl, rfl, rfl⟩
set_option maxRecDepth 100000 in
set_option maxHeartbeats 400000 in
theorem b_X2_126 {x : jX} {d : Nat} {m : jm} {ov : Nat → Nat} (hz : zr m 126) (ho126 : ov 126 = 0) (hg128 : ov 128 = 1000) : jCt x (d + 1) 12 89 eX2_init [.ref (jxb x + 126)] (jL0.take 127) (jEs x m ov) (fun r L M => r = none ∧ L = jL0.take 139 ∧ M = jEs x m (ovs ov 126 4)) := by
  refine J_start (by decide +kernel) (Nat.le_of_ble_eq_true rfl) (ls := [some (.ref (jxb x + 126))]) rfl rfl ?_
  refine J_aload_n (pc := 0) dX2_init_0 rfl ?_
  refine C_obj (pc := 1) dX2_init_1 ko_X2_3 (Nat.le_of_ble_eq_true rfl) ?_
  refine J_aload_n (pc := 4) dX2_init_4 rfl ?_
  refine J_bipush (pc := 5) dX2_init_5 knb_8 ?_
  refine C_newa (pc := 7) (t := 0) (N := 8) (k' := 11) (n' := 81) dX2_init_7 (by decide) rfl ka_int (by decide) rfl (by decide) rfl (zr_le hz (by decide)) rfl rfl ?_
  refine C_putR (pc := 9) (id := 126) (kf := 0) (t := 127) dX2_init_9 kp_X2_9 (by rfl) rfl rfl (fun _ => rfl) (fun _ => rfl) rfl (fun j g1 g2 => (show ∀ j, j < 0 → jlay 126 j = 0 by decide +kernel) j g1) (Nat.le_trans (Nat.le_of_eq ho126) (Nat.zero_le _)) ?_
  refine J_aload_n (pc := 12) dX2_init_12 rfl ?_
  refine J_bipush (pc := 13) dX2_init_13 knb_8 ?_
  refine J_iconst (pc := 15) dX2_init_15 kni_4 ?_
  refine C_mna (pc := 16) (N := 8) (K := 4) (k' := 2) (n' := 41) dX2_init_16 kn_X2_15 (by decide) (by decide) rfl (by decide) (by decide +kernel) (by decide +kernel) (Nat.le_trans (show 8 ≤ 1000 by decide) (Nat.le_of_eq hg128.symm)) (zr_le hz (by decide)) rfl rfl ?_
  refine C_putR (pc := 20) (id := 126) (kf := 1) (t := 128) dX2_init_20 kp_X2_17 (by rfl) rfl rfl (fun _ => rfl) (fun _ => rfl) rfl (show ∀ j, j < 1 → 1 ≤ j → jlay 126 j = 0 by decide +kernel) (Nat.le_of_ble_eq_true rfl) ?_
  rw [ovs_o]
  refine J_aload_n (pc := 23) dX2_init_23 rfl ?_
  refine J_bipush (pc := 24) dX2_init_24 knb_12 ?_
  refine C_newa (pc := 26) (t := 0) (N := 12) (k' := 1) (n' := 29) dX2_init_26 (by decide) rfl ka_int (by decide) rfl (by decide) rfl (zr_le hz (by decide)) rfl rfl ?_
  refine C_putR (pc := 28) (id := 126) (kf := 2) (t := 137) dX2_init_28 kp_X2_20 (by rfl) rfl rfl (fun _ => rfl) (fun _ => rfl) rfl (show ∀ j, j < 2 → 2 ≤ j → jlay 126 j = 0 by decide +kernel) (Nat.le_of_ble_eq_true rfl) ?_
  rw [ovs_o]
  refine J_aload_n (pc := 31) dX2_init_31 rfl ?_
  refine J_bipush (pc := 32) dX2_init_32 knb_29 ?_
  refine C_newa (pc := 34) (t := 0) (N := 29) (k' := 0) (n' := 0) dX2_init_34 (by decide) rfl ka_int (by decide) rfl (by decide) rfl (zr_le hz (by decide)) rfl rfl ?_
  refine C_putR (pc := 36) (id := 126) (kf := 3) (t := 138) dX2_init_36 kp_X2_23 (by rfl) rfl rfl (fun _ => rfl) (fun _ => rfl) rfl (show ∀ j, j < 3 → 3 ≤ j → jlay 126 j = 0 by decide +kernel) (Nat.le_of_ble_eq_true rfl) ?_
  rw [ovs_o]
  exact J_vret (pc := 39) dX2_init_39 rfl ⟨rfl, rfl, rfl⟩
set_option maxRecDepth 100000 in
set_option maxHeartbeats 400000 in
theorem b_X3_102 {x : jX} {d : Nat} {m : jm} {ov : Nat → Nat} (hz : zr m 102) (ho102 : ov 102 = 0) (ho103 : ov 103 = 0) (ho116 : ov 116 = 0) : jCt x (d + 2) 23 5561 eX3_init [.ref (jxb x + 102)] (jL0.take 103) (jEs x m ov) (fun r L M => r = none ∧ L = jL0.take 126 ∧ M = jEs x (mup (m4 m 103) 116 8 (-1000000005)) (ovs (ovs (ovs (ovs ov 103 13) 102 1) 116 6) 102 6)) := by
  refine J_start (by decide +kernel) (Nat.le_of_ble_eq_true rfl) (ls := [some (.ref (jxb x + 102))]) rfl rfl ?_
  refine J_aload_n (pc := 0) dX3_init_0 rfl ?_
  refine C_obj (pc := 1) dX3_init_1 ko_X3_5 (Nat.le_of_ble_eq_true rfl) ?_
  refine J_aload_n (pc := 4) dX3_init_4 rfl ?_
  refine C_new (pc := 5) (ci := 4) (N := 17) (k' := 22) (n' := 5544) dX3_init_5 kn_X3_11 rfl (by decide) (by decide +kernel) ho103 (zr_le hz (by decide)) rfl rfl ?_
  refine J_dup (pc := 8) dX3_init_8 rfl ?_
  refine C_call (pc := 9) (k' := 12) (n' := 414) (k0 := 10) (n0 := 5130) (q' := 116) dX3_init_9 kl_X3_13 (Nat.le_of_ble_eq_true rfl) (b_X4_103 (zr_le hz (by decide)) ho103) rfl rfl ?_
  refine C_putR (pc := 12) (id := 102) (kf := 0) (t := 103) dX3_init_12 kp_X3_14 (by rfl) rfl rfl (fun _ => rfl) (fun _ => rfl) rfl (fun j g1 g2 => (show ∀ j, j < 0 → jlay 102 j = 0 by decide +kernel) j g1) (Nat.le_trans (Nat.le_of_eq ho102) (Nat.zero_le _)) ?_
  refine J_aload_n (pc := 15) dX3_init_15 rfl ?_
  refine C_new (pc := 16) (ci := 0) (N := 9) (k' := 9) (n' := 5121) dX3_init_16 kn_X3_18 rfl (by decide) (by decide +kernel) ho116 (zr_4 (zr_le hz (by decide)) (by decide)) rfl rfl ?_
  refine J_dup (pc := 19) dX3_init_19 rfl ?_
  refine C_call (pc := 20) (k' := 6) (n' := 288) (k0 := 3) (n0 := 4833) (q' := 123) dX3_init_20 kl_X3_20 (Nat.le_of_ble_eq_true rfl) (b_X0_116 (zr_4 (zr_le hz (by decide)) (by decide)) ho116) rfl rfl ?_
  refine C_putR (pc := 23) (id := 102) (kf := 1) (t := 116) dX3_init_23 kp_X3_21 (by rfl) rfl rfl (fun _ => rfl) (fun _ => rfl) rfl (show ∀ j, j < 1 → 1 ≤ j → jlay 102 j = 0 by decide +kernel) (Nat.le_of_ble_eq_true rfl) ?_
  refine J_aload_n (pc := 26) dX3_init_26 rfl ?_
  refine J_iconst (pc := 27) dX3_init_27 kni_3 ?_
  refine C_newa (pc := 28) (t := 0) (N := 3) (k' := 2) (n' := 4830) dX3_init_28 (by decide) rfl ka_int (by decide) rfl (by decide) rfl (zr_up (zr_4 (zr_le hz (by decide)) (by decide)) (by decide)) rfl rfl ?_
  refine C_putR (pc := 30) (id := 102) (kf := 2) (t := 123) dX3_init_30 kp_X3_25 (by rfl) rfl rfl (fun _ => rfl) (fun _ => rfl) rfl (show ∀ j, j < 2 → 2 ≤ j → jlay 102 j = 0 by decide +kernel) (Nat.le_of_ble_eq_true rfl) ?_
  rw [ovs_o]
  refine J_aload_n (pc := 33) dX3_init_33 rfl ?_
  refine J_iconst (pc := 34) dX3_init_34 kni_0 ?_
  refine C_put0 (pc := 35) (id := 102) (kf := 3) dX3_init_35 kp_X3_29 (by rfl) rfl rfl rfl (hz 102 3 (by decide)) ?_
  refine J_aload_n (pc := 38) dX3_init_38 rfl ?_
  refine J_bipush (pc := 39) dX3_init_39 knb_30 ?_
  refine C_newa (pc := 41) (t := 2) (N := 30) (k' := 1) (n' := 4800) dX3_init_41 (by decide) rfl ka_boolean (by decide) rfl (by decide) rfl (zr_up (zr_4 (zr_le hz (by decide)) (by decide)) (by decide)) rfl rfl ?_
  refine C_putR (pc := 43) (id := 102) (kf := 4) (t := 124) dX3_init_43 kp_X3_33 (by rfl) rfl rfl (fun _ => rfl) (fun _ => rfl) rfl (show ∀ j, j < 4 → 3 ≤ j → jlay 102 j = 0 by decide +kernel) (Nat.le_of_ble_eq_true rfl) ?_
  rw [ovs_o]
  refine J_aload_n (pc := 46) dX3_init_46 rfl ?_
  refine J_sipush (pc := 47) dX3_init_47 kns_4800 ?_
  refine C_newa (pc := 50) (t := 0) (N := 4800) (k' := 0) (n' := 0) dX3_init_50 (by decide) rfl ka_int (by decide) rfl (by decide) rfl (zr_up (zr_4 (zr_le hz (by decide)) (by decide)) (by decide)) rfl rfl ?_
  refine C_putR (pc := 52) (id := 102) (kf := 5) (t := 125) dX3_init_52 kp_X3_37 (by rfl) rfl rfl (fun _ => rfl) (fun _ => rfl) rfl (show ∀ j, j < 5 → 5 ≤ j → jlay 102 j = 0 by decide +kernel) (Nat.le_of_ble_eq_true rfl) ?_
  rw [ovs_o]
  refine J_aload_n (pc := 55) dX3_init_55 rfl ?_
  refine J_iconst (pc := 56) dX3_init_56 kni_0 ?_
  refine C_put0 (pc := 57) (id := 102) (kf := 6) dX3_init_57 kp_X3_40 (by rfl) rfl rfl rfl (hz 102 6 (by decide)) ?_
  refine J_aload_n (pc := 60) dX3_init_60 rfl ?_
  refine J_iconst (pc := 61) dX3_init_61 kni_0 ?_
  refine C_put0 (pc := 62) (id := 102) (kf := 7) dX3_init_62 kp_X3_43 (by rfl) rfl rfl rfl (hz 102 7 (by decide)) ?_
  exact J_vret (pc := 65) dX3_init_65 rfl ⟨rfl, rfl, rfl⟩
def mC7 : jm := (mup (m4 (mup (mup (mfill (m4 (m4 (m4 mz 1) 14) 27) 41 24 (fun _ => (-1))) 70 13 (nI 1)) 95 8 (-1000000005)) 103) 116 8 (-1000000005))
def ovC7 : Nat → Nat := (ovs (ovs (ovs (ovs (ovs (ovs (ovs (ovs (ovs (ovs (ovs (ovs (ovs (ovs (ovs (ovs (ovs (ovs (ovs (ovs (ovs ov0 1 13) 0 1) 14 13) 0 2) 27 13) 0 3) 40 5) 0 4) 70 10) 0 5) 74 6) 0 6) 95 6) 0 7) 103 13) 102 1) 116 6) 102 6) 0 8) 126 4) 0 10)
set_option maxRecDepth 100000 in
set_option maxHeartbeats 400000 in
theorem b_X7_0 {x : jX} {d : Nat} : jCt x (d + 3) 139 9835 eX7_init [.ref (jxb x + 0)] (jL0.take 1) (jEs x mz ov0) (fun r L M => r = none ∧ L = jL0.take 140 ∧ M = jEs x mC7 ovC7) := by
  refine J_start (by decide +kernel) (Nat.le_of_ble_eq_true rfl) (ls := [some (.ref (jxb x + 0))]) rfl rfl ?_
  refine J_aload_n (pc := 0) dX7_init_0 rfl ?_
  refine C_obj (pc := 1) dX7_init_1 ko_X7_1 (Nat.le_of_ble_eq_true rfl) ?_
  refine J_aload_n (pc := 4) dX7_init_4 rfl ?_
  refine C_new (pc := 5) (ci := 4) (N := 17) (k' := 138) (n' := 9818) dX7_init_5 kn_X7_7 rfl (by decide) (by decide +kernel) rfl (zr_z _) rfl rfl ?_
  refine J_dup (pc := 8) dX7_init_8 rfl ?_
  refine C_call (pc := 9) (k' := 12) (n' := 414) (k0 := 126) (n0 := 9404) (q' := 14) dX7_init_9 kl_X7_9 (Nat.le_of_ble_eq_true rfl) (b_X4_1 (zr_z _) rfl) rfl rfl ?_
  refine C_putR (pc := 12) (id := 0) (kf := 0) (t := 1) dX7_init_12 kp_X7_10 (by rfl) rfl rfl (fun _ => rfl) (fun _ => rfl) rfl (fun j g1 g2 => (show ∀ j, j < 0 → jlay 0 j = 0 by decide +kernel) j g1) (Nat.le_trans (Nat.le_of_eq rfl) (Nat.zero_le _)) ?_
  refine J_aload_n (pc := 15) dX7_init_15 rfl ?_
  refine C_new (pc := 16) (ci := 4) (N := 17) (k' := 125) (n' := 9387) dX7_init_16 kn_X7_7 rfl (by decide) (by decide +kernel) rfl (zr_4 (zr_z _) (by decide)) rfl rfl ?_
  refine J_dup (pc := 19) dX7_init_19 rfl ?_
  refine C_call (pc := 20) (k' := 12) (n' := 414) (k0 := 113) (n0 := 8973) (q' := 27) dX7_init_20 kl_X7_9 (Nat.le_of_ble_eq_true rfl) (b_X4_14 (zr_4 (zr_z _) (by decide)) rfl) rfl rfl ?_
  refine C_putR (pc := 23) (id := 0) (kf := 1) (t := 14) dX7_init_23 kp_X7_16 (by rfl) rfl rfl (fun _ => rfl) (fun _ => rfl) rfl (show ∀ j, j < 1 → 1 ≤ j → jlay 0 j = 0 by decide +kernel) (Nat.le_of_ble_eq_true rfl) ?_
  refine J_aload_n (pc := 26) dX7_init_26 rfl ?_
  refine C_new (pc := 27) (ci := 4) (N := 17) (k' := 112) (n' := 8956) dX7_init_27 kn_X7_7 rfl (by decide) (by decide +kernel) rfl (zr_4 (zr_4 (zr_z _) (by decide)) (by decide)) rfl rfl ?_
  refine J_dup (pc := 30) dX7_init_30 rfl ?_
  refine C_call (pc := 31) (k' := 12) (n' := 414) (k0 := 100) (n0 := 8542) (q' := 40) dX7_init_31 kl_X7_9 (Nat.le_of_ble_eq_true rfl) (b_X4_27 (zr_4 (zr_4 (zr_z _) (by decide)) (by decide)) rfl) rfl rfl ?_
  refine C_putR (pc := 34) (id := 0) (kf := 2) (t := 27) dX7_init_34 kp_X7_19 (by rfl) rfl rfl (fun _ => rfl) (fun _ => rfl) rfl (show ∀ j, j < 2 → 2 ≤ j → jlay 0 j = 0 by decide +kernel) (Nat.le_of_ble_eq_true rfl) ?_
  refine J_aload_n (pc := 37) dX7_init_37 rfl ?_
  refine C_new (pc := 38) (ci := 1) (N := 5) (k' := 99) (n' := 8537) dX7_init_38 kn_X7_22 rfl (by decide) (by decide +kernel) rfl (zr_4 (zr_4 (zr_4 (zr_z _) (by decide)) (by decide)) (by decide)) rfl rfl ?_
  refine J_dup (pc := 41) dX7_init_41 rfl ?_
  refine C_call (pc := 42) (k' := 29) (n' := 700) (k0 := 70) (n0 := 7837) (q' := 70) dX7_init_42 kl_X7_24 (Nat.le_of_ble_eq_true rfl) (b_X1_40 (zr_4 (zr_4 (zr_4 (zr_z _) (by decide)) (by decide)) (by decide)) rfl rfl) rfl rfl ?_
  refine C_putR (pc := 45) (id := 0) (kf := 3) (t := 40) dX7_init_45 kp_X7_25 (by rfl) rfl rfl (fun _ => rfl) (fun _ => rfl) rfl (show ∀ j, j < 3 → 3 ≤ j → jlay 0 j = 0 by decide +kernel) (Nat.le_of_ble_eq_true rfl) ?_
  refine J_aload_n (pc := 48) dX7_init_48 rfl ?_
  refine C_new (pc := 49) (ci := 5) (N := 14) (k' := 69) (n' := 7823) dX7_init_49 kn_X7_29 rfl (by decide) (by decide +kernel) rfl (zr_fill (zr_4 (zr_4 (zr_4 (zr_z _) (by decide)) (by decide)) (by decide)) (by decide)) rfl rfl ?_
  refine J_dup (pc := 52) dX7_init_52 rfl ?_
  refine C_call (pc := 53) (k' := 3) (n' := 288) (k0 := 66) (n0 := 7535) (q' := 74) dX7_init_53 kl_X7_31 (Nat.le_of_ble_eq_true rfl) (b_X5_70 (zr_fill (zr_4 (zr_4 (zr_4 (zr_z _) (by decide)) (by decide)) (by decide)) (by decide)) rfl) rfl rfl ?_
  refine C_putR (pc := 56) (id := 0) (kf := 4) (t := 70) dX7_init_56 kp_X7_32 (by rfl) rfl rfl (fun _ => rfl) (fun _ => rfl) rfl (show ∀ j, j < 4 → 4 ≤ j → jlay 0 j = 0 by decide +kernel) (Nat.le_of_ble_eq_true rfl) ?_
  refine J_aload_n (pc := 59) dX7_init_59 rfl ?_
  refine C_new (pc := 60) (ci := 6) (N := 6) (k' := 65) (n' := 7529) dX7_init_60 kn_X7_36 rfl (by decide) (by decide +kernel) rfl (zr_up (zr_fill (zr_4 (zr_4 (zr_4 (zr_z _) (by decide)) (by decide)) (by decide)) (by decide)) (by decide)) rfl rfl ?_
  refine J_dup (pc := 63) dX7_init_63 rfl ?_
  refine C_call (pc := 64) (k' := 20) (n' := 1510) (k0 := 45) (n0 := 6019) (q' := 95) dX7_init_64 kl_X7_38 (Nat.le_of_ble_eq_true rfl) (b_X6_74 (zr_up (zr_fill (zr_4 (zr_4 (zr_4 (zr_z _) (by decide)) (by decide)) (by decide)) (by decide)) (by decide)) rfl rfl) rfl rfl ?_
  refine C_putR (pc := 67) (id := 0) (kf := 5) (t := 74) dX7_init_67 kp_X7_39 (by rfl) rfl rfl (fun _ => rfl) (fun _ => rfl) rfl (show ∀ j, j < 5 → 5 ≤ j → jlay 0 j = 0 by decide +kernel) (Nat.le_of_ble_eq_true rfl) ?_
  refine J_aload_n (pc := 70) dX7_init_70 rfl ?_
  refine C_new (pc := 71) (ci := 0) (N := 9) (k' := 44) (n' := 6010) dX7_init_71 kn_X7_43 rfl (by decide) (by decide +kernel) rfl (zr_up (zr_fill (zr_4 (zr_4 (zr_4 (zr_z _) (by decide)) (by decide)) (by decide)) (by decide)) (by decide)) rfl rfl ?_
  refine J_dup (pc := 74) dX7_init_74 rfl ?_
  refine C_call (pc := 75) (k' := 6) (n' := 288) (k0 := 38) (n0 := 5722) (q' := 102) dX7_init_75 kl_X7_45 (Nat.le_of_ble_eq_true rfl) (b_X0_95 (zr_up (zr_fill (zr_4 (zr_4 (zr_4 (zr_z _) (by decide)) (by decide)) (by decide)) (by decide)) (by decide)) rfl) rfl rfl ?_
  refine C_putR (pc := 78) (id := 0) (kf := 6) (t := 95) dX7_init_78 kp_X7_46 (by rfl) rfl rfl (fun _ => rfl) (fun _ => rfl) rfl (show ∀ j, j < 6 → 6 ≤ j → jlay 0 j = 0 by decide +kernel) (Nat.le_of_ble_eq_true rfl) ?_
  refine J_aload_n (pc := 81) dX7_init_81 rfl ?_
  refine C_new (pc := 82) (ci := 3) (N := 8) (k' := 37) (n' := 5714) dX7_init_82 kn_X7_50 rfl (by decide) (by decide +kernel) rfl (zr_up (zr_up (zr_fill (zr_4 (zr_4 (zr_4 (zr_z _) (by decide)) (by decide)) (by decide)) (by decide)) (by decide)) (by decide)) rfl rfl ?_
  refine J_dup (pc := 85) dX7_init_85 rfl ?_
  refine C_call (pc := 86) (k' := 23) (n' := 5561) (k0 := 14) (n0 := 153) (q' := 126) dX7_init_86 kl_X7_52 (Nat.le_of_ble_eq_true rfl) (b_X3_102 (zr_up (zr_up (zr_fill (zr_4 (zr_4 (zr_4 (zr_z _) (by decide)) (by decide)) (by decide)) (by decide)) (by decide)) (by decide)) rfl rfl rfl) rfl rfl ?_
  refine C_putR (pc := 89) (id := 0) (kf := 7) (t := 102) dX7_init_89 kp_X7_53 (by rfl) rfl rfl (fun _ => rfl) (fun _ => rfl) rfl (show ∀ j, j < 7 → 7 ≤ j → jlay 0 j = 0 by decide +kernel) (Nat.le_of_ble_eq_true rfl) ?_
  refine J_aload_n (pc := 92) dX7_init_92 rfl ?_
  refine C_new (pc := 93) (ci := 2) (N := 4) (k' := 13) (n' := 149) dX7_init_93 kn_X7_57 rfl (by decide) (by decide +kernel) rfl (zr_up (zr_4 (zr_up (zr_up (zr_fill (zr_4 (zr_4 (zr_4 (zr_z _) (by decide)) (by decide)) (by decide)) (by decide)) (by decide)) (by decide)) (by decide)) (by decide)) rfl rfl ?_
  refine J_dup (pc := 96) dX7_init_96 rfl ?_
  refine C_call (pc := 97) (k' := 12) (n' := 89) (k0 := 1) (n0 := 60) (q' := 139) dX7_init_97 kl_X7_59 (Nat.le_of_ble_eq_true rfl) (b_X2_126 (zr_up (zr_4 (zr_up (zr_up (zr_fill (zr_4 (zr_4 (zr_4 (zr_z _) (by decide)) (by decide)) (by decide)) (by decide)) (by decide)) (by decide)) (by decide)) (by decide)) rfl rfl) rfl rfl ?_
  refine C_putR (pc := 100) (id := 0) (kf := 8) (t := 126) dX7_init_100 kp_X7_60 (by rfl) rfl rfl (fun _ => rfl) (fun _ => rfl) rfl (show ∀ j, j < 8 → 8 ≤ j → jlay 0 j = 0 by decide +kernel) (Nat.le_of_ble_eq_true rfl) ?_
  refine J_aload_n (pc := 103) dX7_init_103 rfl ?_
  refine J_bipush (pc := 104) dX7_init_104 knb_60 ?_
  refine C_newa (pc := 106) (t := 0) (N := 60) (k' := 0) (n' := 0) dX7_init_106 (by decide) rfl ka_int (by decide) rfl (by decide) rfl (zr_up (zr_4 (zr_up (zr_up (zr_fill (zr_4 (zr_4 (zr_4 (zr_z _) (by decide)) (by decide)) (by decide)) (by decide)) (by decide)) (by decide)) (by decide)) (by decide)) rfl rfl ?_
  refine C_putR (pc := 108) (id := 0) (kf := 9) (t := 139) dX7_init_108 kp_X7_64 (by rfl) rfl rfl (fun _ => rfl) (fun _ => rfl) rfl (show ∀ j, j < 9 → 9 ≤ j → jlay 0 j = 0 by decide +kernel) (Nat.le_of_ble_eq_true rfl) ?_
  rw [ovs_o]
  refine J_aload_n (pc := 111) dX7_init_111 rfl ?_
  refine J_iconst (pc := 112) dX7_init_112 kni_0 ?_
  refine C_put0 (pc := 113) (id := 0) (kf := 10) dX7_init_113 kp_X7_68 (by rfl) rfl rfl rfl rfl ?_
  refine J_aload_n (pc := 116) dX7_init_116 rfl ?_
  refine J_iconst (pc := 117) dX7_init_117 kni_0 ?_
  refine C_put0 (pc := 118) (id := 0) (kf := 11) dX7_init_118 kp_X7_72 (by rfl) rfl rfl rfl rfl ?_
  exact J_vret (pc := 121) dX7_init_121 rfl ⟨rfl, rfl, rfl⟩
set_option maxRecDepth 100000 in
set_option maxHeartbeats 400000 in
theorem b_X8_140 {x : jX} {d : Nat} {m : jm} {ov : Nat → Nat} (hz : zr m 140) (ho140 : ov 140 = 0) : jCt x (d + 1) 18 35682 eX8_init [.ref (jxb x + 140)] (jL0.take 141) (jEs x m ov) (fun r L M => r = none ∧ L = jL0.take 159 ∧ M = jEs x (mfill (mst2 (mst2 (mup (mup (mup m 141 2 (nI 50)) 141 4 (nI 20)) 141 5 (nI 6)) 141 (fun j => decide (10 < j ∧ j < 10 + 2 * 10 ∧ j % 2 = 1)) (nI 5)) 141 (fun j => decide (40 ≤ j ∧ j < 40 + 48)) (nI 50)) 144 24 (fun _ => (-1))) (ovs ov 140 37)) := by
  refine J_start (by decide +kernel) (Nat.le_of_ble_eq_true rfl) (ls := [some (.ref (jxb x + 140)), none]) rfl rfl ?_
  refine J_aload_n (pc := 0) dX8_init_0 rfl ?_
  refine C_obj (pc := 1) dX8_init_1 ko_X8_1 (Nat.le_of_ble_eq_true rfl) ?_
  refine J_aload_n (pc := 4) dX8_init_4 rfl ?_
  refine J_sipush (pc := 5) dX8_init_5 kns_3450 ?_
  refine C_newa (pc := 8) (t := 0) (N := 3450) (k' := 17) (n' := 32232) dX8_init_8 (by decide) rfl ka_int (by decide) rfl (by decide) rfl (zr_le hz (by decide)) rfl rfl ?_
  refine C_putR (pc := 10) (id := 140) (kf := 0) (t := 141) dX8_init_10 kp_X8_7 (by rfl) rfl rfl (fun _ => rfl) (fun _ => rfl) rfl (fun j g1 g2 => (show ∀ j, j < 0 → jlay 140 j = 0 by decide +kernel) j g1) (Nat.le_trans (Nat.le_of_eq ho140) (Nat.zero_le _)) ?_
  refine J_aload_n (pc := 13) dX8_init_13 rfl ?_
  refine J_sipush (pc := 14) dX8_init_14 kns_3450 ?_
  refine C_newa (pc := 17) (t := 0) (N := 3450) (k' := 16) (n' := 28782) dX8_init_17 (by decide) rfl ka_int (by decide) rfl (by decide) rfl (zr_le hz (by decide)) rfl rfl ?_
  refine C_putR (pc := 19) (id := 140) (kf := 1) (t := 142) dX8_init_19 kp_X8_13 (by rfl) rfl rfl (fun _ => rfl) (fun _ => rfl) rfl (show ∀ j, j < 1 → 1 ≤ j → jlay 140 j = 0 by decide +kernel) (Nat.le_of_ble_eq_true rfl) ?_
  rw [ovs_o]
  refine J_aload_n (pc := 22) dX8_init_22 rfl ?_
  refine J_sipush (pc := 23) dX8_init_23 kns_3450 ?_
  refine C_newa (pc := 26) (t := 0) (N := 3450) (k' := 15) (n' := 25332) dX8_init_26 (by decide) rfl ka_int (by decide) rfl (by decide) rfl (zr_le hz (by decide)) rfl rfl ?_
  refine C_putR (pc := 28) (id := 140) (kf := 2) (t := 143) dX8_init_28 kp_X8_16 (by rfl) rfl rfl (fun _ => rfl) (fun _ => rfl) rfl (show ∀ j, j < 2 → 2 ≤ j → jlay 140 j = 0 by decide +kernel) (Nat.le_of_ble_eq_true rfl) ?_
  rw [ovs_o]
  refine J_aload_n (pc := 31) dX8_init_31 rfl ?_
  refine J_bipush (pc := 32) dX8_init_32 knb_24 ?_
  refine C_newa (pc := 34) (t := 0) (N := 24) (k' := 14) (n' := 25308) dX8_init_34 (by decide) rfl ka_int (by decide) rfl (by decide) rfl (zr_le hz (by decide)) rfl rfl ?_
  refine C_putR (pc := 36) (id := 140) (kf := 4) (t := 144) dX8_init_36 kp_X8_19 (by rfl) rfl rfl (fun _ => rfl) (fun _ => rfl) rfl (show ∀ j, j < 4 → 3 ≤ j → jlay 140 j = 0 by decide +kernel) (Nat.le_of_ble_eq_true rfl) ?_
  rw [ovs_o]
  refine J_aload_n (pc := 39) dX8_init_39 rfl ?_
  refine J_bipush (pc := 40) dX8_init_40 knb_24 ?_
  refine C_newa (pc := 42) (t := 0) (N := 24) (k' := 13) (n' := 25284) dX8_init_42 (by decide) rfl ka_int (by decide) rfl (by decide) rfl (zr_le hz (by decide)) rfl rfl ?_
  refine C_putR (pc := 44) (id := 140) (kf := 5) (t := 145) dX8_init_44 kp_X8_22 (by rfl) rfl rfl (fun _ => rfl) (fun _ => rfl) rfl (show ∀ j, j < 5 → 5 ≤ j → jlay 140 j = 0 by decide +kernel) (Nat.le_of_ble_eq_true rfl) ?_
  rw [ovs_o]
  refine J_aload_n (pc := 47) dX8_init_47 rfl ?_
  refine J_sipush (pc := 48) dX8_init_48 kns_576 ?_
  refine C_newa (pc := 51) (t := 0) (N := 576) (k' := 12) (n' := 24708) dX8_init_51 (by decide) rfl ka_int (by decide) rfl (by decide) rfl (zr_le hz (by decide)) rfl rfl ?_
  refine C_putR (pc := 53) (id := 140) (kf := 6) (t := 146) dX8_init_53 kp_X8_25 (by rfl) rfl rfl (fun _ => rfl) (fun _ => rfl) rfl (show ∀ j, j < 6 → 6 ≤ j → jlay 140 j = 0 by decide +kernel) (Nat.le_of_ble_eq_true rfl) ?_
  rw [ovs_o]
  refine J_aload_n (pc := 56) dX8_init_56 rfl ?_
  refine J_bipush (pc := 57) dX8_init_57 knb_48 ?_
  refine C_newa (pc := 59) (t := 0) (N := 48) (k' := 11) (n' := 24660) dX8_init_59 (by decide) rfl ka_int (by decide) rfl (by decide) rfl (zr_le hz (by decide)) rfl rfl ?_
  refine C_putR (pc := 61) (id := 140) (kf := 7) (t := 147) dX8_init_61 kp_X8_28 (by rfl) rfl rfl (fun _ => rfl) (fun _ => rfl) rfl (show ∀ j, j < 7 → 7 ≤ j → jlay 140 j = 0 by decide +kernel) (Nat.le_of_ble_eq_true rfl) ?_
  rw [ovs_o]
  refine J_aload_n (pc := 64) dX8_init_64 rfl ?_
  refine J_bipush (pc := 65) dX8_init_65 knb_48 ?_
  refine C_newa (pc := 67) (t := 0) (N := 48) (k' := 10) (n' := 24612) dX8_init_67 (by decide) rfl ka_int (by decide) rfl (by decide) rfl (zr_le hz (by decide)) rfl rfl ?_
  refine C_putR (pc := 69) (id := 140) (kf := 8) (t := 148) dX8_init_69 kp_X8_31 (by rfl) rfl rfl (fun _ => rfl) (fun _ => rfl) rfl (show ∀ j, j < 8 → 8 ≤ j → jlay 140 j = 0 by decide +kernel) (Nat.le_of_ble_eq_true rfl) ?_
  rw [ovs_o]
  refine J_aload_n (pc := 72) dX8_init_72 rfl ?_
  refine J_bipush (pc := 73) dX8_init_73 knb_24 ?_
  refine C_newa (pc := 75) (t := 0) (N := 24) (k' := 9) (n' := 24588) dX8_init_75 (by decide) rfl ka_int (by decide) rfl (by decide) rfl (zr_le hz (by decide)) rfl rfl ?_
  refine C_putR (pc := 77) (id := 140) (kf := 9) (t := 149) dX8_init_77 kp_X8_34 (by rfl) rfl rfl (fun _ => rfl) (fun _ => rfl) rfl (show ∀ j, j < 9 → 9 ≤ j → jlay 140 j = 0 by decide +kernel) (Nat.le_of_ble_eq_true rfl) ?_
  rw [ovs_o]
  refine J_aload_n (pc := 80) dX8_init_80 rfl ?_
  refine J_bipush (pc := 81) dX8_init_81 knb_96 ?_
  refine C_newa (pc := 83) (t := 0) (N := 96) (k' := 8) (n' := 24492) dX8_init_83 (by decide) rfl ka_int (by decide) rfl (by decide) rfl (zr_le hz (by decide)) rfl rfl ?_
  refine C_putR (pc := 85) (id := 140) (kf := 10) (t := 150) dX8_init_85 kp_X8_37 (by rfl) rfl rfl (fun _ => rfl) (fun _ => rfl) rfl (show ∀ j, j < 10 → 10 ≤ j → jlay 140 j = 0 by decide +kernel) (Nat.le_of_ble_eq_true rfl) ?_
  rw [ovs_o]
  refine J_aload_n (pc := 88) dX8_init_88 rfl ?_
  refine J_sipush (pc := 89) dX8_init_89 kns_128 ?_
  refine C_newa (pc := 92) (t := 0) (N := 128) (k' := 7) (n' := 24364) dX8_init_92 (by decide) rfl ka_int (by decide) rfl (by decide) rfl (zr_le hz (by decide)) rfl rfl ?_
  refine C_putR (pc := 94) (id := 140) (kf := 22) (t := 151) dX8_init_94 kp_X8_40 (by rfl) rfl rfl (fun _ => rfl) (fun _ => rfl) rfl (show ∀ j, j < 22 → 11 ≤ j → jlay 140 j = 0 by decide +kernel) (Nat.le_of_ble_eq_true rfl) ?_
  rw [ovs_o]
  refine J_aload_n (pc := 97) dX8_init_97 rfl ?_
  refine J_bipush (pc := 98) dX8_init_98 knb_100 ?_
  refine C_newa (pc := 100) (t := 0) (N := 100) (k' := 6) (n' := 24264) dX8_init_100 (by decide) rfl ka_int (by decide) rfl (by decide) rfl (zr_le hz (by decide)) rfl rfl ?_
  refine C_putR (pc := 102) (id := 140) (kf := 23) (t := 152) dX8_init_102 kp_X8_43 (by rfl) rfl rfl (fun _ => rfl) (fun _ => rfl) rfl (show ∀ j, j < 23 → 23 ≤ j → jlay 140 j = 0 by decide +kernel) (Nat.le_of_ble_eq_true rfl) ?_
  rw [ovs_o]
  refine J_aload_n (pc := 105) dX8_init_105 rfl ?_
  refine J_bipush (pc := 106) dX8_init_106 knb_48 ?_
  refine C_newa (pc := 108) (t := 2) (N := 48) (k' := 5) (n' := 24216) dX8_init_108 (by decide) rfl ka_boolean (by decide) rfl (by decide) rfl (zr_le hz (by decide)) rfl rfl ?_
  refine C_putR (pc := 110) (id := 140) (kf := 24) (t := 153) dX8_init_110 kp_X8_46 (by rfl) rfl rfl (fun _ => rfl) (fun _ => rfl) rfl (show ∀ j, j < 24 → 24 ≤ j → jlay 140 j = 0 by decide +kernel) (Nat.le_of_ble_eq_true rfl) ?_
  rw [ovs_o]
  refine J_aload_n (pc := 113) dX8_init_113 rfl ?_
  refine J_bipush (pc := 114) dX8_init_114 knb_48 ?_
  refine C_newa (pc := 116) (t := 0) (N := 48) (k' := 4) (n' := 24168) dX8_init_116 (by decide) rfl ka_int (by decide) rfl (by decide) rfl (zr_le hz (by decide)) rfl rfl ?_
  refine C_putR (pc := 118) (id := 140) (kf := 25) (t := 154) dX8_init_118 kp_X8_50 (by rfl) rfl rfl (fun _ => rfl) (fun _ => rfl) rfl (show ∀ j, j < 25 → 25 ≤ j → jlay 140 j = 0 by decide +kernel) (Nat.le_of_ble_eq_true rfl) ?_
  rw [ovs_o]
  refine J_aload_n (pc := 121) dX8_init_121 rfl ?_
  refine J_sipush (pc := 122) dX8_init_122 kns_24000 ?_
  refine C_newa (pc := 125) (t := 1) (N := 24000) (k' := 3) (n' := 168) dX8_init_125 (by decide) rfl ka_byte (by decide) rfl (by decide) rfl (zr_le hz (by decide)) rfl rfl ?_
  refine C_putR (pc := 127) (id := 140) (kf := 26) (t := 155) dX8_init_127 kp_X8_53 (by rfl) rfl rfl (fun _ => rfl) (fun _ => rfl) rfl (show ∀ j, j < 26 → 26 ≤ j → jlay 140 j = 0 by decide +kernel) (Nat.le_of_ble_eq_true rfl) ?_
  rw [ovs_o]
  refine J_aload_n (pc := 130) dX8_init_130 rfl ?_
  refine J_bipush (pc := 131) dX8_init_131 knb_48 ?_
  refine C_newa (pc := 133) (t := 0) (N := 48) (k' := 2) (n' := 120) dX8_init_133 (by decide) rfl ka_int (by decide) rfl (by decide) rfl (zr_le hz (by decide)) rfl rfl ?_
  refine C_putR (pc := 135) (id := 140) (kf := 27) (t := 156) dX8_init_135 kp_X8_57 (by rfl) rfl rfl (fun _ => rfl) (fun _ => rfl) rfl (show ∀ j, j < 27 → 27 ≤ j → jlay 140 j = 0 by decide +kernel) (Nat.le_of_ble_eq_true rfl) ?_
  rw [ovs_o]
  refine J_aload_n (pc := 138) dX8_init_138 rfl ?_
  refine J_bipush (pc := 139) dX8_init_139 knb_60 ?_
  refine C_newa (pc := 141) (t := 0) (N := 60) (k' := 1) (n' := 60) dX8_init_141 (by decide) rfl ka_int (by decide) rfl (by decide) rfl (zr_le hz (by decide)) rfl rfl ?_
  refine C_putR (pc := 143) (id := 140) (kf := 34) (t := 157) dX8_init_143 kp_X8_60 (by rfl) rfl rfl (fun _ => rfl) (fun _ => rfl) rfl (show ∀ j, j < 34 → 28 ≤ j → jlay 140 j = 0 by decide +kernel) (Nat.le_of_ble_eq_true rfl) ?_
  rw [ovs_o]
  refine J_aload_n (pc := 146) dX8_init_146 rfl ?_
  refine J_bipush (pc := 147) dX8_init_147 knb_60 ?_
  refine C_newa (pc := 149) (t := 0) (N := 60) (k' := 0) (n' := 0) dX8_init_149 (by decide) rfl ka_int (by decide) rfl (by decide) rfl (zr_le hz (by decide)) rfl rfl ?_
  refine C_putR (pc := 151) (id := 140) (kf := 36) (t := 158) dX8_init_151 kp_X8_63 (by rfl) rfl rfl (fun _ => rfl) (fun _ => rfl) rfl (show ∀ j, j < 36 → 35 ≤ j → jlay 140 j = 0 by decide +kernel) (Nat.le_of_ble_eq_true rfl) ?_
  rw [ovs_o]
  refine J_aload_n (pc := 154) dX8_init_154 rfl ?_
  refine C_getR (pc := 155) (id := 140) (kf := 0) (t := 141) dX8_init_155 kf_X8_7 (by rfl) rfl (Nat.le_of_ble_eq_true rfl) ?_
  refine J_iconst (pc := 158) dX8_init_158 kni_2 ?_
  refine J_bipush (pc := 159) dX8_init_159 knb_50 ?_
  refine C_iast (pc := 161) (id := 141) (N := 3450) (j := 2) dX8_init_161 (by rfl) rfl (by omega) (by decide) ?_
  refine J_aload_n (pc := 162) dX8_init_162 rfl ?_
  refine C_getR (pc := 163) (id := 140) (kf := 0) (t := 141) dX8_init_163 kf_X8_7 (by rfl) rfl (Nat.le_of_ble_eq_true rfl) ?_
  refine J_iconst (pc := 166) dX8_init_166 kni_4 ?_
  refine J_bipush (pc := 167) dX8_init_167 knb_20 ?_
  refine C_iast (pc := 169) (id := 141) (N := 3450) (j := 4) dX8_init_169 (by rfl) rfl (by omega) (by decide) ?_
  refine J_aload_n (pc := 170) dX8_init_170 rfl ?_
  refine C_getR (pc := 171) (id := 140) (kf := 0) (t := 141) dX8_init_171 kf_X8_7 (by rfl) rfl (Nat.le_of_ble_eq_true rfl) ?_
  refine J_iconst (pc := 174) dX8_init_174 kni_5 ?_
  refine J_bipush (pc := 175) dX8_init_175 knb_6 ?_
  refine C_iast (pc := 177) (id := 141) (N := 3450) (j := 5) dX8_init_177 (by rfl) rfl (by omega) (by decide) ?_
  refine J_iconst (pc := 178) dX8_init_178 kni_0 ?_
  refine J_istore_n (pc := 179) (ls' := [some _, some _]) dX8_init_179 rfl (Nat.le_of_ble_eq_true rfl) rfl ?_
  refine C_for' (pc := 180) 10 (fun i => [some (.ref (jxb x + 140)), some (.int (nI i))]) (fun i => (mst2 (mup (mup (mup m 141 2 (nI 50)) 141 4 (nI 20)) 141 5 (nI 6)) 141 (fun j => decide (10 < j ∧ j < 10 + 2 * i ∧ j % 2 = 1)) (nI 5))) rfl (mst2_0 (fun j => decide_eq_false (by omega))) (fun i hi ih180 => ?_) ?_
  ·
    show KC x _ _ _ _ 180 [some (.ref (jxb x + 140)), some (.int (nI i))] _ _ (mst2 (mup (mup (mup m 141 2 (nI 50)) 141 4 (nI 20)) 141 5 (nI 6)) 141 (fun j => decide (10 < j ∧ j < 10 + 2 * i ∧ j % 2 = 1)) (nI 5)) _ _
    refine J_iload_n (pc := 180) dX8_init_180 rfl ?_
    refine J_bipush (pc := 181) dX8_init_181 knb_10 ?_
    refine Jn_ge (pc := 183) (tgt := 206) dX8_init_183 (by decide) (by omega) (by omega) (fun h183 => absurd h183 (by omega)) (fun h183 => ?_)
    refine J_aload_n (pc := 186) dX8_init_186 rfl ?_
    refine C_getR (pc := 187) (id := 140) (kf := 0) (t := 141) dX8_init_187 kf_X8_7 (by rfl) rfl (Nat.le_of_ble_eq_true rfl) ?_
    refine J_bipush (pc := 190) dX8_init_190 knb_10 ?_
    refine J_iconst (pc := 192) dX8_init_192 kni_2 ?_
    refine J_iload_n (pc := 193) dX8_init_193 rfl ?_
    refine J_imulv (pc := 194) dX8_init_194 (pk_mul _ _) ?_
    refine J_iaddv (pc := 195) dX8_init_195 (nI_add _ _) ?_
    refine J_iconst (pc := 196) dX8_init_196 kni_1 ?_
    refine J_iaddv (pc := 197) dX8_init_197 (nI_add _ _) ?_
    refine J_iconst (pc := 198) dX8_init_198 kni_5 ?_
    refine C_iast (pc := 199) (id := 141) (N := 3450) (j := 10 + (2 * i) + 1) dX8_init_199 (by rfl) rfl (by omega) (by decide) ?_
    refine Jn_iinc (pc := 200) (ls' := [some _, some _]) dX8_init_200 rfl knz_1 rfl rfl ?_
    refine J_goto (pc := 203) (tgt := 180) dX8_init_203 (by decide) ?_
    rw [mst2_s (c' := fun j => decide (10 < j ∧ j < 10 + 2 * (i + 1) ∧ j % 2 = 1)) (fun j => by simp only [decide_eq_true_eq]; omega)]
    exact ih180
  ·
    show KC x _ _ _ _ 180 [some (.ref (jxb x + 140)), some (.int (nI 10))] _ _ (mst2 (mup (mup (mup m 141 2 (nI 50)) 141 4 (nI 20)) 141 5 (nI 6)) 141 (fun j => decide (10 < j ∧ j < 10 + 2 * 10 ∧ j % 2 = 1)) (nI 5)) _ _
    refine J_iload_n (pc := 180) dX8_init_180 rfl ?_
    refine J_bipush (pc := 181) dX8_init_181 knb_10 ?_
    refine Jn_ge (pc := 183) (tgt := 206) dX8_init_183 (by decide) (by omega) (by omega) (fun h183 => ?_) (fun h183 => absurd h183 (by omega))
    refine J_iconst (pc := 206) dX8_init_206 kni_0 ?_
    refine J_istore_n (pc := 207) (ls' := [some _, some _]) dX8_init_207 rfl (Nat.le_of_ble_eq_true rfl) rfl ?_
    refine C_for' (pc := 208) 48 (fun i => [some (.ref (jxb x + 140)), some (.int (nI i))]) (fun i => (mst2 (mst2 (mup (mup (mup m 141 2 (nI 50)) 141 4 (nI 20)) 141 5 (nI 6)) 141 (fun j => decide (10 < j ∧ j < 10 + 2 * 10 ∧ j % 2 = 1)) (nI 5)) 141 (fun j => decide (40 ≤ j ∧ j < 40 + i)) (nI 50))) rfl (mst2_0 (fun j => decide_eq_false (by omega))) (fun i hi ih208 => ?_) ?_
    ·
      show KC x _ _ _ _ 208 [some (.ref (jxb x + 140)), some (.int (nI i))] _ _ (mst2 (mst2 (mup (mup (mup m 141 2 (nI 50)) 141 4 (nI 20)) 141 5 (nI 6)) 141 (fun j => decide (10 < j ∧ j < 10 + 2 * 10 ∧ j % 2 = 1)) (nI 5)) 141 (fun j => decide (40 ≤ j ∧ j < 40 + i)) (nI 50)) _ _
      refine J_iload_n (pc := 208) dX8_init_208 rfl ?_
      refine J_bipush (pc := 209) dX8_init_209 knb_48 ?_
      refine Jn_ge (pc := 211) (tgt := 231) dX8_init_211 (by decide) (by omega) (by omega) (fun h211 => absurd h211 (by omega)) (fun h211 => ?_)
      refine J_aload_n (pc := 214) dX8_init_214 rfl ?_
      refine C_getR (pc := 215) (id := 140) (kf := 0) (t := 141) dX8_init_215 kf_X8_7 (by rfl) rfl (Nat.le_of_ble_eq_true rfl) ?_
      refine J_bipush (pc := 218) dX8_init_218 knb_40 ?_
      refine J_iload_n (pc := 220) dX8_init_220 rfl ?_
      refine J_iaddv (pc := 221) dX8_init_221 (nI_add _ _) ?_
      refine J_bipush (pc := 222) dX8_init_222 knb_50 ?_
      refine C_iast (pc := 224) (id := 141) (N := 3450) (j := 40 + i) dX8_init_224 (by rfl) rfl (by omega) (by decide) ?_
      refine Jn_iinc (pc := 225) (ls' := [some _, some _]) dX8_init_225 rfl knz_1 rfl rfl ?_
      refine J_goto (pc := 228) (tgt := 208) dX8_init_228 (by decide) ?_
      rw [mst2_s (c' := fun j => decide (40 ≤ j ∧ j < 40 + (i + 1))) (fun j => by simp only [decide_eq_true_eq]; omega)]
      exact ih208
    ·
      show KC x _ _ _ _ 208 [some (.ref (jxb x + 140)), some (.int (nI 48))] _ _ (mst2 (mst2 (mup (mup (mup m 141 2 (nI 50)) 141 4 (nI 20)) 141 5 (nI 6)) 141 (fun j => decide (10 < j ∧ j < 10 + 2 * 10 ∧ j % 2 = 1)) (nI 5)) 141 (fun j => decide (40 ≤ j ∧ j < 40 + 48)) (nI 50)) _ _
      refine J_iload_n (pc := 208) dX8_init_208 rfl ?_
      refine J_bipush (pc := 209) dX8_init_209 knb_48 ?_
      refine Jn_ge (pc := 211) (tgt := 231) dX8_init_211 (by decide) (by omega) (by omega) (fun h211 => ?_) (fun h211 => absurd h211 (by omega))
      refine J_iconst (pc := 231) dX8_init_231 kni_0 ?_
      refine J_istore_n (pc := 232) (ls' := [some _, some _]) dX8_init_232 rfl (Nat.le_of_ble_eq_true rfl) rfl ?_
      refine C_for' (pc := 233) 24 (fun i => [some (.ref (jxb x + 140)), some (.int (nI i))]) (fun i => (mfill (mst2 (mst2 (mup (mup (mup m 141 2 (nI 50)) 141 4 (nI 20)) 141 5 (nI 6)) 141 (fun j => decide (10 < j ∧ j < 10 + 2 * 10 ∧ j % 2 = 1)) (nI 5)) 141 (fun j => decide (40 ≤ j ∧ j < 40 + 48)) (nI 50)) 144 i (fun _ => (-1)))) rfl (by rw [mfill_0]) (fun i hi ih233 => ?_) ?_
      ·
        show KC x _ _ _ _ 233 [some (.ref (jxb x + 140)), some (.int (nI i))] _ _ (mfill (mst2 (mst2 (mup (mup (mup m 141 2 (nI 50)) 141 4 (nI 20)) 141 5 (nI 6)) 141 (fun j => decide (10 < j ∧ j < 10 + 2 * 10 ∧ j % 2 = 1)) (nI 5)) 141 (fun j => decide (40 ≤ j ∧ j < 40 + 48)) (nI 50)) 144 i (fun _ => (-1))) _ _
        refine J_iload_n (pc := 233) dX8_init_233 rfl ?_
        refine J_bipush (pc := 234) dX8_init_234 knb_24 ?_
        refine Jn_ge (pc := 236) (tgt := 252) dX8_init_236 (by decide) (by omega) (by omega) (fun h236 => absurd h236 (by omega)) (fun h236 => ?_)
        refine J_aload_n (pc := 239) dX8_init_239 rfl ?_
        refine C_getR (pc := 240) (id := 140) (kf := 4) (t := 144) dX8_init_240 kf_X8_19 (by rfl) rfl (Nat.le_of_ble_eq_true rfl) ?_
        refine J_iload_n (pc := 243) dX8_init_243 rfl ?_
        refine J_iconst (pc := 244) dX8_init_244 kni_m1 ?_
        refine C_iast (pc := 245) (id := 144) (N := 24) (j := i) dX8_init_245 (by rfl) rfl (by omega) (by decide) ?_
        refine Jn_iinc (pc := 246) (ls' := [some _, some _]) dX8_init_246 rfl knz_1 rfl rfl ?_
        refine J_goto (pc := 249) (tgt := 233) dX8_init_249 (by decide) ?_
        rw [mfill_s _ _ _ _ rfl]
        exact ih233
      ·
        show KC x _ _ _ _ 233 [some (.ref (jxb x + 140)), some (.int (nI 24))] _ _ (mfill (mst2 (mst2 (mup (mup (mup m 141 2 (nI 50)) 141 4 (nI 20)) 141 5 (nI 6)) 141 (fun j => decide (10 < j ∧ j < 10 + 2 * 10 ∧ j % 2 = 1)) (nI 5)) 141 (fun j => decide (40 ≤ j ∧ j < 40 + 48)) (nI 50)) 144 24 (fun _ => (-1))) _ _
        refine J_iload_n (pc := 233) dX8_init_233 rfl ?_
        refine J_bipush (pc := 234) dX8_init_234 knb_24 ?_
        refine Jn_ge (pc := 236) (tgt := 252) dX8_init_236 (by decide) (by omega) (by omega) (fun h236 => ?_) (fun h236 => absurd h236 (by omega))
        exact J_vret (pc := 252) dX8_init_252 rfl ⟨rfl, rfl, rfl⟩
