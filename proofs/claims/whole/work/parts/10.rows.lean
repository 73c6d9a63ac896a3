-- ===== contracts' ends, and rows that know numbers =====
def ji (q : Int32 → jm → Prop) : jq := fun r m => ∃ v, r = some (.int v) ∧ q v m
def jv (q : jm → Prop) : jq := fun r m => r = none ∧ q m
def jr (x : jX) (id : Nat) (q : jm → Prop) : jq := fun r m => r = some (.ref (jxb x + id)) ∧ q m
/-- an answer, and nothing has changed -/
def jp (w : Int32) (m : jm) : jq := ji fun v m' => v = w ∧ m' = m
theorem jp_of {w v : Int32} {m : jm} (h : v = w) : jp w m (some (.int v)) m := ⟨v, rfl, h, rfl⟩
abbrev tN (v : Int32) : Nat := v.toNatClampNeg
section K2
variable {x : jX} {d : Nat} {me : jMe} {pc : Nat} {ls : List (Option Value)} {st : List Value} {m : jm} {Q : jq}
theorem K_callVp {idx np ci N id : Nat} {y : jMe} {As rest : List Value} {w : Int32} (hd : decode me.2.1 pc = .ok (.invokevirtual idx, 3)) (hy : jLkV me.1.cls idx y np) (hn : As.length = np) (hL : jL0[id]? = some (ci + 4, N)) (hC : (vwCl[ci]?).map (fun q => q.1) = some y.1.cls) (hs : st = As.reverse ++ .ref (jxb x + id) :: rest) (hW : (rest.map fun v => v.category).sum ≤ 8)
    (hc : Ct x d y (.ref (jxb x + id) :: As) m (jp w m)) (kk : K x (d + 1) me (pc + 3) ls (.int w :: rest) m Q) : K x (d + 1) me pc ls st m Q :=
  K_callV hd hy hn hL hC hs hW hc (fun r m1 h => by obtain ⟨v, rfl, rfl, rfl⟩ := h; exact kk)
theorem K_callVi {idx np ci N id : Nat} {y : jMe} {As rest : List Value} {q : Int32 → jm → Prop} (hd : decode me.2.1 pc = .ok (.invokevirtual idx, 3)) (hy : jLkV me.1.cls idx y np) (hn : As.length = np) (hL : jL0[id]? = some (ci + 4, N)) (hC : (vwCl[ci]?).map (fun q => q.1) = some y.1.cls) (hs : st = As.reverse ++ .ref (jxb x + id) :: rest) (hW : (rest.map fun v => v.category).sum ≤ 8)
    (hc : Ct x d y (.ref (jxb x + id) :: As) m (ji q)) (kk : ∀ v m1, q v m1 → K x (d + 1) me (pc + 3) ls (.int v :: rest) m1 Q) : K x (d + 1) me pc ls st m Q :=
  K_callV hd hy hn hL hC hs hW hc (fun r m1 h => by obtain ⟨v, rfl, h⟩ := h; exact kk v m1 h)
theorem K_callVv {idx np ci N id : Nat} {y : jMe} {As rest : List Value} {q : jm → Prop} (hd : decode me.2.1 pc = .ok (.invokevirtual idx, 3)) (hy : jLkV me.1.cls idx y np) (hn : As.length = np) (hL : jL0[id]? = some (ci + 4, N)) (hC : (vwCl[ci]?).map (fun q => q.1) = some y.1.cls) (hs : st = As.reverse ++ .ref (jxb x + id) :: rest) (hW : (rest.map fun v => v.category).sum ≤ 8)
    (hc : Ct x d y (.ref (jxb x + id) :: As) m (jv q)) (kk : ∀ m1, q m1 → K x (d + 1) me (pc + 3) ls rest m1 Q) : K x (d + 1) me pc ls st m Q :=
  K_callV hd hy hn hL hC hs hW hc (fun r m1 h => by obtain ⟨rfl, h⟩ := h; exact kk m1 h)
theorem K_callVr {idx np ci N id t : Nat} {y : jMe} {As rest : List Value} {q : jm → Prop} (hd : decode me.2.1 pc = .ok (.invokevirtual idx, 3)) (hy : jLkV me.1.cls idx y np) (hn : As.length = np) (hL : jL0[id]? = some (ci + 4, N)) (hC : (vwCl[ci]?).map (fun q => q.1) = some y.1.cls) (hs : st = As.reverse ++ .ref (jxb x + id) :: rest) (hW : (rest.map fun v => v.category).sum ≤ 8)
    (hc : Ct x d y (.ref (jxb x + id) :: As) m (jr x t q)) (kk : ∀ m1, q m1 → K x (d + 1) me (pc + 3) ls (.ref (jxb x + t) :: rest) m1 Q) : K x (d + 1) me pc ls st m Q :=
  K_callV hd hy hn hL hC hs hW hc (fun r m1 h => by obtain ⟨rfl, h⟩ := h; exact kk m1 h)
theorem K_callSp {idx np : Nat} {y : jMe} {As rest : List Value} {w : Int32} (hd : decode me.2.1 pc = .ok (.invokestatic idx, 3)) (hy : jLkS me.1.cls idx y np) (hn : As.length = np) (hs : st = As.reverse ++ rest) (hW : (rest.map fun v => v.category).sum ≤ 8)
    (hc : Ct x d y As m (jp w m)) (kk : K x (d + 1) me (pc + 3) ls (.int w :: rest) m Q) : K x (d + 1) me pc ls st m Q :=
  K_callS hd hy hn hs hW hc (fun r m1 h => by obtain ⟨v, rfl, rfl, rfl⟩ := h; exact kk)
theorem K_callSi {idx np : Nat} {y : jMe} {As rest : List Value} {q : Int32 → jm → Prop} (hd : decode me.2.1 pc = .ok (.invokestatic idx, 3)) (hy : jLkS me.1.cls idx y np) (hn : As.length = np) (hs : st = As.reverse ++ rest) (hW : (rest.map fun v => v.category).sum ≤ 8)
    (hc : Ct x d y As m (ji q)) (kk : ∀ v m1, q v m1 → K x (d + 1) me (pc + 3) ls (.int v :: rest) m1 Q) : K x (d + 1) me pc ls st m Q :=
  K_callS hd hy hn hs hW hc (fun r m1 h => by obtain ⟨v, rfl, h⟩ := h; exact kk v m1 h)
theorem K_callSv {idx np : Nat} {y : jMe} {As rest : List Value} {q : jm → Prop} (hd : decode me.2.1 pc = .ok (.invokestatic idx, 3)) (hy : jLkS me.1.cls idx y np) (hn : As.length = np) (hs : st = As.reverse ++ rest) (hW : (rest.map fun v => v.category).sum ≤ 8)
    (hc : Ct x d y As m (jv q)) (kk : ∀ m1, q m1 → K x (d + 1) me (pc + 3) ls rest m1 Q) : K x (d + 1) me pc ls st m Q :=
  K_callS hd hy hn hs hW hc (fun r m1 h => by obtain ⟨rfl, h⟩ := h; exact kk m1 h)
end K2
section J5
variable {x : jX} {d k n : Nat} {me : jMe} {pc : Nat} {ls : List (Option Value)} {st : List Value} {L : jL} {M : jM} {P : jP}
theorem Jn_lt {a b : Nat} {off : Int} {tgt : Nat} (hd : decode me.2.1 pc = .ok (.if_icmp .lt off, 3)) (ht : (pc : Int) + off = (tgt : Int)) (ha : a < 2 ^ 31) (hb : b < 2 ^ 31) (kt : a < b → J x d k n me tgt ls st L M P) (kf : b ≤ a → J x d k n me (pc + 3) ls st L M P) : J x d k n me pc ls (.int (nI b) :: .int (nI a) :: st) L M P :=
  J_icmp_lt hd ht (fun h => kt ((nI_ltI ha hb).mp h)) (fun h => kf (Nat.not_lt.mp fun q => h ((nI_ltI ha hb).mpr q)))
theorem Jn_ge {a b : Nat} {off : Int} {tgt : Nat} (hd : decode me.2.1 pc = .ok (.if_icmp .ge off, 3)) (ht : (pc : Int) + off = (tgt : Int)) (ha : a < 2 ^ 31) (hb : b < 2 ^ 31) (kt : b ≤ a → J x d k n me tgt ls st L M P) (kf : a < b → J x d k n me (pc + 3) ls st L M P) : J x d k n me pc ls (.int (nI b) :: .int (nI a) :: st) L M P :=
  J_icmp_ge hd ht (fun h => kt ((nI_leI hb ha).mp h)) (fun h => kf (Nat.not_le.mp fun q => h ((nI_leI hb ha).mpr q)))
theorem Jn_gt {a b : Nat} {off : Int} {tgt : Nat} (hd : decode me.2.1 pc = .ok (.if_icmp .gt off, 3)) (ht : (pc : Int) + off = (tgt : Int)) (ha : a < 2 ^ 31) (hb : b < 2 ^ 31) (kt : b < a → J x d k n me tgt ls st L M P) (kf : a ≤ b → J x d k n me (pc + 3) ls st L M P) : J x d k n me pc ls (.int (nI b) :: .int (nI a) :: st) L M P :=
  J_icmp_gt hd ht (fun h => kt ((nI_ltI hb ha).mp h)) (fun h => kf (Nat.not_lt.mp fun q => h ((nI_ltI hb ha).mpr q)))
theorem Jn_le {a b : Nat} {off : Int} {tgt : Nat} (hd : decode me.2.1 pc = .ok (.if_icmp .le off, 3)) (ht : (pc : Int) + off = (tgt : Int)) (ha : a < 2 ^ 31) (hb : b < 2 ^ 31) (kt : a ≤ b → J x d k n me tgt ls st L M P) (kf : b < a → J x d k n me (pc + 3) ls st L M P) : J x d k n me pc ls (.int (nI b) :: .int (nI a) :: st) L M P :=
  J_icmp_le hd ht (fun h => kt ((nI_leI ha hb).mp h)) (fun h => kf (Nat.not_le.mp fun q => h ((nI_leI ha hb).mpr q)))
theorem Jn_eq {a b : Nat} {off : Int} {tgt : Nat} (hd : decode me.2.1 pc = .ok (.if_icmp .eq off, 3)) (ht : (pc : Int) + off = (tgt : Int)) (ha : a < 2 ^ 31) (hb : b < 2 ^ 31) (kt : a = b → J x d k n me tgt ls st L M P) (kf : ¬ a = b → J x d k n me (pc + 3) ls st L M P) : J x d k n me pc ls (.int (nI b) :: .int (nI a) :: st) L M P :=
  J_icmp_eq hd ht (fun h => kt ((nI_eq ha hb).mp h)) (fun h => kf fun q => h ((nI_eq ha hb).mpr q))
theorem Jn_ne {a b : Nat} {off : Int} {tgt : Nat} (hd : decode me.2.1 pc = .ok (.if_icmp .ne off, 3)) (ht : (pc : Int) + off = (tgt : Int)) (ha : a < 2 ^ 31) (hb : b < 2 ^ 31) (kt : ¬ a = b → J x d k n me tgt ls st L M P) (kf : a = b → J x d k n me (pc + 3) ls st L M P) : J x d k n me pc ls (.int (nI b) :: .int (nI a) :: st) L M P :=
  J_icmp_ne hd ht (fun h => kt fun q => h ((nI_eq ha hb).mpr q)) (fun h => kf ((nI_eq ha hb).mp h))
/-- a boolean -/
abbrev jb (c : Prop) [Decidable c] : Int32 := if c then 1 else 0
theorem jb_nar (c : Prop) [Decidable c] : narrow .boolean (.int (jb c)) = .int (jb c) := by by_cases h : c <;> simp only [jb, h, if_true, if_false] <;> rfl
theorem Jb_eq {c : Prop} [Decidable c] {off : Int} {tgt : Nat} (hd : decode me.2.1 pc = .ok (.ifCond .eq off, 3)) (ht : (pc : Int) + off = (tgt : Int)) (kt : ¬ c → J x d k n me tgt ls st L M P) (kf : c → J x d k n me (pc + 3) ls st L M P) : J x d k n me pc ls (.int (jb c) :: st) L M P := by
  refine J_if_eq hd ht (fun h => kt fun q => ?_) (fun h => kf ?_)
  · rw [jb, if_pos q] at h
    exact absurd h (by decide)
  · by_cases q : c
    · exact q
    · rw [jb, if_neg q] at h
      exact absurd rfl h
theorem Jb_ne {c : Prop} [Decidable c] {off : Int} {tgt : Nat} (hd : decode me.2.1 pc = .ok (.ifCond .ne off, 3)) (ht : (pc : Int) + off = (tgt : Int)) (kt : c → J x d k n me tgt ls st L M P) (kf : ¬ c → J x d k n me (pc + 3) ls st L M P) : J x d k n me pc ls (.int (jb c) :: st) L M P := by
  refine J_if_ne hd ht (fun h => kt ?_) (fun h => kf fun q => ?_)
  · by_cases q : c
    · exact q
    · rw [jb, if_neg q] at h
      exact absurd rfl h
  · rw [jb, if_pos q] at h
    exact absurd h (by decide)
theorem Jn_if_eq {a : Nat} {off : Int} {tgt : Nat} (hd : decode me.2.1 pc = .ok (.ifCond .eq off, 3)) (ht : (pc : Int) + off = (tgt : Int)) (ha : a < 2 ^ 31) (kt : a = 0 → J x d k n me tgt ls st L M P) (kf : ¬ a = 0 → J x d k n me (pc + 3) ls st L M P) : J x d k n me pc ls (.int (nI a) :: st) L M P :=
  J_if_eq hd ht (fun h => kt ((nI_eq ha (by decide : 0 < 2 ^ 31)).mp (h.trans nI_0.symm))) (fun h => kf fun q => h (by rw [q]; exact nI_0))
theorem Jn_if_ne {a : Nat} {off : Int} {tgt : Nat} (hd : decode me.2.1 pc = .ok (.ifCond .ne off, 3)) (ht : (pc : Int) + off = (tgt : Int)) (ha : a < 2 ^ 31) (kt : ¬ a = 0 → J x d k n me tgt ls st L M P) (kf : a = 0 → J x d k n me (pc + 3) ls st L M P) : J x d k n me pc ls (.int (nI a) :: st) L M P :=
  J_if_ne hd ht (fun h => kt fun q => h (by rw [q]; exact nI_0)) (fun h => kf ((nI_eq ha (by decide : 0 < 2 ^ 31)).mp (h.trans nI_0.symm)))
theorem Jn_if_gt {a : Nat} {off : Int} {tgt : Nat} (hd : decode me.2.1 pc = .ok (.ifCond .gt off, 3)) (ht : (pc : Int) + off = (tgt : Int)) (ha : a < 2 ^ 31) (kt : 0 < a → J x d k n me tgt ls st L M P) (kf : a = 0 → J x d k n me (pc + 3) ls st L M P) : J x d k n me pc ls (.int (nI a) :: st) L M P :=
  J_if_gt hd ht (fun h => kt ((nI_ltI (by decide : 0 < 2 ^ 31) ha).mp (by rw [nI_0]; exact h))) (fun h => kf (Nat.eq_zero_of_not_pos fun q => h (by rw [← nI_0]; exact (nI_ltI (by decide : 0 < 2 ^ 31) ha).mpr q)))
theorem Jn_if_le {a : Nat} {off : Int} {tgt : Nat} (hd : decode me.2.1 pc = .ok (.ifCond .le off, 3)) (ht : (pc : Int) + off = (tgt : Int)) (ha : a < 2 ^ 31) (kt : a = 0 → J x d k n me tgt ls st L M P) (kf : 0 < a → J x d k n me (pc + 3) ls st L M P) : J x d k n me pc ls (.int (nI a) :: st) L M P :=
  J_if_le hd ht (fun h => kt (Nat.eq_zero_of_not_pos fun q => absurd h (by rw [← nI_0]; exact nI_ge q ha))) (fun h => kf (Nat.pos_of_ne_zero fun q => h (by rw [q, nI_0]; exact Int32.le_refl 0)))
theorem Jn_if_lt {a : Nat} {off : Int} (hd : decode me.2.1 pc = .ok (.ifCond .lt off, 3)) {tgt : Nat} (ht : (pc : Int) + off = (tgt : Int)) (ha : a < 2 ^ 31) (kf : J x d k n me (pc + 3) ls st L M P) : J x d k n me pc ls (.int (nI a) :: st) L M P :=
  J_if_lt hd ht (fun h => absurd h (nI_pos ha)) (fun _ => kf)
theorem Jn_if_ge {a : Nat} {off : Int} {tgt : Nat} (hd : decode me.2.1 pc = .ok (.ifCond .ge off, 3)) (ht : (pc : Int) + off = (tgt : Int)) (ha : a < 2 ^ 31) (kt : J x d k n me tgt ls st L M P) : J x d k n me pc ls (.int (nI a) :: st) L M P :=
  J_if_ge hd ht (fun _ => kt) (fun h => absurd (nI_pos' ha) h)
theorem Jn_iinc {i a z : Nat} {zi : Int} {ls' : List (Option Value)} (hd : decode me.2.1 pc = .ok (.iinc i zi, 3)) (ha : ls[i]? = some (some (.int (nI a)))) (hz : Int32.ofInt zi = nI z) (hs : ls.set i (some (.int (nI (a + z)))) = ls') (hc : jc1 ls = true) (kk : J x d k n me (pc + 3) ls' st L M P) : J x d k n me pc ls st L M P :=
  J_iinc hd ha (by rw [hz, nI_add]) hs hc kk
end J5
-- constants
theorem knb_m100 : (Int8.ofInt (-100)).toInt32 = (-100) := by decide +kernel
theorem knb_m33 : (Int8.ofInt (-33)).toInt32 = (-33) := by decide +kernel
theorem knb_m4 : (Int8.ofInt (-4)).toInt32 = (-4) := by decide +kernel
theorem knb_m3 : (Int8.ofInt (-3)).toInt32 = (-3) := by decide +kernel
theorem knb_m2 : (Int8.ofInt (-2)).toInt32 = (-2) := by decide +kernel
theorem knb_6 : (Int8.ofInt (6)).toInt32 = nI 6 := by decide +kernel
theorem knb_7 : (Int8.ofInt (7)).toInt32 = nI 7 := by decide +kernel
theorem knb_8 : (Int8.ofInt (8)).toInt32 = nI 8 := by decide +kernel
theorem knb_9 : (Int8.ofInt (9)).toInt32 = nI 9 := by decide +kernel
theorem knb_10 : (Int8.ofInt (10)).toInt32 = nI 10 := by decide +kernel
theorem knb_12 : (Int8.ofInt (12)).toInt32 = nI 12 := by decide +kernel
theorem knb_14 : (Int8.ofInt (14)).toInt32 = nI 14 := by decide +kernel
theorem knb_15 : (Int8.ofInt (15)).toInt32 = nI 15 := by decide +kernel
theorem knb_16 : (Int8.ofInt (16)).toInt32 = nI 16 := by decide +kernel
theorem knb_17 : (Int8.ofInt (17)).toInt32 = nI 17 := by decide +kernel
theorem knb_20 : (Int8.ofInt (20)).toInt32 = nI 20 := by decide +kernel
theorem knb_23 : (Int8.ofInt (23)).toInt32 = nI 23 := by decide +kernel
theorem knb_24 : (Int8.ofInt (24)).toInt32 = nI 24 := by decide +kernel
theorem knb_28 : (Int8.ofInt (28)).toInt32 = nI 28 := by decide +kernel
theorem knb_29 : (Int8.ofInt (29)).toInt32 = nI 29 := by decide +kernel
theorem knb_30 : (Int8.ofInt (30)).toInt32 = nI 30 := by decide +kernel
theorem knb_32 : (Int8.ofInt (32)).toInt32 = nI 32 := by decide +kernel
theorem knb_33 : (Int8.ofInt (33)).toInt32 = nI 33 := by decide +kernel
theorem knb_38 : (Int8.ofInt (38)).toInt32 = nI 38 := by decide +kernel
theorem knb_40 : (Int8.ofInt (40)).toInt32 = nI 40 := by decide +kernel
theorem knb_41 : (Int8.ofInt (41)).toInt32 = nI 41 := by decide +kernel
theorem knb_42 : (Int8.ofInt (42)).toInt32 = nI 42 := by decide +kernel
theorem knb_43 : (Int8.ofInt (43)).toInt32 = nI 43 := by decide +kernel
theorem knb_45 : (Int8.ofInt (45)).toInt32 = nI 45 := by decide +kernel
theorem knb_47 : (Int8.ofInt (47)).toInt32 = nI 47 := by decide +kernel
theorem knb_48 : (Int8.ofInt (48)).toInt32 = nI 48 := by decide +kernel
theorem knb_50 : (Int8.ofInt (50)).toInt32 = nI 50 := by decide +kernel
theorem knb_57 : (Int8.ofInt (57)).toInt32 = nI 57 := by decide +kernel
theorem knb_60 : (Int8.ofInt (60)).toInt32 = nI 60 := by decide +kernel
theorem knb_61 : (Int8.ofInt (61)).toInt32 = nI 61 := by decide +kernel
theorem knb_62 : (Int8.ofInt (62)).toInt32 = nI 62 := by decide +kernel
theorem knb_63 : (Int8.ofInt (63)).toInt32 = nI 63 := by decide +kernel
theorem knb_82 : (Int8.ofInt (82)).toInt32 = nI 82 := by decide +kernel
theorem knb_90 : (Int8.ofInt (90)).toInt32 = nI 90 := by decide +kernel
theorem knb_96 : (Int8.ofInt (96)).toInt32 = nI 96 := by decide +kernel
theorem knb_97 : (Int8.ofInt (97)).toInt32 = nI 97 := by decide +kernel
theorem knb_98 : (Int8.ofInt (98)).toInt32 = nI 98 := by decide +kernel
theorem knb_99 : (Int8.ofInt (99)).toInt32 = nI 99 := by decide +kernel
theorem knb_100 : (Int8.ofInt (100)).toInt32 = nI 100 := by decide +kernel
theorem knb_101 : (Int8.ofInt (101)).toInt32 = nI 101 := by decide +kernel
theorem knb_103 : (Int8.ofInt (103)).toInt32 = nI 103 := by decide +kernel
theorem knb_108 : (Int8.ofInt (108)).toInt32 = nI 108 := by decide +kernel
theorem knb_109 : (Int8.ofInt (109)).toInt32 = nI 109 := by decide +kernel
theorem knb_112 : (Int8.ofInt (112)).toInt32 = nI 112 := by decide +kernel
theorem knb_114 : (Int8.ofInt (114)).toInt32 = nI 114 := by decide +kernel
theorem knb_117 : (Int8.ofInt (117)).toInt32 = nI 117 := by decide +kernel
theorem knb_121 : (Int8.ofInt (121)).toInt32 = nI 121 := by decide +kernel
theorem knb_122 : (Int8.ofInt (122)).toInt32 = nI 122 := by decide +kernel
theorem knb_124 : (Int8.ofInt (124)).toInt32 = nI 124 := by decide +kernel
theorem kni_m1 : Int32.ofInt (-1) = (-1) := by decide +kernel
theorem kni_0 : Int32.ofInt (0) = nI 0 := by decide +kernel
theorem kni_1 : Int32.ofInt (1) = nI 1 := by decide +kernel
theorem kni_2 : Int32.ofInt (2) = nI 2 := by decide +kernel
theorem kni_3 : Int32.ofInt (3) = nI 3 := by decide +kernel
theorem kni_4 : Int32.ofInt (4) = nI 4 := by decide +kernel
theorem kni_5 : Int32.ofInt (5) = nI 5 := by decide +kernel
theorem kns_128 : (Int16.ofInt (128)).toInt32 = nI 128 := by decide +kernel
theorem kns_200 : (Int16.ofInt (200)).toInt32 = nI 200 := by decide +kernel
theorem kns_255 : (Int16.ofInt (255)).toInt32 = nI 255 := by decide +kernel
theorem kns_380 : (Int16.ofInt (380)).toInt32 = nI 380 := by decide +kernel
theorem kns_420 : (Int16.ofInt (420)).toInt32 = nI 420 := by decide +kernel
theorem kns_440 : (Int16.ofInt (440)).toInt32 = nI 440 := by decide +kernel
theorem kns_500 : (Int16.ofInt (500)).toInt32 = nI 500 := by decide +kernel
theorem kns_576 : (Int16.ofInt (576)).toInt32 = nI 576 := by decide +kernel
theorem kns_999 : (Int16.ofInt (999)).toInt32 = nI 999 := by decide +kernel
theorem kns_1000 : (Int16.ofInt (1000)).toInt32 = nI 1000 := by decide +kernel
theorem kns_1023 : (Int16.ofInt (1023)).toInt32 = nI 1023 := by decide +kernel
theorem kns_3250 : (Int16.ofInt (3250)).toInt32 = nI 3250 := by decide +kernel
theorem kns_3450 : (Int16.ofInt (3450)).toInt32 = nI 3450 := by decide +kernel
theorem kns_4800 : (Int16.ofInt (4800)).toInt32 = nI 4800 := by decide +kernel
theorem kns_9999 : (Int16.ofInt (9999)).toInt32 = nI 9999 := by decide +kernel
theorem kns_24000 : (Int16.ofInt (24000)).toInt32 = nI 24000 := by decide +kernel
theorem knz_1 : Int32.ofInt 1 = nI 1 := by decide +kernel
theorem knz_6 : Int32.ofInt 6 = nI 6 := by decide +kernel
-- cells by number
theorem job_0 : jL0[0]? = some (7 + 4, 12) := by decide +kernel
theorem jrf_0_0 : jlay 0 0 = 1 + 2 := by decide +kernel
theorem jrf_0_1 : jlay 0 1 = 14 + 2 := by decide +kernel
theorem jrf_0_2 : jlay 0 2 = 27 + 2 := by decide +kernel
theorem jrf_0_3 : jlay 0 3 = 40 + 2 := by decide +kernel
theorem jrf_0_4 : jlay 0 4 = 70 + 2 := by decide +kernel
theorem jrf_0_5 : jlay 0 5 = 74 + 2 := by decide +kernel
theorem jrf_0_6 : jlay 0 6 = 95 + 2 := by decide +kernel
theorem jrf_0_7 : jlay 0 7 = 102 + 2 := by decide +kernel
theorem jrf_0_8 : jlay 0 8 = 126 + 2 := by decide +kernel
theorem jrf_0_9 : jlay 0 9 = 139 + 2 := by decide +kernel
theorem jrf_0_10 : jlay 0 10 = 0 := by decide +kernel
theorem jrf_0_11 : jlay 0 11 = 0 := by decide +kernel
theorem job_1 : jL0[1]? = some (4 + 4, 17) := by decide +kernel
theorem jrf_1_0 : jlay 1 0 = 0 := by decide +kernel
theorem jrf_1_1 : jlay 1 1 = 2 + 2 := by decide +kernel
theorem jrf_1_2 : jlay 1 2 = 3 + 2 := by decide +kernel
theorem jrf_1_3 : jlay 1 3 = 4 + 2 := by decide +kernel
theorem jrf_1_4 : jlay 1 4 = 5 + 2 := by decide +kernel
theorem jrf_1_5 : jlay 1 5 = 6 + 2 := by decide +kernel
theorem jrf_1_6 : jlay 1 6 = 7 + 2 := by decide +kernel
theorem jrf_1_7 : jlay 1 7 = 8 + 2 := by decide +kernel
theorem jrf_1_8 : jlay 1 8 = 9 + 2 := by decide +kernel
theorem jrf_1_9 : jlay 1 9 = 10 + 2 := by decide +kernel
theorem jrf_1_10 : jlay 1 10 = 11 + 2 := by decide +kernel
theorem jrf_1_11 : jlay 1 11 = 12 + 2 := by decide +kernel
theorem jrf_1_12 : jlay 1 12 = 13 + 2 := by decide +kernel
theorem jrf_1_13 : jlay 1 13 = 0 := by decide +kernel
theorem jrf_1_14 : jlay 1 14 = 0 := by decide +kernel
theorem jrf_1_15 : jlay 1 15 = 0 := by decide +kernel
theorem jrf_1_16 : jlay 1 16 = 0 := by decide +kernel
theorem jar_2 : jArr 2 0 48 := jArr_of (by decide +kernel) (by decide +kernel)
theorem jar_3 : jArr 3 0 48 := jArr_of (by decide +kernel) (by decide +kernel)
theorem jar_4 : jArr 4 0 48 := jArr_of (by decide +kernel) (by decide +kernel)
theorem jar_5 : jArr 5 0 48 := jArr_of (by decide +kernel) (by decide +kernel)
theorem jar_6 : jArr 6 0 48 := jArr_of (by decide +kernel) (by decide +kernel)
theorem jar_7 : jArr 7 0 48 := jArr_of (by decide +kernel) (by decide +kernel)
theorem jar_8 : jArr 8 0 48 := jArr_of (by decide +kernel) (by decide +kernel)
theorem jar_9 : jArr 9 0 48 := jArr_of (by decide +kernel) (by decide +kernel)
theorem jar_10 : jArr 10 0 10 := jArr_of (by decide +kernel) (by decide +kernel)
theorem jar_11 : jArr 11 0 10 := jArr_of (by decide +kernel) (by decide +kernel)
theorem jar_12 : jArr 12 0 6 := jArr_of (by decide +kernel) (by decide +kernel)
theorem jar_13 : jArr 13 0 4 := jArr_of (by decide +kernel) (by decide +kernel)
theorem job_14 : jL0[14]? = some (4 + 4, 17) := by decide +kernel
theorem jrf_14_0 : jlay 14 0 = 0 := by decide +kernel
theorem jrf_14_1 : jlay 14 1 = 15 + 2 := by decide +kernel
theorem jrf_14_2 : jlay 14 2 = 16 + 2 := by decide +kernel
theorem jrf_14_3 : jlay 14 3 = 17 + 2 := by decide +kernel
theorem jrf_14_4 : jlay 14 4 = 18 + 2 := by decide +kernel
theorem jrf_14_5 : jlay 14 5 = 19 + 2 := by decide +kernel
theorem jrf_14_6 : jlay 14 6 = 20 + 2 := by decide +kernel
theorem jrf_14_7 : jlay 14 7 = 21 + 2 := by decide +kernel
theorem jrf_14_8 : jlay 14 8 = 22 + 2 := by decide +kernel
theorem jrf_14_9 : jlay 14 9 = 23 + 2 := by decide +kernel
theorem jrf_14_10 : jlay 14 10 = 24 + 2 := by decide +kernel
theorem jrf_14_11 : jlay 14 11 = 25 + 2 := by decide +kernel
theorem jrf_14_12 : jlay 14 12 = 26 + 2 := by decide +kernel
theorem jrf_14_13 : jlay 14 13 = 0 := by decide +kernel
theorem jrf_14_14 : jlay 14 14 = 0 := by decide +kernel
theorem jrf_14_15 : jlay 14 15 = 0 := by decide +kernel
theorem jrf_14_16 : jlay 14 16 = 0 := by decide +kernel
theorem jar_15 : jArr 15 0 48 := jArr_of (by decide +kernel) (by decide +kernel)
theorem jar_16 : jArr 16 0 48 := jArr_of (by decide +kernel) (by decide +kernel)
theorem jar_17 : jArr 17 0 48 := jArr_of (by decide +kernel) (by decide +kernel)
theorem jar_18 : jArr 18 0 48 := jArr_of (by decide +kernel) (by decide +kernel)
theorem jar_19 : jArr 19 0 48 := jArr_of (by decide +kernel) (by decide +kernel)
theorem jar_20 : jArr 20 0 48 := jArr_of (by decide +kernel) (by decide +kernel)
theorem jar_21 : jArr 21 0 48 := jArr_of (by decide +kernel) (by decide +kernel)
theorem jar_22 : jArr 22 0 48 := jArr_of (by decide +kernel) (by decide +kernel)
theorem jar_23 : jArr 23 0 10 := jArr_of (by decide +kernel) (by decide +kernel)
theorem jar_24 : jArr 24 0 10 := jArr_of (by decide +kernel) (by decide +kernel)
theorem jar_25 : jArr 25 0 6 := jArr_of (by decide +kernel) (by decide +kernel)
theorem jar_26 : jArr 26 0 4 := jArr_of (by decide +kernel) (by decide +kernel)
theorem job_27 : jL0[27]? = some (4 + 4, 17) := by decide +kernel
theorem jrf_27_0 : jlay 27 0 = 0 := by decide +kernel
theorem jrf_27_1 : jlay 27 1 = 28 + 2 := by decide +kernel
theorem jrf_27_2 : jlay 27 2 = 29 + 2 := by decide +kernel
theorem jrf_27_3 : jlay 27 3 = 30 + 2 := by decide +kernel
theorem jrf_27_4 : jlay 27 4 = 31 + 2 := by decide +kernel
theorem jrf_27_5 : jlay 27 5 = 32 + 2 := by decide +kernel
theorem jrf_27_6 : jlay 27 6 = 33 + 2 := by decide +kernel
theorem jrf_27_7 : jlay 27 7 = 34 + 2 := by decide +kernel
theorem jrf_27_8 : jlay 27 8 = 35 + 2 := by decide +kernel
theorem jrf_27_9 : jlay 27 9 = 36 + 2 := by decide +kernel
theorem jrf_27_10 : jlay 27 10 = 37 + 2 := by decide +kernel
theorem jrf_27_11 : jlay 27 11 = 38 + 2 := by decide +kernel
theorem jrf_27_12 : jlay 27 12 = 39 + 2 := by decide +kernel
theorem jrf_27_13 : jlay 27 13 = 0 := by decide +kernel
theorem jrf_27_14 : jlay 27 14 = 0 := by decide +kernel
theorem jrf_27_15 : jlay 27 15 = 0 := by decide +kernel
theorem jrf_27_16 : jlay 27 16 = 0 := by decide +kernel
theorem jar_28 : jArr 28 0 48 := jArr_of (by decide +kernel) (by decide +kernel)
theorem jar_29 : jArr 29 0 48 := jArr_of (by decide +kernel) (by decide +kernel)
theorem jar_30 : jArr 30 0 48 := jArr_of (by decide +kernel) (by decide +kernel)
theorem jar_31 : jArr 31 0 48 := jArr_of (by decide +kernel) (by decide +kernel)
theorem jar_32 : jArr 32 0 48 := jArr_of (by decide +kernel) (by decide +kernel)
theorem jar_33 : jArr 33 0 48 := jArr_of (by decide +kernel) (by decide +kernel)
theorem jar_34 : jArr 34 0 48 := jArr_of (by decide +kernel) (by decide +kernel)
theorem jar_35 : jArr 35 0 48 := jArr_of (by decide +kernel) (by decide +kernel)
theorem jar_36 : jArr 36 0 10 := jArr_of (by decide +kernel) (by decide +kernel)
theorem jar_37 : jArr 37 0 10 := jArr_of (by decide +kernel) (by decide +kernel)
theorem jar_38 : jArr 38 0 6 := jArr_of (by decide +kernel) (by decide +kernel)
theorem jar_39 : jArr 39 0 4 := jArr_of (by decide +kernel) (by decide +kernel)
theorem job_40 : jL0[40]? = some (1 + 4, 5) := by decide +kernel
theorem jrf_40_0 : jlay 40 0 = 41 + 2 := by decide +kernel
theorem jrf_40_1 : jlay 40 1 = 42 + 2 := by decide +kernel
theorem jrf_40_2 : jlay 40 2 = 43 + 2 := by decide +kernel
theorem jrf_40_3 : jlay 40 3 = 68 + 2 := by decide +kernel
theorem jrf_40_4 : jlay 40 4 = 69 + 2 := by decide +kernel
theorem jar_41 : jArr 41 0 24 := jArr_of (by decide +kernel) (by decide +kernel)
theorem jar_42 : jArr 42 0 24 := jArr_of (by decide +kernel) (by decide +kernel)
theorem job_43 : jL0[43]? = some (3, 24) := by decide +kernel
theorem jar_44 : jArr 44 0 24 := jArr_of (by decide +kernel) (by decide +kernel)
theorem jar_45 : jArr 45 0 24 := jArr_of (by decide +kernel) (by decide +kernel)
theorem jar_46 : jArr 46 0 24 := jArr_of (by decide +kernel) (by decide +kernel)
theorem jar_47 : jArr 47 0 24 := jArr_of (by decide +kernel) (by decide +kernel)
theorem jar_48 : jArr 48 0 24 := jArr_of (by decide +kernel) (by decide +kernel)
theorem jar_49 : jArr 49 0 24 := jArr_of (by decide +kernel) (by decide +kernel)
theorem jar_50 : jArr 50 0 24 := jArr_of (by decide +kernel) (by decide +kernel)
theorem jar_51 : jArr 51 0 24 := jArr_of (by decide +kernel) (by decide +kernel)
theorem jar_52 : jArr 52 0 24 := jArr_of (by decide +kernel) (by decide +kernel)
theorem jar_53 : jArr 53 0 24 := jArr_of (by decide +kernel) (by decide +kernel)
theorem jar_54 : jArr 54 0 24 := jArr_of (by decide +kernel) (by decide +kernel)
theorem jar_55 : jArr 55 0 24 := jArr_of (by decide +kernel) (by decide +kernel)
theorem jar_56 : jArr 56 0 24 := jArr_of (by decide +kernel) (by decide +kernel)
theorem jar_57 : jArr 57 0 24 := jArr_of (by decide +kernel) (by decide +kernel)
theorem jar_58 : jArr 58 0 24 := jArr_of (by decide +kernel) (by decide +kernel)
theorem jar_59 : jArr 59 0 24 := jArr_of (by decide +kernel) (by decide +kernel)
theorem jar_60 : jArr 60 0 24 := jArr_of (by decide +kernel) (by decide +kernel)
theorem jar_61 : jArr 61 0 24 := jArr_of (by decide +kernel) (by decide +kernel)
theorem jar_62 : jArr 62 0 24 := jArr_of (by decide +kernel) (by decide +kernel)
theorem jar_63 : jArr 63 0 24 := jArr_of (by decide +kernel) (by decide +kernel)
theorem jar_64 : jArr 64 0 24 := jArr_of (by decide +kernel) (by decide +kernel)
theorem jar_65 : jArr 65 0 24 := jArr_of (by decide +kernel) (by decide +kernel)
theorem jar_66 : jArr 66 0 24 := jArr_of (by decide +kernel) (by decide +kernel)
theorem jar_67 : jArr 67 0 24 := jArr_of (by decide +kernel) (by decide +kernel)
theorem jar_68 : jArr 68 0 48 := jArr_of (by decide +kernel) (by decide +kernel)
theorem jar_69 : jArr 69 0 4 := jArr_of (by decide +kernel) (by decide +kernel)
theorem job_70 : jL0[70]? = some (5 + 4, 14) := by decide +kernel
theorem jrf_70_0 : jlay 70 0 = 71 + 2 := by decide +kernel
theorem jrf_70_1 : jlay 70 1 = 0 := by decide +kernel
theorem jrf_70_2 : jlay 70 2 = 0 := by decide +kernel
theorem jrf_70_3 : jlay 70 3 = 0 := by decide +kernel
theorem jrf_70_4 : jlay 70 4 = 1 := by decide +kernel
theorem jrf_70_5 : jlay 70 5 = 0 := by decide +kernel
theorem jrf_70_6 : jlay 70 6 = 72 + 2 := by decide +kernel
theorem jrf_70_7 : jlay 70 7 = 0 := by decide +kernel
theorem jrf_70_8 : jlay 70 8 = 0 := by decide +kernel
theorem jrf_70_9 : jlay 70 9 = 73 + 2 := by decide +kernel
theorem jrf_70_10 : jlay 70 10 = 0 := by decide +kernel
theorem jrf_70_11 : jlay 70 11 = 0 := by decide +kernel
theorem jrf_70_12 : jlay 70 12 = 0 := by decide +kernel
theorem jrf_70_13 : jlay 70 13 = 0 := by decide +kernel
theorem jar_71 : jArr 71 1 96 := jArr_of (by decide +kernel) (by decide +kernel)
theorem jar_72 : jArr 72 0 96 := jArr_of (by decide +kernel) (by decide +kernel)
theorem jar_73 : jArr 73 0 96 := jArr_of (by decide +kernel) (by decide +kernel)
theorem job_74 : jL0[74]? = some (6 + 4, 6) := by decide +kernel
theorem jrf_74_0 : jlay 74 0 = 75 + 2 := by decide +kernel
theorem jrf_74_1 : jlay 74 1 = 76 + 2 := by decide +kernel
theorem jrf_74_2 : jlay 74 2 = 77 + 2 := by decide +kernel
theorem jrf_74_3 : jlay 74 3 = 78 + 2 := by decide +kernel
theorem jrf_74_4 : jlay 74 4 = 79 + 2 := by decide +kernel
theorem jrf_74_5 : jlay 74 5 = 94 + 2 := by decide +kernel
theorem jar_75 : jArr 75 0 14 := jArr_of (by decide +kernel) (by decide +kernel)
theorem jar_76 : jArr 76 0 14 := jArr_of (by decide +kernel) (by decide +kernel)
theorem jar_77 : jArr 77 0 14 := jArr_of (by decide +kernel) (by decide +kernel)
theorem jar_78 : jArr 78 0 14 := jArr_of (by decide +kernel) (by decide +kernel)
theorem job_79 : jL0[79]? = some (3, 14) := by decide +kernel
theorem jar_80 : jArr 80 0 96 := jArr_of (by decide +kernel) (by decide +kernel)
theorem jar_81 : jArr 81 0 96 := jArr_of (by decide +kernel) (by decide +kernel)
theorem jar_82 : jArr 82 0 96 := jArr_of (by decide +kernel) (by decide +kernel)
theorem jar_83 : jArr 83 0 96 := jArr_of (by decide +kernel) (by decide +kernel)
theorem jar_84 : jArr 84 0 96 := jArr_of (by decide +kernel) (by decide +kernel)
theorem jar_85 : jArr 85 0 96 := jArr_of (by decide +kernel) (by decide +kernel)
theorem jar_86 : jArr 86 0 96 := jArr_of (by decide +kernel) (by decide +kernel)
theorem jar_87 : jArr 87 0 96 := jArr_of (by decide +kernel) (by decide +kernel)
theorem jar_88 : jArr 88 0 96 := jArr_of (by decide +kernel) (by decide +kernel)
theorem jar_89 : jArr 89 0 96 := jArr_of (by decide +kernel) (by decide +kernel)
theorem jar_90 : jArr 90 0 96 := jArr_of (by decide +kernel) (by decide +kernel)
theorem jar_91 : jArr 91 0 96 := jArr_of (by decide +kernel) (by decide +kernel)
theorem jar_92 : jArr 92 0 96 := jArr_of (by decide +kernel) (by decide +kernel)
theorem jar_93 : jArr 93 0 96 := jArr_of (by decide +kernel) (by decide +kernel)
theorem jar_94 : jArr 94 0 96 := jArr_of (by decide +kernel) (by decide +kernel)
theorem job_95 : jL0[95]? = some (0 + 4, 9) := by decide +kernel
theorem jrf_95_0 : jlay 95 0 = 96 + 2 := by decide +kernel
theorem jrf_95_1 : jlay 95 1 = 97 + 2 := by decide +kernel
theorem jrf_95_2 : jlay 95 2 = 98 + 2 := by decide +kernel
theorem jrf_95_3 : jlay 95 3 = 99 + 2 := by decide +kernel
theorem jrf_95_4 : jlay 95 4 = 100 + 2 := by decide +kernel
theorem jrf_95_5 : jlay 95 5 = 101 + 2 := by decide +kernel
theorem jrf_95_6 : jlay 95 6 = 0 := by decide +kernel
theorem jrf_95_7 : jlay 95 7 = 0 := by decide +kernel
theorem jrf_95_8 : jlay 95 8 = 0 := by decide +kernel
theorem jar_96 : jArr 96 0 48 := jArr_of (by decide +kernel) (by decide +kernel)
theorem jar_97 : jArr 97 0 48 := jArr_of (by decide +kernel) (by decide +kernel)
theorem jar_98 : jArr 98 0 48 := jArr_of (by decide +kernel) (by decide +kernel)
theorem jar_99 : jArr 99 0 48 := jArr_of (by decide +kernel) (by decide +kernel)
theorem jar_100 : jArr 100 2 48 := jArr_of (by decide +kernel) (by decide +kernel)
theorem jar_101 : jArr 101 0 48 := jArr_of (by decide +kernel) (by decide +kernel)
theorem job_102 : jL0[102]? = some (3 + 4, 8) := by decide +kernel
theorem jrf_102_0 : jlay 102 0 = 103 + 2 := by decide +kernel
theorem jrf_102_1 : jlay 102 1 = 116 + 2 := by decide +kernel
theorem jrf_102_2 : jlay 102 2 = 123 + 2 := by decide +kernel
theorem jrf_102_3 : jlay 102 3 = 0 := by decide +kernel
theorem jrf_102_4 : jlay 102 4 = 124 + 2 := by decide +kernel
theorem jrf_102_5 : jlay 102 5 = 125 + 2 := by decide +kernel
theorem jrf_102_6 : jlay 102 6 = 0 := by decide +kernel
theorem jrf_102_7 : jlay 102 7 = 0 := by decide +kernel
theorem job_103 : jL0[103]? = some (4 + 4, 17) := by decide +kernel
theorem jrf_103_0 : jlay 103 0 = 0 := by decide +kernel
theorem jrf_103_1 : jlay 103 1 = 104 + 2 := by decide +kernel
theorem jrf_103_2 : jlay 103 2 = 105 + 2 := by decide +kernel
theorem jrf_103_3 : jlay 103 3 = 106 + 2 := by decide +kernel
theorem jrf_103_4 : jlay 103 4 = 107 + 2 := by decide +kernel
theorem jrf_103_5 : jlay 103 5 = 108 + 2 := by decide +kernel
theorem jrf_103_6 : jlay 103 6 = 109 + 2 := by decide +kernel
theorem jrf_103_7 : jlay 103 7 = 110 + 2 := by decide +kernel
theorem jrf_103_8 : jlay 103 8 = 111 + 2 := by decide +kernel
theorem jrf_103_9 : jlay 103 9 = 112 + 2 := by decide +kernel
theorem jrf_103_10 : jlay 103 10 = 113 + 2 := by decide +kernel
theorem jrf_103_11 : jlay 103 11 = 114 + 2 := by decide +kernel
theorem jrf_103_12 : jlay 103 12 = 115 + 2 := by decide +kernel
theorem jrf_103_13 : jlay 103 13 = 0 := by decide +kernel
theorem jrf_103_14 : jlay 103 14 = 0 := by decide +kernel
theorem jrf_103_15 : jlay 103 15 = 0 := by decide +kernel
theorem jrf_103_16 : jlay 103 16 = 0 := by decide +kernel
theorem jar_104 : jArr 104 0 48 := jArr_of (by decide +kernel) (by decide +kernel)
theorem jar_105 : jArr 105 0 48 := jArr_of (by decide +kernel) (by decide +kernel)
theorem jar_106 : jArr 106 0 48 := jArr_of (by decide +kernel) (by decide +kernel)
theorem jar_107 : jArr 107 0 48 := jArr_of (by decide +kernel) (by decide +kernel)
theorem jar_108 : jArr 108 0 48 := jArr_of (by decide +kernel) (by decide +kernel)
theorem jar_109 : jArr 109 0 48 := jArr_of (by decide +kernel) (by decide +kernel)
theorem jar_110 : jArr 110 0 48 := jArr_of (by decide +kernel) (by decide +kernel)
theorem jar_111 : jArr 111 0 48 := jArr_of (by decide +kernel) (by decide +kernel)
theorem jar_112 : jArr 112 0 10 := jArr_of (by decide +kernel) (by decide +kernel)
theorem jar_113 : jArr 113 0 10 := jArr_of (by decide +kernel) (by decide +kernel)
theorem jar_114 : jArr 114 0 6 := jArr_of (by decide +kernel) (by decide +kernel)
theorem jar_115 : jArr 115 0 4 := jArr_of (by decide +kernel) (by decide +kernel)
theorem job_116 : jL0[116]? = some (0 + 4, 9) := by decide +kernel
theorem jrf_116_0 : jlay 116 0 = 117 + 2 := by decide +kernel
theorem jrf_116_1 : jlay 116 1 = 118 + 2 := by decide +kernel
theorem jrf_116_2 : jlay 116 2 = 119 + 2 := by decide +kernel
theorem jrf_116_3 : jlay 116 3 = 120 + 2 := by decide +kernel
theorem jrf_116_4 : jlay 116 4 = 121 + 2 := by decide +kernel
theorem jrf_116_5 : jlay 116 5 = 122 + 2 := by decide +kernel
theorem jrf_116_6 : jlay 116 6 = 0 := by decide +kernel
theorem jrf_116_7 : jlay 116 7 = 0 := by decide +kernel
theorem jrf_116_8 : jlay 116 8 = 0 := by decide +kernel
theorem jar_117 : jArr 117 0 48 := jArr_of (by decide +kernel) (by decide +kernel)
theorem jar_118 : jArr 118 0 48 := jArr_of (by decide +kernel) (by decide +kernel)
theorem jar_119 : jArr 119 0 48 := jArr_of (by decide +kernel) (by decide +kernel)
theorem jar_120 : jArr 120 0 48 := jArr_of (by decide +kernel) (by decide +kernel)
theorem jar_121 : jArr 121 2 48 := jArr_of (by decide +kernel) (by decide +kernel)
theorem jar_122 : jArr 122 0 48 := jArr_of (by decide +kernel) (by decide +kernel)
theorem jar_123 : jArr 123 0 3 := jArr_of (by decide +kernel) (by decide +kernel)
theorem jar_124 : jArr 124 2 30 := jArr_of (by decide +kernel) (by decide +kernel)
theorem jar_125 : jArr 125 0 4800 := jArr_of (by decide +kernel) (by decide +kernel)
theorem job_126 : jL0[126]? = some (2 + 4, 4) := by decide +kernel
theorem jrf_126_0 : jlay 126 0 = 127 + 2 := by decide +kernel
theorem jrf_126_1 : jlay 126 1 = 128 + 2 := by decide +kernel
theorem jrf_126_2 : jlay 126 2 = 137 + 2 := by decide +kernel
theorem jrf_126_3 : jlay 126 3 = 138 + 2 := by decide +kernel
theorem jar_127 : jArr 127 0 8 := jArr_of (by decide +kernel) (by decide +kernel)
theorem job_128 : jL0[128]? = some (3, 8) := by decide +kernel
theorem jar_129 : jArr 129 0 4 := jArr_of (by decide +kernel) (by decide +kernel)
theorem jar_130 : jArr 130 0 4 := jArr_of (by decide +kernel) (by decide +kernel)
theorem jar_131 : jArr 131 0 4 := jArr_of (by decide +kernel) (by decide +kernel)
theorem jar_132 : jArr 132 0 4 := jArr_of (by decide +kernel) (by decide +kernel)
theorem jar_133 : jArr 133 0 4 := jArr_of (by decide +kernel) (by decide +kernel)
theorem jar_134 : jArr 134 0 4 := jArr_of (by decide +kernel) (by decide +kernel)
theorem jar_135 : jArr 135 0 4 := jArr_of (by decide +kernel) (by decide +kernel)
theorem jar_136 : jArr 136 0 4 := jArr_of (by decide +kernel) (by decide +kernel)
theorem jar_137 : jArr 137 0 12 := jArr_of (by decide +kernel) (by decide +kernel)
theorem jar_138 : jArr 138 0 29 := jArr_of (by decide +kernel) (by decide +kernel)
theorem jar_139 : jArr 139 0 60 := jArr_of (by decide +kernel) (by decide +kernel)
theorem job_140 : jL0[140]? = some (8 + 4, 37) := by decide +kernel
theorem jrf_140_0 : jlay 140 0 = 141 + 2 := by decide +kernel
theorem jrf_140_1 : jlay 140 1 = 142 + 2 := by decide +kernel
theorem jrf_140_2 : jlay 140 2 = 143 + 2 := by decide +kernel
theorem jrf_140_3 : jlay 140 3 = 0 := by decide +kernel
theorem jrf_140_4 : jlay 140 4 = 144 + 2 := by decide +kernel
theorem jrf_140_5 : jlay 140 5 = 145 + 2 := by decide +kernel
theorem jrf_140_6 : jlay 140 6 = 146 + 2 := by decide +kernel
theorem jrf_140_7 : jlay 140 7 = 147 + 2 := by decide +kernel
theorem jrf_140_8 : jlay 140 8 = 148 + 2 := by decide +kernel
theorem jrf_140_9 : jlay 140 9 = 149 + 2 := by decide +kernel
theorem jrf_140_10 : jlay 140 10 = 150 + 2 := by decide +kernel
theorem jrf_140_11 : jlay 140 11 = 0 := by decide +kernel
theorem jrf_140_12 : jlay 140 12 = 0 := by decide +kernel
theorem jrf_140_13 : jlay 140 13 = 0 := by decide +kernel
theorem jrf_140_14 : jlay 140 14 = 0 := by decide +kernel
theorem jrf_140_15 : jlay 140 15 = 0 := by decide +kernel
theorem jrf_140_16 : jlay 140 16 = 0 := by decide +kernel
theorem jrf_140_17 : jlay 140 17 = 0 := by decide +kernel
theorem jrf_140_18 : jlay 140 18 = 0 := by decide +kernel
theorem jrf_140_19 : jlay 140 19 = 0 := by decide +kernel
theorem jrf_140_20 : jlay 140 20 = 0 := by decide +kernel
theorem jrf_140_21 : jlay 140 21 = 0 := by decide +kernel
theorem jrf_140_22 : jlay 140 22 = 151 + 2 := by decide +kernel
theorem jrf_140_23 : jlay 140 23 = 152 + 2 := by decide +kernel
theorem jrf_140_24 : jlay 140 24 = 153 + 2 := by decide +kernel
theorem jrf_140_25 : jlay 140 25 = 154 + 2 := by decide +kernel
theorem jrf_140_26 : jlay 140 26 = 155 + 2 := by decide +kernel
theorem jrf_140_27 : jlay 140 27 = 156 + 2 := by decide +kernel
theorem jrf_140_28 : jlay 140 28 = 0 := by decide +kernel
theorem jrf_140_29 : jlay 140 29 = 0 := by decide +kernel
theorem jrf_140_30 : jlay 140 30 = 0 := by decide +kernel
theorem jrf_140_31 : jlay 140 31 = 0 := by decide +kernel
theorem jrf_140_32 : jlay 140 32 = 0 := by decide +kernel
theorem jrf_140_33 : jlay 140 33 = 0 := by decide +kernel
theorem jrf_140_34 : jlay 140 34 = 157 + 2 := by decide +kernel
theorem jrf_140_35 : jlay 140 35 = 0 := by decide +kernel
theorem jrf_140_36 : jlay 140 36 = 158 + 2 := by decide +kernel
theorem jar_141 : jArr 141 0 3450 := jArr_of (by decide +kernel) (by decide +kernel)
theorem jar_142 : jArr 142 0 3450 := jArr_of (by decide +kernel) (by decide +kernel)
theorem jar_143 : jArr 143 0 3450 := jArr_of (by decide +kernel) (by decide +kernel)
theorem jar_144 : jArr 144 0 24 := jArr_of (by decide +kernel) (by decide +kernel)
theorem jar_145 : jArr 145 0 24 := jArr_of (by decide +kernel) (by decide +kernel)
theorem jar_146 : jArr 146 0 576 := jArr_of (by decide +kernel) (by decide +kernel)
theorem jar_147 : jArr 147 0 48 := jArr_of (by decide +kernel) (by decide +kernel)
theorem jar_148 : jArr 148 0 48 := jArr_of (by decide +kernel) (by decide +kernel)
theorem jar_149 : jArr 149 0 24 := jArr_of (by decide +kernel) (by decide +kernel)
theorem jar_150 : jArr 150 0 96 := jArr_of (by decide +kernel) (by decide +kernel)
theorem jar_151 : jArr 151 0 128 := jArr_of (by decide +kernel) (by decide +kernel)
theorem jar_152 : jArr 152 0 100 := jArr_of (by decide +kernel) (by decide +kernel)
theorem jar_153 : jArr 153 2 48 := jArr_of (by decide +kernel) (by decide +kernel)
theorem jar_154 : jArr 154 0 48 := jArr_of (by decide +kernel) (by decide +kernel)
theorem jar_155 : jArr 155 1 24000 := jArr_of (by decide +kernel) (by decide +kernel)
theorem jar_156 : jArr 156 0 48 := jArr_of (by decide +kernel) (by decide +kernel)
theorem jar_157 : jArr 157 0 60 := jArr_of (by decide +kernel) (by decide +kernel)
theorem jar_158 : jArr 158 0 60 := jArr_of (by decide +kernel) (by decide +kernel)
theorem J_alen {x : jX} {d k n : Nat} {me : jMe} {pc : Nat} {ls : List (Option Value)} {st : List Value} {L : jL} {M : jM} {P : jP} {id N : Nat} (hd : decode me.2.1 pc = .ok (.arraylength, 1)) (hL : L[id]? = some (0, N)) (kk : J x d k n me (pc + 1) ls (.int (nI N) :: st) L M P) : J x d k n me pc ls (.ref (jxb x + id) :: st) L M P := by
  intro p e R s m args below meth c mc ms H locs cells slots A G hp hS hl h1 h2
  exact W.alen (n := nI N) G.1 G.2.1 (hp.arr hL (by decide)) (jK_arr G.2.2.2.2.2.2.2.2.1 (t := 0) (by decide) N (M id)) (by rw [arrV_size]; rfl) rfl rfl hd (kk p e R s m args below meth c mc ms H locs cells slots A G hp hS hl h1 h2)
theorem K_alen {x : jX} {d : Nat} {me : jMe} {pc : Nat} {ls : List (Option Value)} {st : List Value} {m : jm} {Q : jq} {id N : Nat} (hd : decode me.2.1 pc = .ok (.arraylength, 1)) (hA : jArr id 0 N) (kk : K x d me (pc + 1) ls (.int (nI N) :: st) m Q) : K x d me pc ls (.ref (jxb x + id) :: st) m Q := J_alen hd hA.1 kk
