-- ===== the law's start: what lies below, known =====
theorem w_Xof {args : Array Value} {s : State} {tm : Term} {N : Nat} {f : Nat → Int32} (hN : N < 2 ^ 31) (harr : (Cond.arrayOf tm .int).before args s = true) (hlen : (Cond.eq (.length tm) (.int (Int32.ofNat N))).before args s = true) (hel : ∀ j : Nat, j < N → (Cond.eq (.elem tm (.int (Int32.ofNat j))) (.int (f j))).before args s = true) : ∃ t : Nat, tm.eval args s none [] s = some (.ref t) ∧ va_X t N f s s.heap ∧ t < s.heap.size := by
  have hv := va_eqt hlen
  obtain ⟨t, cell, ht, hat, hv2⟩ := Term.length_spec hv
  have hsz : cell.slots.size < 2 ^ 31 := by
    have hv3 := hv
    simp only [Term.eval, ht, hat, Option.bind_eq_bind, Option.bind_some] at hv3
    by_cases hlt : cell.slots.size < 2147483648
    · exact hlt
    · simp [hlt] at hv3
  obtain ⟨hcell, hkn, -, -⟩ := State.arrayAt?_spec hat
  obtain ⟨hof, -⟩ := Cond.arrayOf_spec harr ht hcell
  obtain ⟨t', ht', hT⟩ := va_Tof (ty := .int) (f := fun j => .int (f j)) (A := fun _ => False) hN harr hv (fun j hj => va_eqt (hel j hj)) (fun _ _ h => h)
  cases ht.symm.trans ht'
  obtain ⟨cell2, k1, k2, k3, k4, k5, k6, -⟩ := hT
  cases hcell.symm.trans k1
  have hs : cell.slots.size = N := (nI_eq hsz hN).mp k5
  exact ⟨t, ht, ⟨cell, hcell, hof, hkn, hs, k6⟩, (Array.getElem?_eq_some_iff.mp hcell).1⟩
theorem w_arr {args : Array Value} {s : State} {ty : FieldType} (h : (Cond.arrayClass ty).before args s = true) : ∃ c : ClassId, s.vm.findClass ("[" ++ ty.toString) = some c ∧ ArrOfT s c ty := by
  obtain ⟨c, k, comp, h1, h2, h3⟩ := Cond.arrayClass_spec h
  exact ⟨c, h1, fun n z => ⟨fun _ q => (by cases q), k, h2, comp, h3⟩⟩
theorem w_arr2 {args : Array Value} {s : State} (h : (Cond.arrayOver (.array .int)).before args s = true) : ∃ c : ClassId, s.vm.findClass ("[" ++ (FieldType.array .int).toString) = some c ∧ ArrOfT s c (.array .int) := by
  obtain ⟨comp, c, k, h1, h2, h3, h4, h5⟩ := arrayOverA_spec h
  exact ⟨c, h5, fun n z => ⟨fun _ q => (by cases q), k, h3, comp, h4⟩⟩
theorem w_kn {args : Array Value} {s : State} (hts : ∀ w ∈ lw_tbl, w.before args s = true) : ∃ D : va_G, ∀ (k : Nat) (q : vw_C), vwCl[k]? = some q → u_Kn s q.1 q.2.1 q.2.2 (D.1 k) (D.2 k) := by
  have hj : ∀ w ∈ jgw, w.before args s = true := fun w hw => hts w (List.mem_filter.mp hw).1
  obtain ⟨c0, i0, h0⟩ := u_known (C := RX0) (T := TX0) (N := 9) (n := 9) hj inX0 (hts (.instantiable RX0 9) (by decide +kernel))
  obtain ⟨c1, i1, h1⟩ := u_known (C := RX1) (T := TX1) (N := 5) (n := 5) hj inX1 (hts (.instantiable RX1 5) (by decide +kernel))
  obtain ⟨c2, i2, h2⟩ := u_known (C := RX2) (T := TX2) (N := 4) (n := 4) hj inX2 (hts (.instantiable RX2 4) (by decide +kernel))
  obtain ⟨c3, i3, h3⟩ := u_known (C := RX3) (T := TX3) (N := 8) (n := 8) hj inX3 (hts (.instantiable RX3 8) (by decide +kernel))
  obtain ⟨c4, i4, h4⟩ := u_known (C := RX4) (T := TX4) (N := 17) (n := 17) hj inX4 (hts (.instantiable RX4 17) (by decide +kernel))
  obtain ⟨c5, i5, h5⟩ := u_known (C := RX5) (T := TX5) (N := 14) (n := 14) hj inX5 (hts (.instantiable RX5 14) (by decide +kernel))
  obtain ⟨c6, i6, h6⟩ := u_known (C := RX6) (T := TX6) (N := 6) (n := 6) hj inX6 (hts (.instantiable RX6 6) (by decide +kernel))
  obtain ⟨c7, i7, h7⟩ := u_known (C := RX7) (T := TX7) (N := 12) (n := 12) hj inX7 (hts (.instantiable RX7 12) (by decide +kernel))
  obtain ⟨c8, i8, h8⟩ := u_known (C := RX8) (T := TX8) (N := 37) (n := 37) hj inX8 (hts (.instantiable RX8 37) (by decide +kernel))
  refine ⟨(fun k => if k = 0 then c0 else if k = 1 then c1 else if k = 2 then c2 else if k = 3 then c3 else if k = 4 then c4 else if k = 5 then c5 else if k = 6 then c6 else if k = 7 then c7 else c8, fun k => if k = 0 then i0 else if k = 1 then i1 else if k = 2 then i2 else if k = 3 then i3 else if k = 4 then i4 else if k = 5 then i5 else if k = 6 then i6 else if k = 7 then i7 else i8), ?_⟩
  intro k q hq
  match k, hq with
  | 0, hq => cases hq; exact h0
  | 1, hq => cases hq; exact h1
  | 2, hq => cases hq; exact h2
  | 3, hq => cases hq; exact h3
  | 4, hq => cases hq; exact h4
  | 5, hq => cases hq; exact h5
  | 6, hq => cases hq; exact h6
  | 7, hq => cases hq; exact h7
  | 8, hq => cases hq; exact h8
  | k + 9, hq => simp at hq
theorem w_str {args : Array Value} {s : State} {A : Nat → Prop} (hA : ∀ a : Nat, a < s.heap.size → ¬ A a) (hts : ∀ w ∈ lw_tbl, w.before args s = true) (hg : (Jvm.Cond.and given_1 narrow_1).before args s = true) : ∃ adK adV : Nat → Nat, ∀ k, k < 5 → va_O "java/lang/String" (adK k) A s s.heap ∧ va_OF "java/lang/String" "coder" "B" (.int 0) (adK k) A s s.heap ∧ va_OF "java/lang/String" "value" "[B" (.ref (adV k)) (adK k) A s s.heap ∧ va_T .byte (adV k) (jsb k).length (fun j => .int ((jsb k).getD j 0)) A s s.heap ∧ vk_R "SkinShow$Tape" (jsi k) (jst k) (adK k) s := by
  have hs := flat_of_before _ hg
  obtain ⟨adK, adV, ⟨hK, -⟩, hev⟩ := vk_Sof (args := args) (s := s) (N := 5) (tm := fun i => .string "SkinShow$Tape" (jsi i)) (len := [0, 3, 4, 4, 4]) (byt := [jsb 0, jsb 1, jsb 2, jsb 3, jsb 4]) (A := A)
    (by decide)
    (fun i hi => by rcases (show i = 0 ∨ i = 1 ∨ i = 2 ∨ i = 3 ∨ i = 4 by omega) with rfl | rfl | rfl | rfl | rfl <;> exact hs _ (by decide +kernel))
    (fun i hi => by rcases (show i = 0 ∨ i = 1 ∨ i = 2 ∨ i = 3 ∨ i = 4 by omega) with rfl | rfl | rfl | rfl | rfl <;> exact hs _ (by decide +kernel))
    (fun i hi => by rcases (show i = 0 ∨ i = 1 ∨ i = 2 ∨ i = 3 ∨ i = 4 by omega) with rfl | rfl | rfl | rfl | rfl <;> exact hs _ (by decide +kernel))
    (fun i hi => by rcases (show i = 0 ∨ i = 1 ∨ i = 2 ∨ i = 3 ∨ i = 4 by omega) with rfl | rfl | rfl | rfl | rfl <;> exact hs _ (by decide +kernel))
    (fun i hi j hj => by
      have key : ∀ i, i < 5 → ∀ j, j < ([0, 3, 4, 4, 4] : List Nat).getD i 0 → (Cond.eq (.elem (.field (.string "SkinShow$Tape" (jsi i)) "java/lang/String" "value" "[B") (.int (Int32.ofNat j))) (.int ((([jsb 0, jsb 1, jsb 2, jsb 3, jsb 4] : List (List Int32)).getD i []).getD j 0))) ∈ flatC (Jvm.Cond.and given_1 narrow_1) := by decide +kernel
      exact hs _ (key i hi j hj))
    (fun i j hi hj hne => by
      have key : ∀ i, i < 5 → ∀ j, j < 5 → i ≠ j → (Cond.not (Cond.eq (.string "SkinShow$Tape" (jsi i)) (.string "SkinShow$Tape" (jsi j)))) ∈ flatC (Jvm.Cond.and given_1 narrow_1) ∨ (Cond.not (Cond.eq (.string "SkinShow$Tape" (jsi j)) (.string "SkinShow$Tape" (jsi i)))) ∈ flatC (Jvm.Cond.and given_1 narrow_1) := by decide +kernel
      exact (key i hi j hj hne).imp (fun h => hs _ h) (fun h => hs _ h)) hA
  refine ⟨adK, adV, fun k hk => ?_⟩
  have hl : ([0, 3, 4, 4, 4] : List Nat).getD k 0 = (jsb k).length ∧ ([jsb 0, jsb 1, jsb 2, jsb 3, jsb 4] : List (List Int32)).getD k [] = jsb k := by
    rcases (show k = 0 ∨ k = 1 ∨ k = 2 ∨ k = 3 ∨ k = 4 by omega) with rfl | rfl | rfl | rfl | rfl <;> exact ⟨rfl, rfl⟩
  obtain ⟨q1, q2, q3, q4⟩ := hK k hk
  rw [hl.1, hl.2] at q4
  refine ⟨q1, q2, q3, q4, vk_R.of ?_ (hev k hk)⟩
  have key : ∀ k, k < 5 → (Cond.stringRef "SkinShow$Tape" (jsi k) (jst k)) ∈ lw_tbl := by decide +kernel
  exact hts _ (key k hk)
theorem w_ref {args : Array Value} {s : State} {k : Nat} (hk : k < 4) (hg : (Jvm.Cond.and given_1 narrow_1).before args s = true) : ∃ t : Nat, (Term.static "SkinShow" (jtn k) "[I").eval args s none [] s = some (.ref t) ∧ va_X t (jtb k).length (fun j => (jtb k).getD j 0) s s.heap ∧ t < s.heap.size := by
  have hs := flat_of_before _ hg
  have k1 : ∀ k, k < 4 → (Cond.arrayOf (.static "SkinShow" (jtn k) "[I") .int) ∈ flatC (Jvm.Cond.and given_1 narrow_1) := by decide +kernel
  have k2 : ∀ k, k < 4 → (Cond.eq (.length (.static "SkinShow" (jtn k) "[I")) (.int (Int32.ofNat (jtb k).length))) ∈ flatC (Jvm.Cond.and given_1 narrow_1) := by decide +kernel
  have k3 : ∀ k, k < 4 → ∀ j, j < (jtb k).length → (Cond.eq (.elem (.static "SkinShow" (jtn k) "[I") (.int (Int32.ofNat j))) (.int ((jtb k).getD j 0))) ∈ flatC (Jvm.Cond.and given_1 narrow_1) := by decide +kernel
  have k4 : ∀ k, k < 4 → (jtb k).length < 2 ^ 31 := by decide +kernel
  exact w_Xof (k4 k hk) (hs _ (k1 k hk)) (hs _ (k2 k hk)) (fun j hj => hs _ (k3 k hk j hj))
theorem w_st {args : Array Value} {s : State} {k t : Nat} {A : Nat → Prop} (hA : ∀ a : Nat, a < s.heap.size → ¬ A a) (hk : k < 4) (hts : ∀ w ∈ lw_tbl, w.before args s = true) (h : (Term.static "SkinShow" (jtn k) "[I").eval args s none [] s = some (.ref t)) : va_Z "SkinShow" (jtn k) "[I" (.ref t) A s s.heap := by
  have k1 : ∀ k, k < 4 → (Cond.laysStatic "SkinShow" (jtn k) "[I") ∈ lw_tbl := by decide +kernel
  exact va_Zof (hts _ (k1 k hk)) (hts (.initialized "SkinShow") (by decide +kernel)) h hA
/-- everything known at the start -/
theorem w_old {s : State} {b L : Nat} {xs : Nat → Int32} (l : Launch) (hts : ∀ w ∈ lw_tbl, w.before #[Value.ref b] s = true) (hg : (Jvm.Cond.and given_1 narrow_1).before #[Value.ref b] s = true) (hX : va_X b L xs s s.heap) (hbl : b < s.heap.size) : ∃ (D : va_G) (a0 a1 : Nat → Nat) (tt : Nat → Nat) (ar : Nat → ClassId), jH (l, s.heap.size, (a0, a1), tt, D, ar, (b, L, xs)) s s.heap := by
  have hs := flat_of_before _ hg
  have hA : ∀ a : Nat, a < s.heap.size → ¬ (fun q => s.heap.size ≤ q) a := fun a h => Nat.not_le.mpr h
  obtain ⟨D, hD⟩ := w_kn hts
  obtain ⟨a0, a1, hS⟩ := w_str (A := fun q => s.heap.size ≤ q) hA hts hg
  obtain ⟨t0, e0, x0, l0⟩ := w_ref (k := 0) (by decide) hg
  obtain ⟨t1, e1, x1, l1⟩ := w_ref (k := 1) (by decide) hg
  obtain ⟨t2, e2, x2, l2⟩ := w_ref (k := 2) (by decide) hg
  obtain ⟨t3, e3, x3, l3⟩ := w_ref (k := 3) (by decide) hg
  obtain ⟨y0, f0, g0⟩ := w_arr (hts (.arrayClass .int) (by decide +kernel))
  obtain ⟨y1, f1, g1⟩ := w_arr (hts (.arrayClass .byte) (by decide +kernel))
  obtain ⟨y2, f2, g2⟩ := w_arr (hts (.arrayClass .boolean) (by decide +kernel))
  obtain ⟨y3, f3, g3⟩ := w_arr2 (hts (.arrayOver (.array .int)) (by decide +kernel))
  have hC : va_Z "java/lang/String" "COMPACT_STRINGS" "Z" (.int 1) (fun q => s.heap.size ≤ q) s s.heap := va_Zof (hts (.laysStatic "java/lang/String" "COMPACT_STRINGS" "Z") (by decide +kernel)) (hts (.initialized "java/lang/String") (by decide +kernel)) (va_eqi (hs _ (by decide +kernel))) hA
  have hF : va_Zq "jdk/internal/util/Preconditions" "SIOOBE_FORMATTER" "Ljava/util/function/BiFunction;" (fun q => s.heap.size ≤ q) s s.heap := va_Zqof (hts (.laysStatic "jdk/internal/util/Preconditions" "SIOOBE_FORMATTER" "Ljava/util/function/BiFunction;") (by decide +kernel)) (hts (.initialized "jdk/internal/util/Preconditions") (by decide +kernel)) (hs _ (by decide +kernel)) hA
  refine ⟨D, a0, a1, fun k => if k = 0 then t0 else if k = 1 then t1 else if k = 2 then t2 else t3, fun k => if k = 0 then y0 else if k = 1 then y1 else if k = 2 then y2 else y3, ⟨hD, fun k q hq => ?_⟩, fun w hw => ?_, Nat.le_refl _, fun k hk => ?_, fun k hk => ?_, hC, ?_, hX, hbl⟩
  · match k, hq with
    | 0, hq => cases hq; exact ⟨g0, f0⟩
    | 1, hq => cases hq; exact ⟨g1, f1⟩
    | 2, hq => cases hq; exact ⟨g2, f2⟩
    | 3, hq => cases hq; exact ⟨g3, f3⟩
    | k + 4, hq => simp [jtys] at hq
  · have hm : w ∈ lw_tbl := List.mem_append_right _ (List.mem_filter.mp hw).1
    have hb := hts w hm
    rcases jnw_cases hw with ⟨a, i, b', n, d, g, rfl⟩ | ⟨a, i, y, g, rfl⟩ | rfl
    · exact va_Nw.of rfl hb
    · exact va_Nw.of rfl hb
    · exact hb
  · rcases (show k = 0 ∨ k = 1 ∨ k = 2 ∨ k = 3 by omega) with rfl | rfl | rfl | rfl
    · exact ⟨x0, l0, w_st hA (by decide) hts e0⟩
    · exact ⟨x1, l1, w_st hA (by decide) hts e1⟩
    · exact ⟨x2, l2, w_st hA (by decide) hts e2⟩
    · exact ⟨x3, l3, w_st hA (by decide) hts e3⟩
  · exact hS k hk
  · rcases hF with h | ⟨t, h⟩
    · exact ⟨_, Or.inl rfl, h⟩
    · exact ⟨_, Or.inr ⟨t, rfl⟩, h⟩
theorem w_fresh {s t : State} {L : List Loc} {k n : Nat} (h : s.sameButNew t L k n) (hL : ∀ q ∈ L, s.heap.size ≤ q.base) : s.sameButNew t [] k n := by
  obtain ⟨h1, h2, h3, h4, h5, h6⟩ := h
  refine ⟨h1, h2, h3, h4, h5, fun a c hc => ?_⟩
  obtain ⟨c', q1, q2, q3, q4⟩ := h6 a c hc
  have ha : a < s.heap.size := (Array.getElem?_eq_some_iff.mp hc).1
  exact ⟨c', q1, q2, q3, fun i _ => q4 i (fun z => absurd (hL _ z) (Nat.not_le.mpr ha))⟩
