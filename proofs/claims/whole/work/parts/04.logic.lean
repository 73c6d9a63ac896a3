-- ===== J: the machine's judgement W with the machine left out: a heap by numbers (cell b + id is of kind L[id], its places hold M id), locals by place, a depth d, a budget of k cells and n places =====
abbrev jX : Type := Launch × Nat × ((Nat → Nat) × (Nat → Nat)) × (Nat → Nat) × va_G × (Nat → ClassId) × (Nat × Nat × (Nat → Int32))
abbrev jxL (x : jX) : Launch := x.1
abbrev jxb (x : jX) : Nat := x.2.1
abbrev jxs (x : jX) : Nat → Nat := x.2.2.1.1
abbrev jxv (x : jX) : Nat → Nat := x.2.2.1.2
abbrev jxt (x : jX) : Nat → Nat := x.2.2.2.1
abbrev jxD (x : jX) : va_G := x.2.2.2.2.1
abbrev jxa (x : jX) : Nat → ClassId := x.2.2.2.2.2.1
abbrev jxS (x : jX) : Nat × Nat × (Nat → Int32) := x.2.2.2.2.2.2
abbrev jL : Type := List (Nat × Nat)
abbrev jM : Type := Nat → Nat → Value
abbrev jP : Type := Option Value → jL → jM → Prop
def jA (x : jX) : Nat → Prop := fun q => jxb x ≤ q
/-- arrays' kinds: 0 ints, 1 bytes, 2 booleans, 3 rows of ints; from 4 on objects, by vwCl -/
def jty : Nat → FieldType
  | 0 => .int
  | 1 => .byte
  | 2 => .boolean
  | _ => .array .int
abbrev jtys (x : jX) : List (ClassId × FieldType) := [(jxa x 0, .int), (jxa x 1, .byte), (jxa x 2, .boolean), (jxa x 3, .array .int)]
def j_at (x : jX) (ct : Nat × Nat) (f : Nat → Value) (a : Nat) (H : Heap) : Prop :=
  if ct.1 < 4 then H[a]? = some (arrV (jxa x ct.1) ct.2 f) else t_OB a ((jxD x).1 (ct.1 - 4)) ct.2 ((jxD x).2 (ct.1 - 4)) H f
def j_hp (x : jX) (L : jL) (M : jM) (H : Heap) : Prop := H.size = jxb x + L.length ∧ ∀ (id : Nat) (ct : Nat × Nat), L[id]? = some ct → j_at x ct (M id) (jxb x + id) H
/-- the tables that the class reads, by number: KIND_ABOVE, RULE_AT_FIRST, RULE_LEAST, RULE_MOST -/
def jtb : Nat → List Int32
  | 0 => [-1000000005, 0, 0, 2, 0, 0]
  | 1 => [50, 0, 20, 6]
  | 2 => [0, 0, 1, 1]
  | _ => [99, 9, 99, 48]
def jtn : Nat → String
  | 0 => "KIND_ABOVE"
  | 1 => "RULE_AT_FIRST"
  | 2 => "RULE_LEAST"
  | _ => "RULE_MOST"
/-- texts: "", eye, dgmc, pull, lreb -/
def jsb : Nat → List Int32
  | 0 => []
  | 1 => [101, 121, 101]
  | 2 => [100, 103, 109, 99]
  | 3 => [112, 117, 108, 108]
  | _ => [108, 114, 101, 98]
def jst : Nat → String
  | 0 => ""
  | 1 => "eye"
  | 2 => "dgmc"
  | 3 => "pull"
  | _ => "lreb"
def jsi : Nat → Nat
  | 0 => 25
  | 1 => 96
  | 2 => 102
  | 3 => 104
  | _ => 106
/-- what lies below b, unwritten: tables, texts, the script -/
def j_old (x : jX) (U : State) (H : Heap) : Prop :=
  (∀ k, k < 4 → va_X (jxt x k) (jtb k).length (fun j => (jtb k).getD j 0) U H ∧ jxt x k < jxb x ∧ va_Z "SkinShow" (jtn k) "[I" (.ref (jxt x k)) (jA x) U H) ∧
  (∀ k, k < 5 → va_O "java/lang/String" (jxs x k) (jA x) U H ∧ va_OF "java/lang/String" "coder" "B" (.int 0) (jxs x k) (jA x) U H ∧ va_OF "java/lang/String" "value" "[B" (.ref (jxv x k)) (jxs x k) (jA x) U H ∧ va_T .byte (jxv x k) (jsb k).length (fun j => .int ((jsb k).getD j 0)) (jA x) U H ∧ vk_R "SkinShow$Tape" (jsi k) (jst k) (jxs x k) U) ∧
  va_Z "java/lang/String" "COMPACT_STRINGS" "Z" (.int 1) (jA x) U H ∧
  (∃ v, (v = .null ∨ ∃ a, v = .ref a) ∧ va_Z "jdk/internal/util/Preconditions" "SIOOBE_FORMATTER" "Ljava/util/function/BiFunction;" v (jA x) U H) ∧
  va_X (jxS x).1 (jxS x).2.1 (jxS x).2.2 U H ∧ (jxS x).1 < jxb x
theorem j_old.kept {x : jX} {U : State} {H H1 : Heap} (h : j_old x U H) (hb : jxb x ≤ H.size) (hq : ∀ a : Nat, a < H.size → ¬ jA x a → H1[a]? = H[a]?) : j_old x U H1 := by
  obtain ⟨h1, h2, h3, ⟨v, h4, h5⟩, h6, h7⟩ := h
  have hb' : ∀ a : Nat, a < jxb x → H1[a]? = H[a]? := fun a ha => hq a (Nat.lt_of_lt_of_le ha hb) (fun z => absurd (show jxb x ≤ a from z) (Nat.not_le.mpr ha))
  exact ⟨fun k hk => ⟨(h1 k hk).1.kept (hb' _ (h1 k hk).2.1), (h1 k hk).2.1, (h1 k hk).2.2.kept hq⟩,
    fun k hk => ⟨(h2 k hk).1.kept hq, (h2 k hk).2.1.kept hq, (h2 k hk).2.2.1.kept hq, (h2 k hk).2.2.2.1.kept hq, (h2 k hk).2.2.2.2⟩,
    h3.kept hq, ⟨v, h4, h5.kept hq⟩, h6.kept (hb' _ h7), h7⟩
theorem j_old.warm {x : jX} {s U : State} {H : Heap} (hW : s.WarmedH U.vm) (h : j_old x s H) : j_old x U H := by
  have hvm : s.vm.Alike U.vm := hW.alike
  obtain ⟨h1, h2, h3, ⟨v, h4, h5⟩, h6, h7⟩ := h
  exact ⟨fun k hk => ⟨(h1 k hk).1.moved hvm, (h1 k hk).2.1, (h1 k hk).2.2.moved hvm⟩,
    fun k hk => ⟨va_O.moved hvm (h2 k hk).1, va_OF.moved hvm (h2 k hk).2.1, va_OF.moved hvm (h2 k hk).2.2.1, (h2 k hk).2.2.2.1.moved hvm, (h2 k hk).2.2.2.2.warm hW⟩,
    h3.moved hvm, ⟨v, h4, h5.moved hvm⟩, h6.moved hvm, h7⟩
theorem j_old.vmeq {x : jX} {u U : State} {H : Heap} (hv : U.vm = u.vm) (h : j_old x u H) : j_old x U H := by
  have hvm : u.vm.Alike U.vm := by rw [hv]; exact Vm.Alike.refl _
  obtain ⟨h1, h2, h3, ⟨v, h4, h5⟩, h6, h7⟩ := h
  exact ⟨fun k hk => ⟨(h1 k hk).1.moved hvm, (h1 k hk).2.1, (h1 k hk).2.2.moved hvm⟩,
    fun k hk => ⟨va_O.moved hvm (h2 k hk).1, va_OF.moved hvm (h2 k hk).2.1, va_OF.moved hvm (h2 k hk).2.2.1, (h2 k hk).2.2.2.1.moved hvm, (h2 k hk).2.2.2.2.same hv⟩,
    h3.moved hvm, ⟨v, h4, h5.moved hvm⟩, h6.moved hvm, h7⟩
theorem jAO_moved {u U : State} (hvm : u.vm.Alike U.vm) (h : va_Nw (.arrayOver (.array .int)) u) : va_Nw (.arrayOver (.array .int)) U := by
  obtain ⟨comp, c, k, h1, h2, h3, h4, h5⟩ := arrayOverA_spec h
  obtain ⟨k', hk', he⟩ := hvm.2.2 _ _ h3
  have e1 := va_idx_bare u.vm comp
  have e2 := va_idx_bare U.vm comp
  have hb : u.vm.bare = U.vm.bare := by first | exact hvm.bare_eq | exact hvm.bare_eq.symm
  rw [hb] at e1
  have hi := e2.symm.trans (e1.trans h2)
  have hkind : k'.kind = .array comp (.array .int) := by rw [he]; exact h4
  have f1 : U.vm.findClass (FieldType.array .int).toString = some comp := by rw [hvm.findClass]; exact h1
  have f2 : U.vm.findClass ("[" ++ (FieldType.array .int).toString) = some c := by rw [hvm.findClass]; exact h5
  unfold va_Nw Cond.before Cond.holds
  simp only [Cond.value]
  rw [f1, Option.bind_some]
  refine (congrArg (fun o : Option Nat => (o.bind (fun c => (U.vm.classes[c]?).map fun (k : Class) => match k.kind with | .array _ ty => decide (ty = FieldType.array .int) && decide (U.vm.findClass ("[" ++ (FieldType.array .int).toString) = some c) | _ => false) == some true)) hi).trans ?_
  simp [hk', hkind, f2]
theorem jnw_cases {w : Cond} (h : w ∈ jnw) : (∃ a i b n d h, w = .fieldLinkNest a i b n d h) ∨ (∃ a i y h, w = .methodLinkNest a i y h) ∨ w = .arrayOver (.array .int) := by
  have h1 := List.mem_filter.mp h
  have h2 : ∀ v ∈ jnw, (match v with | .arrayOver t => decide (t = .array .int) | _ => true) = true := by decide +kernel
  have h3 := h2 w h
  have h4 := h1.2
  cases w <;> simp [jisN] at h4 h3 ⊢
  exact h3
theorem jnw_warm {s U : State} (hW : s.WarmedH U.vm) (h : ∀ w ∈ jnw, va_Nw w s) : ∀ w ∈ jnw, va_Nw w U := by
  intro w hw
  have h1 := h w hw
  rcases jnw_cases hw with ⟨a, i, b, n, d, g, rfl⟩ | ⟨a, i, y, g, rfl⟩ | rfl
  · exact va_Nw.warmF hW h1
  · exact va_Nw.warmM hW h1
  · exact jAO_moved hW.alike h1
theorem jnw_vmeq {u U : State} (hv : U.vm = u.vm) (h : ∀ w ∈ jnw, va_Nw w u) : ∀ w ∈ jnw, va_Nw w U := by
  intro w hw
  have h1 := h w hw
  rcases jnw_cases hw with ⟨a, i, b, n, d, g, rfl⟩ | ⟨a, i, y, g, rfl⟩ | rfl
  · exact va_Nw.same rfl hv.symm h1
  · exact va_Nw.same rfl hv.symm h1
  · exact jAO_moved (by rw [hv]; exact Vm.Alike.refl _) h1
def jH (x : jX) (s : State) (H : Heap) : Prop := va_K (jxD x) vwCl (jtys x) s ∧ (∀ w ∈ jnw, va_Nw w s) ∧ jxb x ≤ H.size ∧ j_old x s H
theorem jH.kept {x : jX} {s : State} {H H1 : Heap} {locs : List Loc} (h : jH x s H) (hS : va_S (jA x) H H1 locs) : jH x s H1 :=
  ⟨h.1, h.2.1, Nat.le_trans h.2.2.1 hS.1, h.2.2.2.kept h.2.2.1 hS.2.1⟩
theorem jH.warm {x : jX} {s U : State} {H : Heap} (hW : s.WarmedH U.vm) (h : jH x s H) : jH x U H :=
  ⟨h.1.moved hW.alike, jnw_warm hW h.2.1, h.2.2.1, h.2.2.2.warm hW⟩
theorem jH.vmeq {x : jX} {u U : State} {H : Heap} (hv : U.vm = u.vm) (h : jH x u H) : jH x U H :=
  ⟨h.1.moved (by rw [hv]; exact Vm.Alike.refl _), jnw_vmeq hv h.2.1, h.2.2.1, h.2.2.2.vmeq hv⟩
def jPc (x : jX) (as : List Value) (L : jL) (M : jM) : Array Value → State → Prop := fun a U => a = as.toArray ∧ jH x U U.heap ∧ j_hp x L M U.heap
theorem jPc.blind (x : jX) (as : List Value) (L : jL) (M : jM) : FrameBlind (jPc x as L M) := fun a U g mk h => ⟨h.1, jH.vmeq (u := U) (U := U.calling g mk a) rfl h.2.1, h.2.2⟩
def jRes (x : jX) (P : jP) : Array Value → State → Outcome → State → Prop := fun _ st o t => (∃ (r : Option Value) (L : jL) (M : jM), o = .returned r ∧ P r L M ∧ j_hp x L M t.heap) ∧ va_F (jA x) st t
def jWs (me : jMe) : List Cond := Cond.code me.1 me.2.1 me.2.2.1 me.2.2.2 :: jgw
/-- a method's contract -/
def jCt (x : jX) (d k n : Nat) (me : jMe) (as : List Value) (L : jL) (M : jM) (P : jP) : Prop :=
  ∀ R : Room, R.cells = k → R.slots = n → d ≤ R.frames → 41 * d ≤ R.locals → Met (jxL x) me.1 (jWs me) R (jPc x as L M) (jRes x P) k n (jA x)
/-- locals by place -/
def jls : Nat → List (Option Value) → List (Nat × Value)
  | _, [] => []
  | i, none :: t => jls (i + 1) t
  | i, some v :: t => (i, v) :: jls (i + 1) t
theorem jls_mem : ∀ (l : List (Option Value)) (i : Nat) (q : Nat × Value), q ∈ jls i l ↔ i ≤ q.1 ∧ l[q.1 - i]? = some (some q.2)
  | [], i, q => by simp [jls]
  | none :: t, i, q => by
    rw [jls, jls_mem t (i + 1) q]
    constructor
    · rintro ⟨h1, h2⟩
      refine ⟨by omega, ?_⟩
      rw [show q.1 - i = (q.1 - (i + 1)) + 1 by omega, List.getElem?_cons_succ]
      exact h2
    · rintro ⟨h1, h2⟩
      rcases Nat.eq_or_lt_of_le h1 with h | h
      · rw [← h, Nat.sub_self] at h2
        simp at h2
      · rw [show q.1 - i = (q.1 - (i + 1)) + 1 by omega, List.getElem?_cons_succ] at h2
        exact ⟨by omega, h2⟩
  | some v :: t, i, q => by
    rw [jls, List.mem_cons, jls_mem t (i + 1) q]
    constructor
    · rintro (h | ⟨h1, h2⟩)
      · rw [h]
        simp
      · refine ⟨by omega, ?_⟩
        rw [show q.1 - i = (q.1 - (i + 1)) + 1 by omega, List.getElem?_cons_succ]
        exact h2
    · rintro ⟨h1, h2⟩
      rcases Nat.eq_or_lt_of_le h1 with h | h
      · rw [← h, Nat.sub_self] at h2
        simp at h2
        exact Or.inl (Prod.ext h.symm h2.symm)
      · rw [show q.1 - i = (q.1 - (i + 1)) + 1 by omega, List.getElem?_cons_succ] at h2
        exact Or.inr ⟨by omega, h2⟩
def jlh (nL : Nat) (A : Array Slot) (ls : List (Option Value)) : Prop := lv_has A nL (jls 0 ls) ∧ ls.length = nL
theorem jlh.get {nL : Nat} {A : Array Slot} {ls : List (Option Value)} (h : jlh nL A ls) {i : Nat} {v : Value} (hi : ls[i]? = some (some v)) : A[i]? = some (.val v) :=
  h.1.2.2 (i, v) ((jls_mem ls 0 (i, v)).mpr ⟨Nat.zero_le _, hi⟩)
/-- no long among the locals -/
def jc1 (ls : List (Option Value)) : Bool := ls.all fun o => match o with | some v => v.category == 1 | none => true
theorem jlh.set {nL : Nat} {A : Array Slot} {ls : List (Option Value)} (h : jlh nL A ls) {i : Nat} {v : Value} (hi : i < ls.length) (hc : jc1 ls = true) (hv : v.category = 1) {A' : Array Slot}
    (h' : lv_has A' nL ((i, v) :: (jls 0 ls).filter (fun q => !(q.1 == i) && !(q.1 + 1 == i && q.2.category == 2)))) : jlh nL A' (ls.set i (some v)) := by
  refine ⟨⟨h'.1, h'.2.1, fun q hq => h'.2.2 q ?_⟩, by rw [List.length_set]; exact h.2⟩
  obtain ⟨-, h2⟩ := (jls_mem _ 0 q).mp hq
  rw [Nat.sub_zero] at h2
  by_cases hqi : q.1 = i
  · rw [hqi, List.getElem?_set_self hi] at h2
    have e : v = q.2 := Option.some.inj (Option.some.inj h2)
    rw [show q = (i, v) from Prod.ext hqi e.symm]
    exact List.mem_cons_self
  · rw [List.getElem?_set_ne (Ne.symm hqi)] at h2
    refine List.mem_cons_of_mem _ (List.mem_filter.mpr ⟨(jls_mem ls 0 q).mpr ⟨Nat.zero_le _, by rw [Nat.sub_zero]; exact h2⟩, ?_⟩)
    have hcat : q.2.category = 1 := by
      have h3 := List.all_eq_true.mp hc _ (List.mem_of_getElem? h2)
      simpa using h3
    simp [hqi, hcat]
theorem jlh.wk {nL : Nat} {A : Array Slot} {ls ls' : List (Option Value)} (h : jlh nL A ls) (hl : ls'.length = ls.length) (hw : ∀ (i : Nat) (v : Value), ls'[i]? = some (some v) → ls[i]? = some (some v)) : jlh nL A ls' :=
  ⟨⟨h.1.1, h.1.2.1, fun q hq => h.get (hw _ _ (by have := ((jls_mem ls' 0 q).mp hq).2; rwa [Nat.sub_zero] at this))⟩, hl.trans h.2⟩
/-- what a frame knows -/
def jG (x : jX) (d : Nat) (me : jMe) (p : Program) (R : Room) (s : State) (m : MethodId) (args : Array Value) (meth : Method) (c : Code) (mc ms : Nat) : Prop :=
  p.tables.exec = Jvm.exec ∧ c.code = me.2.1 ∧ meth.sig.returnType = me.2.2.2 ∧ c.maxLocals = me.2.2.1 ∧ (∀ w ∈ jgw, w.before args s = true) ∧ s.vm.findClass me.1.cls = some m.cls ∧ meth.locks = false ∧ (me.1.name = "<init>" → meth.name = me.1.name) ∧
  jH x s s.heap ∧ R.cells = mc ∧ R.slots = ms ∧ d ≤ R.frames ∧ 41 * d ≤ R.locals
/-- THE JUDGEMENT: from here the method returns, with P -/
def J (x : jX) (d k n : Nat) (me : jMe) (pc : Nat) (ls : List (Option Value)) (st : List Value) (L : jL) (M : jM) (P : jP) : Prop :=
  ∀ (p : Program) (e : Env) (R : Room) (s : State) (m : MethodId) (args : Array Value) (below : List Frame) (meth : Method) (c : Code) (mc ms : Nat) (H : Heap) (locs : List Loc) (cells slots : Nat) (A : Array Slot),
    jG x d me p R s m args meth c mc ms → j_hp x L M H → va_S (jA x) s.heap H locs → jlh me.2.2.1 A ls → cells + k ≤ mc → slots + n ≤ ms →
    W p (jxL x) e R s m args below meth c H locs cells slots (MQ below (jRes x P) args s mc ms (jA x)) (F0 m pc A st)
section J1
variable {x : jX} {d k n : Nat} {me : jMe} {pc : Nat} {ls : List (Option Value)} {st : List Value} {L : jL} {M : jM} {P : jP}
theorem J_iconst {i : Int} {v : Int32} (hd : decode me.2.1 pc = .ok (.iconst i, 1)) (hv : Int32.ofInt i = v) (kk : J x d k n me (pc + 1) ls (.int v :: st) L M P) : J x d k n me pc ls st L M P := fun p e R s m args below meth c mc ms H locs cells slots A G hp hS hl h1 h2 => lv_iconst G.1 G.2.1 hd hv (kk p e R s m args below meth c mc ms H locs cells slots A G hp hS hl h1 h2)
theorem J_bipush {i : Int} {v : Int32} (hd : decode me.2.1 pc = .ok (.bipush i, 2)) (hv : (Int8.ofInt i).toInt32 = v) (kk : J x d k n me (pc + 2) ls (.int v :: st) L M P) : J x d k n me pc ls st L M P := fun p e R s m args below meth c mc ms H locs cells slots A G hp hS hl h1 h2 => lv_bipush G.1 G.2.1 hd hv (kk p e R s m args below meth c mc ms H locs cells slots A G hp hS hl h1 h2)
theorem J_sipush {i : Int} {v : Int32} (hd : decode me.2.1 pc = .ok (.sipush i, 3)) (hv : (Int16.ofInt i).toInt32 = v) (kk : J x d k n me (pc + 3) ls (.int v :: st) L M P) : J x d k n me pc ls st L M P := fun p e R s m args below meth c mc ms H locs cells slots A G hp hS hl h1 h2 => lv_sipush G.1 G.2.1 hd hv (kk p e R s m args below meth c mc ms H locs cells slots A G hp hS hl h1 h2)
theorem J_lconst {i : Fin 2} {v : Int64} (hd : decode me.2.1 pc = .ok (.lconst i, 1)) (hv : Int64.ofNat (i : Nat) = v) (kk : J x d k n me (pc + 1) ls (.long v :: st) L M P) : J x d k n me pc ls st L M P := fun p e R s m args below meth c mc ms H locs cells slots A G hp hS hl h1 h2 => lv_lconst G.1 G.2.1 hd hv (kk p e R s m args below meth c mc ms H locs cells slots A G hp hS hl h1 h2)
theorem J_ldc {i : Nat} {v : Int32} (hd : decode me.2.1 pc = .ok (.ldc i, 2)) (hw : Cond.constant me.1.cls i v ∈ jgw) (kk : J x d k n me (pc + 2) ls (.int v :: st) L M P) : J x d k n me pc ls st L M P := fun p e R s m args below meth c mc ms H locs cells slots A G hp hS hl h1 h2 => lv_ldc G.1 G.2.1 G.2.2.2.2.2.1 (G.2.2.2.2.1 _ hw) hd (kk p e R s m args below meth c mc ms H locs cells slots A G hp hS hl h1 h2)
theorem J_ldc2 {i : Nat} {v : Int64} (hd : decode me.2.1 pc = .ok (.ldc2_w i, 3)) (hw : Cond.constantLong me.1.cls i v ∈ jgw) (kk : J x d k n me (pc + 3) ls (.long v :: st) L M P) : J x d k n me pc ls st L M P := fun p e R s m args below meth c mc ms H locs cells slots A G hp hS hl h1 h2 => lv_ldc2 G.1 G.2.1 G.2.2.2.2.2.1 (G.2.2.2.2.1 _ hw) hd (kk p e R s m args below meth c mc ms H locs cells slots A G hp hS hl h1 h2)
theorem J_iload_n {i : Fin 4} {v : Int32} (hd : decode me.2.1 pc = .ok (.iload_n i, 1)) (hi : ls[(i : Nat)]? = some (some (.int v))) (kk : J x d k n me (pc + 1) ls (.int v :: st) L M P) : J x d k n me pc ls st L M P := fun p e R s m args below meth c mc ms H locs cells slots A G hp hS hl h1 h2 => lv_iload_n G.1 G.2.1 hd rfl (hl.get hi) (kk p e R s m args below meth c mc ms H locs cells slots A G hp hS hl h1 h2)
theorem J_iload {i : Nat} {v : Int32} (hd : decode me.2.1 pc = .ok (.iload i, 2)) (hi : ls[i]? = some (some (.int v))) (kk : J x d k n me (pc + 2) ls (.int v :: st) L M P) : J x d k n me pc ls st L M P := fun p e R s m args below meth c mc ms H locs cells slots A G hp hS hl h1 h2 => lv_iload G.1 G.2.1 hd (hl.get hi) (kk p e R s m args below meth c mc ms H locs cells slots A G hp hS hl h1 h2)
theorem J_lload_n {i : Fin 4} {v : Int64} (hd : decode me.2.1 pc = .ok (.lload_n i, 1)) (hi : ls[(i : Nat)]? = some (some (.long v))) (kk : J x d k n me (pc + 1) ls (.long v :: st) L M P) : J x d k n me pc ls st L M P := fun p e R s m args below meth c mc ms H locs cells slots A G hp hS hl h1 h2 => lv_lload_n G.1 G.2.1 hd rfl (hl.get hi) (kk p e R s m args below meth c mc ms H locs cells slots A G hp hS hl h1 h2)
theorem J_lload {i : Nat} {v : Int64} (hd : decode me.2.1 pc = .ok (.lload i, 2)) (hi : ls[i]? = some (some (.long v))) (kk : J x d k n me (pc + 2) ls (.long v :: st) L M P) : J x d k n me pc ls st L M P := fun p e R s m args below meth c mc ms H locs cells slots A G hp hS hl h1 h2 => lv_lload G.1 G.2.1 hd (hl.get hi) (kk p e R s m args below meth c mc ms H locs cells slots A G hp hS hl h1 h2)
theorem J_aload_n {i : Fin 4} {v : Nat} (hd : decode me.2.1 pc = .ok (.aload_n i, 1)) (hi : ls[(i : Nat)]? = some (some (.ref v))) (kk : J x d k n me (pc + 1) ls (.ref v :: st) L M P) : J x d k n me pc ls st L M P := fun p e R s m args below meth c mc ms H locs cells slots A G hp hS hl h1 h2 => lv_aload_n G.1 G.2.1 hd rfl (hl.get hi) (kk p e R s m args below meth c mc ms H locs cells slots A G hp hS hl h1 h2)
theorem J_aload {i : Nat} {v : Nat} (hd : decode me.2.1 pc = .ok (.aload i, 2)) (hi : ls[i]? = some (some (.ref v))) (kk : J x d k n me (pc + 2) ls (.ref v :: st) L M P) : J x d k n me pc ls st L M P := fun p e R s m args below meth c mc ms H locs cells slots A G hp hS hl h1 h2 => lv_aload G.1 G.2.1 hd (hl.get hi) (kk p e R s m args below meth c mc ms H locs cells slots A G hp hS hl h1 h2)
theorem J_istore_n {i : Fin 4} {v : Int32} {ls' : List (Option Value)} (hd : decode me.2.1 pc = .ok (.istore_n i, 1)) (hs : ls.set (i : Nat) (some (.int v)) = ls') (hi : (i : Nat) < ls.length) (hc : jc1 ls = true) (kk : J x d k n me (pc + 1) ls' st L M P) : J x d k n me pc ls (.int v :: st) L M P := fun p e R s m args below meth c mc ms H locs cells slots A G hp hS hl h1 h2 => lv_istore_n (nL := me.2.2.1) G.1 G.2.1 hd rfl hl.1 (by rw [← hl.2]; exact hi) rfl (fun A1 hA1 => kk p e R s m args below meth c mc ms H locs cells slots A1 G hp hS (hs ▸ hl.set hi hc rfl hA1) h1 h2)
theorem J_istore {i : Nat} {v : Int32} {ls' : List (Option Value)} (hd : decode me.2.1 pc = .ok (.istore i, 2)) (hs : ls.set i (some (.int v)) = ls') (hi : i < ls.length) (hc : jc1 ls = true) (kk : J x d k n me (pc + 2) ls' st L M P) : J x d k n me pc ls (.int v :: st) L M P := fun p e R s m args below meth c mc ms H locs cells slots A G hp hS hl h1 h2 => lv_istore (nL := me.2.2.1) G.1 G.2.1 hd hl.1 (by rw [← hl.2]; exact hi) rfl (fun A1 hA1 => kk p e R s m args below meth c mc ms H locs cells slots A1 G hp hS (hs ▸ hl.set hi hc rfl hA1) h1 h2)
theorem J_astore_n {i : Fin 4} {v : Nat} {ls' : List (Option Value)} (hd : decode me.2.1 pc = .ok (.astore_n i, 1)) (hs : ls.set (i : Nat) (some (.ref v)) = ls') (hi : (i : Nat) < ls.length) (hc : jc1 ls = true) (kk : J x d k n me (pc + 1) ls' st L M P) : J x d k n me pc ls (.ref v :: st) L M P := fun p e R s m args below meth c mc ms H locs cells slots A G hp hS hl h1 h2 => lv_astore_n (nL := me.2.2.1) G.1 G.2.1 hd rfl hl.1 (by rw [← hl.2]; exact hi) rfl (fun A1 hA1 => kk p e R s m args below meth c mc ms H locs cells slots A1 G hp hS (hs ▸ hl.set hi hc rfl hA1) h1 h2)
theorem J_astore {i : Nat} {v : Nat} {ls' : List (Option Value)} (hd : decode me.2.1 pc = .ok (.astore i, 2)) (hs : ls.set i (some (.ref v)) = ls') (hi : i < ls.length) (hc : jc1 ls = true) (kk : J x d k n me (pc + 2) ls' st L M P) : J x d k n me pc ls (.ref v :: st) L M P := fun p e R s m args below meth c mc ms H locs cells slots A G hp hS hl h1 h2 => lv_astore (nL := me.2.2.1) G.1 G.2.1 hd hl.1 (by rw [← hl.2]; exact hi) rfl (fun A1 hA1 => kk p e R s m args below meth c mc ms H locs cells slots A1 G hp hS (hs ▸ hl.set hi hc rfl hA1) h1 h2)
theorem J_iinc {i : Nat} {z : Int} {a v : Int32} {ls' : List (Option Value)} (hd : decode me.2.1 pc = .ok (.iinc i z, 3)) (ha : ls[i]? = some (some (.int a))) (hv : a + Int32.ofInt z = v) (hs : ls.set i (some (.int v)) = ls') (hc : jc1 ls = true) (kk : J x d k n me (pc + 3) ls' st L M P) : J x d k n me pc ls st L M P := by
  intro p e R s m args below meth c mc ms H locs cells slots A G hp hS hl h1 h2
  have hm : (i, Value.int a) ∈ jls 0 ls := (jls_mem ls 0 (i, .int a)).mpr ⟨Nat.zero_le _, ha⟩
  obtain ⟨q, hq⟩ := List.getElem?_of_mem hm
  have hi : i < ls.length := (List.getElem?_eq_some_iff.mp ha).1
  exact lv_iinc (nL := me.2.2.1) G.1 G.2.1 hd hl.1 hq hv (by rw [← hl.2]; exact hi) rfl (fun A1 hA1 => kk p e R s m args below meth c mc ms H locs cells slots A1 G hp hS (hs ▸ hl.set hi hc rfl hA1) h1 h2)
theorem J_iadd {a b : Int32} (hd : decode me.2.1 pc = .ok (.iadd, 1))  (kk : J x d k n me (pc + 1) ls (.int (a + b) :: st) L M P) : J x d k n me pc ls (.int b :: .int a :: st) L M P := fun p e R s m args below meth c mc ms H locs cells slots A G hp hS hl h1 h2 => lv_iadd G.1 G.2.1 hd (kk p e R s m args below meth c mc ms H locs cells slots A G hp hS hl h1 h2)
theorem J_iaddv {a b v : Int32} (hd : decode me.2.1 pc = .ok (.iadd, 1)) (hv : a + b = v) (kk : J x d k n me (pc + 1) ls (.int v :: st) L M P) : J x d k n me pc ls (.int b :: .int a :: st) L M P := fun p e R s m args below meth c mc ms H locs cells slots A G hp hS hl h1 h2 => lv_iadd G.1 G.2.1 hd (hv ▸ (kk p e R s m args below meth c mc ms H locs cells slots A G hp hS hl h1 h2))
theorem J_isub {a b : Int32} (hd : decode me.2.1 pc = .ok (.isub, 1))  (kk : J x d k n me (pc + 1) ls (.int (a - b) :: st) L M P) : J x d k n me pc ls (.int b :: .int a :: st) L M P := fun p e R s m args below meth c mc ms H locs cells slots A G hp hS hl h1 h2 => lv_isub G.1 G.2.1 hd (kk p e R s m args below meth c mc ms H locs cells slots A G hp hS hl h1 h2)
theorem J_isubv {a b v : Int32} (hd : decode me.2.1 pc = .ok (.isub, 1)) (hv : a - b = v) (kk : J x d k n me (pc + 1) ls (.int v :: st) L M P) : J x d k n me pc ls (.int b :: .int a :: st) L M P := fun p e R s m args below meth c mc ms H locs cells slots A G hp hS hl h1 h2 => lv_isub G.1 G.2.1 hd (hv ▸ (kk p e R s m args below meth c mc ms H locs cells slots A G hp hS hl h1 h2))
theorem J_imul {a b : Int32} (hd : decode me.2.1 pc = .ok (.imul, 1))  (kk : J x d k n me (pc + 1) ls (.int (a * b) :: st) L M P) : J x d k n me pc ls (.int b :: .int a :: st) L M P := fun p e R s m args below meth c mc ms H locs cells slots A G hp hS hl h1 h2 => lv_imul G.1 G.2.1 hd (kk p e R s m args below meth c mc ms H locs cells slots A G hp hS hl h1 h2)
theorem J_imulv {a b v : Int32} (hd : decode me.2.1 pc = .ok (.imul, 1)) (hv : a * b = v) (kk : J x d k n me (pc + 1) ls (.int v :: st) L M P) : J x d k n me pc ls (.int b :: .int a :: st) L M P := fun p e R s m args below meth c mc ms H locs cells slots A G hp hS hl h1 h2 => lv_imul G.1 G.2.1 hd (hv ▸ (kk p e R s m args below meth c mc ms H locs cells slots A G hp hS hl h1 h2))
theorem J_iand {a b : Int32} (hd : decode me.2.1 pc = .ok (.iand, 1))  (kk : J x d k n me (pc + 1) ls (.int (a &&& b) :: st) L M P) : J x d k n me pc ls (.int b :: .int a :: st) L M P := fun p e R s m args below meth c mc ms H locs cells slots A G hp hS hl h1 h2 => lv_iand G.1 G.2.1 hd (kk p e R s m args below meth c mc ms H locs cells slots A G hp hS hl h1 h2)
theorem J_iandv {a b v : Int32} (hd : decode me.2.1 pc = .ok (.iand, 1)) (hv : a &&& b = v) (kk : J x d k n me (pc + 1) ls (.int v :: st) L M P) : J x d k n me pc ls (.int b :: .int a :: st) L M P := fun p e R s m args below meth c mc ms H locs cells slots A G hp hS hl h1 h2 => lv_iand G.1 G.2.1 hd (hv ▸ (kk p e R s m args below meth c mc ms H locs cells slots A G hp hS hl h1 h2))
theorem J_ior {a b : Int32} (hd : decode me.2.1 pc = .ok (.ior, 1))  (kk : J x d k n me (pc + 1) ls (.int (a ||| b) :: st) L M P) : J x d k n me pc ls (.int b :: .int a :: st) L M P := fun p e R s m args below meth c mc ms H locs cells slots A G hp hS hl h1 h2 => lv_ior G.1 G.2.1 hd (kk p e R s m args below meth c mc ms H locs cells slots A G hp hS hl h1 h2)
theorem J_iorv {a b v : Int32} (hd : decode me.2.1 pc = .ok (.ior, 1)) (hv : a ||| b = v) (kk : J x d k n me (pc + 1) ls (.int v :: st) L M P) : J x d k n me pc ls (.int b :: .int a :: st) L M P := fun p e R s m args below meth c mc ms H locs cells slots A G hp hS hl h1 h2 => lv_ior G.1 G.2.1 hd (hv ▸ (kk p e R s m args below meth c mc ms H locs cells slots A G hp hS hl h1 h2))
theorem J_ishl {a b : Int32} (hd : decode me.2.1 pc = .ok (.ishl, 1))  (kk : J x d k n me (pc + 1) ls (.int (a <<< (b &&& 31)) :: st) L M P) : J x d k n me pc ls (.int b :: .int a :: st) L M P := fun p e R s m args below meth c mc ms H locs cells slots A G hp hS hl h1 h2 => lv_ishl G.1 G.2.1 hd (kk p e R s m args below meth c mc ms H locs cells slots A G hp hS hl h1 h2)
theorem J_ishlv {a b v : Int32} (hd : decode me.2.1 pc = .ok (.ishl, 1)) (hv : a <<< (b &&& 31) = v) (kk : J x d k n me (pc + 1) ls (.int v :: st) L M P) : J x d k n me pc ls (.int b :: .int a :: st) L M P := fun p e R s m args below meth c mc ms H locs cells slots A G hp hS hl h1 h2 => lv_ishl G.1 G.2.1 hd (hv ▸ (kk p e R s m args below meth c mc ms H locs cells slots A G hp hS hl h1 h2))
theorem J_ishr {a b : Int32} (hd : decode me.2.1 pc = .ok (.ishr, 1))  (kk : J x d k n me (pc + 1) ls (.int (a >>> (b &&& 31)) :: st) L M P) : J x d k n me pc ls (.int b :: .int a :: st) L M P := fun p e R s m args below meth c mc ms H locs cells slots A G hp hS hl h1 h2 => lv_ishr G.1 G.2.1 hd (kk p e R s m args below meth c mc ms H locs cells slots A G hp hS hl h1 h2)
theorem J_ishrv {a b v : Int32} (hd : decode me.2.1 pc = .ok (.ishr, 1)) (hv : a >>> (b &&& 31) = v) (kk : J x d k n me (pc + 1) ls (.int v :: st) L M P) : J x d k n me pc ls (.int b :: .int a :: st) L M P := fun p e R s m args below meth c mc ms H locs cells slots A G hp hS hl h1 h2 => lv_ishr G.1 G.2.1 hd (hv ▸ (kk p e R s m args below meth c mc ms H locs cells slots A G hp hS hl h1 h2))
theorem J_idiv {a b v : Int32} (hd : decode me.2.1 pc = .ok (.idiv, 1)) (hne : ¬ b = 0) (hv : a / b = v) (kk : J x d k n me (pc + 1) ls (.int v :: st) L M P) : J x d k n me pc ls (.int b :: .int a :: st) L M P := fun p e R s m args below meth c mc ms H locs cells slots A G hp hS hl h1 h2 => lv_idiv G.1 G.2.1 hd hne (hv ▸ (kk p e R s m args below meth c mc ms H locs cells slots A G hp hS hl h1 h2))
theorem J_irem {a b v : Int32} (hd : decode me.2.1 pc = .ok (.irem, 1)) (hne : ¬ b = 0) (hv : a - a / b * b = v) (kk : J x d k n me (pc + 1) ls (.int v :: st) L M P) : J x d k n me pc ls (.int b :: .int a :: st) L M P := fun p e R s m args below meth c mc ms H locs cells slots A G hp hS hl h1 h2 => lv_irem G.1 G.2.1 hd hne (hv ▸ (kk p e R s m args below meth c mc ms H locs cells slots A G hp hS hl h1 h2))
theorem J_ineg {a : Int32} (hd : decode me.2.1 pc = .ok (.ineg, 1))  (kk : J x d k n me (pc + 1) ls (.int (-a) :: st) L M P) : J x d k n me pc ls (.int a :: st) L M P := fun p e R s m args below meth c mc ms H locs cells slots A G hp hS hl h1 h2 => lv_ineg G.1 G.2.1 hd (kk p e R s m args below meth c mc ms H locs cells slots A G hp hS hl h1 h2)
theorem J_ladd {a b : Int64} (hd : decode me.2.1 pc = .ok (.ladd, 1))  (kk : J x d k n me (pc + 1) ls (.long (a + b) :: st) L M P) : J x d k n me pc ls (.long b :: .long a :: st) L M P := fun p e R s m args below meth c mc ms H locs cells slots A G hp hS hl h1 h2 => lv_ladd G.1 G.2.1 hd (kk p e R s m args below meth c mc ms H locs cells slots A G hp hS hl h1 h2)
theorem J_lcmp {a b : Int64} (hd : decode me.2.1 pc = .ok (.lcmp, 1))  (kk : J x d k n me (pc + 1) ls (.int (lg_cmp a b) :: st) L M P) : J x d k n me pc ls (.long b :: .long a :: st) L M P := fun p e R s m args below meth c mc ms H locs cells slots A G hp hS hl h1 h2 => W.lcmp G.1 G.2.1 hd (kk p e R s m args below meth c mc ms H locs cells slots A G hp hS hl h1 h2)
theorem J_i2l {a : Int32} (hd : decode me.2.1 pc = .ok (.i2l, 1))  (kk : J x d k n me (pc + 1) ls (.long a.toInt64 :: st) L M P) : J x d k n me pc ls (.int a :: st) L M P := fun p e R s m args below meth c mc ms H locs cells slots A G hp hS hl h1 h2 => lv_i2l G.1 G.2.1 hd rfl (kk p e R s m args below meth c mc ms H locs cells slots A G hp hS hl h1 h2)
theorem J_i2b {a : Int32} (hd : decode me.2.1 pc = .ok (.i2b, 1))  (kk : J x d k n me (pc + 1) ls (.int a.toInt8.toInt32 :: st) L M P) : J x d k n me pc ls (.int a :: st) L M P := fun p e R s m args below meth c mc ms H locs cells slots A G hp hS hl h1 h2 => lv_i2b G.1 G.2.1 hd rfl (kk p e R s m args below meth c mc ms H locs cells slots A G hp hS hl h1 h2)
theorem J_i2c {a v : Int32} (hd : decode me.2.1 pc = .ok (.i2c, 1)) (hv : (a.toUInt32 % 65536).toInt32 = v) (kk : J x d k n me (pc + 1) ls (.int v :: st) L M P) : J x d k n me pc ls (.int a :: st) L M P := fun p e R s m args below meth c mc ms H locs cells slots A G hp hS hl h1 h2 => lv_i2c G.1 G.2.1 hd hv (kk p e R s m args below meth c mc ms H locs cells slots A G hp hS hl h1 h2)
theorem J_iushr {a b v : Int32} (hd : decode me.2.1 pc = .ok (.iushr, 1)) (hv : (a.toUInt32 >>> (b.toUInt32 &&& Int32.toUInt32 31)).toInt32 = v) (kk : J x d k n me (pc + 1) ls (.int v :: st) L M P) : J x d k n me pc ls (.int b :: .int a :: st) L M P := fun p e R s m args below meth c mc ms H locs cells slots A G hp hS hl h1 h2 => lv_iushr G.1 G.2.1 hd hv (kk p e R s m args below meth c mc ms H locs cells slots A G hp hS hl h1 h2)
theorem J_dup {v : Value} (hd : decode me.2.1 pc = .ok (.dup, 1)) (hv : v.category = 1) (kk : J x d k n me (pc + 1) ls (v :: v :: st) L M P) : J x d k n me pc ls (v :: st) L M P := fun p e R s m args below meth c mc ms H locs cells slots A G hp hS hl h1 h2 => lv_dup G.1 G.2.1 hd hv (kk p e R s m args below meth c mc ms H locs cells slots A G hp hS hl h1 h2)
theorem J_pop {v : Value} (hd : decode me.2.1 pc = .ok (.pop, 1)) (hv : v.category = 1) (kk : J x d k n me (pc + 1) ls st L M P) : J x d k n me pc ls (v :: st) L M P := fun p e R s m args below meth c mc ms H locs cells slots A G hp hS hl h1 h2 => lv_pop G.1 G.2.1 hd hv (kk p e R s m args below meth c mc ms H locs cells slots A G hp hS hl h1 h2)
theorem J_dup_x1 {v w : Value} (hd : decode me.2.1 pc = .ok (.dup_x1, 1)) (hv : v.category = 1) (hw : w.category = 1) (kk : J x d k n me (pc + 1) ls (v :: w :: v :: st) L M P) : J x d k n me pc ls (v :: w :: st) L M P := fun p e R s m args below meth c mc ms H locs cells slots A G hp hS hl h1 h2 => lv_dup_x1 G.1 G.2.1 hd hv hw (kk p e R s m args below meth c mc ms H locs cells slots A G hp hS hl h1 h2)
theorem J_dup2 {v w : Value} (hd : decode me.2.1 pc = .ok (.dup2, 1)) (hv : v.category = 1) (hw : w.category = 1) (kk : J x d k n me (pc + 1) ls (v :: w :: v :: w :: st) L M P) : J x d k n me pc ls (v :: w :: st) L M P := fun p e R s m args below meth c mc ms H locs cells slots A G hp hS hl h1 h2 => lv_dup2_11 G.1 G.2.1 hd hv hw (kk p e R s m args below meth c mc ms H locs cells slots A G hp hS hl h1 h2)
theorem J_if_eq {a : Int32} {off : Int} {tgt : Nat} (hd : decode me.2.1 pc = .ok (.ifCond .eq off, 3)) (ht : (pc : Int) + off = (tgt : Int)) (kt : a = 0 → J x d k n me tgt ls st L M P) (kf : ¬ (a = 0) → J x d k n me (pc + 3) ls st L M P) : J x d k n me pc ls (.int a :: st) L M P := fun p e R s m args below meth c mc ms H locs cells slots A G hp hS hl h1 h2 => lv_if_eq G.1 G.2.1 hd ht (fun q => kt q p e R s m args below meth c mc ms H locs cells slots A G hp hS hl h1 h2) (fun q => kf q p e R s m args below meth c mc ms H locs cells slots A G hp hS hl h1 h2)
theorem J_if_ne {a : Int32} {off : Int} {tgt : Nat} (hd : decode me.2.1 pc = .ok (.ifCond .ne off, 3)) (ht : (pc : Int) + off = (tgt : Int)) (kt : ¬ a = 0 → J x d k n me tgt ls st L M P) (kf : a = 0 → J x d k n me (pc + 3) ls st L M P) : J x d k n me pc ls (.int a :: st) L M P := fun p e R s m args below meth c mc ms H locs cells slots A G hp hS hl h1 h2 => lv_if_ne G.1 G.2.1 hd ht (fun q => kt q p e R s m args below meth c mc ms H locs cells slots A G hp hS hl h1 h2) (fun q => kf q p e R s m args below meth c mc ms H locs cells slots A G hp hS hl h1 h2)
theorem J_if_lt {a : Int32} {off : Int} {tgt : Nat} (hd : decode me.2.1 pc = .ok (.ifCond .lt off, 3)) (ht : (pc : Int) + off = (tgt : Int)) (kt : a < 0 → J x d k n me tgt ls st L M P) (kf : ¬ (a < 0) → J x d k n me (pc + 3) ls st L M P) : J x d k n me pc ls (.int a :: st) L M P := fun p e R s m args below meth c mc ms H locs cells slots A G hp hS hl h1 h2 => lv_if_lt G.1 G.2.1 hd ht (fun q => kt q p e R s m args below meth c mc ms H locs cells slots A G hp hS hl h1 h2) (fun q => kf q p e R s m args below meth c mc ms H locs cells slots A G hp hS hl h1 h2)
theorem J_if_ge {a : Int32} {off : Int} {tgt : Nat} (hd : decode me.2.1 pc = .ok (.ifCond .ge off, 3)) (ht : (pc : Int) + off = (tgt : Int)) (kt : 0 ≤ a → J x d k n me tgt ls st L M P) (kf : ¬ (0 ≤ a) → J x d k n me (pc + 3) ls st L M P) : J x d k n me pc ls (.int a :: st) L M P := fun p e R s m args below meth c mc ms H locs cells slots A G hp hS hl h1 h2 => lv_if_ge G.1 G.2.1 hd ht (fun q => kt q p e R s m args below meth c mc ms H locs cells slots A G hp hS hl h1 h2) (fun q => kf q p e R s m args below meth c mc ms H locs cells slots A G hp hS hl h1 h2)
theorem J_if_gt {a : Int32} {off : Int} {tgt : Nat} (hd : decode me.2.1 pc = .ok (.ifCond .gt off, 3)) (ht : (pc : Int) + off = (tgt : Int)) (kt : 0 < a → J x d k n me tgt ls st L M P) (kf : ¬ (0 < a) → J x d k n me (pc + 3) ls st L M P) : J x d k n me pc ls (.int a :: st) L M P := fun p e R s m args below meth c mc ms H locs cells slots A G hp hS hl h1 h2 => lv_if_gt G.1 G.2.1 hd ht (fun q => kt q p e R s m args below meth c mc ms H locs cells slots A G hp hS hl h1 h2) (fun q => kf q p e R s m args below meth c mc ms H locs cells slots A G hp hS hl h1 h2)
theorem J_if_le {a : Int32} {off : Int} {tgt : Nat} (hd : decode me.2.1 pc = .ok (.ifCond .le off, 3)) (ht : (pc : Int) + off = (tgt : Int)) (kt : a ≤ 0 → J x d k n me tgt ls st L M P) (kf : ¬ (a ≤ 0) → J x d k n me (pc + 3) ls st L M P) : J x d k n me pc ls (.int a :: st) L M P := fun p e R s m args below meth c mc ms H locs cells slots A G hp hS hl h1 h2 => lv_if_le G.1 G.2.1 hd ht (fun q => kt q p e R s m args below meth c mc ms H locs cells slots A G hp hS hl h1 h2) (fun q => kf q p e R s m args below meth c mc ms H locs cells slots A G hp hS hl h1 h2)
theorem J_icmp_eq {a b : Int32} {off : Int} {tgt : Nat} (hd : decode me.2.1 pc = .ok (.if_icmp .eq off, 3)) (ht : (pc : Int) + off = (tgt : Int)) (kt : a = b → J x d k n me tgt ls st L M P) (kf : ¬ (a = b) → J x d k n me (pc + 3) ls st L M P) : J x d k n me pc ls (.int b :: .int a :: st) L M P := fun p e R s m args below meth c mc ms H locs cells slots A G hp hS hl h1 h2 => lv_icmp_eq G.1 G.2.1 hd ht (fun q => kt q p e R s m args below meth c mc ms H locs cells slots A G hp hS hl h1 h2) (fun q => kf q p e R s m args below meth c mc ms H locs cells slots A G hp hS hl h1 h2)
theorem J_icmp_ne {a b : Int32} {off : Int} {tgt : Nat} (hd : decode me.2.1 pc = .ok (.if_icmp .ne off, 3)) (ht : (pc : Int) + off = (tgt : Int)) (kt : ¬ a = b → J x d k n me tgt ls st L M P) (kf : a = b → J x d k n me (pc + 3) ls st L M P) : J x d k n me pc ls (.int b :: .int a :: st) L M P := fun p e R s m args below meth c mc ms H locs cells slots A G hp hS hl h1 h2 => lv_icmp_ne G.1 G.2.1 hd ht (fun q => kt q p e R s m args below meth c mc ms H locs cells slots A G hp hS hl h1 h2) (fun q => kf q p e R s m args below meth c mc ms H locs cells slots A G hp hS hl h1 h2)
theorem J_icmp_lt {a b : Int32} {off : Int} {tgt : Nat} (hd : decode me.2.1 pc = .ok (.if_icmp .lt off, 3)) (ht : (pc : Int) + off = (tgt : Int)) (kt : a < b → J x d k n me tgt ls st L M P) (kf : ¬ (a < b) → J x d k n me (pc + 3) ls st L M P) : J x d k n me pc ls (.int b :: .int a :: st) L M P := fun p e R s m args below meth c mc ms H locs cells slots A G hp hS hl h1 h2 => lv_icmp_lt G.1 G.2.1 hd ht (fun q => kt q p e R s m args below meth c mc ms H locs cells slots A G hp hS hl h1 h2) (fun q => kf q p e R s m args below meth c mc ms H locs cells slots A G hp hS hl h1 h2)
theorem J_icmp_ge {a b : Int32} {off : Int} {tgt : Nat} (hd : decode me.2.1 pc = .ok (.if_icmp .ge off, 3)) (ht : (pc : Int) + off = (tgt : Int)) (kt : b ≤ a → J x d k n me tgt ls st L M P) (kf : ¬ (b ≤ a) → J x d k n me (pc + 3) ls st L M P) : J x d k n me pc ls (.int b :: .int a :: st) L M P := fun p e R s m args below meth c mc ms H locs cells slots A G hp hS hl h1 h2 => lv_icmp_ge G.1 G.2.1 hd ht (fun q => kt q p e R s m args below meth c mc ms H locs cells slots A G hp hS hl h1 h2) (fun q => kf q p e R s m args below meth c mc ms H locs cells slots A G hp hS hl h1 h2)
theorem J_icmp_gt {a b : Int32} {off : Int} {tgt : Nat} (hd : decode me.2.1 pc = .ok (.if_icmp .gt off, 3)) (ht : (pc : Int) + off = (tgt : Int)) (kt : b < a → J x d k n me tgt ls st L M P) (kf : ¬ (b < a) → J x d k n me (pc + 3) ls st L M P) : J x d k n me pc ls (.int b :: .int a :: st) L M P := fun p e R s m args below meth c mc ms H locs cells slots A G hp hS hl h1 h2 => lv_icmp_gt G.1 G.2.1 hd ht (fun q => kt q p e R s m args below meth c mc ms H locs cells slots A G hp hS hl h1 h2) (fun q => kf q p e R s m args below meth c mc ms H locs cells slots A G hp hS hl h1 h2)
theorem J_icmp_le {a b : Int32} {off : Int} {tgt : Nat} (hd : decode me.2.1 pc = .ok (.if_icmp .le off, 3)) (ht : (pc : Int) + off = (tgt : Int)) (kt : a ≤ b → J x d k n me tgt ls st L M P) (kf : ¬ (a ≤ b) → J x d k n me (pc + 3) ls st L M P) : J x d k n me pc ls (.int b :: .int a :: st) L M P := fun p e R s m args below meth c mc ms H locs cells slots A G hp hS hl h1 h2 => lv_icmp_le G.1 G.2.1 hd ht (fun q => kt q p e R s m args below meth c mc ms H locs cells slots A G hp hS hl h1 h2) (fun q => kf q p e R s m args below meth c mc ms H locs cells slots A G hp hS hl h1 h2)
theorem J_goto {off : Int} {tgt : Nat} (hd : decode me.2.1 pc = .ok (.goto off, 3)) (ht : (pc : Int) + off = (tgt : Int)) (kk : J x d k n me tgt ls st L M P) : J x d k n me pc ls st L M P := fun p e R s m args below meth c mc ms H locs cells slots A G hp hS hl h1 h2 => lv_goto G.1 G.2.1 hd ht (kk p e R s m args below meth c mc ms H locs cells slots A G hp hS hl h1 h2)
theorem J_tsOut {dflt lo hi : Int} {offs : Array Int} {len : Nat} {a : Int32} {tgt : Nat} (hd : decode me.2.1 pc = .ok (.tableswitch dflt lo hi offs, len)) (h : a.toInt < lo ∨ hi < a.toInt) (ht : (pc : Int) + dflt = (tgt : Int)) (kk : J x d k n me tgt ls st L M P) : J x d k n me pc ls (.int a :: st) L M P := fun p e R s m args below meth c mc ms H locs cells slots A G hp hS hl h1 h2 => lv_tableOut G.1 G.2.1 hd h ht (kk p e R s m args below meth c mc ms H locs cells slots A G hp hS hl h1 h2)
theorem J_tsIn {dflt lo hi : Int} {offs : Array Int} {len : Nat} {a : Int32} {off : Int} {tgt : Nat} (hd : decode me.2.1 pc = .ok (.tableswitch dflt lo hi offs, len)) (ha : ¬ a.toInt < lo) (hb : ¬ hi < a.toInt) (ho : offs[(a.toInt - lo).toNat]? = some off) (ht : (pc : Int) + off = (tgt : Int)) (kk : J x d k n me tgt ls st L M P) : J x d k n me pc ls (.int a :: st) L M P := fun p e R s m args below meth c mc ms H locs cells slots A G hp hS hl h1 h2 => lv_tableIn G.1 G.2.1 hd ha hb ho ht (kk p e R s m args below meth c mc ms H locs cells slots A G hp hS hl h1 h2)
theorem J_lsw {dflt : Int} {ps : Array (Int × Int)} {len : Nat} {a : Int32} {off : Int} {tgt : Nat} (hd : decode me.2.1 pc = .ok (.lookupswitch dflt ps, len)) (hq : (ps.toList.zip (ps.toList.drop 1)).all (fun (a, next) => a.1 < next.1) = true) (ho : Op.lookupswitch.offset ps.toList dflt a.toInt = off) (ht : (pc : Int) + off = (tgt : Int)) (kk : J x d k n me tgt ls st L M P) : J x d k n me pc ls (.int a :: st) L M P := fun p e R s m args below meth c mc ms H locs cells slots A G hp hS hl h1 h2 => lv_lookup G.1 G.2.1 hd hq ho ht (kk p e R s m args below meth c mc ms H locs cells slots A G hp hS hl h1 h2)
theorem J_top {a b : Int32} (h : a = b) (kk : J x d k n me pc ls (.int b :: st) L M P) : J x d k n me pc ls (.int a :: st) L M P := h ▸ kk
theorem J_wk {ls' : List (Option Value)} (hn : ls'.length = ls.length) (hw : ∀ (i : Nat) (v : Value), ls'[i]? = some (some v) → ls[i]? = some (some v)) (kk : J x d k n me pc ls' st L M P) : J x d k n me pc ls st L M P := fun p e R s m args below meth c mc ms H locs cells slots A G hp hS hl h1 h2 => kk p e R s m args below meth c mc ms H locs cells slots A G hp hS (hl.wk hn hw) h1 h2
theorem J_bud {k' n' : Nat} (hk : k' ≤ k) (hn : n' ≤ n) (kk : J x d k' n' me pc ls st L M P) : J x d k n me pc ls st L M P := fun p e R s m args below meth c mc ms H locs cells slots A G hp hS hl h1 h2 => kk p e R s m args below meth c mc ms H locs cells slots A G hp hS hl (by omega) (by omega)
theorem J_mono {P' : jP} (h : ∀ r L M, P' r L M → P r L M) (kk : J x d k n me pc ls st L M P') : J x d k n me pc ls st L M P := by
  intro p e R s m args below meth c mc ms H locs cells slots A G hp hS hl h1 h2
  intro T hT X
  obtain ⟨t, a, o, b1, b2, ⟨⟨r, L1, M1, q1, q2, q3⟩, q4⟩, q5⟩ := kk p e R s m args below meth c mc ms H locs cells slots A G hp hS hl h1 h2 T hT X
  exact ⟨t, a, o, b1, b2, ⟨⟨r, L1, M1, q1, h _ _ _ q2, q3⟩, q4⟩, q5⟩
theorem jres_of {s t : State} {H : Heap} {locs : List Loc} {args : Array Value} {v : Option Value} (hp : j_hp x L M H) (hS : va_S (jA x) s.heap H locs) (hP : P v L M) (ht : t.heap = H) : jRes x P args s (.returned v) t := ⟨⟨v, L, M, rfl, hP, by rw [ht]; exact hp⟩, hS.F ht⟩
theorem J_iret {v : Int32} (hd : decode me.2.1 pc = .ok (.ireturn, 1)) (hr : me.2.2.2 = some .int) (hP : P (some (.int v)) L M) : J x d k n me pc ls [.int v] L M P := fun p e R s m args below meth c mc ms H locs cells slots A G hp hS hl h1 h2 => W.widen (Nat.le_of_add_right_le h1) (Nat.le_of_add_right_le h2) (W.iret G.1 G.2.1 (G.2.2.1.trans hr) (fun t ht _ => jres_of hp hS hP ht) hS.2.2 hd G.2.2.2.2.2.2.1)
theorem J_zret {v : Int32} {ty : FieldType} (hd : decode me.2.1 pc = .ok (.ireturn, 1)) (hr : me.2.2.2 = some ty) (hn : narrow ty (.int v) = .int v) (hP : P (some (.int v)) L M) : J x d k n me pc ls [.int v] L M P := fun p e R s m args below meth c mc ms H locs cells slots A G hp hS hl h1 h2 => W.widen (Nat.le_of_add_right_le h1) (Nat.le_of_add_right_le h2) (W.zret G.1 G.2.1 (G.2.2.1.trans hr) hn (fun t ht _ => jres_of hp hS hP ht) hS.2.2 hd G.2.2.2.2.2.2.1)
theorem J_vret (hd : decode me.2.1 pc = .ok (.return_, 1)) (hr : me.2.2.2 = none) (hP : P none L M) : J x d k n me pc ls [] L M P := fun p e R s m args below meth c mc ms H locs cells slots A G hp hS hl h1 h2 => W.widen (Nat.le_of_add_right_le h1) (Nat.le_of_add_right_le h2) (W.vret G.1 G.2.1 (G.2.2.1.trans hr) (fun t ht _ => jres_of hp hS hP ht) hS.2.2 hd G.2.2.2.2.2.2.1)
theorem J_aret {a : Nat} {rt : FieldType} (hd : decode me.2.1 pc = .ok (.areturn, 1)) (hr : me.2.2.2 = some rt) (hrt : (∃ n, rt = .object n) ∨ ∃ t, rt = .array t) (hP : P (some (.ref a)) L M) : J x d k n me pc ls [.ref a] L M P := fun p e R s m args below meth c mc ms H locs cells slots A G hp hS hl h1 h2 => W.widen (Nat.le_of_add_right_le h1) (Nat.le_of_add_right_le h2) (W.aret G.1 G.2.1 (G.2.2.1.trans hr) hrt (Or.inr ⟨a, rfl⟩) (fun t ht _ => jres_of hp hS hP ht) hS.2.2 hd G.2.2.2.2.2.2.1)
theorem J_start {as : List Value} (hplain : plainName me.1.cls = true) (hb : (lg_sl as).length ≤ me.2.2.1) (hls : jls 0 ls = lv_args 0 as) (hn : ls.length = me.2.2.1) (kk : J x d k n me 0 ls [] L M P) : jCt x d k n me as L M P := by
  intro R hRc hRs hRf hRl
  refine Met.ofW (cc := me.2.1) (maxL := me.2.2.1) (ret := me.2.2.2) hplain rfl ?_
  intro p e s m args below meth c s₁ B hml hv
  obtain ⟨rfl, hH, hp⟩ := hv
  have hts := atoms_spec (ws := jWs me) B.pre
  have hl := lv_entry as (n := me.2.2.1) hb
  rw [lg_entry_eq]
  exact kk p e R s m as.toArray below meth c k n s.heap [] 0 0 _ ⟨B.exec, B.bytes, B.returns, hml, fun w hw => hts w (List.mem_cons_of_mem _ hw), findClass_of_methodNamed B.named, B.notSynchronized, fun _ => (name_of_methodNamed B.named B.method).1, hH, hRc, hRs, hRf, hRl⟩ hp va_S.rf ⟨hls ▸ hl, hn⟩ (by omega) (by omega)
end J1
