-- ===== calls =====
def jLk (own : String) (idx : Nat) (y : jMe) (np : Nat) : Prop := (Cond.methodLink own idx y.1 ∈ jgw ∨ ∃ host, Cond.methodLinkNest own idx y.1 host ∈ jnw) ∧ Cond.code y.1 y.2.1 y.2.2.1 y.2.2.2 ∈ jgw ∧ Cond.initialized y.1.cls ∈ jgw ∧
  (y.1.cls ≠ "java/lang/invoke/MethodHandle" ∧ y.1.cls ≠ "java/lang/invoke/VarHandle" ∧ (parseMethodDescriptor y.1.desc).map (fun d => d.parameters.length) = some np) ∧ y.2.2.1 ≤ 22
def jLkV (own : String) (idx : Nat) (y : jMe) (np : Nat) : Prop := jLk own idx y np ∧ Cond.instanceMethod y.1 ∈ jgw ∧ Cond.selects y.1.cls y.1 y.1 ∈ jgw
def jLkS (own : String) (idx : Nat) (y : jMe) (np : Nat) : Prop := jLk own idx y np ∧ Cond.static y.1 ∈ jgw
def jLkI (own : String) (idx : Nat) (y : jMe) (np : Nat) : Prop := jLk own idx y np ∧ Cond.instanceMethod y.1 ∈ jgw ∧ y.1.name = "<init>" ∧ y.2.2.2 = none
section J3
variable {x : jX} {d k n : Nat} {me : jMe} {pc : Nat} {ls : List (Option Value)} {st : List Value} {L : jL} {M : jM} {P : jP}
theorem jWs_good {y : jMe} (h : Cond.code y.1 y.2.1 y.2.2.1 y.2.2.2 ∈ jgw) : GoodIn jgw (jWs y) := fun w hw => by
  rcases List.mem_cons.mp hw with e | e
  · rw [e]; exact jgw_good _ h
  · exact jgw_good _ e
theorem jCallB {R : Room} {s : State} {args : Array Value} {own : String} {idx np k n d : Nat} {y : jMe} (hts : ∀ w ∈ jgw, w.before args s = true) (h : jLk own idx y np) (hlink : Cond.methodLink own idx y.1 ∈ jgw) (hf : d + 1 ≤ R.frames) (hl : 41 * (d + 1) ≤ R.locals) :
    CallB R s args own idx y.1 y.2.1 y.2.2.1 y.2.2.2 (jWs y) { frames := d, cells := k, slots := n, locals := 41 * d } k n np :=
  callB_of (ws' := jgw) np hts (jWs_good h.2.1) rfl rfl rfl (hts _ h.2.2.1) (hts _ hlink) h.2.2.2.1 ⟨hf, by show 8 + (y.2.2.1 + 11) + 41 * d ≤ R.locals; have := h.2.2.2.2; omega⟩
theorem jCallN {R : Room} {s : State} {args : Array Value} {own host : String} {idx np k n d : Nat} {y : jMe} (hts : ∀ w ∈ jgw, w.before args s = true) (h : jLk own idx y np) (hlink : va_Nw (.methodLinkNest own idx y.1 host) s) (hf : d + 1 ≤ R.frames) (hl : 41 * (d + 1) ≤ R.locals) :
    va_CN R s args own idx y.1 host y.2.1 y.2.2.1 y.2.2.2 (jWs y) { frames := d, cells := k, slots := n, locals := 41 * d } k n np :=
  va_cnB (ws' := jgw) np hts (jWs_good h.2.1) rfl rfl rfl hlink (hts _ h.2.2.1) h.2.2.2.1 ⟨hf, by show 8 + (y.2.2.1 + 11) + 41 * d ≤ R.locals; have := h.2.2.2.2; omega⟩
theorem j_after {p : Program} {l : Launch} {e : Env} {R : Room} {s : State} {m : MethodId} {args a : Array Value} {below : List Frame} {meth : Method} {c : Code} {H : Heap} {locs : List Loc} {cells slots mc ms : Nat} {A : Array Slot} {rest st0 : List Value} {Q : State → Prop} {P1 : jP}
    (hr : va_Run p l e R s m args below meth c H locs cells slots mc ms (F0 m pc A st0) rest (jRes x P1 a) (jA x)) (hS : va_S (jA x) s.heap H locs)
    (kk : ∀ (r : Option Value) (L1 : jL) (M1 : jM) (H1 : Heap) (locs1 : List Loc), P1 r L1 M1 → j_hp x L1 M1 H1 → va_S (jA x) s.heap H1 locs1 → W p l e R s m args below meth c H1 locs1 (cells + mc) (slots + ms) Q (F0 m (pc + 3) A (r.toList ++ rest))) :
    W p l e R s m args below meth c H locs cells slots Q (F0 m pc A st0) := by
  intro T hT X
  obtain ⟨v, st₀, t, T', L0, h0, X', hL, e1, e2, ⟨⟨r, L1, M1, hv, hp, hh⟩, hz, hk⟩, stp⟩ := hr T hT X
  cases hv
  rw [h0] at hz hk
  obtain ⟨t2, a1, b1⟩ := kk v L1 M1 T'.heap (locs ++ L0) hp (by rw [e1]; exact hh)
    ⟨Nat.le_trans hS.1 (by rw [e1]; exact hz), fun q g1 g2 => by rw [e1, hk q (Nat.lt_of_lt_of_le g1 hS.1) g2]; exact hS.2.1 q g1 g2, fun q hq => by
      rcases List.mem_append.mp hq with h | h
      · exact hS.2.2 q h
      · exact hL q h⟩ T' rfl X'
  exact ⟨t2, stp t2 a1, b1⟩
theorem J_callV {idx np ci N id k' n' : Nat} {y : jMe} {As rest : List Value} {P1 : jP} (hd : decode me.2.1 pc = .ok (.invokevirtual idx, 3)) (hy : jLkV me.1.cls idx y np) (hn : As.length = np) (hL : L[id]? = some (ci + 4, N)) (hC : (vwCl[ci]?).map (fun q => q.1) = some y.1.cls) (hs : st = As.reverse ++ .ref (jxb x + id) :: rest) (hW : (rest.map fun v => v.category).sum ≤ 8)
    (hc : jCt x d k' n' y (.ref (jxb x + id) :: As) L M P1) (kk : ∀ (r : Option Value) (L1 : jL) (M1 : jM), P1 r L1 M1 → J x (d + 1) k n me (pc + 3) ls (r.toList ++ rest) L1 M1 P) : J x (d + 1) (k + k') (n + n') me pc ls st L M P := by
  intro p e R s m args below meth c mc ms H locs cells slots A G hp hS hl h1 h2
  have hJ : jH x s s.heap := G.2.2.2.2.2.2.2.2.1
  have hts := G.2.2.2.2.1
  have hfr := G.2.2.2.2.2.2.2.2.2.2.2
  have hM := hc { frames := d, cells := k', slots := n', locals := 41 * d } rfl rfl (Nat.le_refl _) (Nat.le_refl _)
  have hR : R.cells = mc := G.2.2.2.2.2.2.2.2.2.1
  have hR2 : R.slots = ms := G.2.2.2.2.2.2.2.2.2.2.1
  have hrecv : ∃ cellB : Cell, H[jxb x + id]? = some cellB ∧ cellB.vm.isStatics = false ∧ s.vm.findClass y.1.cls = some cellB.cls := by
    obtain ⟨cell, q1, q2, q3, -⟩ := hp.obj hL
    cases hq : vwCl[ci]? with
    | none => rw [hq] at hC; cases hC
    | some q =>
      rw [hq] at hC
      have hC' : q.1 = y.1.cls := Option.some.inj hC
      exact ⟨cell, q1, by rw [q3]; rfl, by rw [q2, ← hC']; exact (hJ.1.1 ci q hq).2.1⟩
  have hPc : ∀ U : State, U.heap = H → s.WarmedH U.vm → jPc x (.ref (jxb x + id) :: As) L M (Value.ref (jxb x + id) :: As).toArray U := fun U hU hWm => ⟨rfl, by rw [hU]; exact (hJ.kept hS).warm hWm, by rw [hU]; exact hp⟩
  have cont : ∀ (r : Option Value) (L1 : jL) (M1 : jM) (H1 : Heap) (locs1 : List Loc), P1 r L1 M1 → j_hp x L1 M1 H1 → va_S (jA x) s.heap H1 locs1 → W p (jxL x) e R s m args below meth c H1 locs1 (cells + k') (slots + n') (MQ below (jRes x P) args s mc ms (jA x)) (F0 m (pc + 3) A (r.toList ++ rest)) := fun r L1 M1 H1 locs1 q1 q2 q3 => kk r L1 M1 q1 p e R s m args below meth c mc ms H1 locs1 _ _ A G q2 q3 hl (by omega) (by omega)
  subst hs
  rcases hy.1.1 with hl1 | ⟨host, hl1⟩
  · exact j_after (va_runV (As := As) (rest := rest) (b := jxb x + id) (C := y.1.cls) ⟨G.1, G.2.1, G.2.2.2.1, G.2.2.2.2.2.1, hts⟩ hM ⟨jCallB hts hy.1 hl1 hfr.1 hfr.2, hts _ hy.2.1, hts _ hy.2.2⟩ ⟨jPc.blind x _ L M, hrecv, hPc⟩ rfl hn hl.1.1 rfl (lv_room hW) hd ⟨by omega, by omega⟩) hS cont
  · exact j_after (va_runVN (As := As) (rest := rest) (b := jxb x + id) (C := y.1.cls) (host := host) ⟨G.1, G.2.1, G.2.2.2.1, G.2.2.2.2.2.1, hts⟩ hM ⟨jCallN hts hy.1 (hJ.2.1 _ hl1) hfr.1 hfr.2, hts _ hy.2.1, hts _ hy.2.2⟩ ⟨jPc.blind x _ L M, hrecv, hPc⟩ rfl hn hl.1.1 rfl (lv_room hW) hd ⟨by omega, by omega⟩) hS cont
theorem J_callS {idx np k' n' : Nat} {y : jMe} {As rest : List Value} {P1 : jP} (hd : decode me.2.1 pc = .ok (.invokestatic idx, 3)) (hy : jLkS me.1.cls idx y np) (hn : As.length = np) (hs : st = As.reverse ++ rest) (hW : (rest.map fun v => v.category).sum ≤ 8)
    (hc : jCt x d k' n' y As L M P1) (kk : ∀ (r : Option Value) (L1 : jL) (M1 : jM), P1 r L1 M1 → J x (d + 1) k n me (pc + 3) ls (r.toList ++ rest) L1 M1 P) : J x (d + 1) (k + k') (n + n') me pc ls st L M P := by
  intro p e R s m args below meth c mc ms H locs cells slots A G hp hS hl h1 h2
  have hJ : jH x s s.heap := G.2.2.2.2.2.2.2.2.1
  have hts := G.2.2.2.2.1
  have hfr := G.2.2.2.2.2.2.2.2.2.2.2
  have hM := hc { frames := d, cells := k', slots := n', locals := 41 * d } rfl rfl (Nat.le_refl _) (Nat.le_refl _)
  have hR : R.cells = mc := G.2.2.2.2.2.2.2.2.2.1
  have hR2 : R.slots = ms := G.2.2.2.2.2.2.2.2.2.2.1
  have hPc : ∀ U : State, U.heap = H → s.WarmedH U.vm → jPc x As L M As.toArray U := fun U hU hWm => ⟨rfl, by rw [hU]; exact (hJ.kept hS).warm hWm, by rw [hU]; exact hp⟩
  have cont : ∀ (r : Option Value) (L1 : jL) (M1 : jM) (H1 : Heap) (locs1 : List Loc), P1 r L1 M1 → j_hp x L1 M1 H1 → va_S (jA x) s.heap H1 locs1 → W p (jxL x) e R s m args below meth c H1 locs1 (cells + k') (slots + n') (MQ below (jRes x P) args s mc ms (jA x)) (F0 m (pc + 3) A (r.toList ++ rest)) := fun r L1 M1 H1 locs1 q1 q2 q3 => kk r L1 M1 q1 p e R s m args below meth c mc ms H1 locs1 _ _ A G q2 q3 hl (by omega) (by omega)
  subst hs
  rcases hy.1.1 with hl1 | ⟨host, hl1⟩
  · exact j_after (va_runS (As := As) (rest := rest) ⟨G.1, G.2.1, G.2.2.2.1, G.2.2.2.2.2.1, hts⟩ hM ⟨jCallB hts hy.1 hl1 hfr.1 hfr.2, hts _ hy.2⟩ ⟨jPc.blind x _ L M, hPc⟩ rfl hn hl.1.1 rfl (lv_room hW) hd ⟨by omega, by omega⟩) hS cont
  · exact j_after (va_runSN (As := As) (rest := rest) (host := host) ⟨G.1, G.2.1, G.2.2.2.1, G.2.2.2.2.2.1, hts⟩ hM ⟨jCallN hts hy.1 (hJ.2.1 _ hl1) hfr.1 hfr.2, hts _ hy.2, trivial⟩ ⟨jPc.blind x _ L M, hPc⟩ rfl hn hl.1.1 rfl (lv_room hW) hd ⟨by omega, by omega⟩) hS cont
theorem J_callI {idx np id k' n' : Nat} {y : jMe} {As rest : List Value} {P1 : jP} (hd : decode me.2.1 pc = .ok (.invokespecial idx, 3)) (hy : jLkI me.1.cls idx y np) (hn : As.length = np) (hs : st = As.reverse ++ .ref (jxb x + id) :: rest) (hW : (rest.map fun v => v.category).sum ≤ 8)
    (hc : jCt x d k' n' y (.ref (jxb x + id) :: As) L M P1) (kk : ∀ (r : Option Value) (L1 : jL) (M1 : jM), P1 r L1 M1 → J x (d + 1) k n me (pc + 3) ls (r.toList ++ rest) L1 M1 P) : J x (d + 1) (k + k') (n + n') me pc ls st L M P := by
  intro p e R s m args below meth c mc ms H locs cells slots A G hp hS hl h1 h2
  have hJ : jH x s s.heap := G.2.2.2.2.2.2.2.2.1
  have hts := G.2.2.2.2.1
  have hfr := G.2.2.2.2.2.2.2.2.2.2.2
  have hM := hc { frames := d, cells := k', slots := n', locals := 41 * d } rfl rfl (Nat.le_refl _) (Nat.le_refl _)
  have hR : R.cells = mc := G.2.2.2.2.2.2.2.2.2.1
  have hR2 : R.slots = ms := G.2.2.2.2.2.2.2.2.2.2.1
  have hPc : ∀ U : State, U.heap = H → s.WarmedH U.vm → jPc x (.ref (jxb x + id) :: As) L M (Value.ref (jxb x + id) :: As).toArray U := fun U hU hWm => ⟨rfl, by rw [hU]; exact (hJ.kept hS).warm hWm, by rw [hU]; exact hp⟩
  have cont : ∀ (r : Option Value) (L1 : jL) (M1 : jM) (H1 : Heap) (locs1 : List Loc), P1 r L1 M1 → j_hp x L1 M1 H1 → va_S (jA x) s.heap H1 locs1 → W p (jxL x) e R s m args below meth c H1 locs1 (cells + k') (slots + n') (MQ below (jRes x P) args s mc ms (jA x)) (F0 m (pc + 3) A (r.toList ++ rest)) := fun r L1 M1 H1 locs1 q1 q2 q3 => kk r L1 M1 q1 p e R s m args below meth c mc ms H1 locs1 _ _ A G q2 q3 hl (by omega) (by omega)
  subst hs
  obtain ⟨ym, yc, yl, yr⟩ := y
  obtain ⟨hy1, hy2, hy3, hy4⟩ := hy
  cases (show yr = none from hy4)
  rcases hy1.1 with hl1 | ⟨host, hl1⟩
  · exact j_after (va_runI (As := As) (rest := rest) (b := jxb x + id) ⟨G.1, G.2.1, G.2.2.2.1, G.2.2.2.2.2.1, hts⟩ hM ⟨jCallB hts hy1 hl1 hfr.1 hfr.2, hy3, hts _ hy2⟩ ⟨jPc.blind x _ L M, hPc⟩ rfl hn hl.1.1 rfl (lv_room hW) hd ⟨by omega, by omega⟩) hS cont
  · exact j_after (va_runIN (As := As) (rest := rest) (b := jxb x + id) (host := host) ⟨G.1, G.2.1, G.2.2.2.1, G.2.2.2.2.2.1, hts⟩ hM ⟨jCallN hts hy1 (hJ.2.1 _ hl1) hfr.1 hfr.2, hy3, hts _ hy2⟩ ⟨jPc.blind x _ L M, hPc⟩ rfl hn hl.1.1 rfl (lv_room hW) hd ⟨by omega, by omega⟩) hS cont
-- Object's constructor, Math
theorem J_obj {idx : Nat} {a : Nat} (hd : decode me.2.1 pc = .ok (.invokespecial idx, 3)) (hlink : Cond.methodLink me.1.cls idx Lib.objectInit ∈ jgw) (hi : Cond.instanceMethod Lib.objectInit ∈ jgw) (hc : Cond.code Lib.objectInit ⟨#[0xb1]⟩ 1 none ∈ jgw) (hW : (st.map fun v => v.category).sum ≤ 8) (kk : J x (d + 1) k n me (pc + 3) ls st L M P) : J x (d + 1) k n me pc ls (.ref a :: st) L M P := by
  intro p e R s m args below meth c mc ms H locs cells slots A G hp hS hl h1 h2
  have hts := G.2.2.2.2.1
  have hfr := G.2.2.2.2.2.2.2.2.2.2.2
  refine W.objInit G.1 G.2.1 G.2.2.2.2.2.1 (hts _ hlink) (hts _ hi) (hts _ hc) rfl (by rw [G.2.2.2.1]; exact hl.1.1) rfl hd (by omega) (by show 2 * 0 + _ + 12 ≤ _; omega) ?_
  exact kk p e R s m args below meth c mc ms H locs cells slots A G hp hS hl h1 h2
theorem J_max {idx : Nat} {a b : Int32} (hd : decode me.2.1 pc = .ok (.invokestatic idx, 3)) (hlink : Cond.methodLink me.1.cls idx Lib.Math.max.name ∈ jgw) (hs : Cond.static Lib.Math.max.name ∈ jgw) (hi : Cond.initialized "java/lang/Math" ∈ jgw) (hc : Cond.code Lib.Math.max.name Lib.Math.max.code 2 (some .int) ∈ jgw) (hW : (st.map fun v => v.category).sum ≤ 8) (kk : J x (d + 1) k n me (pc + 3) ls (.int (if a < b then b else a) :: st) L M P) : J x (d + 1) k n me pc ls (.int b :: .int a :: st) L M P := by
  intro p e R s m args below meth c mc ms H locs cells slots A G hp hS hl h1 h2
  have hts := G.2.2.2.2.1
  have hfr := G.2.2.2.2.2.2.2.2.2.2.2
  have hR : R.cells = mc := G.2.2.2.2.2.2.2.2.2.1
  have hR2 : R.slots = ms := G.2.2.2.2.2.2.2.2.2.2.1
  exact va_mmax G.1 G.2.1 (G.2.2.2.1.trans hl.1.1.symm) G.2.2.2.2.2.1 (hts _ hlink) (hts _ hs) (hts _ hi) (hts _ hc) (by omega) (by omega) (by omega) (by omega) hd (kk p e R s m args below meth c mc ms H locs cells slots A G hp hS hl h1 h2)
theorem J_min {idx : Nat} {a b : Int32} (hd : decode me.2.1 pc = .ok (.invokestatic idx, 3)) (hlink : Cond.methodLink me.1.cls idx Lib.Math.min.name ∈ jgw) (hs : Cond.static Lib.Math.min.name ∈ jgw) (hi : Cond.initialized "java/lang/Math" ∈ jgw) (hc : Cond.code Lib.Math.min.name Lib.Math.min.code 2 (some .int) ∈ jgw) (hW : (st.map fun v => v.category).sum ≤ 8) (kk : J x (d + 1) k n me (pc + 3) ls (.int (if b < a then b else a) :: st) L M P) : J x (d + 1) k n me pc ls (.int b :: .int a :: st) L M P := by
  intro p e R s m args below meth c mc ms H locs cells slots A G hp hS hl h1 h2
  have hts := G.2.2.2.2.1
  have hfr := G.2.2.2.2.2.2.2.2.2.2.2
  have hR : R.cells = mc := G.2.2.2.2.2.2.2.2.2.1
  have hR2 : R.slots = ms := G.2.2.2.2.2.2.2.2.2.2.1
  exact va_mmin G.1 G.2.1 (G.2.2.2.1.trans hl.1.1.symm) G.2.2.2.2.2.1 (hts _ hlink) (hts _ hs) (hts _ hi) (hts _ hc) (by omega) (by omega) (by omega) (by omega) hd (kk p e R s m args below meth c mc ms H locs cells slots A G hp hS hl h1 h2)
theorem J_abs {idx : Nat} {a : Int32} (hd : decode me.2.1 pc = .ok (.invokestatic idx, 3)) (hlink : Cond.methodLink me.1.cls idx Lib.Math.abs.name ∈ jgw) (hs : Cond.static Lib.Math.abs.name ∈ jgw) (hi : Cond.initialized "java/lang/Math" ∈ jgw) (hc : Cond.code Lib.Math.abs.name Lib.Math.abs.code 1 (some .int) ∈ jgw) (hW : (st.map fun v => v.category).sum ≤ 8) (kk : J x (d + 1) k n me (pc + 3) ls (.int (if 0 ≤ a then a else 0 - a) :: st) L M P) : J x (d + 1) k n me pc ls (.int a :: st) L M P := by
  intro p e R s m args below meth c mc ms H locs cells slots A G hp hS hl h1 h2
  have hts := G.2.2.2.2.1
  have hfr := G.2.2.2.2.2.2.2.2.2.2.2
  have hR : R.cells = mc := G.2.2.2.2.2.2.2.2.2.1
  have hR2 : R.slots = ms := G.2.2.2.2.2.2.2.2.2.2.1
  exact va_mabs G.1 G.2.1 (G.2.2.2.1.trans hl.1.1.symm) G.2.2.2.2.2.1 (hts _ hlink) (hts _ hs) (hts _ hi) (hts _ hc) (by omega) (by omega) (by omega) (by omega) hd (kk p e R s m args below meth c mc ms H locs cells slots A G hp hS hl h1 h2)
-- arraycopy among int rows; from a table
theorem j_nn (z : Int32) (hz : ¬ z < 0) : z.toInt = (z.toNatClampNeg : Int) := by
  have hz0 : (0 : Int) ≤ z.toInt := by
    have := Int32.not_lt.mp hz
    simpa using Int32.le_iff_toInt_le.mp this
  show z.toInt = ((z.toInt.toNat : Nat) : Int)
  omega
theorem J_acopy {idx id0 id1 N0 N1 : Nat} {sp dp z : Int32} (hd : decode me.2.1 pc = .ok (.invokestatic idx, 3)) (hlink : Cond.methodLink me.1.cls idx arraycopyName ∈ jgw) (hnat : Cond.native arraycopyName ∈ jgw) (hstat : Cond.static arraycopyName ∈ jgw) (hini : Cond.initialized "java/lang/System" ∈ jgw)
    (hL0 : L[id0]? = some (0, N0)) (hL1 : L[id1]? = some (0, N1)) (g1 : ¬ sp < 0) (g2 : ¬ dp < 0) (g3 : ¬ z < 0) (g4 : sp.toNatClampNeg + z.toNatClampNeg ≤ N0) (g5 : dp.toNatClampNeg + z.toNatClampNeg ≤ N1) (hfit : ∀ i, i < z.toNatClampNeg → fits .int (M id0 (sp.toNatClampNeg + i)) = true) (hW : (st.map fun v => v.category).sum ≤ 8)
    (kk : J x (d + 1) k n me (pc + 3) ls st L (jset M id1 (va_cpy (M id0) (M id1) sp.toNatClampNeg dp.toNatClampNeg z.toNatClampNeg)) P) : J x (d + 1) k n me pc ls (.int z :: .int dp :: .ref (jxb x + id1) :: .int sp :: .ref (jxb x + id0) :: st) L M P := by
  intro p e R s m args below meth c mc ms H locs cells slots A G hp hS hl h1 h2
  have hts := G.2.2.2.2.1
  have hJ : jH x s s.heap := G.2.2.2.2.2.2.2.2.1
  have hfr := G.2.2.2.2.2.2.2.2.2.2.2
  intro T hT X
  have hc0 := hp.arr hL0 (by decide)
  have hc1 := hp.arr hL1 (by decide)
  obtain ⟨-, k0, hk0, cm0, hkk0⟩ := jK_arr hJ (t := 0) (by decide) N0 (M id0)
  obtain ⟨-, k1, hk1, cm1, hkk1⟩ := jK_arr hJ (t := 0) (by decide) N1 (M id1)
  obtain ⟨vm', X', step⟩ := X.arraycopy G.1 G.2.2.2.2.2.1 (hts _ hlink) (hts _ hnat) (hts _ hstat) (hts _ hini) (src := jxb x + id0) (dst := jxb x + id1) (cs := arrV (jxa x 0) N0 (M id0)) (cd := arrV (jxa x 0) N1 (M id1)) (srcPos := sp) (destPos := dp) (n := z) (by rw [hT]; exact hc0) (by rw [hT]; exact hc1)
    (fun _ h => by cases h) (fun _ h => by cases h) (fun h => by cases h) (fun h => by cases h) hk0 hk1 hkk0 hkk1 (by simp [refKind, jty]) g1 g2 g3
    (by rw [j_nn sp g1, j_nn z g3, arrV_size]; omega)
    (by rw [j_nn dp g2, j_nn z g3, arrV_size]; omega)
    (fun vm₁ _ i hi => by
      have e : (arrV (jxa x 0) N0 (M id0)).slots.getD (sp.toNatClampNeg + i) .null = M id0 (sp.toNatClampNeg + i) := by
        rw [Array.getD_eq_getD_getElem?, arrV_read _ _ (by omega)]
        rfl
      refine ⟨?_, ?_⟩
      · rw [e]
        exact hfit i hi
      · rw [e]
        have hf := hfit i hi
        cases hv : M id0 (sp.toNatClampNeg + i) <;> rw [hv] at hf <;> first | exact trivial | simp [fits] at hf)
    (g := F0 m pc A (.int z :: .int dp :: .ref (jxb x + id1) :: .int sp :: .ref (jxb x + id0) :: st)) rfl (by rw [G.2.2.2.1]; exact hl.1.1) (rest := st) rfl (by rw [G.2.1]; exact hd) (by omega) (by
      have : nativeFrameWords "java/lang/System" "arraycopy" 5 + 11 ≤ 33 := by decide +kernel
      show 2 * 0 + _ + _ ≤ _; omega)
  have e1 : copied (arrV (jxa x 0) N0 (M id0)) (arrV (jxa x 0) N1 (M id1)) sp dp z = arrV (jxa x 0) N1 (va_cpy (M id0) (M id1) sp.toNatClampNeg dp.toNatClampNeg z.toNatClampNeg) := va_copied (fun v => v) (jxa x 0) (jxa x 0) (M id0) (M id1) g4
  rw [e1] at step X'
  have hl1 : jxb x + id1 < H.size := hp.lt hL1
  have hheap : ((T.setVm vm').setCell (jxb x + id1) (arrV (jxa x 0) N1 (va_cpy (M id0) (M id1) sp.toNatClampNeg dp.toNatClampNeg z.toNatClampNeg))).heap = H.setIfInBounds (jxb x + id1) (arrV (jxa x 0) N1 (va_cpy (M id0) (M id1) sp.toNatClampNeg dp.toNatClampNeg z.toNatClampNeg)) := by rw [← hT]; rfl
  have oq : ∀ q : Nat, q ≠ jxb x + id1 → (H.setIfInBounds (jxb x + id1) (arrV (jxa x 0) N1 (va_cpy (M id0) (M id1) sp.toNatClampNeg dp.toNatClampNeg z.toNatClampNeg)))[q]? = H[q]? := fun q hq => by simp [Array.getElem?_setIfInBounds, Ne.symm hq]
  obtain ⟨t, a1, b1⟩ := kk p e R s m args below meth c mc ms _ _ cells slots A G (hp.set hL1 (by simp) oq (j_at_arr (by decide) (by simp [Array.getElem?_setIfInBounds, hl1])))
    ⟨by simp; exact hS.1, fun q g1 g2 => by
      rw [oq q (fun e => g2 (by rw [e]; exact Nat.le_add_right _ _))]
      exact hS.2.1 q g1 g2, fun q hq => by
      rcases List.mem_append.mp hq with h | h
      · exact hS.2.2 q h
      · obtain ⟨z, -, hz⟩ := List.mem_map.mp h
        rw [← hz]
        exact Nat.le_add_right _ _⟩ hl h1 h2 _ hheap X'
  exact ⟨t, step t a1, b1⟩
end J3
