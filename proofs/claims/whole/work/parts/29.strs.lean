section K9
variable {x : jX} {d k n : Nat} {me : jMe} {pc : Nat} {ls : List (Option Value)} {st : List Value} {L : jL} {M : jM} {P : jP} {m : jm} {Q : jq}
theorem J_ldcS {j idx : Nat} (hd : decode me.2.1 pc = .ok (.ldc idx, 2)) (hj : j < 5) (hc : me.1.cls = "SkinShow$Tape") (hi : jsi j = idx) (kk : J x d k n me (pc + 2) ls (.ref (jxs x j) :: st) L M P) : J x d k n me pc ls st L M P := by
  intro p e R s m args below meth c mc ms H locs cells slots A G hp hS hl h1 h2
  have hJ : jH x s s.heap := G.2.2.2.2.2.2.2.2.1
  obtain ⟨-, -, -, -, hR⟩ := hJ.2.2.2.2.1 j hj
  subst hi
  exact va_ldcS G.1 G.2.1 (by rw [← hc]; exact G.2.2.2.2.2.1) hR hd (kk p e R s m args below meth c mc ms H locs cells slots A G hp hS hl h1 h2)
theorem J_gStr_value {j idx : Nat} (hd : decode me.2.1 pc = .ok (.getfield idx, 3)) (hj : j < 5) (hlink : Cond.fieldLink me.1.cls idx "java/lang/String" "value" "[B" ∈ jgw) (kk : J x d k n me (pc + 3) ls (.ref (jxv x j) :: st) L M P) : J x d k n me pc ls (.ref (jxs x j) :: st) L M P := by
  intro p e R s m args below meth c mc ms H locs cells slots A G hp hS hl h1 h2
  have hJ : jH x s s.heap := G.2.2.2.2.2.2.2.2.1
  obtain ⟨-, -, hV, -, -⟩ := hJ.2.2.2.2.1 j hj
  exact vk_getf G.1 G.2.1 hV hS G.2.2.2.2.2.1 (G.2.2.2.2.1 _ hlink) (fun _ h => h) hd (kk p e R s m args below meth c mc ms H locs cells slots A G hp hS hl h1 h2)
theorem J_gStr_coder {j idx : Nat} (hd : decode me.2.1 pc = .ok (.getfield idx, 3)) (hj : j < 5) (hlink : Cond.fieldLink me.1.cls idx "java/lang/String" "coder" "B" ∈ jgw) (kk : J x d k n me (pc + 3) ls (.int (nI 0) :: st) L M P) : J x d k n me pc ls (.ref (jxs x j) :: st) L M P := by
  intro p e R s m args below meth c mc ms H locs cells slots A G hp hS hl h1 h2
  have hJ : jH x s s.heap := G.2.2.2.2.2.2.2.2.1
  obtain ⟨-, hV, -, -, -⟩ := hJ.2.2.2.2.1 j hj
  exact vk_getf G.1 G.2.1 hV hS G.2.2.2.2.2.1 (G.2.2.2.2.1 _ hlink) (fun _ h => h) hd (kk p e R s m args below meth c mc ms H locs cells slots A G hp hS hl h1 h2)
theorem J_gCS {idx : Nat} (hd : decode me.2.1 pc = .ok (.getstatic idx, 3)) (hlink : Cond.fieldLink me.1.cls idx "java/lang/String" "COMPACT_STRINGS" "Z" ∈ jgw) (kk : J x d k n me (pc + 3) ls (.int (nI 1) :: st) L M P) : J x d k n me pc ls st L M P := by
  intro p e R s m args below meth c mc ms H locs cells slots A G hp hS hl h1 h2
  have hJ : jH x s s.heap := G.2.2.2.2.2.2.2.2.1
  exact va_gets G.1 G.2.1 hJ.2.2.2.2.2.1 hS G.2.2.2.2.2.1 (G.2.2.2.2.1 _ hlink) (fun _ h => h) hd (kk p e R s m args below meth c mc ms H locs cells slots A G hp hS hl h1 h2)
theorem J_gSF {idx : Nat} (hd : decode me.2.1 pc = .ok (.getstatic idx, 3)) (hlink : Cond.fieldLink me.1.cls idx "jdk/internal/util/Preconditions" "SIOOBE_FORMATTER" "Ljava/util/function/BiFunction;" ∈ jgw) (kk : ∀ v, (v = .null ∨ ∃ a, v = .ref a) → J x d k n me (pc + 3) ls (v :: st) L M P) : J x d k n me pc ls st L M P := by
  intro p e R s m args below meth c mc ms H locs cells slots A G hp hS hl h1 h2
  have hJ : jH x s s.heap := G.2.2.2.2.2.2.2.2.1
  obtain ⟨v, hr, hv⟩ := hJ.2.2.2.2.2.2.1
  exact va_gets G.1 G.2.1 hv hS G.2.2.2.2.2.1 (G.2.2.2.2.1 _ hlink) (fun _ h => h) hd (kk v hr p e R s m args below meth c mc ms H locs cells slots A G hp hS hl h1 h2)
theorem J_sbald {j i : Nat} (hd : decode me.2.1 pc = .ok (.baload, 1)) (hj : j < 5) (hin : i < (jsb j).length) (kk : J x d k n me (pc + 1) ls (.int ((jsb j).getD i 0) :: st) L M P) : J x d k n me pc ls (.int (nI i) :: .ref (jxv x j) :: st) L M P := by
  intro p e R s m args below meth c mc ms H locs cells slots A G hp hS hl h1 h2
  have hJ : jH x s s.heap := G.2.2.2.2.2.2.2.2.1
  obtain ⟨-, -, -, hT, -⟩ := hJ.2.2.2.2.1 j hj
  have hl4 : (jsb j).length ≤ 4 := by rcases (show j = 0 ∨ j = 1 ∨ j = 2 ∨ j = 3 ∨ j = 4 by omega) with rfl | rfl | rfl | rfl | rfl <;> decide
  exact va_tb G.1 G.2.1 hT hS (vp_in_nI hin (by omega)) (by show Value.int ((jsb j).getD (nI i).toNatClampNeg 0) = _; rw [nI_clamp (by omega)]) hd (kk p e R s m args below meth c mc ms H locs cells slots A G hp hS hl h1 h2)
theorem J_svlen {j : Nat} (hd : decode me.2.1 pc = .ok (.arraylength, 1)) (hj : j < 5) (kk : J x d k n me (pc + 1) ls (.int (nI (jsb j).length) :: st) L M P) : J x d k n me pc ls (.ref (jxv x j) :: st) L M P := by
  intro p e R s m args below meth c mc ms H locs cells slots A G hp hS hl h1 h2
  have hJ : jH x s s.heap := G.2.2.2.2.2.2.2.2.1
  obtain ⟨-, -, -, hT, -⟩ := hJ.2.2.2.2.1 j hj
  exact va_tlen G.1 G.2.1 hT hS rfl hd (kk p e R s m args below meth c mc ms H locs cells slots A G hp hS hl h1 h2)
theorem J_callT {idx np j k' n' : Nat} {y : jMe} {As rest : List Value} {P1 : jP} (hd : decode me.2.1 pc = .ok (.invokevirtual idx, 3)) (hy : jLkV me.1.cls idx y np) (hn : As.length = np) (hj : j < 5) (hC : y.1.cls = "java/lang/String") (hs : st = As.reverse ++ .ref (jxs x j) :: rest) (hW : (rest.map fun v => v.category).sum ≤ 8)
    (hc : jCt x d k' n' y (.ref (jxs x j) :: As) L M P1) (kk : ∀ (r : Option Value) (L1 : jL) (M1 : jM), P1 r L1 M1 → J x (d + 1) k n me (pc + 3) ls (r.toList ++ rest) L1 M1 P) : J x (d + 1) (k + k') (n + n') me pc ls st L M P := by
  intro p e R s m args below meth c mc ms H locs cells slots A G hp hS hl h1 h2
  have hJ : jH x s s.heap := G.2.2.2.2.2.2.2.2.1
  have hts := G.2.2.2.2.1
  have hfr := G.2.2.2.2.2.2.2.2.2.2.2
  have hM := hc { frames := d, cells := k', slots := n', locals := 41 * d } rfl rfl (Nat.le_refl _) (Nat.le_refl _)
  have hR : R.cells = mc := G.2.2.2.2.2.2.2.2.2.1
  have hR2 : R.slots = ms := G.2.2.2.2.2.2.2.2.2.2.1
  have hrecv : ∃ cellB : Cell, H[jxs x j]? = some cellB ∧ cellB.vm.isStatics = false ∧ s.vm.findClass y.1.cls = some cellB.cls := by
    obtain ⟨hO, -, -, -, -⟩ := ((hJ.2.2.2).kept hJ.2.2.1 hS.2.1).2.1 j hj
    obtain ⟨cell, q1, q2, q3, -⟩ := hO
    exact ⟨cell, q1, q2, by rw [hC]; exact q3⟩
  have hPc : ∀ U : State, U.heap = H → s.WarmedH U.vm → jPc x (.ref (jxs x j) :: As) L M (Value.ref (jxs x j) :: As).toArray U := fun U hU hWm => ⟨rfl, by rw [hU]; exact (hJ.kept hS).warm hWm, by rw [hU]; exact hp⟩
  have cont : ∀ (r : Option Value) (L1 : jL) (M1 : jM) (H1 : Heap) (locs1 : List Loc), P1 r L1 M1 → j_hp x L1 M1 H1 → va_S (jA x) s.heap H1 locs1 → W p (jxL x) e R s m args below meth c H1 locs1 (cells + k') (slots + n') (MQ below (jRes x P) args s mc ms (jA x)) (F0 m (pc + 3) A (r.toList ++ rest)) := fun r L1 M1 H1 locs1 q1 q2 q3 => kk r L1 M1 q1 p e R s m args below meth c mc ms H1 locs1 _ _ A G q2 q3 hl (by omega) (by omega)
  subst hs
  rcases hy.1.1 with hl1 | ⟨host, hl1⟩
  · exact j_after (va_runV (As := As) (rest := rest) (b := jxs x j) (C := y.1.cls) ⟨G.1, G.2.1, G.2.2.2.1, G.2.2.2.2.2.1, hts⟩ hM ⟨jCallB hts hy.1 hl1 hfr.1 hfr.2, hts _ hy.2.1, hts _ hy.2.2⟩ ⟨jPc.blind x _ L M, hrecv, hPc⟩ rfl hn hl.1.1 rfl (lv_room hW) hd ⟨by omega, by omega⟩) hS cont
  · exact j_after (va_runVN (As := As) (rest := rest) (b := jxs x j) (C := y.1.cls) (host := host) ⟨G.1, G.2.1, G.2.2.2.1, G.2.2.2.2.2.1, hts⟩ hM ⟨jCallN hts hy.1 (hJ.2.1 _ hl1) hfr.1 hfr.2, hts _ hy.2.1, hts _ hy.2.2⟩ ⟨jPc.blind x _ L M, hrecv, hPc⟩ rfl hn hl.1.1 rfl (lv_room hW) hd ⟨by omega, by omega⟩) hS cont
theorem K_callTp {idx np j : Nat} {y : jMe} {As rest : List Value} {w : Int32} (hd : decode me.2.1 pc = .ok (.invokevirtual idx, 3)) (hy : jLkV me.1.cls idx y np) (hn : As.length = np) (hj : j < 5) (hC : y.1.cls = "java/lang/String") (hs : st = As.reverse ++ .ref (jxs x j) :: rest) (hW : (rest.map fun v => v.category).sum ≤ 8)
    (hc : Ct x d y (.ref (jxs x j) :: As) m (jp w m)) (kk : K x (d + 1) me (pc + 3) ls (.int w :: rest) m Q) : K x (d + 1) me pc ls st m Q :=
  J_callT (k := 0) (n := 0) (k' := 0) (n' := 0) hd hy hn hj hC hs hW hc (fun r L1 M1 h => by obtain ⟨rfl, m1, rfl, v, rfl, rfl, rfl⟩ := h; exact kk)
theorem J_ldcw {i : Nat} {v : Int32} (hd : decode me.2.1 pc = .ok (.ldc_w i, 3)) (hw : Cond.constant me.1.cls i v ∈ jgw) (kk : J x d k n me (pc + 3) ls (.int v :: st) L M P) : J x d k n me pc ls st L M P := fun p e R s m args below meth c mc ms H locs cells slots A G hp hS hl h1 h2 => lv_ldcw G.1 G.2.1 G.2.2.2.2.2.1 (G.2.2.2.2.1 _ hw) hd (kk p e R s m args below meth c mc ms H locs cells slots A G hp hS hl h1 h2)
theorem K_nret {v : Int32} {ty : FieldType} (hd : decode me.2.1 pc = .ok (.ireturn, 1)) (hr : me.2.2.2 = some ty) (hn : narrow ty (.int v) = .int v) (hQ : Q (some (.int v)) m) : K x d me pc ls [.int v] m Q := J_zret hd hr hn (jQ_of hQ)
end K9
