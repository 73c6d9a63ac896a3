-- ===== the cells behind the constructors: 0 the class's object, 140 the reference's =====
def jL0 : jL := [(11, 12), (8, 17), (0, 48), (0, 48), (0, 48), (0, 48), (0, 48), (0, 48), (0, 48), (0, 48), (0, 10), (0, 10), (0, 6), (0, 4), (8, 17), (0, 48), (0, 48), (0, 48), (0, 48), (0, 48), (0, 48), (0, 48), (0, 48), (0, 10), (0, 10), (0, 6), (0, 4), (8, 17), (0, 48), (0, 48), (0, 48), (0, 48), (0, 48), (0, 48), (0, 48), (0, 48), (0, 10), (0, 10), (0, 6), (0, 4), (5, 5), (0, 24), (0, 24), (3, 24), (0, 24), (0, 24), (0, 24), (0, 24), (0, 24), (0, 24), (0, 24), (0, 24), (0, 24), (0, 24), (0, 24), (0, 24), (0, 24), (0, 24), (0, 24), (0, 24), (0, 24), (0, 24), (0, 24), (0, 24), (0, 24), (0, 24), (0, 24), (0, 24), (0, 48), (0, 4), (9, 14), (1, 96), (0, 96), (0, 96), (10, 6), (0, 14), (0, 14), (0, 14), (0, 14), (3, 14), (0, 96), (0, 96), (0, 96), (0, 96), (0, 96), (0, 96), (0, 96), (0, 96), (0, 96), (0, 96), (0, 96), (0, 96), (0, 96), (0, 96), (0, 96), (4, 9), (0, 48), (0, 48), (0, 48), (0, 48), (2, 48), (0, 48), (7, 8), (8, 17), (0, 48), (0, 48), (0, 48), (0, 48), (0, 48), (0, 48), (0, 48), (0, 48), (0, 10), (0, 10), (0, 6), (0, 4), (4, 9), (0, 48), (0, 48), (0, 48), (0, 48), (2, 48), (0, 48), (0, 3), (2, 30), (0, 4800), (6, 4), (0, 8), (3, 8), (0, 4), (0, 4), (0, 4), (0, 4), (0, 4), (0, 4), (0, 4), (0, 4), (0, 12), (0, 29), (0, 60), (12, 37), (0, 3450), (0, 3450), (0, 3450), (0, 24), (0, 24), (0, 576), (0, 48), (0, 48), (0, 24), (0, 96), (0, 128), (0, 100), (2, 48), (0, 48), (1, 24000), (0, 48), (0, 60), (0, 60)]
/-- what a place holds: 0 an int, 1 a text, t + 2 the cell t -/
def jlayT : List (List Nat) := [[3, 16, 29, 42, 72, 76, 97, 104, 128, 141, 0, 0], [0, 4, 5, 6, 7, 8, 9, 10, 11, 12, 13, 14, 15, 0, 0, 0, 0], [], [], [], [], [], [], [], [], [], [], [], [], [0, 17, 18, 19, 20, 21, 22, 23, 24, 25, 26, 27, 28, 0, 0, 0, 0], [], [], [], [], [], [], [], [], [], [], [], [], [0, 30, 31, 32, 33, 34, 35, 36, 37, 38, 39, 40, 41, 0, 0, 0, 0], [], [], [], [], [], [], [], [], [], [], [], [], [43, 44, 45, 70, 71], [], [], [46, 47, 48, 49, 50, 51, 52, 53, 54, 55, 56, 57, 58, 59, 60, 61, 62, 63, 64, 65, 66, 67, 68, 69], [], [], [], [], [], [], [], [], [], [], [], [], [], [], [], [], [], [], [], [], [], [], [], [], [], [], [73, 0, 0, 0, 1, 0, 74, 0, 0, 75, 0, 0, 0, 0], [], [], [], [77, 78, 79, 80, 81, 96], [], [], [], [], [82, 83, 84, 85, 86, 87, 88, 89, 90, 91, 92, 93, 94, 95], [], [], [], [], [], [], [], [], [], [], [], [], [], [], [], [98, 99, 100, 101, 102, 103, 0, 0, 0], [], [], [], [], [], [], [105, 118, 125, 0, 126, 127, 0, 0], [0, 106, 107, 108, 109, 110, 111, 112, 113, 114, 115, 116, 117, 0, 0, 0, 0], [], [], [], [], [], [], [], [], [], [], [], [], [119, 120, 121, 122, 123, 124, 0, 0, 0], [], [], [], [], [], [], [], [], [], [129, 130, 139, 140], [], [131, 132, 133, 134, 135, 136, 137, 138], [], [], [], [], [], [], [], [], [], [], [], [143, 144, 145, 0, 146, 147, 148, 149, 150, 151, 152, 0, 0, 0, 0, 0, 0, 0, 0, 0, 0, 0, 153, 154, 155, 156, 157, 158, 0, 0, 0, 0, 0, 0, 159, 0, 160], [], [], [], [], [], [], [], [], [], [], [], [], [], [], [], [], [], []]
def jlay (id k : Nat) : Nat := (jlayT.getD id []).getD k 0
abbrev jm : Type := Nat → Nat → Int32
def mup (m : jm) (id k : Nat) (v : Int32) : jm := fun i j => if i = id ∧ j = k then v else m i j
theorem mup_s {m : jm} {id k : Nat} {v : Int32} : mup m id k v id k = v := if_pos ⟨rfl, rfl⟩
theorem mup_i {m : jm} {id k i j : Nat} {v : Int32} (h : i ≠ id) : mup m id k v i j = m i j := if_neg (fun q => h q.1)
theorem mup_j {m : jm} {id k i j : Nat} {v : Int32} (h : j ≠ k) : mup m id k v i j = m i j := if_neg (fun q => h q.2)
def jE (x : jX) (m : jm) : jM := fun id k => match jlay id k with
  | 0 => .int (m id k)
  | 1 => .ref (jxs x (m id k).toNatClampNeg)
  | t + 2 => .ref (jxb x + t)
theorem jE_i {x : jX} {m : jm} {id k : Nat} (h : jlay id k = 0) : jE x m id k = .int (m id k) := by unfold jE; rw [h]
theorem jE_s {x : jX} {m : jm} {id k : Nat} (h : jlay id k = 1) : jE x m id k = .ref (jxs x (m id k).toNatClampNeg) := by unfold jE; rw [h]
theorem jE_r {x : jX} {m : jm} {id k t : Nat} (h : jlay id k = t + 2) : jE x m id k = .ref (jxb x + t) := by unfold jE; rw [h]
theorem jE_up {x : jX} {m : jm} {id k : Nat} {v : Int32} (h : jlay id k = 0) : jset (jE x m) id (updV (jE x m id) k (.int v)) = jE x (mup m id k v) := by
  funext i j
  by_cases hi : i = id
  · subst hi
    rw [jset_s]
    by_cases hj : j = k
    · subst hj
      rw [jE_i h, mup_s]
      simp [updV]
    · unfold jE updV
      rw [if_neg hj, mup_j hj]
  · rw [jset_n hi]
    unfold jE
    rw [mup_i hi]
theorem jE_ups {x : jX} {m : jm} {id k j0 : Nat} (h : jlay id k = 1) (h5 : j0 < 5) : jset (jE x m) id (updV (jE x m id) k (.ref (jxs x j0))) = jE x (mup m id k (nI j0)) := by
  funext i j
  by_cases hi : i = id
  · subst hi
    rw [jset_s]
    by_cases hj : j = k
    · subst hj
      rw [jE_s h, mup_s, nI_clamp (by omega)]
      simp [updV]
    · unfold jE updV
      rw [if_neg hj, mup_j hj]
  · rw [jset_n hi]
    unfold jE
    rw [mup_i hi]
def mcpy (m : jm) (id0 id1 sp dp n : Nat) : jm := fun i j => if i = id1 then va_cpy (m id0) (m id1) sp dp n j else m i j
/-- an array of a kind and a length, of whole numbers -/
def jArr (id t N : Nat) : Prop := jL0[id]? = some (t, N) ∧ ∀ k, jlay id k = 0
theorem jArr_of {id t N : Nat} (h : jL0[id]? = some (t, N)) (h2 : jlayT.getD id [] = []) : jArr id t N := ⟨h, fun k => by unfold jlay; rw [h2]; rfl⟩
theorem jE_cpy {x : jX} {m : jm} {id0 id1 sp dp n : Nat} (h0 : ∀ k, jlay id0 k = 0) (h1 : ∀ k, jlay id1 k = 0) : jset (jE x m) id1 (va_cpy (jE x m id0) (jE x m id1) sp dp n) = jE x (mcpy m id0 id1 sp dp n) := by
  funext i j
  by_cases hi : i = id1
  · subst hi
    rw [jset_s, jE_i (h1 j)]
    unfold mcpy
    rw [if_pos rfl]
    unfold va_cpy
    by_cases hc : dp ≤ j ∧ j < dp + n
    · rw [if_pos hc, if_pos hc, jE_i (h0 _)]
    · rw [if_neg hc, if_neg hc, jE_i (h1 j)]
  · rw [jset_n hi]
    unfold jE mcpy
    rw [if_neg hi]
abbrev jq : Type := Option Value → jm → Prop
def jQ (x : jX) (Q : jq) : jP := fun r L M => L = jL0 ∧ ∃ m, M = jE x m ∧ Q r m
theorem jQ_of {x : jX} {Q : jq} {r : Option Value} {m : jm} (h : Q r m) : jQ x Q r jL0 (jE x m) := ⟨rfl, m, rfl, h⟩
abbrev K (x : jX) (d : Nat) (me : jMe) (pc : Nat) (ls : List (Option Value)) (st : List Value) (m : jm) (Q : jq) : Prop := J x d 0 0 me pc ls st jL0 (jE x m) (jQ x Q)
abbrev Ct (x : jX) (d : Nat) (me : jMe) (as : List Value) (m : jm) (Q : jq) : Prop := jCt x d 0 0 me as jL0 (jE x m) (jQ x Q)
section K1
variable {x : jX} {d : Nat} {me : jMe} {pc : Nat} {ls : List (Option Value)} {st : List Value} {m : jm} {Q : jq}
theorem K_getI {id ci N kf idx : Nat} (hd : decode me.2.1 pc = .ok (.getfield idx, 3)) (hF : jFL me.1.cls idx ci N kf) (hL : jL0[id]? = some (ci + 4, N)) (hl : jlay id kf = 0) (kk : K x d me (pc + 3) ls (.int (m id kf) :: st) m Q) : K x d me pc ls (.ref (jxb x + id) :: st) m Q :=
  J_get hd hF hL (jE_i hl) kk
theorem K_getR {id ci N kf idx t : Nat} (hd : decode me.2.1 pc = .ok (.getfield idx, 3)) (hF : jFL me.1.cls idx ci N kf) (hL : jL0[id]? = some (ci + 4, N)) (hl : jlay id kf = t + 2) (kk : K x d me (pc + 3) ls (.ref (jxb x + t) :: st) m Q) : K x d me pc ls (.ref (jxb x + id) :: st) m Q :=
  J_get hd hF hL (jE_r hl) kk
theorem K_getS {id ci N kf idx : Nat} (hd : decode me.2.1 pc = .ok (.getfield idx, 3)) (hF : jFL me.1.cls idx ci N kf) (hL : jL0[id]? = some (ci + 4, N)) (hl : jlay id kf = 1) (kk : K x d me (pc + 3) ls (.ref (jxs x (m id kf).toNatClampNeg) :: st) m Q) : K x d me pc ls (.ref (jxb x + id) :: st) m Q :=
  J_get hd hF hL (jE_s hl) kk
theorem K_put {id ci N kf idx : Nat} {v : Int32} {ty : FieldType} (hd : decode me.2.1 pc = .ok (.putfield idx, 3)) (hF : jFP me.1.cls idx ci N kf ty false) (hL : jL0[id]? = some (ci + 4, N)) (hl : jlay id kf = 0) (hn : narrow ty (.int v) = .int v) (hf : fits ty (.int v) = true) (kk : K x d me (pc + 3) ls st (mup m id kf v) Q) : K x d me pc ls (.int v :: .ref (jxb x + id) :: st) m Q :=
  J_put hd hF hL hn hf (by rw [jE_up hl]; exact kk)
theorem K_putS {id ci N kf idx j0 : Nat} {ty : FieldType} (hd : decode me.2.1 pc = .ok (.putfield idx, 3)) (hF : jFP me.1.cls idx ci N kf ty false) (hL : jL0[id]? = some (ci + 4, N)) (hl : jlay id kf = 1) (h5 : j0 < 5) (hn : narrow ty (.ref (jxs x j0)) = .ref (jxs x j0)) (hf : fits ty (.ref (jxs x j0)) = true) (kk : K x d me (pc + 3) ls st (mup m id kf (nI j0)) Q) : K x d me pc ls (.ref (jxs x j0) :: .ref (jxb x + id) :: st) m Q :=
  J_put hd hF hL hn hf (by rw [jE_ups hl h5]; exact kk)
theorem K_iald {id N : Nat} {i : Int32} (hd : decode me.2.1 pc = .ok (.iaload, 1)) (hA : jArr id 0 N) (hin : vp_in i N) (kk : K x d me (pc + 1) ls (.int (m id i.toNatClampNeg) :: st) m Q) : K x d me pc ls (.int i :: .ref (jxb x + id) :: st) m Q :=
  J_iald hd hA.1 hin (jE_i (hA.2 _)) kk
theorem K_ialdn {id N j : Nat} (hd : decode me.2.1 pc = .ok (.iaload, 1)) (hA : jArr id 0 N) (hj : j < N) (hN : N < 2 ^ 31) (kk : K x d me (pc + 1) ls (.int (m id j) :: st) m Q) : K x d me pc ls (.int (nI j) :: .ref (jxb x + id) :: st) m Q :=
  J_iald hd hA.1 (vp_in_nI hj hN) (by rw [nI_clamp (by omega)]; exact jE_i (hA.2 _)) kk
theorem K_baldn {id N j : Nat} (hd : decode me.2.1 pc = .ok (.baload, 1)) (hA : jArr id 1 N) (hj : j < N) (hN : N < 2 ^ 31) (kk : K x d me (pc + 1) ls (.int (m id j) :: st) m Q) : K x d me pc ls (.int (nI j) :: .ref (jxb x + id) :: st) m Q :=
  J_bald hd hA.1 (vp_in_nI hj hN) (by rw [nI_clamp (by omega)]; exact jE_i (hA.2 _)) kk
theorem K_zaldn {id N j : Nat} (hd : decode me.2.1 pc = .ok (.baload, 1)) (hA : jArr id 2 N) (hj : j < N) (hN : N < 2 ^ 31) (kk : K x d me (pc + 1) ls (.int (m id j) :: st) m Q) : K x d me pc ls (.int (nI j) :: .ref (jxb x + id) :: st) m Q :=
  J_zald hd hA.1 (vp_in_nI hj hN) (by rw [nI_clamp (by omega)]; exact jE_i (hA.2 _)) kk
theorem K_aaldn {id N j t : Nat} (hd : decode me.2.1 pc = .ok (.aaload, 1)) (hL : jL0[id]? = some (3, N)) (hj : j < N) (hN : N < 2 ^ 31) (hl : jlay id j = t + 2) (kk : K x d me (pc + 1) ls (.ref (jxb x + t) :: st) m Q) : K x d me pc ls (.int (nI j) :: .ref (jxb x + id) :: st) m Q :=
  J_aald hd hL (vp_in_nI hj hN) (by rw [nI_clamp (by omega)]; exact jE_r hl) kk
theorem K_iastn {id N j : Nat} {v : Int32} (hd : decode me.2.1 pc = .ok (.iastore, 1)) (hA : jArr id 0 N) (hj : j < N) (hN : N < 2 ^ 31) (kk : K x d me (pc + 1) ls st (mup m id j v) Q) : K x d me pc ls (.int v :: .int (nI j) :: .ref (jxb x + id) :: st) m Q :=
  J_iast hd hA.1 (vp_in_nI hj hN) (by rw [nI_clamp (by omega), jE_up (hA.2 _)]; exact kk)
theorem K_bastn {id N j : Nat} {v w : Int32} (hd : decode me.2.1 pc = .ok (.bastore, 1)) (hA : jArr id 1 N) (hj : j < N) (hN : N < 2 ^ 31) (hw : narrow .byte (.int v) = .int w) (kk : K x d me (pc + 1) ls st (mup m id j w) Q) : K x d me pc ls (.int v :: .int (nI j) :: .ref (jxb x + id) :: st) m Q :=
  J_bast hd hA.1 (vp_in_nI hj hN) hw (by rw [nI_clamp (by omega), jE_up (hA.2 _)]; exact kk)
theorem K_zastn {id N j : Nat} {v w : Int32} (hd : decode me.2.1 pc = .ok (.bastore, 1)) (hA : jArr id 2 N) (hj : j < N) (hN : N < 2 ^ 31) (hw : narrow .boolean (.int v) = .int w) (kk : K x d me (pc + 1) ls st (mup m id j w) Q) : K x d me pc ls (.int v :: .int (nI j) :: .ref (jxb x + id) :: st) m Q :=
  J_zast hd hA.1 (vp_in_nI hj hN) hw (by rw [nI_clamp (by omega), jE_up (hA.2 _)]; exact kk)
theorem K_tldn {j0 j : Nat} (hd : decode me.2.1 pc = .ok (.iaload, 1)) (hj0 : j0 < 4) (hj : j < (jtb j0).length) (kk : K x d me (pc + 1) ls (.int ((jtb j0).getD j 0) :: st) m Q) : K x d me pc ls (.int (nI j) :: .ref (jxt x j0) :: st) m Q := by
  have h6 : (jtb j0).length ≤ 6 := by
    rcases (show j0 = 0 ∨ j0 = 1 ∨ j0 = 2 ∨ j0 = 3 by omega) with rfl | rfl | rfl | rfl <;> decide
  exact J_tld hd hj0 (vp_in_nI hj (by omega)) (by rw [nI_clamp (by omega)]) kk
theorem K_acopy {idx id0 id1 N0 N1 sp dp z : Nat} (hd : decode me.2.1 pc = .ok (.invokestatic idx, 3)) (hlink : Cond.methodLink me.1.cls idx arraycopyName ∈ jgw) (hA0 : jArr id0 0 N0) (hA1 : jArr id1 0 N1) (h4 : sp + z ≤ N0) (h5 : dp + z ≤ N1) (hN0 : N0 < 2 ^ 31) (hN1 : N1 < 2 ^ 31) (hW : (st.map fun v => v.category).sum ≤ 8)
    (kk : K x (d + 1) me (pc + 3) ls st (mcpy m id0 id1 sp dp z) Q) : K x (d + 1) me pc ls (.int (nI z) :: .int (nI dp) :: .ref (jxb x + id1) :: .int (nI sp) :: .ref (jxb x + id0) :: st) m Q := by
  have e1 : (nI sp).toNatClampNeg = sp := nI_clamp (by omega)
  have e2 : (nI dp).toNatClampNeg = dp := nI_clamp (by omega)
  have e3 : (nI z).toNatClampNeg = z := nI_clamp (by omega)
  exact J_acopy hd hlink ky_n ky_s ky_i hA0.1 hA1.1 (nI_pos (by omega)) (nI_pos (by omega)) (nI_pos (by omega)) (by rw [e1, e3]; exact h4) (by rw [e2, e3]; exact h5) (fun i _ => by rw [jE_i (hA0.2 _)]; rfl) hW (by rw [e1, e2, e3, jE_cpy hA0.2 hA1.2]; exact kk)
theorem K_callV {idx np ci N id : Nat} {y : jMe} {As rest : List Value} {Q1 : jq} (hd : decode me.2.1 pc = .ok (.invokevirtual idx, 3)) (hy : jLkV me.1.cls idx y np) (hn : As.length = np) (hL : jL0[id]? = some (ci + 4, N)) (hC : (vwCl[ci]?).map (fun q => q.1) = some y.1.cls) (hs : st = As.reverse ++ .ref (jxb x + id) :: rest) (hW : (rest.map fun v => v.category).sum ≤ 8)
    (hc : Ct x d y (.ref (jxb x + id) :: As) m Q1) (kk : ∀ (r : Option Value) (m1 : jm), Q1 r m1 → K x (d + 1) me (pc + 3) ls (r.toList ++ rest) m1 Q) : K x (d + 1) me pc ls st m Q :=
  J_callV (k := 0) (n := 0) (k' := 0) (n' := 0) hd hy hn hL hC hs hW hc (fun r L1 M1 h => by obtain ⟨rfl, m1, rfl, h⟩ := h; exact kk r m1 h)
theorem K_callS {idx np : Nat} {y : jMe} {As rest : List Value} {Q1 : jq} (hd : decode me.2.1 pc = .ok (.invokestatic idx, 3)) (hy : jLkS me.1.cls idx y np) (hn : As.length = np) (hs : st = As.reverse ++ rest) (hW : (rest.map fun v => v.category).sum ≤ 8)
    (hc : Ct x d y As m Q1) (kk : ∀ (r : Option Value) (m1 : jm), Q1 r m1 → K x (d + 1) me (pc + 3) ls (r.toList ++ rest) m1 Q) : K x (d + 1) me pc ls st m Q :=
  J_callS (k := 0) (n := 0) (k' := 0) (n' := 0) hd hy hn hs hW hc (fun r L1 M1 h => by obtain ⟨rfl, m1, rfl, h⟩ := h; exact kk r m1 h)
theorem K_max {idx : Nat} {a b : Int32} (hd : decode me.2.1 pc = .ok (.invokestatic idx, 3)) (hlink : Cond.methodLink me.1.cls idx Lib.Math.max.name ∈ jgw) (hW : (st.map fun v => v.category).sum ≤ 8) (kk : K x (d + 1) me (pc + 3) ls (.int (if a < b then b else a) :: st) m Q) : K x (d + 1) me pc ls (.int b :: .int a :: st) m Q := J_max hd hlink kx_max_s kx_i kx_max_c hW kk
theorem K_min {idx : Nat} {a b : Int32} (hd : decode me.2.1 pc = .ok (.invokestatic idx, 3)) (hlink : Cond.methodLink me.1.cls idx Lib.Math.min.name ∈ jgw) (hW : (st.map fun v => v.category).sum ≤ 8) (kk : K x (d + 1) me (pc + 3) ls (.int (if b < a then b else a) :: st) m Q) : K x (d + 1) me pc ls (.int b :: .int a :: st) m Q := J_min hd hlink kx_min_s kx_i kx_min_c hW kk
theorem K_abs {idx : Nat} {a : Int32} (hd : decode me.2.1 pc = .ok (.invokestatic idx, 3)) (hlink : Cond.methodLink me.1.cls idx Lib.Math.abs.name ∈ jgw) (hW : (st.map fun v => v.category).sum ≤ 8) (kk : K x (d + 1) me (pc + 3) ls (.int (if 0 ≤ a then a else 0 - a) :: st) m Q) : K x (d + 1) me pc ls (.int a :: st) m Q := J_abs hd hlink kx_abs_s kx_i kx_abs_c hW kk
theorem K_iret {v : Int32} (hd : decode me.2.1 pc = .ok (.ireturn, 1)) (hr : me.2.2.2 = some .int) (hQ : Q (some (.int v)) m) : K x d me pc ls [.int v] m Q := J_iret hd hr (jQ_of hQ)
theorem K_zret {v : Int32} (hd : decode me.2.1 pc = .ok (.ireturn, 1)) (hr : me.2.2.2 = some .boolean) (hn : narrow .boolean (.int v) = .int v) (hQ : Q (some (.int v)) m) : K x d me pc ls [.int v] m Q := J_zret hd hr hn (jQ_of hQ)
theorem K_vret (hd : decode me.2.1 pc = .ok (.return_, 1)) (hr : me.2.2.2 = none) (hQ : Q none m) : K x d me pc ls [] m Q := J_vret hd hr (jQ_of hQ)
theorem K_aret {id : Nat} {rt : FieldType} (hd : decode me.2.1 pc = .ok (.areturn, 1)) (hr : me.2.2.2 = some (.array rt)) (hQ : Q (some (.ref (jxb x + id))) m) : K x d me pc ls [.ref (jxb x + id)] m Q := J_aret hd hr (Or.inr ⟨_, rfl⟩) (jQ_of hQ)
theorem K_mono {Q' : jq} (h : ∀ r m', Q' r m' → Q r m') (kk : K x d me pc ls st m Q') : K x d me pc ls st m Q := J_mono (fun r L M q => by obtain ⟨rfl, m1, rfl, q⟩ := q; exact ⟨rfl, m1, rfl, h _ _ q⟩) kk
theorem Ct_mono {as : List Value} {Q' : jq} (h : ∀ r m', Q' r m' → Q r m') (kk : Ct x d me as m Q') : Ct x d me as m Q := by
  intro R h1 h2 h3 h4
  intro p e ha hc hk s mm args below hf hfit hheap happ
  obtain ⟨t, o, a0, a1, a2, ⟨⟨r, L1, M1, q1, ⟨q2, m1, q3, q4⟩, q5⟩, q6⟩, q7⟩ := kk R h1 h2 h3 h4 p e ha hc hk s mm args below hf hfit hheap happ
  exact ⟨t, o, a0, a1, a2, ⟨⟨r, L1, M1, q1, ⟨q2, m1, q3, h _ _ q4⟩, q5⟩, q6⟩, q7⟩
/-- a loop by its number of turns, everything told by a function of the turn -/
theorem K_for (N : Nat) (lsF : Nat → List (Option Value)) (mF : Nat → jm) (step : ∀ i, i < N → K x d me pc (lsF (i + 1)) st (mF (i + 1)) Q → K x d me pc (lsF i) st (mF i) Q) (exit : K x d me pc (lsF N) st (mF N) Q) : K x d me pc (lsF 0) st (mF 0) Q := by
  have key : ∀ j, j ≤ N → K x d me pc (lsF (N - j)) st (mF (N - j)) Q := by
    intro j
    induction j with
    | zero => intro _; exact exit
    | succ j ih =>
      intro hj
      refine step _ (by omega) ?_
      rw [show N - (j + 1) + 1 = N - j by omega]
      exact ih (by omega)
  have h := key N (Nat.le_refl _)
  rwa [Nat.sub_self] at h
theorem K_for' (N : Nat) (lsF : Nat → List (Option Value)) (mF : Nat → jm) (hl : ls = lsF 0) (hm : m = mF 0) (step : ∀ i, i < N → K x d me pc (lsF (i + 1)) st (mF (i + 1)) Q → K x d me pc (lsF i) st (mF i) Q) (exit : K x d me pc (lsF N) st (mF N) Q) : K x d me pc ls st m Q := by
  rw [hl, hm]
  exact K_for N lsF mF step exit
theorem J_wk' {k n : Nat} {L : jL} {M : jM} {P : jP} {ls' : List (Option Value)} (kk : J x d k n me pc ls' st L M P) (hn : ls'.length = ls.length) (hw : ∀ (i : Nat) (v : Value), ls'[i]? = some (some v) → ls[i]? = some (some v)) : J x d k n me pc ls st L M P := J_wk hn hw kk
theorem K_merge {jc : Nat} {ls' : List (Option Value)} {st' : List Value} {m' : jm} (hj : K x d me jc ls' st' m' Q) (kk : K x d me jc ls' st' m' Q → K x d me pc ls st m Q) : K x d me pc ls st m Q := kk hj
/-- a loop with an invariant that tells less -/
theorem K_inv (N : Nat) (I : Nat → List (Option Value) → jm → Prop) (step : ∀ i, i < N → ∀ ls m, I i ls m → (∀ ls m, I (i + 1) ls m → K x d me pc ls st m Q) → K x d me pc ls st m Q) (exit : ∀ ls m, I N ls m → K x d me pc ls st m Q) (i0 : Nat) (hi : i0 ≤ N) : ∀ ls m, I i0 ls m → K x d me pc ls st m Q := by
  have key : ∀ j, j ≤ N → ∀ ls m, I (N - j) ls m → K x d me pc ls st m Q := by
    intro j
    induction j with
    | zero => intro _; exact exit
    | succ j ih =>
      intro hj ls m h
      refine step _ (by omega) ls m h ?_
      rw [show N - (j + 1) + 1 = N - j by omega]
      exact ih (by omega)
  have h := key (N - i0) (by omega)
  rwa [show N - (N - i0) = i0 by omega] at h
end K1
/-- the four states: now, image, trial, the search's -/
def jSt (o : Nat) : Prop := o = 1 ∨ o = 14 ∨ o = 27 ∨ o = 103
theorem jSt_obj {o : Nat} (h : jSt o) : jL0[o]? = some (4 + 4, 17) := by rcases h with rfl | rfl | rfl | rfl <;> rfl
theorem jSt_ref {o : Nat} (h : jSt o) (k : Nat) (hk : k < 12) : jlay o (k + 1) = (o + (k + 1)) + 2 := by
  rcases h with rfl | rfl | rfl | rfl <;>
  rcases (show k = 0 ∨ k = 1 ∨ k = 2 ∨ k = 3 ∨ k = 4 ∨ k = 5 ∨ k = 6 ∨ k = 7 ∨ k = 8 ∨ k = 9 ∨ k = 10 ∨ k = 11 by omega) with rfl | rfl | rfl | rfl | rfl | rfl | rfl | rfl | rfl | rfl | rfl | rfl <;> rfl
theorem jSt_int {o : Nat} (h : jSt o) (k : Nat) (hk : k = 0 ∨ 13 ≤ k ∧ k < 17) : jlay o k = 0 := by
  rcases h with rfl | rfl | rfl | rfl <;>
  rcases (show k = 0 ∨ k = 13 ∨ k = 14 ∨ k = 15 ∨ k = 16 by omega) with rfl | rfl | rfl | rfl | rfl <;> rfl
theorem jSt_arr {o : Nat} (h : jSt o) (k : Nat) (hk : k < 8) : jArr (o + (k + 1)) 0 48 := by
  rcases h with rfl | rfl | rfl | rfl <;>
  rcases (show k = 0 ∨ k = 1 ∨ k = 2 ∨ k = 3 ∨ k = 4 ∨ k = 5 ∨ k = 6 ∨ k = 7 by omega) with rfl | rfl | rfl | rfl | rfl | rfl | rfl | rfl <;> exact jArr_of rfl rfl
theorem jSt_group {o : Nat} (h : jSt o) : jArr (o + 9) 0 10 := by rcases h with rfl | rfl | rfl | rfl <;> exact jArr_of rfl rfl
theorem jSt_weight {o : Nat} (h : jSt o) : jArr (o + 10) 0 10 := by rcases h with rfl | rfl | rfl | rfl <;> exact jArr_of rfl rfl
theorem jSt_pull {o : Nat} (h : jSt o) : jArr (o + 11) 0 6 := by rcases h with rfl | rfl | rfl | rfl <;> exact jArr_of rfl rfl
theorem jSt_rules {o : Nat} (h : jSt o) : jArr (o + 12) 0 4 := by rcases h with rfl | rfl | rfl | rfl <;> exact jArr_of rfl rfl
/-- the two eyes -/
def jEy (o : Nat) : Prop := o = 95 ∨ o = 116
theorem jEy_obj {o : Nat} (h : jEy o) : jL0[o]? = some (0 + 4, 9) := by rcases h with rfl | rfl <;> rfl
theorem jEy_ref {o : Nat} (h : jEy o) (k : Nat) (hk : k < 6) : jlay o k = (o + (k + 1)) + 2 := by
  rcases h with rfl | rfl <;> rcases (show k = 0 ∨ k = 1 ∨ k = 2 ∨ k = 3 ∨ k = 4 ∨ k = 5 by omega) with rfl | rfl | rfl | rfl | rfl | rfl <;> rfl
theorem jEy_int {o : Nat} (h : jEy o) (k : Nat) (hk : 6 ≤ k ∧ k < 9) : jlay o k = 0 := by
  rcases h with rfl | rfl <;> rcases (show k = 6 ∨ k = 7 ∨ k = 8 by omega) with rfl | rfl | rfl <;> rfl
theorem jEy_arr {o : Nat} (h : jEy o) (k : Nat) (hk : k < 6) (h4 : k ≠ 4) : jArr (o + (k + 1)) 0 48 := by
  rcases h with rfl | rfl <;> rcases (show k = 0 ∨ k = 1 ∨ k = 2 ∨ k = 3 ∨ k = 5 by omega) with rfl | rfl | rfl | rfl | rfl <;> exact jArr_of rfl rfl
theorem jEy_spots {o : Nat} (h : jEy o) : jArr (o + 5) 2 48 := by rcases h with rfl | rfl <;> exact jArr_of rfl rfl
