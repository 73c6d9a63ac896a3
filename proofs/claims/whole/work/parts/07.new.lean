-- ===== new cells =====
theorem j_hp.push {x : jX} {L : jL} {M : jM} {H H1 : Heap} (h : j_hp x L M H) {ct : Nat × Nat} {f : Nat → Value} (z : H1.size = jxb x + L.length + 1) (oq : ∀ q : Nat, q < jxb x + L.length → H1[q]? = H[q]?) (hat : j_at x ct f (jxb x + L.length) H1) : j_hp x (L ++ [ct]) (jset M L.length f) H1 := by
  refine ⟨by rw [z, List.length_append]; rfl, fun i c hi => ?_⟩
  by_cases e : i < L.length
  · rw [List.getElem?_append_left e] at hi
    rw [jset_n (by omega)]
    exact (h.2 i c hi).kept (oq _ (by omega))
  · rw [List.getElem?_append_right (by omega)] at hi
    have h0 : i - L.length < 1 := (List.getElem?_eq_some_iff.mp hi).1
    have he : i = L.length := by omega
    subst he
    rw [Nat.sub_self] at hi
    cases hi
    rw [jset_s]
    exact hat
theorem jA_push {x : jX} {s : State} {H H1 : Heap} {locs : List Loc} {N : Nat} (hS : va_S (jA x) s.heap H locs) (hb : jxb x ≤ H.size) (z : H.size ≤ H1.size) (oq : ∀ q : Nat, q < H.size → H1[q]? = H[q]?) : va_S (jA x) s.heap H1 locs :=
  ⟨Nat.le_trans hS.1 z, fun q g1 g2 => (oq q (Nat.lt_of_lt_of_le g1 hS.1)).trans (hS.2.1 q g1 g2), hS.2.2⟩
def jNew (own : String) (idx ci N : Nat) (f : Nat → Value) : Prop := ∃ (C : String) (T : u_T) (ty : Nat → FieldType), vwCl[ci]? = some (C, T, N) ∧ (∀ w ∈ u_ws C T N, w ∈ jgw) ∧ (∀ k, k < N → parseFieldDescriptor (T k).2.2.1 = some (ty k)) ∧
  Cond.classLink own idx C ∈ jgw ∧ Cond.instantiable C N ∈ jgw ∧ Cond.initialized C ∈ jgw ∧ ∀ j, j < N → defaultValue (ty j) = f j
section J4
variable {x : jX} {d k n : Nat} {me : jMe} {pc : Nat} {ls : List (Option Value)} {st : List Value} {L : jL} {M : jM} {P : jP}
theorem J_new {idx ci N : Nat} {f : Nat → Value} (hd : decode me.2.1 pc = .ok (.new idx, 3)) (hN : jNew me.1.cls idx ci N f) (kk : J x d k n me (pc + 3) ls (.ref (jxb x + L.length) :: st) (L ++ [(ci + 4, N)]) (jset M L.length f) P) : J x d (k + 1) (n + N) me pc ls st L M P := by
  intro p e R s m args below meth c mc ms H locs cells slots A G hp hS hl h1 h2
  obtain ⟨C, T, ty, hc, hin, hty, hcl, hinst, hini, hfs⟩ := hN
  have hJ : jH x s s.heap := G.2.2.2.2.2.2.2.2.1
  have hts := G.2.2.2.2.1
  have hR : R.cells = mc := G.2.2.2.2.2.2.2.2.2.1
  have hR2 : R.slots = ms := G.2.2.2.2.2.2.2.2.2.2.1
  have hKn := hJ.1.1 ci _ hc
  refine W.newcK G.1 G.2.1 G.2.2.2.2.2.1 (hts _ hcl) (hts _ hinst) (hts _ hini) rfl hd (by omega) (by omega) hKn.2.1 hp.1 fun H1 kC hkC e1 z1 o1 => ?_
  exact kk p e R s m args below meth c mc ms H1 locs (cells + 1) (slots + N) A G (hp.push z1 o1 (j_at_obj ((u_born ty hts hin hKn hkC e1 hty).to hfs))) (jA_push (N := N) hS (by rw [hp.1]; exact Nat.le_add_right _ _) (by rw [z1, hp.1]; omega) (fun q hq => o1 q (by rw [← hp.1]; exact hq))) hl (by omega) (by omega)
theorem J_newa {t N : Nat} {z : Int32} {atype : ArrayType} (hd : decode me.2.1 pc = .ok (.newarray atype, 2)) (ht : t < 3) (hty : newarray.typeOf atype = jty t) (hw : Cond.arrayClass (jty t) ∈ jgw) (hz : ¬ z < 0) (hN : z.toNatClampNeg = N) (hb : N * 4 ≤ 536870912) (kk : J x d k n me (pc + 2) ls (.ref (jxb x + L.length) :: st) (L ++ [(t, N)]) (jset M L.length (fun _ => .int 0)) P) : J x d (k + 1) (n + N) me pc ls (.int z :: st) L M P := by
  intro p e R s m args below meth c mc ms H locs cells slots A G hp hS hl h1 h2
  have hJ : jH x s s.heap := G.2.2.2.2.2.2.2.2.1
  have hts := G.2.2.2.2.1
  have hR : R.cells = mc := G.2.2.2.2.2.2.2.2.2.1
  have hR2 : R.slots = ms := G.2.2.2.2.2.2.2.2.2.2.1
  have hcomp : componentBytes (newarray.typeOf atype) ≤ 4 := by
    rw [hty]
    rcases (show t = 0 ∨ t = 1 ∨ t = 2 by omega) with rfl | rfl | rfl <;> decide
  have hdef : (fun _ : Nat => defaultValue (newarray.typeOf atype)) = fun _ => Value.int 0 := by
    rw [hty]
    rcases (show t = 0 ∨ t = 1 ∨ t = 2 by omega) with rfl | rfl | rfl <;> rfl
  refine va_newaK G.1 G.2.1 (by rw [hty]; exact hts _ hw) rfl hd rfl hz hN (Nat.le_trans (Nat.mul_le_mul_left _ hcomp) hb) (by omega) (by omega) hp.1 fun H1 cA e1 z1 o1 hAr hNm => ?_
  have hcA : cA = jxa x t := by
    rw [hty] at hNm
    rcases (show t = 0 ∨ t = 1 ∨ t = 2 by omega) with rfl | rfl | rfl
    · have h3 := (hJ.1.2 0 (jxa x 0, .int) rfl).2
      exact Option.some.inj (hNm.symm.trans h3)
    · have h3 := (hJ.1.2 1 (jxa x 1, .byte) rfl).2
      exact Option.some.inj (hNm.symm.trans h3)
    · have h3 := (hJ.1.2 2 (jxa x 2, .boolean) rfl).2
      exact Option.some.inj (hNm.symm.trans h3)
  subst hcA
  rw [hdef] at e1
  exact kk p e R s m args below meth c mc ms H1 locs (cells + 1) (slots + N) A G (hp.push z1 o1 (j_at_arr (by omega) e1)) (jA_push (N := N) hS (by rw [hp.1]; exact Nat.le_add_right _ _) (by rw [z1, hp.1]; omega) (fun q hq => o1 q (by rw [← hp.1]; exact hq))) hl (by omega) (by omega)
/-- the outer row's refs, the inner rows behind it -/
def jgrid (x : jX) (M : jM) (len N : Nat) : jM := fun i => if i = len then (fun j => .ref (jxb x + len + 1 + j)) else if len < i ∧ i < len + 1 + N then (fun _ => .int 0) else M i
theorem j_grid_hp {L : jL} {M : jM} {H H1 : Heap} {N K : Nat} (h : j_hp x L M H) (z : H1.size = H.size + 1 + N) (oq : ∀ q : Nat, q < H.size → H1[q]? = H[q]?) (ho : H1[H.size]? = some (arrV (jxa x 3) N (fun j => .ref (H.size + 1 + j)))) (hi : ∀ j, j < N → H1[H.size + 1 + j]? = some (arrV (jxa x 0) K (fun _ => .int 0))) : j_hp x (L ++ ((3, N) :: List.replicate N (0, K))) (jgrid x M L.length N) H1 := by
  have hz := h.1
  refine ⟨by rw [z, List.length_append, List.length_cons, List.length_replicate, hz]; omega, fun i c hc => ?_⟩
  by_cases e : i < L.length
  · rw [List.getElem?_append_left e] at hc
    have e2 : jgrid x M L.length N i = M i := by
      unfold jgrid
      rw [if_neg (by omega), if_neg (by omega)]
    rw [e2]
    exact (h.2 i c hc).kept (oq _ (by omega))
  · rw [List.getElem?_append_right (by omega)] at hc
    by_cases e2 : i = L.length
    · subst e2
      rw [Nat.sub_self, List.getElem?_cons_zero] at hc
      cases hc
      have e3 : jgrid x M L.length N L.length = fun j => .ref (jxb x + L.length + 1 + j) := by
        unfold jgrid
        rw [if_pos rfl]
      rw [e3]
      refine j_at_arr (by decide) ?_
      rw [← hz]
      exact ho
    · obtain ⟨j, hj⟩ : ∃ j, i - L.length = j + 1 := ⟨i - L.length - 1, by omega⟩
      rw [hj, List.getElem?_cons_succ, List.getElem?_replicate] at hc
      by_cases e4 : j < N
      · rw [if_pos e4] at hc
        cases hc
        have e3 : jgrid x M L.length N i = fun _ => .int 0 := by
          unfold jgrid
          rw [if_neg e2, if_pos (by omega)]
        rw [e3]
        refine j_at_arr (by decide) ?_
        rw [show jxb x + i = H.size + 1 + j by omega]
        exact hi j e4
      · rw [if_neg e4] at hc
        cases hc
theorem j_outer (c : ClassId) (N h0 : Nat) : ∀ i : Nat, Jvm.Free.Multi.outerC c N h0 i = arrV c N (fun j => if j < i then .ref (h0 + 1 + j) else .null)
  | 0 => by
    show ({ cls := c, slots := Array.replicate N .null, vm := .none } : Cell) = _
    rw [arrV_new]
    refine congrArg (arrV c N) (funext fun j => ?_)
    simp
  | i + 1 => by
    show (Jvm.Free.Multi.outerC c N h0 i).setSlot i (.ref (h0 + 1 + i)) = _
    rw [j_outer c N h0 i, arrV_store]
    refine congrArg (arrV c N) (funext fun j => ?_)
    by_cases e : j = i
    · subst e
      simp [updV]
    · by_cases h : j < i
      · simp [updV, e, h, Nat.lt_succ_of_lt h]
      · simp [updV, e, h, show ¬ j < i + 1 by omega]
theorem j_arr_congr (c : ClassId) (N : Nat) {f g : Nat → Value} (h : ∀ j, j < N → f j = g j) : arrV c N f = arrV c N g := by
  unfold arrV
  have e : (Array.ofFn (n := N) fun j => f j.val) = Array.ofFn (n := N) fun j => g j.val := congrArg _ (funext fun j => h j.val j.isLt)
  rw [e]
theorem J_mna {idx N K : Nat} {zn zk : Int32} (hd : decode me.2.1 pc = .ok (.multianewarray idx 2, 4)) (hcl : Cond.classLink me.1.cls idx "[[I" ∈ jgw) (ho : Cond.arrayOver (.array .int) ∈ jnw) (hw : Cond.arrayClass .int ∈ jgw) (hzn : ¬ zn < 0) (hzk : ¬ zk < 0) (hN : zn.toNatClampNeg = N) (hK : zk.toNatClampNeg = K) (hb1 : N * 4 ≤ 536870912) (hb2 : K * 4 ≤ 536870912) (kk : J x d k n me (pc + 4) ls (.ref (jxb x + L.length) :: st) (L ++ ((3, N) :: List.replicate N (0, K))) (jgrid x M L.length N) P) : J x d (k + (1 + N)) (n + (N + N * K)) me pc ls (.int zk :: .int zn :: st) L M P := by
  intro p e R s m args below meth c mc ms H locs cells slots A G hp hS hl h1 h2
  have hJ : jH x s s.heap := G.2.2.2.2.2.2.2.2.1
  have hts := G.2.2.2.2.1
  have hR : R.cells = mc := G.2.2.2.2.2.2.2.2.2.1
  have hR2 : R.slots = ms := G.2.2.2.2.2.2.2.2.2.2.1
  subst hN
  subst hK
  intro T hT Xs
  obtain ⟨vm₁, cA, comp, -, fA, fC, hO, -, X', step⟩ := Xs.multianewarray2F G.1 G.2.2.2.2.2.1 (hts _ hcl) (show (Cond.arrayOver (.array .int)).before args s = true from hJ.2.1 _ ho) (hts _ hw) (g := F0 m pc A (.int zk :: .int zn :: st)) rfl (by rw [G.2.1]; exact hd) rfl hzn hzk hb1 (by show _ * 4 ≤ _; exact hb2) (by omega) rfl rfl (by omega) (by omega)
  have h3 := (hJ.1.2 3 (jxa x 3, .array .int) rfl).2
  have h0 := (hJ.1.2 0 (jxa x 0, .int) rfl).2
  have ecA : cA = jxa x 3 := Option.some.inj (fA.symm.trans h3)
  have ecC : comp = jxa x 0 := Option.some.inj (fC.symm.trans h0)
  subst ecA
  subst ecC
  generalize hF : Jvm.Free.Multi.fill (T.setVm vm₁) (jxa x 3) (jxa x 0) zn.toNatClampNeg zk.toNatClampNeg (defaultValue .int) zn.toNatClampNeg = F at X' step
  have hTh : (T.setVm vm₁).heap = H := hT
  obtain ⟨f1, f2, f3, f4⟩ := Jvm.Free.Multi.fill_facts (T.setVm vm₁) (jxa x 3) (jxa x 0) zn.toNatClampNeg zk.toNatClampNeg (defaultValue .int) zn.toNatClampNeg
  rw [hF, hTh] at f1 f2
  have hold : ∀ q : Nat, q < H.size → F.heap[q]? = H[q]? := fun q hq => by
    have := Jvm.Free.Multi.fill_old (T.setVm vm₁) (jxa x 3) (jxa x 0) zn.toNatClampNeg zk.toNatClampNeg (defaultValue .int) (a := q) (by rw [hTh]; exact hq) zn.toNatClampNeg
    rw [hF, hTh] at this
    exact this
  have hrow : ∀ j : Nat, j < zn.toNatClampNeg → F.heap[H.size + 1 + j]? = some (arrV (jxa x 0) zk.toNatClampNeg (fun _ => .int 0)) := fun j hj => by
    have := Jvm.Free.Multi.fill_inner (T.setVm vm₁) (jxa x 3) (jxa x 0) zn.toNatClampNeg zk.toNatClampNeg (defaultValue .int) zn.toNatClampNeg j hj
    rw [hF, hTh] at this
    rw [this]
    congr 1
    exact arrV_new _ _ _
  rw [j_outer, j_arr_congr (jxa x 3) zn.toNatClampNeg (g := fun j => .ref (H.size + 1 + j)) (fun j hj => if_pos hj)] at f2
  have hsz : F.heap.size = H.size + 1 + zn.toNatClampNeg := by rw [f1]
  obtain ⟨t, a1, b1⟩ := kk p e R s m args below meth c mc ms F.heap locs _ _ A G (j_grid_hp hp hsz hold f2 hrow) (jA_push (N := 0) hS (by rw [hp.1]; exact Nat.le_add_right _ _) (by omega) hold) hl (by omega) (by omega) _ rfl X'
  refine ⟨t, step t ?_, b1⟩
  have e1 : T.heap.size = jxb x + L.length := by rw [hT]; exact hp.1
  rw [e1]
  exact a1
end J4
