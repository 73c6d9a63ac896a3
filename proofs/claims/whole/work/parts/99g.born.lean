-- ===== the constructors: cells below q stand, places below ov are set =====
section BT
variable {x : jX} {d k n : Nat} {me : jMe} {pc : Nat} {ls : List (Option Value)} {st : List Value} {L : jL} {M : jM} {P : jP}
theorem J_acopyT {idx j id1 N1 : Nat} {sp dp z : Int32} (hd : decode me.2.1 pc = .ok (.invokestatic idx, 3)) (hlink : Cond.methodLink me.1.cls idx arraycopyName ∈ jgw) (hnat : Cond.native arraycopyName ∈ jgw) (hstat : Cond.static arraycopyName ∈ jgw) (hini : Cond.initialized "java/lang/System" ∈ jgw)
    (hj : j < 4) (hL1 : L[id1]? = some (0, N1)) (g1 : ¬ sp < 0) (g2 : ¬ dp < 0) (g3 : ¬ z < 0) (g4 : sp.toNatClampNeg + z.toNatClampNeg ≤ (jtb j).length) (g5 : dp.toNatClampNeg + z.toNatClampNeg ≤ N1) (hW : (st.map fun v => v.category).sum ≤ 8)
    (kk : J x (d + 1) k n me (pc + 3) ls st L (jset M id1 (va_cpy (fun i => .int ((jtb j).getD i 0)) (M id1) sp.toNatClampNeg dp.toNatClampNeg z.toNatClampNeg)) P) : J x (d + 1) k n me pc ls (.int z :: .int dp :: .ref (jxb x + id1) :: .int sp :: .ref (jxt x j) :: st) L M P := by
  intro p e R s m args below meth c mc ms H locs cells slots A G hp hS hl h1 h2
  have hts := G.2.2.2.2.1
  have hJ : jH x s s.heap := G.2.2.2.2.2.2.2.2.1
  have hfr := G.2.2.2.2.2.2.2.2.2.2.2
  intro T hT X
  obtain ⟨hX, hlt, -⟩ := hJ.2.2.2.1 j hj
  obtain ⟨scr, hs1, hs2, hs3, hs4, hs5⟩ := hX
  have hc0 : H[jxt x j]? = some scr := by rw [hS.2.1 _ (Nat.lt_of_lt_of_le hlt hJ.2.2.1) (fun q => absurd (show jxb x ≤ _ from q) (Nat.not_le.mpr hlt))]; exact hs1
  have hc1 := hp.arr hL1 (by decide)
  obtain ⟨hs6, k0, hk0, cm0, hkk0⟩ := hs2
  obtain ⟨-, k1, hk1, cm1, hkk1⟩ := jK_arr hJ (t := 0) (by decide) N1 (M id1)
  obtain ⟨vm', X', step⟩ := X.arraycopy G.1 G.2.2.2.2.2.1 (hts _ hlink) (hts _ hnat) (hts _ hstat) (hts _ hini) (src := jxt x j) (dst := jxb x + id1) (cs := scr) (cd := arrV (jxa x 0) N1 (M id1)) (srcPos := sp) (destPos := dp) (n := z) (by rw [hT]; exact hc0) (by rw [hT]; exact hc1)
    hs6 (fun _ h => by cases h) hs3 (fun h => by cases h) hk0 hk1 hkk0 hkk1 (by simp [refKind, jty]) g1 g2 g3
    (by rw [j_nn sp g1, j_nn z g3, hs4]; omega)
    (by rw [j_nn dp g2, j_nn z g3, arrV_size]; omega)
    (fun vm₁ _ i hi => by
      have e : scr.slots.getD (sp.toNatClampNeg + i) .null = .int ((jtb j).getD (sp.toNatClampNeg + i) 0) := by
        rw [Array.getD_eq_getD_getElem?, hs5 _ (by omega)]
        rfl
      refine ⟨?_, ?_⟩
      · rw [e]
        rfl
      · rw [e]
        exact trivial)
    (g := F0 m pc A (.int z :: .int dp :: .ref (jxb x + id1) :: .int sp :: .ref (jxt x j) :: st)) rfl (by rw [G.2.2.2.1]; exact hl.1.1) (rest := st) rfl (by rw [G.2.1]; exact hd) (by omega) (by
      have : nativeFrameWords "java/lang/System" "arraycopy" 5 + 11 ≤ 33 := by decide +kernel
      show 2 * 0 + _ + _ ≤ _; omega)
  have e1 : copied scr (arrV (jxa x 0) N1 (M id1)) sp dp z = arrV (jxa x 0) N1 (va_cpy (fun i => .int ((jtb j).getD i 0)) (M id1) sp.toNatClampNeg dp.toNatClampNeg z.toNatClampNeg) := va_copiedX (fun v => v) scr (jxa x 0) (fun i => .int ((jtb j).getD i 0)) (M id1) hs5 g4
  rw [e1] at step X'
  have hl1 : jxb x + id1 < H.size := hp.lt hL1
  have hheap : ((T.setVm vm').setCell (jxb x + id1) (arrV (jxa x 0) N1 (va_cpy (fun i => .int ((jtb j).getD i 0)) (M id1) sp.toNatClampNeg dp.toNatClampNeg z.toNatClampNeg))).heap = H.setIfInBounds (jxb x + id1) (arrV (jxa x 0) N1 (va_cpy (fun i => .int ((jtb j).getD i 0)) (M id1) sp.toNatClampNeg dp.toNatClampNeg z.toNatClampNeg)) := by rw [← hT]; rfl
  have oq : ∀ q : Nat, q ≠ jxb x + id1 → (H.setIfInBounds (jxb x + id1) (arrV (jxa x 0) N1 (va_cpy (fun i => .int ((jtb j).getD i 0)) (M id1) sp.toNatClampNeg dp.toNatClampNeg z.toNatClampNeg)))[q]? = H[q]? := fun q hq => by simp [Array.getElem?_setIfInBounds, Ne.symm hq]
  obtain ⟨t, a1, b1⟩ := kk p e R s m args below meth c mc ms _ _ cells slots A G (hp.set hL1 (by simp) oq (j_at_arr (by decide) (by simp [Array.getElem?_setIfInBounds, hl1])))
    ⟨by simp; exact hS.1, fun q g1 g2 => by
      rw [oq q (fun e => g2 (by rw [e]; exact Nat.le_add_right _ _))]
      exact hS.2.1 q g1 g2, fun q hq => by
      rcases List.mem_append.mp hq with h | h
      · exact hS.2.2 q h
      · obtain ⟨z, -, hz⟩ := List.mem_map.mp h
        rw [← hz]
        exact Nat.le_add_right _ _⟩ hl h1 h2 _ hheap X'
  exact ⟨t, step t a1, b1⟩
theorem j_hp_c {M' : jM} {H : Heap} (hc : ∀ id ct, L[id]? = some ct → ∀ j, j < ct.2 → M id j = M' id j) (h : j_hp x L M H) : j_hp x L M' H := by
  refine ⟨h.1, fun id ct hi => ?_⟩
  have h1 := h.2 id ct hi
  unfold j_at at h1 ⊢
  by_cases c : ct.1 < 4
  · rw [if_pos c] at h1 ⊢
    rw [h1, j_arr_congr _ _ (hc id ct hi)]
  · rw [if_neg c] at h1 ⊢
    exact h1.to (hc id ct hi)
theorem J_eqM {M' : jM} (hc : ∀ id ct, L[id]? = some ct → ∀ j, j < ct.2 → M id j = M' id j) (kk : J x d k n me pc ls st L M' P) : J x d k n me pc ls st L M P := fun p e R s m args below meth c mc ms H locs cells slots A G hp hS hl h1 h2 => kk p e R s m args below meth c mc ms H locs cells slots A G (j_hp_c hc hp) hS hl h1 h2
theorem J_bd2 {k' n' : Nat} (hk : k' ≤ k) (hn : n' ≤ n) (kk : J x d k' n' me pc ls st L M P) : J x d k n me pc ls st L M P := fun p e R s m args below meth c mc ms H locs cells slots A G hp hS hl h1 h2 => kk p e R s m args below meth c mc ms H locs cells slots A G hp hS hl (by omega) (by omega)
end BT
def ovs (ov : Nat → Nat) (id k : Nat) : Nat → Nat := fun i => if i = id then k else ov i
def jEs (x : jX) (m : jm) (ov : Nat → Nat) : jM := fun id k => if jlay id k = 0 ∨ k < ov id then jE x m id k else .null
theorem jEs_0 {x : jX} {m : jm} {ov : Nat → Nat} {id k : Nat} (h : jlay id k = 0) : jEs x m ov id k = .int (m id k) := (if_pos (Or.inl h)).trans (jE_i h)
theorem jEs_t {x : jX} {m : jm} {ov : Nat → Nat} {id k : Nat} (h : k < ov id) : jEs x m ov id k = jE x m id k := if_pos (Or.inr h)
theorem jEs_put {x : jX} {m : jm} {ov : Nat → Nat} {id kf : Nat} {v : Value} (hv : v = jE x m id kf) (ho : ∀ j, j < kf → ov id ≤ j → jlay id j = 0) (ho2 : ov id ≤ kf) : jset (jEs x m ov) id (updV (jEs x m ov id) kf v) = jEs x m (ovs ov id (kf + 1)) := by
  funext i j
  by_cases e : i = id
  · subst e
    rw [jset_s]
    by_cases c : j = kf
    · subst c
      rw [jEs_t (show j < ovs ov i (j + 1) i by unfold ovs; rw [if_pos rfl]; omega), hv]
      simp [updV]
    · have e1 : updV (jEs x m ov i) kf v j = jEs x m ov i j := by simp [updV, c]
      rw [e1]
      unfold jEs ovs
      rw [if_pos (show i = i from rfl)]
      by_cases h : jlay i j = 0 ∨ j < ov i
      · rw [if_pos h, if_pos (h.imp_right (fun z => by omega))]
      · rw [if_neg h, if_neg (fun z => ?_)]
        rcases z with z | z
        · exact h (Or.inl z)
        · exact h (Or.inl (ho j (by omega) (Nat.not_lt.mp (fun y => h (Or.inr y)))))
  · rw [jset_n e]
    unfold jEs ovs
    rw [if_neg e]
theorem jEs_up {x : jX} {m : jm} {ov : Nat → Nat} {id k : Nat} {v : Int32} (h : jlay id k = 0) : jset (jEs x m ov) id (updV (jEs x m ov id) k (.int v)) = jEs x (mup m id k v) ov := by
  funext i j
  by_cases e : i = id
  · subst e
    rw [jset_s]
    by_cases c : j = k
    · subst c
      rw [jEs_0 h, mup_s]
      simp [updV]
    · have e1 : updV (jEs x m ov i) k (.int v) j = jEs x m ov i j := by simp [updV, c]
      rw [e1]
      unfold jEs jE
      rw [mup_j c]
  · rw [jset_n e]
    unfold jEs jE
    rw [mup_i e]
def zr (m : jm) (q : Nat) : Prop := ∀ i j, q ≤ i → m i j = 0
theorem zr_le {m : jm} {q q' : Nat} (h : zr m q) (hq : q ≤ q') : zr m q' := fun i j hi => h i j (by omega)
theorem zr_fill {m : jm} {q id k : Nat} {f : Nat → Int32} (h : zr m q) (hi : id < q) : zr (mfill m id k f) q := fun i j h1 => by rw [mfill_i (by omega)]; exact h i j h1
theorem zr_up {m : jm} {q id k : Nat} {v : Int32} (h : zr m q) (hi : id < q) : zr (mup m id k v) q := fun i j h1 => by rw [mup_i (by omega)]; exact h i j h1
abbrev KC (x : jX) (d k n : Nat) (me : jMe) (pc : Nat) (ls : List (Option Value)) (st : List Value) (q : Nat) (m : jm) (ov : Nat → Nat) (P : jP) : Prop := J x d k n me pc ls st (jL0.take q) (jEs x m ov) P
theorem tk_len {q : Nat} (h : q ≤ 159) : (jL0.take q).length = q := by
  rw [List.length_take, show jL0.length = 159 from rfl]
  omega
theorem tk_get {q id : Nat} (h : id < q) : (jL0.take q)[id]? = jL0[id]? := List.getElem?_take_of_lt h
section BC
variable {x : jX} {d k n : Nat} {me : jMe} {pc : Nat} {ls : List (Option Value)} {st : List Value} {q : Nat} {m : jm} {ov : Nat → Nat} {P : jP}
theorem C_new {idx ci N k' n' : Nat} {ty : Nat → FieldType} (hd : decode me.2.1 pc = .ok (.new idx, 3)) (hN : jNew me.1.cls idx ci N (fun j => if (ty j).isReference then .null else .int 0)) (hL : jL0.take (q + 1) = jL0.take q ++ [(ci + 4, N)]) (hq : q ≤ 158) (hr : ∀ j, j < N → (ty j).isReference = decide (¬ jlay q j = 0)) (ho : ov q = 0) (hz : zr m q) (hk : k = k' + 1) (hn : n = n' + N)
    (kk : KC x d k' n' me (pc + 3) ls (.ref (jxb x + q) :: st) (q + 1) m ov P) : KC x d k n me pc ls st q m ov P := by
  subst hk hn
  refine J_new hd hN ?_
  rw [tk_len (by omega), ← hL]
  refine J_eqM (fun id ct h j hj => ?_) kk
  by_cases e : id = q
  · subst e
    rw [jset_s]
    rw [hL, List.getElem?_append_right (Nat.le_of_eq (tk_len (by omega))), tk_len (by omega), Nat.sub_self] at h
    cases h
    show (if (ty j).isReference = true then _ else _) = _
    rw [hr j hj]
    by_cases c : jlay id j = 0
    · rw [jEs_0 c, hz id j (Nat.le_refl _), if_neg (by simp [c])]
    · rw [if_pos (by simp [c])]
      unfold jEs
      rw [if_neg (by omega)]
  · rw [jset_n e]
theorem C_newa {t N k' n' : Nat} {atype : ArrayType} (hd : decode me.2.1 pc = .ok (.newarray atype, 2)) (ht : t < 3) (hty : newarray.typeOf atype = jty t) (hw : Cond.arrayClass (jty t) ∈ jgw) (hb : N * 4 ≤ 536870912) (hL : jL0.take (q + 1) = jL0.take q ++ [(t, N)]) (hq : q ≤ 158) (hl : jlayT.getD q [] = []) (hz : zr m q) (hk : k = k' + 1) (hn : n = n' + N)
    (kk : KC x d k' n' me (pc + 2) ls (.ref (jxb x + q) :: st) (q + 1) m ov P) : KC x d k n me pc ls (.int (nI N) :: st) q m ov P := by
  subst hk hn
  refine J_newa hd ht hty hw (nI_pos (by omega)) (nI_clamp (by omega)) hb ?_
  rw [tk_len (by omega), ← hL]
  refine J_eqM (fun id ct h j hj => ?_) kk
  by_cases e : id = q
  · subst e
    rw [jset_s, jEs_0 (show jlay id j = 0 by unfold jlay; rw [hl]; rfl), hz id j (Nat.le_refl _)]
  · rw [jset_n e]
theorem C_mna {idx N K k' n' : Nat} (hd : decode me.2.1 pc = .ok (.multianewarray idx 2, 4)) (hcl : Cond.classLink me.1.cls idx "[[I" ∈ jgw) (hb1 : N * 4 ≤ 536870912) (hb2 : K * 4 ≤ 536870912) (hL : jL0.take (q + 1 + N) = jL0.take q ++ ((3, N) :: List.replicate N (0, K))) (hq : q + N ≤ 158) (hl : ∀ t, t < N → jlayT.getD (q + 1 + t) [] = []) (hl2 : ∀ t, t < N → jlay q t = (q + 1 + t) + 2) (ho : N ≤ ov q) (hz : zr m q) (hk : k = k' + (1 + N)) (hn : n = n' + (N + N * K))
    (kk : KC x d k' n' me (pc + 4) ls (.ref (jxb x + q) :: st) (q + 1 + N) m ov P) : KC x d k n me pc ls (.int (nI K) :: .int (nI N) :: st) q m ov P := by
  subst hk hn
  refine J_mna hd hcl ka_over ka_int (nI_pos (by omega)) (nI_pos (by omega)) (nI_clamp (by omega)) (nI_clamp (by omega)) hb1 hb2 ?_
  rw [tk_len (by omega), ← hL]
  refine J_eqM (fun id ct h j hj => ?_) kk
  unfold jgrid
  by_cases e : id = q
  · subst e
    rw [if_pos rfl]
    rw [hL, List.getElem?_append_right (Nat.le_of_eq (tk_len (by omega))), tk_len (by omega), Nat.sub_self] at h
    cases h
    have hj' : j < N := hj
    rw [jEs_t (by omega), jE_r (hl2 j hj'), show jxb x + id + 1 + j = jxb x + (id + 1 + j) by omega]
  · rw [if_neg e]
    by_cases c : q < id ∧ id < q + 1 + N
    · rw [if_pos c]
      have hlay : jlay id j = 0 := by
        unfold jlay
        have := hl (id - (q + 1)) (by omega)
        rw [show q + 1 + (id - (q + 1)) = id by omega] at this
        rw [this]; rfl
      rw [jEs_0 hlay, hz id j (by omega)]
    · rw [if_neg c]
theorem C_putR {id ci N kf idx t : Nat} {ty : FieldType} (hd : decode me.2.1 pc = .ok (.putfield idx, 3)) (hF : jFP me.1.cls idx ci N kf ty true) (hL : (jL0.take q)[id]? = some (ci + 4, N)) (hin2 : me.1.name = "<init>") (hC : (vwCl[ci]?).map (fun z => z.1) = some me.1.cls) (hn : ∀ a, narrow ty (.ref a) = .ref a) (hf : ∀ a, fits ty (.ref a) = true) (hl : jlay id kf = t + 2) (ho : ∀ j, j < kf → ov id ≤ j → jlay id j = 0) (ho2 : ov id ≤ kf)
    (kk : KC x d k n me (pc + 3) ls st q m (ovs ov id (kf + 1)) P) : KC x d k n me pc ls (.ref (jxb x + t) :: .ref (jxb x + id) :: st) q m ov P :=
  J_putF hd hF hL hin2 (fun C T h => by rw [h] at hC; exact Option.some.inj hC) (hn _) (hf _) (by rw [jEs_put (jE_r hl).symm ho ho2]; exact kk)
theorem C_putS {id ci N kf idx j0 : Nat} {ty : FieldType} (hd : decode me.2.1 pc = .ok (.putfield idx, 3)) (hF : jFP me.1.cls idx ci N kf ty false) (hL : (jL0.take q)[id]? = some (ci + 4, N)) (hn : ∀ a, narrow ty (.ref a) = .ref a) (hf : ∀ a, fits ty (.ref a) = true) (hl : jlay id kf = 1) (hm : m id kf = nI j0) (hj : j0 < 5) (ho : ∀ j, j < kf → ov id ≤ j → jlay id j = 0) (ho2 : ov id ≤ kf)
    (kk : KC x d k n me (pc + 3) ls st q m (ovs ov id (kf + 1)) P) : KC x d k n me pc ls (.ref (jxs x j0) :: .ref (jxb x + id) :: st) q m ov P :=
  J_put hd hF hL (hn _) (hf _) (by rw [jEs_put (by rw [jE_s hl, hm, nI_clamp (by omega)]) ho ho2]; exact kk)
theorem C_putI {id ci N kf idx : Nat} {v : Int32} {ty : FieldType} (hd : decode me.2.1 pc = .ok (.putfield idx, 3)) (hF : jFP me.1.cls idx ci N kf ty false) (hL : (jL0.take q)[id]? = some (ci + 4, N)) (hn : narrow ty (.int v) = .int v) (hf : fits ty (.int v) = true) (hl : jlay id kf = 0)
    (kk : KC x d k n me (pc + 3) ls st q (mup m id kf v) ov P) : KC x d k n me pc ls (.int v :: .ref (jxb x + id) :: st) q m ov P :=
  J_put hd hF hL hn hf (by rw [jEs_up hl]; exact kk)
theorem mupId {id kf : Nat} {v : Int32} (h : m id kf = v) : mup m id kf v = m := by
  funext i j
  unfold mup
  by_cases c : i = id ∧ j = kf
  · rw [if_pos c, c.1, c.2, h]
  · rw [if_neg c]
theorem C_put0 {id ci N kf idx : Nat} {v : Int32} {ty : FieldType} (hd : decode me.2.1 pc = .ok (.putfield idx, 3)) (hF : jFP me.1.cls idx ci N kf ty false) (hL : (jL0.take q)[id]? = some (ci + 4, N)) (hn : narrow ty (.int v) = .int v) (hf : fits ty (.int v) = true) (hl : jlay id kf = 0) (hm : m id kf = v)
    (kk : KC x d k n me (pc + 3) ls st q m ov P) : KC x d k n me pc ls (.int v :: .ref (jxb x + id) :: st) q m ov P :=
  C_putI hd hF hL hn hf hl (by rw [mupId hm]; exact kk)
theorem C_getR {id ci N kf idx t : Nat} (hd : decode me.2.1 pc = .ok (.getfield idx, 3)) (hF : jFL me.1.cls idx ci N kf) (hL : (jL0.take q)[id]? = some (ci + 4, N)) (hl : jlay id kf = t + 2) (ho : kf < ov id)
    (kk : KC x d k n me (pc + 3) ls (.ref (jxb x + t) :: st) q m ov P) : KC x d k n me pc ls (.ref (jxb x + id) :: st) q m ov P :=
  J_get hd hF hL ((jEs_t ho).trans (jE_r hl)) kk
theorem C_iast {id N j : Nat} {v : Int32} (hd : decode me.2.1 pc = .ok (.iastore, 1)) (hL : (jL0.take q)[id]? = some (0, N)) (hl : jlayT.getD id [] = []) (hj : j < N) (hN : N < 2 ^ 31)
    (kk : KC x d k n me (pc + 1) ls st q (mup m id j v) ov P) : KC x d k n me pc ls (.int v :: .int (nI j) :: .ref (jxb x + id) :: st) q m ov P :=
  J_iast hd hL (vp_in_nI hj hN) (by rw [nI_clamp (by omega), jEs_up (by unfold jlay; rw [hl]; rfl)]; exact kk)
theorem C_tldn {j0 j : Nat} (hd : decode me.2.1 pc = .ok (.iaload, 1)) (hj0 : j0 < 4) (hj : j < (jtb j0).length)
    (kk : KC x d k n me (pc + 1) ls (.int ((jtb j0).getD j 0) :: st) q m ov P) : KC x d k n me pc ls (.int (nI j) :: .ref (jxt x j0) :: st) q m ov P := by
  have h6 : (jtb j0).length ≤ 6 := by
    rcases (show j0 = 0 ∨ j0 = 1 ∨ j0 = 2 ∨ j0 = 3 by omega) with rfl | rfl | rfl | rfl <;> decide
  exact J_tld hd hj0 (vp_in_nI hj (by omega)) (by rw [nI_clamp (by omega)]) kk
theorem C_acopyT {idx id1 : Nat} (hd : decode me.2.1 pc = .ok (.invokestatic idx, 3)) (hlink : Cond.methodLink me.1.cls idx arraycopyName ∈ jgw) (hL : (jL0.take q)[id1]? = some (0, 4)) (hl : jlayT.getD id1 [] = [])
    (kk : KC x (d + 1) k n me (pc + 3) ls [] q (mfill m id1 4 (fun i => (jtb 1).getD i 0)) ov P) : KC x (d + 1) k n me pc ls [.int (nI 4), .int (nI 0), .ref (jxb x + id1), .int (nI 0), .ref (jxt x 1)] q m ov P := by
  refine J_acopyT (j := 1) hd hlink ky_n ky_s ky_i (by decide) hL (by decide) (by decide) (by decide) (by decide) (by decide) (Nat.le_of_ble_eq_true rfl) ?_
  have e : jset (jEs x m ov) id1 (va_cpy (fun i => .int ((jtb 1).getD i 0)) (jEs x m ov id1) (nI 0).toNatClampNeg (nI 0).toNatClampNeg (nI 4).toNatClampNeg) = jEs x (mfill m id1 4 (fun i => (jtb 1).getD i 0)) ov := by
    funext i j
    by_cases c : i = id1
    · subst c
      have hl0 : jlay i j = 0 := by unfold jlay; rw [hl]; rfl
      rw [jset_s, jEs_0 hl0, show (nI 0).toNatClampNeg = 0 from rfl, show (nI 4).toNatClampNeg = 4 from rfl]
      unfold va_cpy
      by_cases h : j < 4
      · rw [if_pos (by omega), mfill_lt h, show 0 + (j - 0) = j by omega]
      · rw [if_neg (by omega), mfill_ge (by omega), jEs_0 hl0]
    · rw [jset_n c]
      unfold jEs jE
      rw [mfill_i c]
  rw [e]
  exact kk
theorem C_call {idx id k' n' k0 n0 q' : Nat} {y : jMe} {m' : jm} {ov' : Nat → Nat} (hd : decode me.2.1 pc = .ok (.invokespecial idx, 3)) (hy : jLkI me.1.cls idx y 0) (hW : (st.map fun v => v.category).sum ≤ 8)
    (hc : jCt x d k' n' y [.ref (jxb x + id)] (jL0.take q) (jEs x m ov) (fun r L M => r = none ∧ L = jL0.take q' ∧ M = jEs x m' ov')) (hk : k = k0 + k') (hn : n = n0 + n') (kk : KC x (d + 1) k0 n0 me (pc + 3) ls st q' m' ov' P) : KC x (d + 1) k n me pc ls (.ref (jxb x + id) :: st) q m ov P := by
  subst hk hn
  refine J_callI (As := []) hd hy rfl rfl hW hc (fun r L1 M1 h => ?_)
  obtain ⟨rfl, rfl, rfl⟩ := h
  exact kk
theorem C_obj {idx a : Nat} (hd : decode me.2.1 pc = .ok (.invokespecial idx, 3)) (hlink : Cond.methodLink me.1.cls idx Lib.objectInit ∈ jgw) (hW : (st.map fun v => v.category).sum ≤ 8) (kk : KC x (d + 1) k n me (pc + 3) ls st q m ov P) : KC x (d + 1) k n me pc ls (.ref a :: st) q m ov P := J_obj hd hlink ko_i ko_c hW kk
theorem C_for (N : Nat) (lsF : Nat → List (Option Value)) (mF : Nat → jm) (step : ∀ i, i < N → KC x d k n me pc (lsF (i + 1)) st q (mF (i + 1)) ov P → KC x d k n me pc (lsF i) st q (mF i) ov P) (exit : KC x d k n me pc (lsF N) st q (mF N) ov P) : KC x d k n me pc (lsF 0) st q (mF 0) ov P := by
  have key : ∀ j, j ≤ N → KC x d k n me pc (lsF (N - j)) st q (mF (N - j)) ov P := by
    intro j
    induction j with
    | zero => intro _; exact exit
    | succ j ih =>
      intro hj
      refine step _ (by omega) ?_
      rw [show N - (j + 1) + 1 = N - j by omega]
      exact ih (by omega)
  have h := key N (Nat.le_refl _)
  rwa [Nat.sub_self] at h
theorem C_for' {m0 : jm} {ls0 : List (Option Value)} (N : Nat) (lsF : Nat → List (Option Value)) (mF : Nat → jm) (hl : ls0 = lsF 0) (hm : m0 = mF 0) (step : ∀ i, i < N → KC x d k n me pc (lsF (i + 1)) st q (mF (i + 1)) ov P → KC x d k n me pc (lsF i) st q (mF i) ov P) (exit : KC x d k n me pc (lsF N) st q (mF N) ov P) : KC x d k n me pc ls0 st q m0 ov P := by
  rw [hl, hm]
  exact C_for N lsF mF step exit
end BC
theorem jEs_all {x : jX} {m : jm} {ov : Nat → Nat} (h : ∀ id, id < 159 → ∀ k, k < (jlayT.getD id []).length → jlay id k = 0 ∨ k < ov id) : jEs x m ov = jE x m := by
  funext i j
  by_cases c : jlay i j = 0
  · rw [jEs_0 c, jE_i c]
  · have h1 : i < 159 := Nat.not_le.mp fun z => c (by
      unfold jlay
      rw [List.getD_eq_getElem?_getD (l := jlayT), List.getElem?_eq_none (by show 159 ≤ i; omega)]
      rfl)
    have h2 : j < (jlayT.getD i []).length := Nat.not_le.mp fun z => c (by
      unfold jlay
      rw [List.getD_eq_getElem?_getD (l := jlayT.getD i []), List.getElem?_eq_none z]
      rfl)
    exact jEs_t ((h i h1 j h2).resolve_left c)
