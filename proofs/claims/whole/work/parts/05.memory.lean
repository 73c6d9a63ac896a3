-- ===== cells =====
def jset (M : jM) (id : Nat) (f : Nat → Value) : jM := fun i => if i = id then f else M i
theorem jset_s {M : jM} {id : Nat} {f : Nat → Value} : jset M id f id = f := if_pos rfl
theorem jset_n {M : jM} {id i : Nat} {f : Nat → Value} (h : i ≠ id) : jset M id f i = M i := if_neg h
theorem j_at.kept {x : jX} {ct : Nat × Nat} {f : Nat → Value} {a : Nat} {H H1 : Heap} (h : j_at x ct f a H) (hq : H1[a]? = H[a]?) : j_at x ct f a H1 := by
  unfold j_at at h ⊢
  by_cases hc : ct.1 < 4
  · rw [if_pos hc] at h ⊢
    exact hq.trans h
  · rw [if_neg hc] at h ⊢
    exact h.kept hq
theorem j_hp.lt {x : jX} {L : jL} {M : jM} {H : Heap} (h : j_hp x L M H) {id : Nat} {ct : Nat × Nat} (hL : L[id]? = some ct) : jxb x + id < H.size := by
  have := (List.getElem?_eq_some_iff.mp hL).1
  rw [h.1]; omega
theorem j_hp.set {x : jX} {L : jL} {M : jM} {H H1 : Heap} (h : j_hp x L M H) {id : Nat} {ct : Nat × Nat} {f : Nat → Value} (hL : L[id]? = some ct) (z : H1.size = H.size) (oq : ∀ q : Nat, q ≠ jxb x + id → H1[q]? = H[q]?) (hat : j_at x ct f (jxb x + id) H1) : j_hp x L (jset M id f) H1 := by
  refine ⟨z.trans h.1, fun i c hi => ?_⟩
  by_cases e : i = id
  · subst e
    rw [jset_s]
    cases hL.symm.trans hi
    exact hat
  · rw [jset_n e]
    exact (h.2 i c hi).kept (oq _ (by omega))
theorem j_hp.arr {x : jX} {L : jL} {M : jM} {H : Heap} (h : j_hp x L M H) {id t N : Nat} (hL : L[id]? = some (t, N)) (ht : t < 4) : H[jxb x + id]? = some (arrV (jxa x t) N (M id)) := by
  have h1 := h.2 id _ hL
  unfold j_at at h1
  rw [if_pos (show (t, N).1 < 4 from ht)] at h1
  exact h1
theorem j_hp.obj {x : jX} {L : jL} {M : jM} {H : Heap} (h : j_hp x L M H) {id ci N : Nat} (hL : L[id]? = some (ci + 4, N)) : t_OB (jxb x + id) ((jxD x).1 ci) N ((jxD x).2 ci) H (M id) := by
  have h1 := h.2 id _ hL
  unfold j_at at h1
  rw [if_neg (show ¬ (ci + 4, N).1 < 4 from by show ¬ ci + 4 < 4; omega)] at h1
  exact h1
theorem j_at_arr {x : jX} {t N a : Nat} {f : Nat → Value} {H : Heap} (ht : t < 4) (h : H[a]? = some (arrV (jxa x t) N f)) : j_at x (t, N) f a H := by
  unfold j_at
  rw [if_pos (show (t, N).1 < 4 from ht)]
  exact h
theorem j_at_obj {x : jX} {ci N a : Nat} {f : Nat → Value} {H : Heap} (h : t_OB a ((jxD x).1 ci) N ((jxD x).2 ci) H f) : j_at x (ci + 4, N) f a H := by
  unfold j_at
  rw [if_neg (show ¬ (ci + 4, N).1 < 4 from by show ¬ ci + 4 < 4; omega)]
  exact h
theorem jK_arr {x : jX} {s : State} {H : Heap} (h : jH x s H) {t : Nat} (ht : t < 4) (N : Nat) (f : Nat → Value) : s.isArrayOf (arrV (jxa x t) N f) (jty t) := by
  match t, ht with
  | 0, _ => exact (h.1.2 0 (jxa x 0, .int) rfl).1 N f
  | 1, _ => exact (h.1.2 1 (jxa x 1, .byte) rfl).1 N f
  | 2, _ => exact (h.1.2 2 (jxa x 2, .boolean) rfl).1 N f
  | 3, _ => exact (h.1.2 3 (jxa x 3, .array .int) rfl).1 N f
theorem jA_S {x : jX} {s : State} {H H1 : Heap} {locs : List Loc} {id k : Nat} (hS : va_S (jA x) s.heap H locs) (z : H1.size = H.size) (oq : ∀ q : Nat, q ≠ jxb x + id → H1[q]? = H[q]?) : va_S (jA x) s.heap H1 (locs ++ [⟨jxb x + id, k⟩]) :=
  hS.put z oq (Nat.le_add_right _ _)
-- field references, by class and place
def jFL (own : String) (idx ci N kf : Nat) : Prop := ∃ (C : String) (T : u_T), vwCl[ci]? = some (C, T, N) ∧ (∀ w ∈ u_ws C T N, w ∈ jgw) ∧ kf < N ∧ (T kf).1 = C ∧
  (Cond.fieldLink own idx C (T kf).2.1 (T kf).2.2.1 ∈ jgw ∨ ∃ host, Cond.fieldLinkNest own idx C (T kf).2.1 (T kf).2.2.1 host ∈ jnw)
def jFP (own : String) (idx ci N kf : Nat) (ty : FieldType) (fin : Bool) : Prop := ∃ (C : String) (T : u_T) (ty0 : Nat → FieldType), vwCl[ci]? = some (C, T, N) ∧ (∀ w ∈ u_ws C T N, w ∈ jgw) ∧ kf < N ∧ (T kf).1 = C ∧
  (Cond.fieldLink own idx C (T kf).2.1 (T kf).2.2.1 ∈ jgw ∨ fin = false ∧ ∃ host, Cond.fieldLinkNest own idx C (T kf).2.1 (T kf).2.2.1 host ∈ jnw) ∧ (∀ k, k < N → parseFieldDescriptor (T k).2.2.1 = some (ty0 k)) ∧ (∀ a, a < N → ∀ b, b < N → a ≠ b → (T a).2.1 ≠ (T b).2.1) ∧ (T kf).2.2.2 = fin ∧ ty0 kf = ty
section J2
variable {x : jX} {d k n : Nat} {me : jMe} {pc : Nat} {ls : List (Option Value)} {st : List Value} {L : jL} {M : jM} {P : jP}
theorem J_get {id ci N kf idx : Nat} {v : Value} (hd : decode me.2.1 pc = .ok (.getfield idx, 3)) (hF : jFL me.1.cls idx ci N kf) (hL : L[id]? = some (ci + 4, N)) (hv : M id kf = v) (kk : J x d k n me (pc + 3) ls (v :: st) L M P) : J x d k n me pc ls (.ref (jxb x + id) :: st) L M P := by
  intro p e R s m args below meth c mc ms H locs cells slots A G hp hS hl h1 h2
  obtain ⟨C, T, hc, hin, hk, hT, hlink⟩ := hF
  obtain ⟨cell, q1, q2, q3, q4⟩ := hp.obj hL
  have hJ : jH x s s.heap := G.2.2.2.2.2.2.2.2.1
  have hts := G.2.2.2.2.1
  obtain ⟨hSl, hfc, kC, hkC, hkind⟩ := hJ.1.1 ci _ hc
  obtain ⟨cf, kf', fi, f, hi, hsl⟩ := hSl kf hk
  have hst := (u_facts hfc hkC (u_lays hts hin hk) hi).1
  have hi2 := hi
  rw [hT] at hi2
  have hval : cell.slots[f.slot]? = some v := by rw [hsl, q4 kf hk, hv]
  rcases hlink with h | ⟨host, h⟩
  · exact W.getf G.1 G.2.1 G.2.2.2.2.2.1 (hts _ h) hi2 hst q1 (by rw [q3]; exact fun h => by cases h) hval rfl rfl hd (kk p e R s m args below meth c mc ms H locs cells slots A G hp hS hl h1 h2)
  · exact va_Wgetf G.1 G.2.1 G.2.2.2.2.2.1 (va_Nw.use rfl (hJ.2.1 _ h)) hi2 hst q1 (by rw [q3]; exact fun h => by cases h) hval rfl rfl hd (kk p e R s m args below meth c mc ms H locs cells slots A G hp hS hl h1 h2)
theorem J_put {id ci N kf idx : Nat} {v : Value} {ty : FieldType} (hd : decode me.2.1 pc = .ok (.putfield idx, 3)) (hF : jFP me.1.cls idx ci N kf ty false) (hL : L[id]? = some (ci + 4, N)) (hn : narrow ty v = v) (hf : fits ty v = true) (kk : J x d k n me (pc + 3) ls st L (jset M id (updV (M id) kf v)) P) : J x d k n me pc ls (v :: .ref (jxb x + id) :: st) L M P := by
  intro p e R s m args below meth c mc ms H locs cells slots A G hp hS hl h1 h2
  obtain ⟨C, T, ty0, hc, hin, hk, hT, hlink, hty, hnm, hfin, htyk⟩ := hF
  obtain ⟨cell, q1, q2, q3, q4⟩ := hp.obj hL
  have hJ : jH x s s.heap := G.2.2.2.2.2.2.2.2.1
  have hts := G.2.2.2.2.1
  have hap := va_apart (own := me.1.cls) hts hin ty0 hty hnm hJ.1 hc
  obtain ⟨hSl, hfc, kC, hkC, hkind⟩ := hJ.1.1 ci _ hc
  obtain ⟨cf, kf', fi, f, hi, hsl⟩ := hSl kf hk
  have hst := (u_facts hfc hkC (u_lays hts hin hk) hi).1
  have hlay := hts _ (hin _ (u_in_lay hk))
  unfold u_lay at hlay
  rw [if_neg (by rw [hfin]; decide)] at hlay
  have h6 := u_store hfc hkC hkind hlay hi ((hty kf hk).trans (by rw [htyk])) hn hf
  have hi2 := hi
  rw [hT] at hi2
  have fin : ∀ H1 : Heap, H1[jxb x + id]? = some (cell.setSlot f.slot v) → H1.size = H.size → (∀ q, q ≠ jxb x + id → H1[q]? = H[q]?) → W p (jxL x) e R s m args below meth c H1 (locs ++ [⟨jxb x + id, f.slot⟩]) cells slots (MQ below (jRes x P) args s mc ms (jA x)) (F0 m (pc + 3) A st) := by
    intro H1 e1 e2 e3
    refine kk p e R s m args below meth c mc ms H1 _ cells slots A G (hp.set hL e2 e3 (j_at_obj ⟨_, e1, q2, q3, ?_⟩)) (jA_S hS e2 e3) hl h1 h2
    rw [hsl]
    exact t_set q4 hap hk v
  rcases hlink with h | ⟨-, host, h⟩
  · exact W.putK G.1 G.2.1 (f := f) ⟨G.2.2.2.2.2.1, hts _ h, ⟨_, _, _, hi2⟩, hst⟩ (by rw [q2]; exact h6) q1 q3 (by rw [hsl]; exact k2_hasslot (q4 kf hk)) rfl rfl hd fin
  · exact va_WputK G.1 G.2.1 (f := f) G.2.2.2.2.2.1 (va_Nw.use rfl (hJ.2.1 _ h)) hi2 hst (by rw [q2]; exact h6) q1 q3 (by rw [hsl]; exact k2_hasslot (q4 kf hk)) rfl rfl hd fin
theorem J_putF {id ci N kf idx : Nat} {v : Value} {ty : FieldType} (hd : decode me.2.1 pc = .ok (.putfield idx, 3)) (hF : jFP me.1.cls idx ci N kf ty true) (hL : L[id]? = some (ci + 4, N)) (hin2 : me.1.name = "<init>") (hC : ∀ C T, vwCl[ci]? = some (C, T, N) → C = me.1.cls) (hn : narrow ty v = v) (hf : fits ty v = true) (kk : J x d k n me (pc + 3) ls st L (jset M id (updV (M id) kf v)) P) : J x d k n me pc ls (v :: .ref (jxb x + id) :: st) L M P := by
  intro p e R s m args below meth c mc ms H locs cells slots A G hp hS hl h1 h2
  obtain ⟨C, T, ty0, hc, hin, hk, hT, hlink, hty, hnm, hfin, htyk⟩ := hF
  obtain ⟨cell, q1, q2, q3, q4⟩ := hp.obj hL
  have hJ : jH x s s.heap := G.2.2.2.2.2.2.2.2.1
  have hts := G.2.2.2.2.1
  have hap := va_apart (own := me.1.cls) hts hin ty0 hty hnm hJ.1 hc
  obtain ⟨hSl, hfc, kC, hkC, hkind⟩ := hJ.1.1 ci _ hc
  obtain ⟨cf, kf', fi, f, hi, hsl⟩ := hSl kf hk
  have hst := (u_facts hfc hkC (u_lays hts hin hk) hi).1
  have hlay := hts _ (hin _ (u_in_lay hk))
  unfold u_lay at hlay
  rw [if_pos hfin] at hlay
  have hcf : m.cls = cf := by
    obtain ⟨_, _, c', _, _, _, -, -, hf', -, -, -, hown2, -⟩ := Cond.laysFinal_spec hlay
    have e1 : c' = cf := by have := hi.symm.trans hf'; simp at this; exact this.1.symm
    rw [hT, hC C T hc] at hown2
    rw [← e1]; exact Option.some.inj (G.2.2.2.2.2.1.symm.trans hown2)
  have h6 := u_fits hfc hkC hkind (Or.inr hlay) hi ((hty kf hk).trans (by rw [htyk])) hn hf
  have hi2 := hi
  rw [hT] at hi2
  have fin : ∀ H1 : Heap, H1[jxb x + id]? = some (cell.setSlot f.slot v) → H1.size = H.size → (∀ q, q ≠ jxb x + id → H1[q]? = H[q]?) → W p (jxL x) e R s m args below meth c H1 (locs ++ [⟨jxb x + id, f.slot⟩]) cells slots (MQ below (jRes x P) args s mc ms (jA x)) (F0 m (pc + 3) A st) := by
    intro H1 e1 e2 e3
    refine kk p e R s m args below meth c mc ms H1 _ cells slots A G (hp.set hL e2 e3 (j_at_obj ⟨_, e1, q2, q3, ?_⟩)) (jA_S hS e2 e3) hl h1 h2
    rw [hsl]
    exact t_set q4 hap hk v
  have hlk : (Cond.fieldLink me.1.cls idx C (T kf).2.1 (T kf).2.2.1).before args s = true := by
    rcases hlink with h | ⟨h, -⟩
    · exact hts _ h
    · cases h
  exact W.putFinK G.1 G.2.1 G.2.2.2.2.2.1 hlk hi2 hst hcf ((G.2.2.2.2.2.2.2.1 hin2).trans hin2) (by rw [q2]; exact h6) q1 q3 (by rw [hsl]; exact k2_hasslot (q4 kf hk)) rfl rfl hd fin
-- arrays
theorem j_in {i : Int32} {N : Nat} {t : Nat} {x : jX} {f : Nat → Value} (hin : vp_in i N) : ¬ (i < 0 ∨ (arrV (jxa x t) N f).slots.size ≤ i.toNatClampNeg) := by rw [arrV_size]; exact hin
theorem j_rd {i : Int32} {N : Nat} {t : Nat} {x : jX} {f : Nat → Value} {v : Value} (hin : vp_in i N) (hv : f i.toNatClampNeg = v) : (arrV (jxa x t) N f).slots[i.toNatClampNeg]? = some v := by
  rw [arrV_read _ _ (Nat.not_le.mp fun q => hin (Or.inr q)), hv]
theorem J_iald {id N : Nat} {i : Int32} {v : Value} (hd : decode me.2.1 pc = .ok (.iaload, 1)) (hL : L[id]? = some (0, N)) (hin : vp_in i N) (hv : M id i.toNatClampNeg = v) (kk : J x d k n me (pc + 1) ls (v :: st) L M P) : J x d k n me pc ls (.int i :: .ref (jxb x + id) :: st) L M P := by
  intro p e R s m args below meth c mc ms H locs cells slots A G hp hS hl h1 h2
  exact W.iald G.1 G.2.1 (hp.arr hL (by decide)) (jK_arr G.2.2.2.2.2.2.2.2.1 (by decide) N (M id)) (fun q => by cases q) (j_in hin) (j_rd hin hv) rfl rfl hd (kk p e R s m args below meth c mc ms H locs cells slots A G hp hS hl h1 h2)
theorem J_bald {id N : Nat} {i : Int32} {v : Value} (hd : decode me.2.1 pc = .ok (.baload, 1)) (hL : L[id]? = some (1, N)) (hin : vp_in i N) (hv : M id i.toNatClampNeg = v) (kk : J x d k n me (pc + 1) ls (v :: st) L M P) : J x d k n me pc ls (.int i :: .ref (jxb x + id) :: st) L M P := by
  intro p e R s m args below meth c mc ms H locs cells slots A G hp hS hl h1 h2
  exact W.bald G.1 G.2.1 (hp.arr hL (by decide)) (jK_arr G.2.2.2.2.2.2.2.2.1 (t := 1) (by decide) N (M id)) (fun q => by cases q) (j_in hin) (j_rd hin hv) rfl rfl hd (kk p e R s m args below meth c mc ms H locs cells slots A G hp hS hl h1 h2)
theorem J_zald {id N : Nat} {i : Int32} {v : Value} (hd : decode me.2.1 pc = .ok (.baload, 1)) (hL : L[id]? = some (2, N)) (hin : vp_in i N) (hv : M id i.toNatClampNeg = v) (kk : J x d k n me (pc + 1) ls (v :: st) L M P) : J x d k n me pc ls (.int i :: .ref (jxb x + id) :: st) L M P := by
  intro p e R s m args below meth c mc ms H locs cells slots A G hp hS hl h1 h2
  exact W.zald G.1 G.2.1 (hp.arr hL (by decide)) (jK_arr G.2.2.2.2.2.2.2.2.1 (t := 2) (by decide) N (M id)) (fun q => by cases q) (j_in hin) (j_rd hin hv) rfl rfl hd (kk p e R s m args below meth c mc ms H locs cells slots A G hp hS hl h1 h2)
theorem J_aald {id N : Nat} {i : Int32} {v : Value} (hd : decode me.2.1 pc = .ok (.aaload, 1)) (hL : L[id]? = some (3, N)) (hin : vp_in i N) (hv : M id i.toNatClampNeg = v) (kk : J x d k n me (pc + 1) ls (v :: st) L M P) : J x d k n me pc ls (.int i :: .ref (jxb x + id) :: st) L M P := by
  intro p e R s m args below meth c mc ms H locs cells slots A G hp hS hl h1 h2
  exact W.aald G.1 G.2.1 (hp.arr hL (by decide)) (jK_arr G.2.2.2.2.2.2.2.2.1 (t := 3) (by decide) N (M id)) rfl (fun q => by cases q) (j_in hin) (j_rd hin hv) rfl rfl hd (kk p e R s m args below meth c mc ms H locs cells slots A G hp hS hl h1 h2)
theorem J_iast {id N : Nat} {i v : Int32} (hd : decode me.2.1 pc = .ok (.iastore, 1)) (hL : L[id]? = some (0, N)) (hin : vp_in i N) (kk : J x d k n me (pc + 1) ls st L (jset M id (updV (M id) i.toNatClampNeg (.int v))) P) : J x d k n me pc ls (.int v :: .int i :: .ref (jxb x + id) :: st) L M P := by
  intro p e R s m args below meth c mc ms H locs cells slots A G hp hS hl h1 h2
  refine W.iast G.1 G.2.1 (hp.arr hL (by decide)) (jK_arr G.2.2.2.2.2.2.2.2.1 (by decide) N (M id)) (fun q => by cases q) (j_in hin) rfl rfl hd fun H1 e1 z oq => ?_
  exact kk p e R s m args below meth c mc ms H1 _ cells slots A G (hp.set hL z oq (j_at_arr (by decide) (by rw [e1, arrV_store]))) (jA_S hS z oq) hl h1 h2
theorem J_bast {id N : Nat} {i v : Int32} {w : Value} (hd : decode me.2.1 pc = .ok (.bastore, 1)) (hL : L[id]? = some (1, N)) (hin : vp_in i N) (hw : narrow .byte (.int v) = w) (kk : J x d k n me (pc + 1) ls st L (jset M id (updV (M id) i.toNatClampNeg w)) P) : J x d k n me pc ls (.int v :: .int i :: .ref (jxb x + id) :: st) L M P := by
  intro p e R s m args below meth c mc ms H locs cells slots A G hp hS hl h1 h2
  refine W.bast G.1 G.2.1 (hp.arr hL (by decide)) (jK_arr G.2.2.2.2.2.2.2.2.1 (t := 1) (by decide) N (M id)) (fun q => by cases q) (j_in hin) rfl rfl hd fun H1 e1 z oq => ?_
  exact kk p e R s m args below meth c mc ms H1 _ cells slots A G (hp.set hL z oq (j_at_arr (by decide) (by rw [e1, arrV_store, hw]))) (jA_S hS z oq) hl h1 h2
theorem J_zast {id N : Nat} {i v : Int32} {w : Value} (hd : decode me.2.1 pc = .ok (.bastore, 1)) (hL : L[id]? = some (2, N)) (hin : vp_in i N) (hw : narrow .boolean (.int v) = w) (kk : J x d k n me (pc + 1) ls st L (jset M id (updV (M id) i.toNatClampNeg w)) P) : J x d k n me pc ls (.int v :: .int i :: .ref (jxb x + id) :: st) L M P := by
  intro p e R s m args below meth c mc ms H locs cells slots A G hp hS hl h1 h2
  refine W.zast G.1 G.2.1 (hp.arr hL (by decide)) (jK_arr G.2.2.2.2.2.2.2.2.1 (t := 2) (by decide) N (M id)) (fun q => by cases q) (j_in hin) rfl rfl hd fun H1 e1 z oq => ?_
  exact kk p e R s m args below meth c mc ms H1 _ cells slots A G (hp.set hL z oq (j_at_arr (by decide) (by rw [e1, arrV_store, hw]))) (jA_S hS z oq) hl h1 h2
-- tables, the script
theorem J_tld {j : Nat} {i v : Int32} (hd : decode me.2.1 pc = .ok (.iaload, 1)) (hj : j < 4) (hin : vp_in i (jtb j).length) (hv : (jtb j).getD i.toNatClampNeg 0 = v) (kk : J x d k n me (pc + 1) ls (.int v :: st) L M P) : J x d k n me pc ls (.int i :: .ref (jxt x j) :: st) L M P := by
  intro p e R s m args below meth c mc ms H locs cells slots A G hp hS hl h1 h2
  have hJ : jH x s s.heap := G.2.2.2.2.2.2.2.2.1
  obtain ⟨hX, hlt, -⟩ := hJ.2.2.2.1 j hj
  refine va_sld G.1 G.2.1 hX (Nat.lt_of_lt_of_le hlt hJ.2.2.1) (fun q => absurd (show jxb x ≤ _ from q) (Nat.not_le.mpr hlt)) hS hin hd ?_
  rw [hv]
  exact kk p e R s m args below meth c mc ms H locs cells slots A G hp hS hl h1 h2
theorem J_sld {i : Int32} (hd : decode me.2.1 pc = .ok (.iaload, 1)) (hin : vp_in i (jxS x).2.1) (kk : J x d k n me (pc + 1) ls (.int ((jxS x).2.2 i.toNatClampNeg) :: st) L M P) : J x d k n me pc ls (.int i :: .ref (jxS x).1 :: st) L M P := by
  intro p e R s m args below meth c mc ms H locs cells slots A G hp hS hl h1 h2
  have hJ : jH x s s.heap := G.2.2.2.2.2.2.2.2.1
  obtain ⟨-, -, -, -, hX, hlt⟩ := hJ.2.2.2
  exact va_sld G.1 G.2.1 hX (Nat.lt_of_lt_of_le hlt hJ.2.2.1) (fun q => absurd (show jxb x ≤ _ from q) (Nat.not_le.mpr hlt)) hS hin hd (kk p e R s m args below meth c mc ms H locs cells slots A G hp hS hl h1 h2)
theorem J_slen (hd : decode me.2.1 pc = .ok (.arraylength, 1)) (kk : J x d k n me (pc + 1) ls (.int (nI (jxS x).2.1) :: st) L M P) : J x d k n me pc ls (.ref (jxS x).1 :: st) L M P := by
  intro p e R s m args below meth c mc ms H locs cells slots A G hp hS hl h1 h2
  have hJ : jH x s s.heap := G.2.2.2.2.2.2.2.2.1
  obtain ⟨-, -, -, -, hX, hlt⟩ := hJ.2.2.2
  exact va_slen G.1 G.2.1 hX (Nat.lt_of_lt_of_le hlt hJ.2.2.1) (fun q => absurd (show jxb x ≤ _ from q) (Nat.not_le.mpr hlt)) hS hd (kk p e R s m args below meth c mc ms H locs cells slots A G hp hS hl h1 h2)
theorem J_gets {j idx : Nat} (hd : decode me.2.1 pc = .ok (.getstatic idx, 3)) (hj : j < 4) (hlink : Cond.fieldLink me.1.cls idx "SkinShow" (jtn j) "[I" ∈ jgw ∨ ∃ host, Cond.fieldLinkNest me.1.cls idx "SkinShow" (jtn j) "[I" host ∈ jnw) (kk : J x d k n me (pc + 3) ls (.ref (jxt x j) :: st) L M P) : J x d k n me pc ls st L M P := by
  intro p e R s m args below meth c mc ms H locs cells slots A G hp hS hl h1 h2
  have hJ : jH x s s.heap := G.2.2.2.2.2.2.2.2.1
  obtain ⟨-, -, hZ⟩ := hJ.2.2.2.1 j hj
  rcases hlink with h | ⟨host, h⟩
  · exact va_gets G.1 G.2.1 hZ hS G.2.2.2.2.2.1 (G.2.2.2.2.1 _ h) (fun _ h => h) hd (kk p e R s m args below meth c mc ms H locs cells slots A G hp hS hl h1 h2)
  · exact va_getsN G.1 G.2.1 hZ hS G.2.2.2.2.2.1 (va_Nw.use rfl (hJ.2.1 _ h)) (fun _ h => h) hd (kk p e R s m args below meth c mc ms H locs cells slots A G hp hS hl h1 h2)
end J2
