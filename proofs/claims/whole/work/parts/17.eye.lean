theorem jEy_c {e : Nat} (he : jEy e) : e = 95 ∨ e = 116 := he
theorem jSt_c {o : Nat} (ho : jSt o) : o = 1 ∨ o = 14 ∨ o = 27 ∨ o = 103 := ho
set_option maxRecDepth 100000 in
set_option maxHeartbeats 400000 in
theorem c_face {x : jX} {m : jm} {d : Nat} {e g : Nat} (he : jEy e) (hg : g < 4) : Ct x (d + 3) eX0_face [.ref (jxb x + e), .ref (jxb x + 40), .int (nI g)] m (jv fun m' => m' = mfill m (e + 1) 48 (shadeS m g)) := by
  refine J_start (by decide +kernel) (Nat.le_of_ble_eq_true rfl) (ls := [some (.ref (jxb x + e)), some (.ref (jxb x + 40)), some (.int (nI g)), none]) rfl rfl ?_
  have he9 := jEy_c he
  refine J_iconst (pc := 0) dX0_face_0 kni_0 ?_
  refine J_istore_n (pc := 1) (ls' := [some _, some _, some _, some _]) dX0_face_1 rfl (Nat.le_of_ble_eq_true rfl) rfl ?_
  refine K_for' (pc := 2) 48 (fun i => [some (.ref (jxb x + e)), some (.ref (jxb x + 40)), some (.int (nI g)), some (.int (nI i))]) (fun i => mfill m (e + 1) i (shadeS m g)) (by rfl) (by exact (mfill_0 _ _ _).symm) (fun i hi ih2 => ?_) ?_
  ·
    show K x _ _ 2 [some (.ref (jxb x + e)), some (.ref (jxb x + 40)), some (.int (nI g)), some (.int (nI i))] _ (mfill m (e + 1) i (shadeS m g)) _
    refine J_iload_n (pc := 2) dX0_face_2 rfl ?_
    refine J_bipush (pc := 3) dX0_face_3 knb_48 ?_
    refine Jn_ge (pc := 5) (tgt := 26) dX0_face_5 (by decide) (by omega) (by omega) (fun h5 => absurd h5 (by omega)) (fun h5 => ?_)
    refine J_aload_n (pc := 8) dX0_face_8 rfl ?_
    refine K_getR (pc := 9) (t := e + 1) dX0_face_9 kf_X0_9 (jEy_obj he) (jEy_ref he 0 (by decide)) ?_
    refine J_iload_n (pc := 12) dX0_face_12 rfl ?_
    refine J_aload_n (pc := 13) dX0_face_13 rfl ?_
    refine J_iload_n (pc := 14) dX0_face_14 rfl ?_
    refine J_iload_n (pc := 15) dX0_face_15 rfl ?_
    refine K_callVp (pc := 16) (id := 40) (As := [_, _]) dX0_face_16 kl_X0_42 rfl job_40 rfl rfl (Nat.le_of_ble_eq_true rfl) (c_shadeAt (m := mfill m (e + 1) i (shadeS m g)) hg hi) ?_
    refine K_iastn (pc := 19) (id := (e + 1)) dX0_face_19 (jEy_arr he 0 (by decide) (by decide)) (by omega) (by decide) ?_
    refine Jn_iinc (pc := 20) (ls' := [some _, some _, some _, some _]) dX0_face_20 rfl knz_1 rfl rfl ?_
    refine J_goto (pc := 23) (tgt := 2) dX0_face_23 (by decide) ?_
    have ev : ((shadeS (mfill m (e + 1) i (shadeS m g)) g i)) = shadeS m g i := by
      exact shadeS_c (mfill_i' (by omega)) (mfill_i' (by omega)) (fun l hl => mfill_i' (by omega)) hg hi
    rw [mfill_s _ _ _ _ ev]
    exact ih2
  ·
    show K x _ _ 2 [some (.ref (jxb x + e)), some (.ref (jxb x + 40)), some (.int (nI g)), some (.int (nI 48))] _ (mfill m (e + 1) 48 (shadeS m g)) _
    refine J_iload_n (pc := 2) dX0_face_2 rfl ?_
    refine J_bipush (pc := 3) dX0_face_3 knb_48 ?_
    refine Jn_ge (pc := 5) (tgt := 26) dX0_face_5 (by decide) (by omega) (by omega) (fun h5_2 => ?_) (fun h5_2 => absurd h5_2 (by omega))
    refine K_vret (pc := 26) dX0_face_26 rfl ⟨rfl, ?_⟩
    rfl
set_option maxRecDepth 100000 in
set_option maxHeartbeats 400000 in
theorem c_look {x : jX} {m : jm} {d : Nat} {e o : Nat} (he : jEy e) (ho : jSt o) (hat : wfAt m o) : Ct x (d + 3) eX0_look [.ref (jxb x + e), .ref (jxb x + o)] m (jv fun m' => m' = mfill m (e + 2) 48 (lightS m o)) := by
  refine J_start (by decide +kernel) (Nat.le_of_ble_eq_true rfl) (ls := [some (.ref (jxb x + e)), some (.ref (jxb x + o)), none]) rfl rfl ?_
  have he9 := jEy_c he
  have ho9 := jSt_c ho
  refine J_iconst (pc := 0) dX0_look_0 kni_0 ?_
  refine J_istore_n (pc := 1) (ls' := [some _, some _, some _]) dX0_look_1 rfl (Nat.le_of_ble_eq_true rfl) rfl ?_
  refine K_for' (pc := 2) 48 (fun i => [some (.ref (jxb x + e)), some (.ref (jxb x + o)), some (.int (nI i))]) (fun i => mfill m (e + 2) i (lightS m o)) (by rfl) (by exact (mfill_0 _ _ _).symm) (fun i hi ih2 => ?_) ?_
  ·
    show K x _ _ 2 [some (.ref (jxb x + e)), some (.ref (jxb x + o)), some (.int (nI i))] _ (mfill m (e + 2) i (lightS m o)) _
    refine J_iload_n (pc := 2) dX0_look_2 rfl ?_
    refine J_bipush (pc := 3) dX0_look_3 knb_48 ?_
    refine Jn_ge (pc := 5) (tgt := 25) dX0_look_5 (by decide) (by omega) (by omega) (fun h5 => absurd h5 (by omega)) (fun h5 => ?_)
    refine J_aload_n (pc := 8) dX0_look_8 rfl ?_
    refine K_getR (pc := 9) (t := e + 2) dX0_look_9 kf_X0_15 (jEy_obj he) (jEy_ref he 1 (by decide)) ?_
    refine J_iload_n (pc := 12) dX0_look_12 rfl ?_
    refine J_aload_n (pc := 13) dX0_look_13 rfl ?_
    refine J_iload_n (pc := 14) dX0_look_14 rfl ?_
    refine K_callVp (pc := 15) (id := o) (As := [_]) dX0_look_15 kl_X0_48 rfl (jSt_obj ho) rfl rfl (Nat.le_of_ble_eq_true rfl) (c_lightAt (m := mfill m (e + 2) i (lightS m o)) ho hi (wfAt_c (mfill_i' (by omega)) hat)) ?_
    refine K_iastn (pc := 18) (id := (e + 2)) dX0_look_18 (jEy_arr he 1 (by decide) (by decide)) (by omega) (by decide) ?_
    refine Jn_iinc (pc := 19) (ls' := [some _, some _, some _]) dX0_look_19 rfl knz_1 rfl rfl ?_
    refine J_goto (pc := 22) (tgt := 2) dX0_look_22 (by decide) ?_
    have ev : ((lightS (mfill m (e + 2) i (lightS m o)) o i)) = lightS m o i := by
      exact lightS_c (fun k hk => mfill_i' (by omega)) i
    rw [mfill_s _ _ _ _ ev]
    exact ih2
  ·
    show K x _ _ 2 [some (.ref (jxb x + e)), some (.ref (jxb x + o)), some (.int (nI 48))] _ (mfill m (e + 2) 48 (lightS m o)) _
    refine J_iload_n (pc := 2) dX0_look_2 rfl ?_
    refine J_bipush (pc := 3) dX0_look_3 knb_48 ?_
    refine Jn_ge (pc := 5) (tgt := 25) dX0_look_5 (by decide) (by omega) (by omega) (fun h5_2 => ?_) (fun h5_2 => absurd h5_2 (by omega))
    refine K_vret (pc := 25) dX0_look_25 rfl ⟨rfl, ?_⟩
    rfl

def moveS (m : jm) (e o p : Nat) : Int32 := absV (m (e + 2) p - m (o + 8) p)
set_option maxRecDepth 100000 in
set_option maxHeartbeats 400000 in
theorem c_findMoves {x : jX} {m : jm} {d : Nat} {e o : Nat} (he : jEy e) (ho : jSt o) : Ct x (d + 1) eX0_findMoves [.ref (jxb x + e), .ref (jxb x + o)] m (jv fun m' => m' = mfill m (e + 4) 48 (moveS m e o)) := by
  refine J_start (by decide +kernel) (Nat.le_of_ble_eq_true rfl) (ls := [some (.ref (jxb x + e)), some (.ref (jxb x + o)), none]) rfl rfl ?_
  have he9 := jEy_c he
  have ho9 := jSt_c ho
  refine J_iconst (pc := 0) dX0_findMoves_0 kni_0 ?_
  refine J_istore_n (pc := 1) (ls' := [some _, some _, some _]) dX0_findMoves_1 rfl (Nat.le_of_ble_eq_true rfl) rfl ?_
  refine K_for' (pc := 2) 48 (fun i => [some (.ref (jxb x + e)), some (.ref (jxb x + o)), some (.int (nI i))]) (fun i => mfill m (e + 4) i (moveS m e o)) (by rfl) (by exact (mfill_0 _ _ _).symm) (fun i hi ih2 => ?_) ?_
  ·
    show K x _ _ 2 [some (.ref (jxb x + e)), some (.ref (jxb x + o)), some (.int (nI i))] _ (mfill m (e + 4) i (moveS m e o)) _
    refine J_iload_n (pc := 2) dX0_findMoves_2 rfl ?_
    refine J_bipush (pc := 3) dX0_findMoves_3 knb_48 ?_
    refine Jn_ge (pc := 5) (tgt := 36) dX0_findMoves_5 (by decide) (by omega) (by omega) (fun h5 => absurd h5 (by omega)) (fun h5 => ?_)
    refine J_aload_n (pc := 8) dX0_findMoves_8 rfl ?_
    refine K_getR (pc := 9) (t := e + 4) dX0_findMoves_9 kf_X0_21 (jEy_obj he) (jEy_ref he 3 (by decide)) ?_
    refine J_iload_n (pc := 12) dX0_findMoves_12 rfl ?_
    refine J_aload_n (pc := 13) dX0_findMoves_13 rfl ?_
    refine K_getR (pc := 14) (t := e + 2) dX0_findMoves_14 kf_X0_15 (jEy_obj he) (jEy_ref he 1 (by decide)) ?_
    refine J_iload_n (pc := 17) dX0_findMoves_17 rfl ?_
    refine K_ialdn (pc := 18) (id := (e + 2)) dX0_findMoves_18 (jEy_arr he 1 (by decide) (by decide)) (by omega) (by decide) ?_
    refine J_aload_n (pc := 19) dX0_findMoves_19 rfl ?_
    refine K_getR (pc := 20) (t := o + 8) dX0_findMoves_20 kf_X0_54 (jSt_obj ho) (jSt_ref ho 7 (by decide)) ?_
    refine J_iload_n (pc := 23) dX0_findMoves_23 rfl ?_
    refine K_ialdn (pc := 24) (id := (o + 8)) dX0_findMoves_24 (jSt_arr ho 7 (by decide)) (by omega) (by decide) ?_
    refine J_isub (pc := 25) dX0_findMoves_25 ?_
    refine K_absV (pc := 26) dX0_findMoves_26 kx_X0_57 (Nat.le_of_ble_eq_true rfl) ?_
    refine K_iastn (pc := 29) (id := (e + 4)) dX0_findMoves_29 (jEy_arr he 3 (by decide) (by decide)) (by omega) (by decide) ?_
    refine Jn_iinc (pc := 30) (ls' := [some _, some _, some _]) dX0_findMoves_30 rfl knz_1 rfl rfl ?_
    refine J_goto (pc := 33) (tgt := 2) dX0_findMoves_33 (by decide) ?_
    have ev : ((absV (((((mfill m (e + 4) i (moveS m e o) (e + 2) i)) - ((mfill m (e + 4) i (moveS m e o) (o + 8) i))))))) = moveS m e o i := by
      rw [mfill_i (i := e + 2) (by omega), mfill_i (i := o + 8) (by omega)]
      rfl
    rw [mfill_s _ _ _ _ ev]
    exact ih2
  ·
    show K x _ _ 2 [some (.ref (jxb x + e)), some (.ref (jxb x + o)), some (.int (nI 48))] _ (mfill m (e + 4) 48 (moveS m e o)) _
    refine J_iload_n (pc := 2) dX0_findMoves_2 rfl ?_
    refine J_bipush (pc := 3) dX0_findMoves_3 knb_48 ?_
    refine Jn_ge (pc := 5) (tgt := 36) dX0_findMoves_5 (by decide) (by omega) (by omega) (fun h5_2 => ?_) (fun h5_2 => absurd h5_2 (by omega))
    refine K_vret (pc := 36) dX0_findMoves_36 rfl ⟨rfl, ?_⟩
    rfl

def edgP (f : Nat → Int32) (w : Int32) (a b : Nat) : Bool := decide (w ≤ absV (f a - f b))
def markE (m : jm) (e a b : Nat) (w : Int32) : jm := if edgP (m (e + 2)) w a b = true then mup (mup m (e + 3) a (m (e + 3) a + nI 1)) (e + 3) b (m (e + 3) b + nI 1) else m
set_option maxRecDepth 100000 in
set_option maxHeartbeats 400000 in
theorem c_markEdge {x : jX} {m : jm} {d : Nat} {e a b : Nat} (he : jEy e) (ha : a < 48) (hb : b < 48) (hab : b ≠ a) (w : Int32) : Ct x (d + 1) eX0_markEdge [.ref (jxb x + e), .int (nI a), .int (nI b), .int w] m (jv fun m' => m' = markE m e a b w) := by
  refine J_start (by decide +kernel) (Nat.le_of_ble_eq_true rfl) (ls := [some (.ref (jxb x + e)), some (.int (nI a)), some (.int (nI b)), some (.int w)]) rfl rfl ?_
  refine J_aload_n (pc := 0) dX0_markEdge_0 rfl ?_
  refine K_getR (pc := 1) (t := e + 2) dX0_markEdge_1 kf_X0_15 (jEy_obj he) (jEy_ref he 1 (by decide)) ?_
  refine J_iload_n (pc := 4) dX0_markEdge_4 rfl ?_
  refine K_ialdn (pc := 5) (id := (e + 2)) dX0_markEdge_5 (jEy_arr he 1 (by decide) (by decide)) (by omega) (by decide) ?_
  refine J_aload_n (pc := 6) dX0_markEdge_6 rfl ?_
  refine K_getR (pc := 7) (t := e + 2) dX0_markEdge_7 kf_X0_15 (jEy_obj he) (jEy_ref he 1 (by decide)) ?_
  refine J_iload_n (pc := 10) dX0_markEdge_10 rfl ?_
  refine K_ialdn (pc := 11) (id := (e + 2)) dX0_markEdge_11 (jEy_arr he 1 (by decide) (by decide)) (by omega) (by decide) ?_
  refine J_isub (pc := 12) dX0_markEdge_12 ?_
  refine K_absV (pc := 13) dX0_markEdge_13 kx_X0_57 (Nat.le_of_ble_eq_true rfl) ?_
  refine J_iload_n (pc := 16) dX0_markEdge_16 rfl ?_
  refine J_icmp_lt (pc := 17) (tgt := 40) dX0_markEdge_17 (by decide) (fun h17 => ?_) (fun h17 => ?_)
  · 
    refine K_vret (pc := 40) dX0_markEdge_40 rfl ⟨rfl, ?_⟩
    unfold markE edgP
    rw [if_neg (by rw [decide_eq_true_eq]; exact Int32.not_le.mpr h17)]
  · 
    refine J_aload_n (pc := 20) dX0_markEdge_20 rfl ?_
    refine K_getR (pc := 21) (t := e + 3) dX0_markEdge_21 kf_X0_18 (jEy_obj he) (jEy_ref he 2 (by decide)) ?_
    refine J_iload_n (pc := 24) dX0_markEdge_24 rfl ?_
    refine J_dup2 (pc := 25) dX0_markEdge_25 rfl rfl ?_
    refine K_ialdn (pc := 26) (id := (e + 3)) dX0_markEdge_26 (jEy_arr he 2 (by decide) (by decide)) (by omega) (by decide) ?_
    refine J_iconst (pc := 27) dX0_markEdge_27 kni_1 ?_
    refine J_iadd (pc := 28) dX0_markEdge_28 ?_
    refine K_iastn (pc := 29) (id := (e + 3)) dX0_markEdge_29 (jEy_arr he 2 (by decide) (by decide)) (by omega) (by decide) ?_
    refine J_aload_n (pc := 30) dX0_markEdge_30 rfl ?_
    refine K_getR (pc := 31) (t := e + 3) dX0_markEdge_31 kf_X0_18 (jEy_obj he) (jEy_ref he 2 (by decide)) ?_
    refine J_iload_n (pc := 34) dX0_markEdge_34 rfl ?_
    refine J_dup2 (pc := 35) dX0_markEdge_35 rfl rfl ?_
    refine K_ialdn (pc := 36) (id := (e + 3)) dX0_markEdge_36 (jEy_arr he 2 (by decide) (by decide)) (by omega) (by decide) ?_
    refine J_top (b := (m (e + 3) b)) (mup_j hab) ?_
    refine J_iconst (pc := 37) dX0_markEdge_37 kni_1 ?_
    refine J_iadd (pc := 38) dX0_markEdge_38 ?_
    refine K_iastn (pc := 39) (id := (e + 3)) dX0_markEdge_39 (jEy_arr he 2 (by decide) (by decide)) (by omega) (by decide) ?_
    refine K_vret (pc := 40) dX0_markEdge_40 rfl ⟨rfl, ?_⟩
    unfold markE edgP
    rw [if_pos (by rw [decide_eq_true_eq]; exact Int32.not_lt.mp h17)]

/-- how many sides of p are edges whose pair begins ahead of i -/
def edgI (f : Nat → Int32) (w : Int32) (i p : Nat) : Nat :=
  (if p < i ∧ p % 8 < 7 ∧ edgP f w p (p + 1) = true then 1 else 0) + (if p < i ∧ p < 40 ∧ edgP f w p (p + 8) = true then 1 else 0) +
  ((if 1 ≤ p ∧ p - 1 < i ∧ (p - 1) % 8 < 7 ∧ edgP f w (p - 1) p = true then 1 else 0) + (if 8 ≤ p ∧ p - 8 < i ∧ edgP f w (p - 8) p = true then 1 else 0))
def edgN (f : Nat → Int32) (w : Int32) (p : Nat) : Nat := edgI f w 48 p
theorem edgI_le (f : Nat → Int32) (w : Int32) (i p : Nat) : edgI f w i p ≤ 4 := by unfold edgI; (repeat' split) <;> omega
theorem edgI_0 (f : Nat → Int32) (w : Int32) (p : Nat) : edgI f w 0 p = 0 := by unfold edgI; simp

theorem edgI_s (f : Nat → Int32) (w : Int32) (i p : Nat) : edgI f w (i + 1) p = edgI f w i p + (if p = i ∧ i % 8 < 7 ∧ edgP f w i (i + 1) = true then 1 else 0) + (if p = i ∧ i < 40 ∧ edgP f w i (i + 8) = true then 1 else 0) + ((if p = i + 1 ∧ i % 8 < 7 ∧ edgP f w i (i + 1) = true then 1 else 0) + (if p = i + 8 ∧ edgP f w i (i + 8) = true then 1 else 0)) := by
  have s1 : ∀ (c1 c2 c3 : Prop) [Decidable c1] [Decidable c2] [Decidable c3], (c1 ↔ c2 ∨ c3) → ¬ (c2 ∧ c3) → (if c1 then 1 else 0) = (if c2 then 1 else 0) + (if c3 then (1 : Nat) else 0) := by
    intro c1 c2 c3 _ _ _ h h2
    by_cases a : c2 <;> by_cases b : c3
    · exact absurd ⟨a, b⟩ h2
    · rw [if_pos (h.mpr (Or.inl a)), if_pos a, if_neg b]
    · rw [if_pos (h.mpr (Or.inr b)), if_neg a, if_pos b]
    · rw [if_neg (fun q => (h.mp q).elim a b), if_neg a, if_neg b]
  unfold edgI
  rw [s1 (p < i + 1 ∧ p % 8 < 7 ∧ edgP f w p (p + 1) = true) (p < i ∧ p % 8 < 7 ∧ edgP f w p (p + 1) = true) (p = i ∧ i % 8 < 7 ∧ edgP f w i (i + 1) = true)
      ⟨fun q => by
        by_cases e : p = i
        · subst e; exact Or.inr ⟨rfl, q.2⟩
        · exact Or.inl ⟨by omega, q.2⟩,
      fun q => by
        rcases q with q | ⟨rfl, q⟩
        · exact ⟨by omega, q.2⟩
        · exact ⟨by omega, q⟩⟩ (fun q => by omega),
    s1 (p < i + 1 ∧ p < 40 ∧ edgP f w p (p + 8) = true) (p < i ∧ p < 40 ∧ edgP f w p (p + 8) = true) (p = i ∧ i < 40 ∧ edgP f w i (i + 8) = true)
      ⟨fun q => by
        by_cases e : p = i
        · subst e; exact Or.inr ⟨rfl, q.2⟩
        · exact Or.inl ⟨by omega, q.2⟩,
      fun q => by
        rcases q with q | ⟨rfl, q⟩
        · exact ⟨by omega, q.2⟩
        · exact ⟨by omega, q⟩⟩ (fun q => by omega),
    s1 (1 ≤ p ∧ p - 1 < i + 1 ∧ (p - 1) % 8 < 7 ∧ edgP f w (p - 1) p = true) (1 ≤ p ∧ p - 1 < i ∧ (p - 1) % 8 < 7 ∧ edgP f w (p - 1) p = true) (p = i + 1 ∧ i % 8 < 7 ∧ edgP f w i (i + 1) = true)
      ⟨fun q => by
        by_cases e : p = i + 1
        · subst e; exact Or.inr ⟨rfl, q.2.2⟩
        · exact Or.inl ⟨q.1, by omega, q.2.2⟩,
      fun q => by
        rcases q with q | ⟨rfl, q⟩
        · exact ⟨q.1, by omega, q.2.2⟩
        · exact ⟨by omega, by omega, q⟩⟩ (fun q => by omega),
    s1 (8 ≤ p ∧ p - 8 < i + 1 ∧ edgP f w (p - 8) p = true) (8 ≤ p ∧ p - 8 < i ∧ edgP f w (p - 8) p = true) (p = i + 8 ∧ edgP f w i (i + 8) = true)
      ⟨fun q => by
        by_cases e : p = i + 8
        · subst e; exact Or.inr ⟨rfl, by have := q.2.2; rwa [show i + 8 - 8 = i by omega] at this⟩
        · exact Or.inl ⟨q.1, by omega, q.2.2⟩,
      fun q => by
        rcases q with q | ⟨rfl, q⟩
        · exact ⟨q.1, by omega, q.2.2⟩
        · exact ⟨by omega, by omega, by rwa [show i + 8 - 8 = i by omega]⟩⟩ (fun q => by omega)]
  omega
theorem markE_v {m : jm} {e a b : Nat} {w : Int32} (hab : b ≠ a) (p : Nat) {n : Nat} (h : m (e + 3) p = nI n) : markE m e a b w (e + 3) p = nI (n + (if (p = a ∨ p = b) ∧ edgP (m (e + 2)) w a b = true then 1 else 0)) := by
  unfold markE
  by_cases c : edgP (m (e + 2)) w a b = true
  · rw [if_pos c]
    by_cases hb : p = b
    · subst hb
      rw [mup_s, h, if_pos ⟨Or.inr rfl, c⟩]
      exact nI_add _ _
    · rw [mup_j hb]
      by_cases ha : p = a
      · subst ha
        rw [mup_s, h, if_pos ⟨Or.inl rfl, c⟩]
        exact nI_add _ _
      · rw [mup_j ha, h, if_neg (fun q => q.1.elim ha hb)]
        rfl
  · rw [if_neg c, h, if_neg (fun q => c q.2)]
    rfl
theorem markE_i {m : jm} {e a b i : Nat} {w : Int32} (h : i ≠ e + 3) : markE m e a b w i = m i := by
  unfold markE
  split
  · exact funext fun j => by rw [mup_i h, mup_i h]
  · rfl
def edgS (m : jm) (e : Nat) (w : Int32) : Nat → Int32 := fun p => nI (edgN (m (e + 2)) w p)
set_option maxRecDepth 100000 in
set_option maxHeartbeats 400000 in
theorem c_findEdges {x : jX} {m : jm} {d : Nat} {e : Nat} (he : jEy e) (w : Int32) : Ct x (d + 2) eX0_findEdges [.ref (jxb x + e), .int w] m (jv fun m' => (∀ p, p < 48 → m' (e + 3) p = edgS m e w p) ∧ ∀ i, i ≠ e + 3 → m' i = m i) := by
  refine J_start (by decide +kernel) (Nat.le_of_ble_eq_true rfl) (ls := [some (.ref (jxb x + e)), some (.int w), none]) rfl rfl ?_
  have he9 := jEy_c he
  refine J_iconst (pc := 0) dX0_findEdges_0 kni_0 ?_
  refine J_istore_n (pc := 1) (ls' := [some _, some _, some _]) dX0_findEdges_1 rfl (Nat.le_of_ble_eq_true rfl) rfl ?_
  refine K_for' (pc := 2) 48 (fun i => [some (.ref (jxb x + e)), some (.int w), some (.int (nI i))]) (fun i => mfill m (e + 3) i (fun _ => nI 0)) (by rfl) (by exact (mfill_0 _ _ _).symm) (fun i hi ih2 => ?_) ?_
  ·
    show K x _ _ 2 [some (.ref (jxb x + e)), some (.int w), some (.int (nI i))] _ (mfill m (e + 3) i (fun _ => nI 0)) _
    refine J_iload_n (pc := 2) dX0_findEdges_2 rfl ?_
    refine J_bipush (pc := 3) dX0_findEdges_3 knb_48 ?_
    refine Jn_ge (pc := 5) (tgt := 21) dX0_findEdges_5 (by decide) (by omega) (by omega) (fun h5 => absurd h5 (by omega)) (fun h5 => ?_)
    refine J_aload_n (pc := 8) dX0_findEdges_8 rfl ?_
    refine K_getR (pc := 9) (t := e + 3) dX0_findEdges_9 kf_X0_18 (jEy_obj he) (jEy_ref he 2 (by decide)) ?_
    refine J_iload_n (pc := 12) dX0_findEdges_12 rfl ?_
    refine J_iconst (pc := 13) dX0_findEdges_13 kni_0 ?_
    refine K_iastn (pc := 14) (id := (e + 3)) dX0_findEdges_14 (jEy_arr he 2 (by decide) (by decide)) (by omega) (by decide) ?_
    refine Jn_iinc (pc := 15) (ls' := [some _, some _, some _]) dX0_findEdges_15 rfl knz_1 rfl rfl ?_
    refine J_goto (pc := 18) (tgt := 2) dX0_findEdges_18 (by decide) ?_
    rw [mfill_s _ _ _ (fun _ => nI 0) rfl]
    exact ih2
  ·
    show K x _ _ 2 [some (.ref (jxb x + e)), some (.int w), some (.int (nI 48))] _ (mfill m (e + 3) 48 (fun _ => nI 0)) _
    refine J_iload_n (pc := 2) dX0_findEdges_2 rfl ?_
    refine J_bipush (pc := 3) dX0_findEdges_3 knb_48 ?_
    refine Jn_ge (pc := 5) (tgt := 21) dX0_findEdges_5 (by decide) (by omega) (by omega) (fun h5_2 => ?_) (fun h5_2 => absurd h5_2 (by omega))
    refine J_iconst (pc := 21) dX0_findEdges_21 kni_0 ?_
    refine J_istore_n (pc := 22) (ls' := [some _, some _, some _]) dX0_findEdges_22 rfl (Nat.le_of_ble_eq_true rfl) rfl ?_
    refine K_inv (pc := 23) 48 (fun i lsq mq => lsq = [some (.ref (jxb x + e)), some (.int w), some (.int (nI i))] ∧ (∀ p, p < 48 → mq (e + 3) p = nI (edgI (m (e + 2)) w i p)) ∧ (∀ i, i ≠ e + 3 → mq i = m i)) (fun i hi lsq mm hI23 ih23 => ?_) (fun lsq mm hI23 => ?_) 0 (Nat.zero_le _) _ _ (⟨rfl, fun p hp => by rw [edgI_0, mfill_lt hp], fun k hk => mfill_i' hk⟩)
    ·
      obtain ⟨rfl, hv, hx⟩ := hI23
      refine J_iload_n (pc := 23) dX0_findEdges_23 rfl ?_
      refine J_bipush (pc := 24) dX0_findEdges_24 knb_48 ?_
      refine Jn_ge (pc := 26) (tgt := 69) dX0_findEdges_26 (by decide) (by omega) (by omega) (fun h26 => absurd h26 (by omega)) (fun h26 => ?_)
      refine J_iload_n (pc := 29) dX0_findEdges_29 rfl ?_
      refine J_bipush (pc := 30) dX0_findEdges_30 knb_8 ?_
      refine J_irem (pc := 32) (v := nI (i % 8)) dX0_findEdges_32 (nI_ne0 (by decide) (by decide)) (pk_rem (by omega) (by omega) (by omega)) ?_
      refine J_bipush (pc := 33) dX0_findEdges_33 knb_7 ?_
      refine Jn_eq (pc := 35) (tgt := 47) dX0_findEdges_35 (by decide) (by omega) (by omega) (fun h35 => ?_) (fun h35 => ?_)
      · 
        refine J_iload_n (pc := 47) dX0_findEdges_47 rfl ?_
        refine J_bipush (pc := 48) dX0_findEdges_48 knb_40 ?_
        refine Jn_ge (pc := 50) (tgt := 63) dX0_findEdges_50 (by decide) (by omega) (by omega) (fun h50 => ?_) (fun h50 => ?_)
        · 
          refine Jn_iinc (pc := 63) (ls' := [some _, some _, some _]) dX0_findEdges_63 rfl knz_1 rfl rfl ?_
          refine J_goto (pc := 66) (tgt := 23) dX0_findEdges_66 (by decide) ?_
          refine ih23 _ _ ⟨rfl, fun p hp => ?_, fun k hk => ?_⟩
          ·
            rw [edgI_s]
            rw [hv p hp]
            refine congrArg nI ?_
            by_cases c1 : edgP (m (e + 2)) w i (i + 1) = true <;> by_cases c2 : edgP (m (e + 2)) w i (i + 8) = true <;> simp only [c1, c2, and_true, and_false, if_false, Nat.add_zero, Bool.false_eq_true] <;> (repeat' split) <;> omega
          · exact hx k hk
        · 
          refine J_aload_n (pc := 53) dX0_findEdges_53 rfl ?_
          refine J_iload_n (pc := 54) dX0_findEdges_54 rfl ?_
          refine J_iload_n (pc := 55) dX0_findEdges_55 rfl ?_
          refine J_bipush (pc := 56) dX0_findEdges_56 knb_8 ?_
          refine J_iaddv (pc := 58) dX0_findEdges_58 (nI_add _ _) ?_
          refine J_iload_n (pc := 59) dX0_findEdges_59 rfl ?_
          refine K_callVv (pc := 60) (id := e) (As := [_, _, _]) dX0_findEdges_60 kl_X0_62 rfl (jEy_obj he) rfl rfl (Nat.le_of_ble_eq_true rfl) (c_markEdge he hi (b := i + 8) (by omega) (by omega) w) (fun m60 h60 => ?_)
          subst h60
          refine Jn_iinc (pc := 63) (ls' := [some _, some _, some _]) dX0_findEdges_63 rfl knz_1 rfl rfl ?_
          refine J_goto (pc := 66) (tgt := 23) dX0_findEdges_66 (by decide) ?_
          refine ih23 _ _ ⟨rfl, fun p hp => ?_, fun k hk => ?_⟩
          ·
            rw [edgI_s]
            have v1 := markE_v (a := i) (b := i + 8) (w := w) (by omega) p (hv p hp)
            rw [hx (e + 2) (by omega)] at v1
            rw [v1]
            refine congrArg nI ?_
            by_cases c1 : edgP (m (e + 2)) w i (i + 1) = true <;> by_cases c2 : edgP (m (e + 2)) w i (i + 8) = true <;> simp only [c1, c2, and_true, and_false, if_false, Nat.add_zero, Bool.false_eq_true] <;> (repeat' split) <;> omega
          · exact (markE_i hk).trans (hx k hk)
      · 
        refine J_aload_n (pc := 38) dX0_findEdges_38 rfl ?_
        refine J_iload_n (pc := 39) dX0_findEdges_39 rfl ?_
        refine J_iload_n (pc := 40) dX0_findEdges_40 rfl ?_
        refine J_iconst (pc := 41) dX0_findEdges_41 kni_1 ?_
        refine J_iaddv (pc := 42) dX0_findEdges_42 (nI_add _ _) ?_
        refine J_iload_n (pc := 43) dX0_findEdges_43 rfl ?_
        refine K_callVv (pc := 44) (id := e) (As := [_, _, _]) dX0_findEdges_44 kl_X0_62 rfl (jEy_obj he) rfl rfl (Nat.le_of_ble_eq_true rfl) (c_markEdge he hi (b := i + 1) (by omega) (by omega) w) (fun m44 h44 => ?_)
        subst h44
        refine J_iload_n (pc := 47) dX0_findEdges_47 rfl ?_
        refine J_bipush (pc := 48) dX0_findEdges_48 knb_40 ?_
        refine Jn_ge (pc := 50) (tgt := 63) dX0_findEdges_50 (by decide) (by omega) (by omega) (fun h50 => ?_) (fun h50 => ?_)
        · 
          refine Jn_iinc (pc := 63) (ls' := [some _, some _, some _]) dX0_findEdges_63 rfl knz_1 rfl rfl ?_
          refine J_goto (pc := 66) (tgt := 23) dX0_findEdges_66 (by decide) ?_
          refine ih23 _ _ ⟨rfl, fun p hp => ?_, fun k hk => ?_⟩
          ·
            rw [edgI_s]
            have v1 := markE_v (a := i) (b := i + 1) (w := w) (by omega) p (hv p hp)
            rw [hx (e + 2) (by omega)] at v1
            rw [v1]
            refine congrArg nI ?_
            by_cases c1 : edgP (m (e + 2)) w i (i + 1) = true <;> by_cases c2 : edgP (m (e + 2)) w i (i + 8) = true <;> simp only [c1, c2, and_true, and_false, if_false, Nat.add_zero, Bool.false_eq_true] <;> (repeat' split) <;> omega
          · exact (markE_i hk).trans (hx k hk)
        · 
          refine J_aload_n (pc := 53) dX0_findEdges_53 rfl ?_
          refine J_iload_n (pc := 54) dX0_findEdges_54 rfl ?_
          refine J_iload_n (pc := 55) dX0_findEdges_55 rfl ?_
          refine J_bipush (pc := 56) dX0_findEdges_56 knb_8 ?_
          refine J_iaddv (pc := 58) dX0_findEdges_58 (nI_add _ _) ?_
          refine J_iload_n (pc := 59) dX0_findEdges_59 rfl ?_
          refine K_callVv (pc := 60) (id := e) (As := [_, _, _]) dX0_findEdges_60 kl_X0_62 rfl (jEy_obj he) rfl rfl (Nat.le_of_ble_eq_true rfl) (c_markEdge he hi (b := i + 8) (by omega) (by omega) w) (fun m60 h60 => ?_)
          subst h60
          refine Jn_iinc (pc := 63) (ls' := [some _, some _, some _]) dX0_findEdges_63 rfl knz_1 rfl rfl ?_
          refine J_goto (pc := 66) (tgt := 23) dX0_findEdges_66 (by decide) ?_
          refine ih23 _ _ ⟨rfl, fun p hp => ?_, fun k hk => ?_⟩
          ·
            rw [edgI_s]
            have v1 := markE_v (a := i) (b := i + 1) (w := w) (by omega) p (hv p hp)
            have v2 := markE_v (a := i) (b := i + 8) (w := w) (by omega) p v1
            rw [markE_i (i := e + 2) (by omega), hx (e + 2) (by omega)] at v2
            rw [v2]
            refine congrArg nI ?_
            by_cases c1 : edgP (m (e + 2)) w i (i + 1) = true <;> by_cases c2 : edgP (m (e + 2)) w i (i + 8) = true <;> simp only [c1, c2, and_true, and_false, if_false, Nat.add_zero, Bool.false_eq_true] <;> (repeat' split) <;> omega
          · exact (markE_i hk).trans ((markE_i hk).trans (hx k hk))
    ·
      obtain ⟨rfl, hv, hx⟩ := hI23
      refine J_iload_n (pc := 23) dX0_findEdges_23 rfl ?_
      refine J_bipush (pc := 24) dX0_findEdges_24 knb_48 ?_
      refine Jn_ge (pc := 26) (tgt := 69) dX0_findEdges_26 (by decide) (by omega) (by omega) (fun h26 => ?_) (fun h26 => absurd h26 (by omega))
      refine K_vret (pc := 69) dX0_findEdges_69 rfl ⟨rfl, ?_⟩
      exact ⟨hv, hx⟩
