theorem jgr_line {j : Nat} (h : j < 24) : jlay 43 j = (44 + j) + 2 := by
  have := List.all_eq_true.mp (show (List.range 24).all (fun j => decide (jlay 43 j = (44 + j) + 2)) = true by decide +kernel) j (List.mem_range.mpr h)
  simpa using this
theorem jgr_code {j : Nat} (h : j < 14) : jlay 79 j = (80 + j) + 2 := by
  have := List.all_eq_true.mp (show (List.range 14).all (fun j => decide (jlay 79 j = (80 + j) + 2)) = true by decide +kernel) j (List.mem_range.mpr h)
  simpa using this
theorem jgr_asked {j : Nat} (h : j < 8) : jlay 128 j = (129 + j) + 2 := by
  have := List.all_eq_true.mp (show (List.range 8).all (fun j => decide (jlay 128 j = (129 + j) + 2)) = true by decide +kernel) j (List.mem_range.mpr h)
  simpa using this
theorem jar_line {j : Nat} (h : j < 24) : jArr (44 + j) 0 24 := by
  have := List.all_eq_true.mp (show (List.range 24).all (fun j => decide (jL0[44 + j]? = some (0, 24) ∧ jlayT.getD (44 + j) [] = [])) = true by decide +kernel) j (List.mem_range.mpr h)
  have h2 := of_decide_eq_true this
  exact jArr_of h2.1 h2.2
theorem jar_code {j : Nat} (h : j < 14) : jArr (80 + j) 0 96 := by
  have := List.all_eq_true.mp (show (List.range 14).all (fun j => decide (jL0[80 + j]? = some (0, 96) ∧ jlayT.getD (80 + j) [] = [])) = true by decide +kernel) j (List.mem_range.mpr h)
  have h2 := of_decide_eq_true this
  exact jArr_of h2.1 h2.2
theorem jar_asked {j : Nat} (h : j < 8) : jArr (129 + j) 0 4 := by
  have := List.all_eq_true.mp (show (List.range 8).all (fun j => decide (jL0[129 + j]? = some (0, 4) ∧ jlayT.getD (129 + j) [] = [])) = true by decide +kernel) j (List.mem_range.mpr h)
  have h2 := of_decide_eq_true this
  exact jArr_of h2.1 h2.2
def allB (c : Nat → Bool) : Nat → Bool
  | 0 => true
  | n + 1 => allB c n && c n
theorem allB_t {c : Nat → Bool} {n : Nat} (h1 : allB c n = true) (h2 : c n = true) : jb (allB c (n + 1) = true) = nI 1 := if_pos (by simp [allB, h1, h2])
theorem allB_f {c : Nat → Bool} {n : Nat} (h1 : ¬ (allB c n = true ∧ c n = true)) : jb (allB c (n + 1) = true) = nI 0 := if_neg (by simpa [allB] using h1)
theorem sumV_c {f g : Nat → Int32} : ∀ n, (∀ p, p < n → f p = g p) → sumV f n = sumV g n
  | 0, _ => rfl
  | n + 1, h => by rw [sumV, sumV, sumV_c n (fun p hp => h p (by omega)), h n (by omega)]
theorem cnt_c {f g : Nat → Bool} : ∀ n, (∀ p, p < n → f p = g p) → cnt f n = cnt g n
  | 0, _ => rfl
  | n + 1, h => by rw [cnt, cnt, cnt_c n (fun p hp => h p (by omega)), h n (by omega)]
theorem allB_c {f g : Nat → Bool} : ∀ n, (∀ p, p < n → f p = g p) → allB f n = allB g n
  | 0, _ => rfl
  | n + 1, h => by rw [allB, allB, allB_c n (fun p hp => h p (by omega)), h n (by omega)]
-- a ground
def shadeS (m : jm) (g p : Nat) : Int32 := if m 41 (6 * g + p / 8) = -1 then nI 50 else if m 42 (6 * g + p / 8) ≤ nI (p % 8) then nI 50 else heldV (m (44 + (6 * g + p / 8)) (p % 8)) (nI 99)
def difV (f : Nat → Int32) (p s : Nat) : Int32 := if besV p s = NONEv then nI 0 else absV (f p - f (tN (besV p s)))
theorem bes_in {p s : Nat} (hp : p < 48) (hs : s < 4) (h : ¬ besV p s = NONEv) : vp_in (besV p s) 48 := by
  revert h
  rcases (show s = 0 ∨ s = 1 ∨ s = 2 ∨ s = 3 by omega) with rfl | rfl | rfl | rfl <;> simp only [besV] <;> split <;> intro h
  all_goals first | exact absurd rfl h | exact vp_in_nI (by omega) (by decide)
def q0V (f : Nat → Int32) : Int32 := sumV f 48 / nI 48
def q1V (f : Nat → Int32) : Int32 := sumV (fun p => difV f p 1 + difV f p 3) 48 / nI 82
def edgB (f : Nat → Int32) (e : Int32) (p s : Nat) : Bool := decide (e ≤ difV f p s)
def ecnt (f : Nat → Int32) (e : Int32) : Nat → Nat
  | 0 => 0
  | n + 1 => ecnt f e n + (if edgB f e n 1 then 1 else 0) + (if edgB f e n 3 then 1 else 0)
def brB (f : Nat → Int32) (e : Int32) (p s : Nat) : Bool := decide (besV p s = NONEv ∨ e ≤ f p - f (tN (besV p s)))
def q2V (f : Nat → Int32) (e : Int32) : Int32 := nI (ecnt f e 48)
def q3V (f : Nat → Int32) (e : Int32) : Int32 := nI (cnt (fun p => allB (brB f e p) 4) 48)
theorem difV_c {f g : Nat → Int32} (h : ∀ p, p < 48 → f p = g p) {p s : Nat} (hp : p < 48) (hs : s < 4) : difV f p s = difV g p s := by
  unfold difV
  split
  · rfl
  · rename_i hn
    rw [h p hp, h _ (tN_lt (bes_in hp hs hn) (by decide))]
theorem q0V_c {f g : Nat → Int32} (h : ∀ p, p < 48 → f p = g p) : q0V f = q0V g := by unfold q0V; rw [sumV_c 48 h]
theorem q1V_c {f g : Nat → Int32} (h : ∀ p, p < 48 → f p = g p) : q1V f = q1V g := by unfold q1V; rw [sumV_c 48 (fun p hp => by rw [difV_c h hp (by decide), difV_c h hp (by decide)])]
theorem ecnt_c {f g : Nat → Int32} (h : ∀ p, p < 48 → f p = g p) (e : Int32) : ∀ n, n ≤ 48 → ecnt f e n = ecnt g e n
  | 0, _ => rfl
  | n + 1, hn => by
    have h1 : edgB f e n 1 = edgB g e n 1 := by unfold edgB; rw [difV_c h (by omega) (by decide)]
    have h3 : edgB f e n 3 = edgB g e n 3 := by unfold edgB; rw [difV_c h (by omega) (by decide)]
    rw [ecnt, ecnt, ecnt_c h e n (by omega), h1, h3]
theorem q2V_c {f g : Nat → Int32} (h : ∀ p, p < 48 → f p = g p) (e : Int32) : q2V f e = q2V g e := by unfold q2V; rw [ecnt_c h e 48 (Nat.le_refl _)]
theorem brB_c {f g : Nat → Int32} (h : ∀ p, p < 48 → f p = g p) (e : Int32) {p s : Nat} (hp : p < 48) (hs : s < 4) : brB f e p s = brB g e p s := by
  unfold brB
  by_cases hn : besV p s = NONEv
  · simp [hn]
  · rw [h p hp, h _ (tN_lt (bes_in hp hs hn) (by decide))]
theorem q3V_c {f g : Nat → Int32} (h : ∀ p, p < 48 → f p = g p) (e : Int32) : q3V f e = q3V g e := by unfold q3V; rw [cnt_c 48 (fun p hp => allB_c 4 (fun s hs => brB_c h e hp hs))]
def makeM (m : jm) (l : Nat) (s n : Int32) : jm := mfill (mup (mup m 41 l s) 42 l n) (44 + l) 24 (fun _ => nI 0)
def askM (m : jm) (g : Nat) (e : Int32) : jm := mup (mup (mup (mup (mfill m 68 48 (shadeS m g)) 69 0 (q0V (shadeS m g))) 69 1 (q1V (shadeS m g))) 69 2 (q2V (shadeS m g) e)) 69 3 (q3V (shadeS m g) e)
set_option maxRecDepth 100000 in
set_option maxHeartbeats 400000 in
theorem c_make {x : jX} {m : jm} {d : Nat} {l : Nat} (hl : l < 24) (s n : Int32) : Ct x d eX1_make [.ref (jxb x + 40), .int (nI l), .int s, .int n] m (ji fun v m' => v = n ∧ m' = makeM m l s n) := by
  refine J_start (by decide +kernel) (Nat.le_of_ble_eq_true rfl) (ls := [some (.ref (jxb x + 40)), some (.int (nI l)), some (.int s), some (.int n), none]) rfl rfl ?_
  refine J_aload_n (pc := 0) dX1_make_0 rfl ?_
  refine K_getR (pc := 1) dX1_make_1 kf_X1_9 job_40 jrf_40_0 ?_
  refine J_iload_n (pc := 4) dX1_make_4 rfl ?_
  refine J_iload_n (pc := 5) dX1_make_5 rfl ?_
  refine K_iastn (pc := 6) (id := 41) dX1_make_6 jar_41 (by omega) (by decide) ?_
  refine J_aload_n (pc := 7) dX1_make_7 rfl ?_
  refine K_getR (pc := 8) dX1_make_8 kf_X1_15 job_40 jrf_40_1 ?_
  refine J_iload_n (pc := 11) dX1_make_11 rfl ?_
  refine J_iload_n (pc := 12) dX1_make_12 rfl ?_
  refine K_iastn (pc := 13) (id := 42) dX1_make_13 jar_42 (by omega) (by decide) ?_
  refine J_iconst (pc := 14) dX1_make_14 kni_0 ?_
  refine J_istore (pc := 15) (ls' := [some _, some _, some _, some _, some _]) dX1_make_15 rfl (Nat.le_of_ble_eq_true rfl) rfl ?_
  refine K_for' (pc := 17) 24 (fun i => [some (.ref (jxb x + 40)), some (.int (nI l)), some (.int s), some (.int n), some (.int (nI i))]) (fun i => mfill (mup (mup m 41 l s) 42 l n) (44 + l) i (fun _ => nI 0)) (by rfl) (by exact (mfill_0 _ _ _).symm) (fun i hi ih17 => ?_) ?_
  ·
    show K x _ _ 17 [some (.ref (jxb x + 40)), some (.int (nI l)), some (.int s), some (.int n), some (.int (nI i))] _ (mfill (mup (mup m 41 l s) 42 l n) (44 + l) i (fun _ => nI 0)) _
    refine J_iload (pc := 17) dX1_make_17 rfl ?_
    refine J_bipush (pc := 19) dX1_make_19 knb_24 ?_
    refine Jn_ge (pc := 21) (tgt := 40) dX1_make_21 (by decide) (by omega) (by omega) (fun h21 => absurd h21 (by omega)) (fun h21 => ?_)
    refine J_aload_n (pc := 24) dX1_make_24 rfl ?_
    refine K_getR (pc := 25) dX1_make_25 kf_X1_20 job_40 jrf_40_2 ?_
    refine J_iload_n (pc := 28) dX1_make_28 rfl ?_
    refine K_aaldn (pc := 29) (t := 44 + l) dX1_make_29 job_43 (by omega) (by decide) (jgr_line (by omega)) ?_
    refine J_iload (pc := 30) dX1_make_30 rfl ?_
    refine J_iconst (pc := 32) dX1_make_32 kni_0 ?_
    refine K_iastn (pc := 33) (id := (44 + l)) dX1_make_33 (jar_line (j := l) (by omega)) (by omega) (by decide) ?_
    refine Jn_iinc (pc := 34) (ls' := [some _, some _, some _, some _, some _]) dX1_make_34 rfl knz_1 rfl rfl ?_
    refine J_goto (pc := 37) (tgt := 17) dX1_make_37 (by decide) ?_
    rw [mfill_s _ _ _ (fun _ => nI 0) rfl]
    exact ih17
  ·
    show K x _ _ 17 [some (.ref (jxb x + 40)), some (.int (nI l)), some (.int s), some (.int n), some (.int (nI 24))] _ (mfill (mup (mup m 41 l s) 42 l n) (44 + l) 24 (fun _ => nI 0)) _
    refine J_iload (pc := 17) dX1_make_17 rfl ?_
    refine J_bipush (pc := 19) dX1_make_19 knb_24 ?_
    refine Jn_ge (pc := 21) (tgt := 40) dX1_make_21 (by decide) (by omega) (by omega) (fun h21_2 => ?_) (fun h21_2 => absurd h21_2 (by omega))
    refine J_iload_n (pc := 40) dX1_make_40 rfl ?_
    refine K_iret (pc := 41) dX1_make_41 rfl ⟨_, rfl, ?_⟩
    exact ⟨rfl, rfl⟩
set_option maxRecDepth 100000 in
set_option maxHeartbeats 400000 in
theorem c_has {x : jX} {m : jm} {d : Nat} {l : Nat} (hl : l < 24) (a z : Int32) : Ct x d eX1_has [.ref (jxb x + 40), .int (nI l), .int a, .int z] m (jp (jb (0 ≤ z ∧ 0 ≤ a ∧ a ≤ m 42 l - z)) m) := by
  refine J_start (by decide +kernel) (Nat.le_of_ble_eq_true rfl) (ls := [some (.ref (jxb x + 40)), some (.int (nI l)), some (.int a), some (.int z)]) rfl rfl ?_
  refine J_iload_n (pc := 0) dX1_has_0 rfl ?_
  refine J_if_lt (pc := 1) (tgt := 24) dX1_has_1 (by decide) (fun h1 => ?_) (fun h1 => ?_)
  · 
    refine J_iconst (pc := 24) dX1_has_24 kni_0 ?_
    refine K_zret (pc := 25) dX1_has_25 rfl rfl ⟨_, rfl, ?_⟩
    exact ⟨jbF (fun q => absurd h1 (by have := q.1; simp only [Int32.lt_iff_toInt_lt, Int32.le_iff_toInt_le] at *; omega)), rfl⟩
  · 
    refine J_iload_n (pc := 4) dX1_has_4 rfl ?_
    refine J_if_lt (pc := 5) (tgt := 24) dX1_has_5 (by decide) (fun h5 => ?_) (fun h5 => ?_)
    · 
      refine J_iconst (pc := 24) dX1_has_24 kni_0 ?_
      refine K_zret (pc := 25) dX1_has_25 rfl rfl ⟨_, rfl, ?_⟩
      exact ⟨jbF (fun q => absurd h5 (by have := q.2.1; simp only [Int32.lt_iff_toInt_lt, Int32.le_iff_toInt_le] at *; omega)), rfl⟩
    · 
      refine J_iload_n (pc := 8) dX1_has_8 rfl ?_
      refine J_aload_n (pc := 9) dX1_has_9 rfl ?_
      refine K_getR (pc := 10) dX1_has_10 kf_X1_15 job_40 jrf_40_1 ?_
      refine J_iload_n (pc := 13) dX1_has_13 rfl ?_
      refine K_ialdn (pc := 14) (id := 42) dX1_has_14 jar_42 (by omega) (by decide) ?_
      refine J_iload_n (pc := 15) dX1_has_15 rfl ?_
      refine J_isub (pc := 16) dX1_has_16 ?_
      refine J_icmp_gt (pc := 17) (tgt := 24) dX1_has_17 (by decide) (fun h17 => ?_) (fun h17 => ?_)
      · 
        refine J_iconst (pc := 24) dX1_has_24 kni_0 ?_
        refine K_zret (pc := 25) dX1_has_25 rfl rfl ⟨_, rfl, ?_⟩
        exact ⟨jbF (fun q => absurd h17 (by have := q.2.2; simp only [Int32.lt_iff_toInt_lt, Int32.le_iff_toInt_le] at *; omega)), rfl⟩
      · 
        refine J_iconst (pc := 20) dX1_has_20 kni_1 ?_
        refine J_goto (pc := 21) (tgt := 25) dX1_has_21 (by decide) ?_
        refine K_zret (pc := 25) dX1_has_25 rfl rfl ⟨_, rfl, ?_⟩
        exact ⟨jbT ⟨Int32.not_lt.mp h1, Int32.not_lt.mp h5, Int32.not_lt.mp h17⟩, rfl⟩
set_option maxRecDepth 100000 in
set_option maxHeartbeats 400000 in
theorem c_linesThere {x : jX} {m : jm} {d : Nat}  : Ct x d eX1_linesThere [.ref (jxb x + 40)] m (jp (nI (cnt (fun l => decide (¬ m 41 l = -1)) 24)) m) := by
  refine J_start (by decide +kernel) (Nat.le_of_ble_eq_true rfl) (ls := [some (.ref (jxb x + 40)), none, none]) rfl rfl ?_
  refine J_iconst (pc := 0) dX1_linesThere_0 kni_0 ?_
  refine J_istore_n (pc := 1) (ls' := [some _, some _, none]) dX1_linesThere_1 rfl (Nat.le_of_ble_eq_true rfl) rfl ?_
  refine J_iconst (pc := 2) dX1_linesThere_2 kni_0 ?_
  refine J_istore_n (pc := 3) (ls' := [some _, some _, some _]) dX1_linesThere_3 rfl (Nat.le_of_ble_eq_true rfl) rfl ?_
  refine K_for' (pc := 4) 24 (fun i => [some (.ref (jxb x + 40)), some (.int (nI (cnt (fun l => decide (¬ m 41 l = -1)) i))), some (.int (nI i))]) (fun i => m) (by rfl) (by rfl) (fun i hi ih4 => ?_) ?_
  ·
    show K x _ _ 4 [some (.ref (jxb x + 40)), some (.int (nI (cnt (fun l => decide (¬ m 41 l = -1)) i))), some (.int (nI i))] _ m _
    refine J_iload_n (pc := 4) dX1_linesThere_4 rfl ?_
    refine J_bipush (pc := 5) dX1_linesThere_5 knb_24 ?_
    refine Jn_ge (pc := 7) (tgt := 34) dX1_linesThere_7 (by decide) (by omega) (by omega) (fun h7 => absurd h7 (by omega)) (fun h7 => ?_)
    refine J_iload_n (pc := 10) dX1_linesThere_10 rfl ?_
    refine J_aload_n (pc := 11) dX1_linesThere_11 rfl ?_
    refine K_getR (pc := 12) dX1_linesThere_12 kf_X1_9 job_40 jrf_40_0 ?_
    refine J_iload_n (pc := 15) dX1_linesThere_15 rfl ?_
    refine K_ialdn (pc := 16) (id := 41) dX1_linesThere_16 jar_41 (by omega) (by decide) ?_
    refine J_iconst (pc := 17) dX1_linesThere_17 kni_m1 ?_
    refine J_icmp_ne (pc := 18) (tgt := 25) dX1_linesThere_18 (by decide) (fun h18 => ?_) (fun h18 => ?_)
    · 
      refine J_iconst (pc := 25) dX1_linesThere_25 kni_1 ?_
      refine J_iaddv (pc := 26) dX1_linesThere_26 (nI_add _ _) ?_
      refine J_istore_n (pc := 27) (ls' := [some _, some _, some _]) dX1_linesThere_27 rfl (Nat.le_of_ble_eq_true rfl) rfl ?_
      refine Jn_iinc (pc := 28) (ls' := [some _, some _, some _]) dX1_linesThere_28 rfl knz_1 rfl rfl ?_
      refine J_goto (pc := 31) (tgt := 4) dX1_linesThere_31 (by decide) ?_
      rw [cnt_t (by rw [decide_eq_true_eq]; exact h18)] at ih4
      exact ih4
    · 
      refine J_iconst (pc := 21) dX1_linesThere_21 kni_0 ?_
      refine J_goto (pc := 22) (tgt := 26) dX1_linesThere_22 (by decide) ?_
      refine J_iaddv (pc := 26) dX1_linesThere_26 (nI_add _ _) ?_
      refine J_istore_n (pc := 27) (ls' := [some _, some _, some _]) dX1_linesThere_27 rfl (Nat.le_of_ble_eq_true rfl) rfl ?_
      refine Jn_iinc (pc := 28) (ls' := [some _, some _, some _]) dX1_linesThere_28 rfl knz_1 rfl rfl ?_
      refine J_goto (pc := 31) (tgt := 4) dX1_linesThere_31 (by decide) ?_
      rw [cnt_f (by rw [decide_eq_true_eq]; exact fun q => q h18)] at ih4
      exact ih4
  ·
    show K x _ _ 4 [some (.ref (jxb x + 40)), some (.int (nI (cnt (fun l => decide (¬ m 41 l = -1)) 24))), some (.int (nI 24))] _ m _
    refine J_iload_n (pc := 4) dX1_linesThere_4 rfl ?_
    refine J_bipush (pc := 5) dX1_linesThere_5 knb_24 ?_
    refine Jn_ge (pc := 7) (tgt := 34) dX1_linesThere_7 (by decide) (by omega) (by omega) (fun h7_2 => ?_) (fun h7_2 => absurd h7_2 (by omega))
    refine J_iload_n (pc := 34) dX1_linesThere_34 rfl ?_
    refine K_iret (pc := 35) dX1_linesThere_35 rfl ⟨_, rfl, ?_⟩
    exact ⟨rfl, rfl⟩
set_option maxRecDepth 100000 in
set_option maxHeartbeats 400000 in
theorem c_shadeAt {x : jX} {m : jm} {d : Nat} {g p : Nat} (hg : g < 4) (hp : p < 48) : Ct x (d + 2) eX1_shadeAt [.ref (jxb x + 40), .int (nI g), .int (nI p)] m (jp (shadeS m g p) m) := by
  refine J_start (by decide +kernel) (Nat.le_of_ble_eq_true rfl) (ls := [some (.ref (jxb x + 40)), some (.int (nI g)), some (.int (nI p)), none, none]) rfl rfl ?_
  refine J_iload_n (pc := 0) dX1_shadeAt_0 rfl ?_
  refine J_bipush (pc := 1) dX1_shadeAt_1 knb_6 ?_
  refine J_imulv (pc := 3) dX1_shadeAt_3 (pk_mul _ _) ?_
  refine J_iload_n (pc := 4) dX1_shadeAt_4 rfl ?_
  refine J_bipush (pc := 5) dX1_shadeAt_5 knb_8 ?_
  refine J_idiv (pc := 7) (v := nI (p / 8)) dX1_shadeAt_7 (nI_ne0 (by decide) (by decide)) (pk_div (by omega) (by omega) (by omega)) ?_
  refine J_iaddv (pc := 8) (v := nI (6 * g + p / 8)) dX1_shadeAt_8 (by rw [nI_add]; congr 1; omega) ?_
  refine J_istore_n (pc := 9) (ls' := [some _, some _, some _, some _, none]) dX1_shadeAt_9 rfl (Nat.le_of_ble_eq_true rfl) rfl ?_
  refine J_iload_n (pc := 10) dX1_shadeAt_10 rfl ?_
  refine J_bipush (pc := 11) dX1_shadeAt_11 knb_8 ?_
  refine J_irem (pc := 13) (v := nI (p % 8)) dX1_shadeAt_13 (nI_ne0 (by decide) (by decide)) (pk_rem (by omega) (by omega) (by omega)) ?_
  refine J_istore (pc := 14) (ls' := [some _, some _, some _, some _, some _]) dX1_shadeAt_14 rfl (Nat.le_of_ble_eq_true rfl) rfl ?_
  refine J_aload_n (pc := 16) dX1_shadeAt_16 rfl ?_
  refine K_getR (pc := 17) dX1_shadeAt_17 kf_X1_9 job_40 jrf_40_0 ?_
  refine J_iload_n (pc := 20) dX1_shadeAt_20 rfl ?_
  refine K_ialdn (pc := 21) (id := 41) dX1_shadeAt_21 jar_41 (by omega) (by decide) ?_
  refine J_iconst (pc := 22) dX1_shadeAt_22 kni_m1 ?_
  refine J_icmp_eq (pc := 23) (tgt := 37) dX1_shadeAt_23 (by decide) (fun h23 => ?_) (fun h23 => ?_)
  · 
    refine J_bipush (pc := 37) dX1_shadeAt_37 knb_50 ?_
    refine K_iret (pc := 39) dX1_shadeAt_39 rfl ⟨_, rfl, ?_⟩
    exact ⟨(if_pos h23).symm, rfl⟩
  · 
    refine J_iload (pc := 26) dX1_shadeAt_26 rfl ?_
    refine J_aload_n (pc := 28) dX1_shadeAt_28 rfl ?_
    refine K_getR (pc := 29) dX1_shadeAt_29 kf_X1_15 job_40 jrf_40_1 ?_
    refine J_iload_n (pc := 32) dX1_shadeAt_32 rfl ?_
    refine K_ialdn (pc := 33) (id := 42) dX1_shadeAt_33 jar_42 (by omega) (by decide) ?_
    refine J_icmp_lt (pc := 34) (tgt := 40) dX1_shadeAt_34 (by decide) (fun h34 => ?_) (fun h34 => ?_)
    · 
      refine J_aload_n (pc := 40) dX1_shadeAt_40 rfl ?_
      refine K_getR (pc := 41) dX1_shadeAt_41 kf_X1_20 job_40 jrf_40_2 ?_
      refine J_iload_n (pc := 44) dX1_shadeAt_44 rfl ?_
      refine K_aaldn (pc := 45) (t := 44 + (6 * g + p / 8)) dX1_shadeAt_45 job_43 (by omega) (by decide) (jgr_line (by omega)) ?_
      refine J_iload (pc := 46) dX1_shadeAt_46 rfl ?_
      refine K_ialdn (pc := 48) (id := (44 + (6 * g + p / 8))) dX1_shadeAt_48 (jar_line (j := (6 * g + p / 8)) (by omega)) (by omega) (by decide) ?_
      refine J_bipush (pc := 49) dX1_shadeAt_49 knb_99 ?_
      refine K_callSp (pc := 51) (As := [_, _]) dX1_shadeAt_51 kl_X1_29 rfl rfl (Nat.le_of_ble_eq_true rfl) (c_held _ _) ?_
      refine K_iret (pc := 54) dX1_shadeAt_54 rfl ⟨_, rfl, ?_⟩
      exact ⟨((if_neg h23).trans (if_neg (Int32.not_le.mpr h34))).symm, rfl⟩
    · 
      refine J_bipush (pc := 37) dX1_shadeAt_37 knb_50 ?_
      refine K_iret (pc := 39) dX1_shadeAt_39 rfl ⟨_, rfl, ?_⟩
      exact ⟨((if_neg h23).trans (if_pos (Int32.not_lt.mp h34))).symm, rfl⟩
set_option maxRecDepth 100000 in
set_option maxHeartbeats 400000 in
theorem c_mean {x : jX} {m : jm} {d : Nat}  : Ct x d eX1_mean [.ref (jxb x + 40)] m (jp (q0V (m 68)) m) := by
  refine J_start (by decide +kernel) (Nat.le_of_ble_eq_true rfl) (ls := [some (.ref (jxb x + 40)), none, none]) rfl rfl ?_
  refine J_iconst (pc := 0) dX1_mean_0 kni_0 ?_
  refine J_istore_n (pc := 1) (ls' := [some _, some _, none]) dX1_mean_1 rfl (Nat.le_of_ble_eq_true rfl) rfl ?_
  refine J_iconst (pc := 2) dX1_mean_2 kni_0 ?_
  refine J_istore_n (pc := 3) (ls' := [some _, some _, some _]) dX1_mean_3 rfl (Nat.le_of_ble_eq_true rfl) rfl ?_
  refine K_for' (pc := 4) 48 (fun i => [some (.ref (jxb x + 40)), some (.int ((sumV (m 68) i))), some (.int (nI i))]) (fun i => m) (by rfl) (by rfl) (fun i hi ih4 => ?_) ?_
  ·
    show K x _ _ 4 [some (.ref (jxb x + 40)), some (.int ((sumV (m 68) i))), some (.int (nI i))] _ m _
    refine J_iload_n (pc := 4) dX1_mean_4 rfl ?_
    refine J_bipush (pc := 5) dX1_mean_5 knb_48 ?_
    refine Jn_ge (pc := 7) (tgt := 25) dX1_mean_7 (by decide) (by omega) (by omega) (fun h7 => absurd h7 (by omega)) (fun h7 => ?_)
    refine J_iload_n (pc := 10) dX1_mean_10 rfl ?_
    refine J_aload_n (pc := 11) dX1_mean_11 rfl ?_
    refine K_getR (pc := 12) dX1_mean_12 kf_X1_23 job_40 jrf_40_3 ?_
    refine J_iload_n (pc := 15) dX1_mean_15 rfl ?_
    refine K_ialdn (pc := 16) (id := 68) dX1_mean_16 jar_68 (by omega) (by decide) ?_
    refine J_iadd (pc := 17) dX1_mean_17 ?_
    refine J_istore_n (pc := 18) (ls' := [some _, some _, some _]) dX1_mean_18 rfl (Nat.le_of_ble_eq_true rfl) rfl ?_
    refine Jn_iinc (pc := 19) (ls' := [some _, some _, some _]) dX1_mean_19 rfl knz_1 rfl rfl ?_
    refine J_goto (pc := 22) (tgt := 4) dX1_mean_22 (by decide) ?_
    exact ih4
  ·
    show K x _ _ 4 [some (.ref (jxb x + 40)), some (.int ((sumV (m 68) 48))), some (.int (nI 48))] _ m _
    refine J_iload_n (pc := 4) dX1_mean_4 rfl ?_
    refine J_bipush (pc := 5) dX1_mean_5 knb_48 ?_
    refine Jn_ge (pc := 7) (tgt := 25) dX1_mean_7 (by decide) (by omega) (by omega) (fun h7_2 => ?_) (fun h7_2 => absurd h7_2 (by omega))
    refine J_iload_n (pc := 25) dX1_mean_25 rfl ?_
    refine J_bipush (pc := 26) dX1_mean_26 knb_48 ?_
    refine J_idiv (pc := 28) dX1_mean_28 (nI_ne0 (by decide) (by decide)) rfl ?_
    refine K_iret (pc := 29) dX1_mean_29 rfl ⟨_, rfl, ?_⟩
    exact ⟨rfl, rfl⟩
set_option maxRecDepth 100000 in
set_option maxHeartbeats 400000 in
theorem c_difference {x : jX} {m : jm} {d : Nat} {p s : Nat} (hp : p < 48) (hs : s < 4) : Ct x (d + 1) eX1_difference [.ref (jxb x + 40), .int (nI p), .int (nI s)] m (jp (difV (m 68) p s) m) := by
  refine J_start (by decide +kernel) (Nat.le_of_ble_eq_true rfl) (ls := [some (.ref (jxb x + 40)), some (.int (nI p)), some (.int (nI s)), none]) rfl rfl ?_
  refine J_iload_n (pc := 0) dX1_difference_0 rfl ?_
  refine J_iload_n (pc := 1) dX1_difference_1 rfl ?_
  refine K_callSp (pc := 2) (As := [_, _]) dX1_difference_2 kl_X1_50 rfl rfl (Nat.le_of_ble_eq_true rfl) (c_beside hp hs) ?_
  refine J_istore_n (pc := 5) (ls' := [some _, some _, some _, some _]) dX1_difference_5 rfl (Nat.le_of_ble_eq_true rfl) rfl ?_
  refine J_iload_n (pc := 6) dX1_difference_6 rfl ?_
  refine J_ldc (pc := 7) dX1_difference_7 kc_X1_53 ?_
  refine J_icmp_ne (pc := 9) (tgt := 16) dX1_difference_9 (by decide) (fun h9 => ?_) (fun h9 => ?_)
  · 
    refine J_aload_n (pc := 16) dX1_difference_16 rfl ?_
    refine K_getR (pc := 17) dX1_difference_17 kf_X1_23 job_40 jrf_40_3 ?_
    refine J_iload_n (pc := 20) dX1_difference_20 rfl ?_
    refine K_ialdn (pc := 21) (id := 68) dX1_difference_21 jar_68 (by omega) (by decide) ?_
    refine J_aload_n (pc := 22) dX1_difference_22 rfl ?_
    refine K_getR (pc := 23) dX1_difference_23 kf_X1_23 job_40 jrf_40_3 ?_
    refine J_iload_n (pc := 26) dX1_difference_26 rfl ?_
    refine K_iald (pc := 27) (id := 68) dX1_difference_27 jar_68 (bes_in hp hs h9) ?_
    refine J_isub (pc := 28) dX1_difference_28 ?_
    refine K_absV (pc := 29) dX1_difference_29 kx_X1_54 (Nat.le_of_ble_eq_true rfl) ?_
    refine K_iret (pc := 32) dX1_difference_32 rfl ⟨_, rfl, ?_⟩
    exact ⟨(if_neg h9).symm, rfl⟩
  · 
    refine J_iconst (pc := 12) dX1_difference_12 kni_0 ?_
    refine J_goto (pc := 13) (tgt := 32) dX1_difference_13 (by decide) ?_
    refine K_iret (pc := 32) dX1_difference_32 rfl ⟨_, rfl, ?_⟩
    exact ⟨(if_pos h9).symm, rfl⟩
set_option maxRecDepth 100000 in
set_option maxHeartbeats 400000 in
theorem c_allDifferences {x : jX} {m : jm} {d : Nat}  : Ct x (d + 2) eX1_allDifferences [.ref (jxb x + 40)] m (jp (sumV (fun p => difV (m 68) p 1 + difV (m 68) p 3) 48) m) := by
  refine J_start (by decide +kernel) (Nat.le_of_ble_eq_true rfl) (ls := [some (.ref (jxb x + 40)), none, none]) rfl rfl ?_
  refine J_iconst (pc := 0) dX1_allDifferences_0 kni_0 ?_
  refine J_istore_n (pc := 1) (ls' := [some _, some _, none]) dX1_allDifferences_1 rfl (Nat.le_of_ble_eq_true rfl) rfl ?_
  refine J_iconst (pc := 2) dX1_allDifferences_2 kni_0 ?_
  refine J_istore_n (pc := 3) (ls' := [some _, some _, some _]) dX1_allDifferences_3 rfl (Nat.le_of_ble_eq_true rfl) rfl ?_
  refine K_for' (pc := 4) 48 (fun i => [some (.ref (jxb x + 40)), some (.int ((sumV (fun p => difV (m 68) p 1 + difV (m 68) p 3) i))), some (.int (nI i))]) (fun i => m) (by rfl) (by rfl) (fun i hi ih4 => ?_) ?_
  ·
    show K x _ _ 4 [some (.ref (jxb x + 40)), some (.int ((sumV (fun p => difV (m 68) p 1 + difV (m 68) p 3) i))), some (.int (nI i))] _ m _
    refine J_iload_n (pc := 4) dX1_allDifferences_4 rfl ?_
    refine J_bipush (pc := 5) dX1_allDifferences_5 knb_48 ?_
    refine Jn_ge (pc := 7) (tgt := 32) dX1_allDifferences_7 (by decide) (by omega) (by omega) (fun h7 => absurd h7 (by omega)) (fun h7 => ?_)
    refine J_iload_n (pc := 10) dX1_allDifferences_10 rfl ?_
    refine J_aload_n (pc := 11) dX1_allDifferences_11 rfl ?_
    refine J_iload_n (pc := 12) dX1_allDifferences_12 rfl ?_
    refine J_iconst (pc := 13) dX1_allDifferences_13 kni_1 ?_
    refine K_callVp (pc := 14) (id := 40) (As := [_, _]) dX1_allDifferences_14 kl_X1_59 rfl job_40 rfl rfl (Nat.le_of_ble_eq_true rfl) (c_difference hi (by decide)) ?_
    refine J_aload_n (pc := 17) dX1_allDifferences_17 rfl ?_
    refine J_iload_n (pc := 18) dX1_allDifferences_18 rfl ?_
    refine J_iconst (pc := 19) dX1_allDifferences_19 kni_3 ?_
    refine K_callVp (pc := 20) (id := 40) (As := [_, _]) dX1_allDifferences_20 kl_X1_59 rfl job_40 rfl rfl (Nat.le_of_ble_eq_true rfl) (c_difference hi (by decide)) ?_
    refine J_iadd (pc := 23) dX1_allDifferences_23 ?_
    refine J_iadd (pc := 24) dX1_allDifferences_24 ?_
    refine J_istore_n (pc := 25) (ls' := [some _, some _, some _]) dX1_allDifferences_25 rfl (Nat.le_of_ble_eq_true rfl) rfl ?_
    refine Jn_iinc (pc := 26) (ls' := [some _, some _, some _]) dX1_allDifferences_26 rfl knz_1 rfl rfl ?_
    refine J_goto (pc := 29) (tgt := 4) dX1_allDifferences_29 (by decide) ?_
    exact ih4
  ·
    show K x _ _ 4 [some (.ref (jxb x + 40)), some (.int ((sumV (fun p => difV (m 68) p 1 + difV (m 68) p 3) 48))), some (.int (nI 48))] _ m _
    refine J_iload_n (pc := 4) dX1_allDifferences_4 rfl ?_
    refine J_bipush (pc := 5) dX1_allDifferences_5 knb_48 ?_
    refine Jn_ge (pc := 7) (tgt := 32) dX1_allDifferences_7 (by decide) (by omega) (by omega) (fun h7_2 => ?_) (fun h7_2 => absurd h7_2 (by omega))
    refine J_iload_n (pc := 32) dX1_allDifferences_32 rfl ?_
    refine K_iret (pc := 33) dX1_allDifferences_33 rfl ⟨_, rfl, ?_⟩
    exact ⟨rfl, rfl⟩
set_option maxRecDepth 100000 in
set_option maxHeartbeats 400000 in
theorem c_allEdges {x : jX} {m : jm} {d : Nat} (e : Int32) : Ct x (d + 2) eX1_allEdges [.ref (jxb x + 40), .int e] m (jp (q2V (m 68) e) m) := by
  refine J_start (by decide +kernel) (Nat.le_of_ble_eq_true rfl) (ls := [some (.ref (jxb x + 40)), some (.int e), none, none]) rfl rfl ?_
  refine J_iconst (pc := 0) dX1_allEdges_0 kni_0 ?_
  refine J_istore_n (pc := 1) (ls' := [some _, some _, some _, none]) dX1_allEdges_1 rfl (Nat.le_of_ble_eq_true rfl) rfl ?_
  refine J_iconst (pc := 2) dX1_allEdges_2 kni_0 ?_
  refine J_istore_n (pc := 3) (ls' := [some _, some _, some _, some _]) dX1_allEdges_3 rfl (Nat.le_of_ble_eq_true rfl) rfl ?_
  refine K_for' (pc := 4) 48 (fun i => [some (.ref (jxb x + 40)), some (.int e), some (.int (nI (ecnt (m 68) e i))), some (.int (nI i))]) (fun i => m) (by rfl) (by rfl) (fun i hi ih4 => ?_) ?_
  ·
    show K x _ _ 4 [some (.ref (jxb x + 40)), some (.int e), some (.int (nI (ecnt (m 68) e i))), some (.int (nI i))] _ m _
    refine J_iload_n (pc := 4) dX1_allEdges_4 rfl ?_
    refine J_bipush (pc := 5) dX1_allEdges_5 knb_48 ?_
    refine Jn_ge (pc := 7) (tgt := 52) dX1_allEdges_7 (by decide) (by omega) (by omega) (fun h7 => absurd h7 (by omega)) (fun h7 => ?_)
    refine J_iload_n (pc := 10) dX1_allEdges_10 rfl ?_
    refine J_aload_n (pc := 11) dX1_allEdges_11 rfl ?_
    refine J_iload_n (pc := 12) dX1_allEdges_12 rfl ?_
    refine J_iconst (pc := 13) dX1_allEdges_13 kni_1 ?_
    refine K_callVp (pc := 14) (id := 40) (As := [_, _]) dX1_allEdges_14 kl_X1_59 rfl job_40 rfl rfl (Nat.le_of_ble_eq_true rfl) (c_difference hi (by decide)) ?_
    refine J_iload_n (pc := 17) dX1_allEdges_17 rfl ?_
    refine J_icmp_lt (pc := 18) (tgt := 25) dX1_allEdges_18 (by decide) (fun h18 => ?_) (fun h18 => ?_)
    · 
      refine J_iconst (pc := 25) dX1_allEdges_25 kni_0 ?_
      refine J_iaddv (pc := 26) dX1_allEdges_26 (nI_add _ _) ?_
      refine J_istore_n (pc := 27) (ls' := [some _, some _, some _, some _]) dX1_allEdges_27 rfl (Nat.le_of_ble_eq_true rfl) rfl ?_
      refine J_iload_n (pc := 28) dX1_allEdges_28 rfl ?_
      refine J_aload_n (pc := 29) dX1_allEdges_29 rfl ?_
      refine J_iload_n (pc := 30) dX1_allEdges_30 rfl ?_
      refine J_iconst (pc := 31) dX1_allEdges_31 kni_3 ?_
      refine K_callVp (pc := 32) (id := 40) (As := [_, _]) dX1_allEdges_32 kl_X1_59 rfl job_40 rfl rfl (Nat.le_of_ble_eq_true rfl) (c_difference hi (by decide)) ?_
      refine J_iload_n (pc := 35) dX1_allEdges_35 rfl ?_
      refine J_icmp_lt (pc := 36) (tgt := 43) dX1_allEdges_36 (by decide) (fun h36 => ?_) (fun h36 => ?_)
      · 
        refine J_iconst (pc := 43) dX1_allEdges_43 kni_0 ?_
        refine J_iaddv (pc := 44) dX1_allEdges_44 (nI_add _ _) ?_
        refine J_istore_n (pc := 45) (ls' := [some _, some _, some _, some _]) dX1_allEdges_45 rfl (Nat.le_of_ble_eq_true rfl) rfl ?_
        refine Jn_iinc (pc := 46) (ls' := [some _, some _, some _, some _]) dX1_allEdges_46 rfl knz_1 rfl rfl ?_
        refine J_goto (pc := 49) (tgt := 4) dX1_allEdges_49 (by decide) ?_
        have e1 : (if edgB (m 68) e i 1 then 1 else 0) = 0 := by rw [if_neg (by unfold edgB; rw [decide_eq_true_eq]; exact Int32.not_le.mpr h18)]
        have e3 : (if edgB (m 68) e i 3 then 1 else 0) = 0 := by rw [if_neg (by unfold edgB; rw [decide_eq_true_eq]; exact Int32.not_le.mpr h36)]
        have ev : ecnt (m 68) e (i + 1) = ecnt (m 68) e i + 0 + 0 := by rw [ecnt, e1, e3]
        rw [ev] at ih4
        exact ih4
      · 
        refine J_iconst (pc := 39) dX1_allEdges_39 kni_1 ?_
        refine J_goto (pc := 40) (tgt := 44) dX1_allEdges_40 (by decide) ?_
        refine J_iaddv (pc := 44) dX1_allEdges_44 (nI_add _ _) ?_
        refine J_istore_n (pc := 45) (ls' := [some _, some _, some _, some _]) dX1_allEdges_45 rfl (Nat.le_of_ble_eq_true rfl) rfl ?_
        refine Jn_iinc (pc := 46) (ls' := [some _, some _, some _, some _]) dX1_allEdges_46 rfl knz_1 rfl rfl ?_
        refine J_goto (pc := 49) (tgt := 4) dX1_allEdges_49 (by decide) ?_
        have e1 : (if edgB (m 68) e i 1 then 1 else 0) = 0 := by rw [if_neg (by unfold edgB; rw [decide_eq_true_eq]; exact Int32.not_le.mpr h18)]
        have e3 : (if edgB (m 68) e i 3 then 1 else 0) = 1 := by rw [if_pos (by unfold edgB; rw [decide_eq_true_eq]; exact Int32.not_lt.mp h36)]
        have ev : ecnt (m 68) e (i + 1) = ecnt (m 68) e i + 0 + 1 := by rw [ecnt, e1, e3]
        rw [ev] at ih4
        exact ih4
    · 
      refine J_iconst (pc := 21) dX1_allEdges_21 kni_1 ?_
      refine J_goto (pc := 22) (tgt := 26) dX1_allEdges_22 (by decide) ?_
      refine J_iaddv (pc := 26) dX1_allEdges_26 (nI_add _ _) ?_
      refine J_istore_n (pc := 27) (ls' := [some _, some _, some _, some _]) dX1_allEdges_27 rfl (Nat.le_of_ble_eq_true rfl) rfl ?_
      refine J_iload_n (pc := 28) dX1_allEdges_28 rfl ?_
      refine J_aload_n (pc := 29) dX1_allEdges_29 rfl ?_
      refine J_iload_n (pc := 30) dX1_allEdges_30 rfl ?_
      refine J_iconst (pc := 31) dX1_allEdges_31 kni_3 ?_
      refine K_callVp (pc := 32) (id := 40) (As := [_, _]) dX1_allEdges_32 kl_X1_59 rfl job_40 rfl rfl (Nat.le_of_ble_eq_true rfl) (c_difference hi (by decide)) ?_
      refine J_iload_n (pc := 35) dX1_allEdges_35 rfl ?_
      refine J_icmp_lt (pc := 36) (tgt := 43) dX1_allEdges_36 (by decide) (fun h36 => ?_) (fun h36 => ?_)
      · 
        refine J_iconst (pc := 43) dX1_allEdges_43 kni_0 ?_
        refine J_iaddv (pc := 44) dX1_allEdges_44 (nI_add _ _) ?_
        refine J_istore_n (pc := 45) (ls' := [some _, some _, some _, some _]) dX1_allEdges_45 rfl (Nat.le_of_ble_eq_true rfl) rfl ?_
        refine Jn_iinc (pc := 46) (ls' := [some _, some _, some _, some _]) dX1_allEdges_46 rfl knz_1 rfl rfl ?_
        refine J_goto (pc := 49) (tgt := 4) dX1_allEdges_49 (by decide) ?_
        have e1 : (if edgB (m 68) e i 1 then 1 else 0) = 1 := by rw [if_pos (by unfold edgB; rw [decide_eq_true_eq]; exact Int32.not_lt.mp h18)]
        have e3 : (if edgB (m 68) e i 3 then 1 else 0) = 0 := by rw [if_neg (by unfold edgB; rw [decide_eq_true_eq]; exact Int32.not_le.mpr h36)]
        have ev : ecnt (m 68) e (i + 1) = ecnt (m 68) e i + 1 + 0 := by rw [ecnt, e1, e3]
        rw [ev] at ih4
        exact ih4
      · 
        refine J_iconst (pc := 39) dX1_allEdges_39 kni_1 ?_
        refine J_goto (pc := 40) (tgt := 44) dX1_allEdges_40 (by decide) ?_
        refine J_iaddv (pc := 44) dX1_allEdges_44 (nI_add _ _) ?_
        refine J_istore_n (pc := 45) (ls' := [some _, some _, some _, some _]) dX1_allEdges_45 rfl (Nat.le_of_ble_eq_true rfl) rfl ?_
        refine Jn_iinc (pc := 46) (ls' := [some _, some _, some _, some _]) dX1_allEdges_46 rfl knz_1 rfl rfl ?_
        refine J_goto (pc := 49) (tgt := 4) dX1_allEdges_49 (by decide) ?_
        have e1 : (if edgB (m 68) e i 1 then 1 else 0) = 1 := by rw [if_pos (by unfold edgB; rw [decide_eq_true_eq]; exact Int32.not_lt.mp h18)]
        have e3 : (if edgB (m 68) e i 3 then 1 else 0) = 1 := by rw [if_pos (by unfold edgB; rw [decide_eq_true_eq]; exact Int32.not_lt.mp h36)]
        have ev : ecnt (m 68) e (i + 1) = ecnt (m 68) e i + 1 + 1 := by rw [ecnt, e1, e3]
        rw [ev] at ih4
        exact ih4
  ·
    show K x _ _ 4 [some (.ref (jxb x + 40)), some (.int e), some (.int (nI (ecnt (m 68) e 48))), some (.int (nI 48))] _ m _
    refine J_iload_n (pc := 4) dX1_allEdges_4 rfl ?_
    refine J_bipush (pc := 5) dX1_allEdges_5 knb_48 ?_
    refine Jn_ge (pc := 7) (tgt := 52) dX1_allEdges_7 (by decide) (by omega) (by omega) (fun h7_2 => ?_) (fun h7_2 => absurd h7_2 (by omega))
    refine J_iload_n (pc := 52) dX1_allEdges_52 rfl ?_
    refine K_iret (pc := 53) dX1_allEdges_53 rfl ⟨_, rfl, ?_⟩
    exact ⟨rfl, rfl⟩
set_option maxRecDepth 100000 in
set_option maxHeartbeats 400000 in
theorem c_brightOnes {x : jX} {m : jm} {d : Nat} (e : Int32) : Ct x (d + 1) eX1_brightOnes [.ref (jxb x + 40), .int e] m (jp (q3V (m 68) e) m) := by
  refine J_start (by decide +kernel) (Nat.le_of_ble_eq_true rfl) (ls := [some (.ref (jxb x + 40)), some (.int e), none, none, none, none, none]) rfl rfl ?_
  refine J_iconst (pc := 0) dX1_brightOnes_0 kni_0 ?_
  refine J_istore_n (pc := 1) (ls' := [some _, some _, some _, none, none, none, none]) dX1_brightOnes_1 rfl (Nat.le_of_ble_eq_true rfl) rfl ?_
  refine J_iconst (pc := 2) dX1_brightOnes_2 kni_0 ?_
  refine J_istore_n (pc := 3) (ls' := [some _, some _, some _, some _, none, none, none]) dX1_brightOnes_3 rfl (Nat.le_of_ble_eq_true rfl) rfl ?_
  refine K_for' (pc := 4) 48 (fun i => [some (.ref (jxb x + 40)), some (.int e), some (.int (nI (cnt (fun p => allB (brB (m 68) e p) 4) i))), some (.int (nI i)), none, none, none]) (fun i => m) (by rfl) (by rfl) (fun i hi ih4 => ?_) ?_
  ·
    show K x _ _ 4 [some (.ref (jxb x + 40)), some (.int e), some (.int (nI (cnt (fun p => allB (brB (m 68) e p) 4) i))), some (.int (nI i)), none, none, none] _ m _
    refine J_iload_n (pc := 4) dX1_brightOnes_4 rfl ?_
    refine J_bipush (pc := 5) dX1_brightOnes_5 knb_48 ?_
    refine Jn_ge (pc := 7) (tgt := 92) dX1_brightOnes_7 (by decide) (by omega) (by omega) (fun h7 => absurd h7 (by omega)) (fun h7 => ?_)
    refine J_iconst (pc := 10) dX1_brightOnes_10 kni_1 ?_
    refine J_istore (pc := 11) (ls' := [some _, some _, some _, some _, some _, none, none]) dX1_brightOnes_11 rfl (Nat.le_of_ble_eq_true rfl) rfl ?_
    refine J_iconst (pc := 13) dX1_brightOnes_13 kni_0 ?_
    refine J_istore (pc := 14) (ls' := [some _, some _, some _, some _, some _, some _, none]) dX1_brightOnes_14 rfl (Nat.le_of_ble_eq_true rfl) rfl ?_
    refine J_wk (ls' := [some _, some _, some _, some _, some _, some _, none]) rfl (by rintro (_ | _ | _ | _ | _ | _ | _ | k) v hv <;> first | exact hv | cases hv) ?_
    refine K_for' (pc := 16) 4 (fun j => [some (.ref (jxb x + 40)), some (.int e), some (.int (nI (cnt (fun p => allB (brB (m 68) e p) 4) i))), some (.int (nI i)), some (.int (jb (allB (brB (m 68) e i) j = true))), some (.int (nI j)), none]) (fun j => m) (by rfl) (by rfl) (fun j hj ih16 => ?_) ?_
    ·
      show K x _ _ 16 [some (.ref (jxb x + 40)), some (.int e), some (.int (nI (cnt (fun p => allB (brB (m 68) e p) 4) i))), some (.int (nI i)), some (.int (jb (allB (brB (m 68) e i) j = true))), some (.int (nI j)), none] _ m _
      refine J_iload (pc := 16) dX1_brightOnes_16 rfl ?_
      refine J_iconst (pc := 18) dX1_brightOnes_18 kni_4 ?_
      refine Jn_ge (pc := 19) (tgt := 73) dX1_brightOnes_19 (by decide) (by omega) (by omega) (fun h19 => absurd h19 (by omega)) (fun h19 => ?_)
      refine J_iload_n (pc := 22) dX1_brightOnes_22 rfl ?_
      refine J_iload (pc := 23) dX1_brightOnes_23 rfl ?_
      refine K_callSp (pc := 25) (As := [_, _]) dX1_brightOnes_25 kl_X1_50 rfl rfl (Nat.le_of_ble_eq_true rfl) (c_beside hi hj) ?_
      refine J_istore (pc := 28) (ls' := [some _, some _, some _, some _, some _, some _, some _]) dX1_brightOnes_28 rfl (Nat.le_of_ble_eq_true rfl) rfl ?_
      refine J_iload (pc := 30) dX1_brightOnes_30 rfl ?_
      refine Jb_eq (pc := 32) (tgt := 64) dX1_brightOnes_32 (by decide) (fun h32 => ?_) (fun h32 => ?_)
      · 
        refine J_iconst (pc := 64) dX1_brightOnes_64 kni_0 ?_
        refine J_istore (pc := 65) (ls' := [some _, some _, some _, some _, some _, some _, some _]) dX1_brightOnes_65 rfl (Nat.le_of_ble_eq_true rfl) rfl ?_
        refine Jn_iinc (pc := 67) (ls' := [some _, some _, some _, some _, some _, some _, some _]) dX1_brightOnes_67 rfl knz_1 rfl rfl ?_
        refine J_goto (pc := 70) (tgt := 16) dX1_brightOnes_70 (by decide) ?_
        rw [allB_f (fun q => h32 q.1)] at ih16
        refine J_wk' ih16 rfl ?_
        rintro (_ | _ | _ | _ | _ | _ | _ | _ | _ | _ | k) v hv <;> first | exact hv | cases hv
      · 
        refine J_iload (pc := 35) dX1_brightOnes_35 rfl ?_
        refine J_ldc (pc := 37) dX1_brightOnes_37 kc_X1_53 ?_
        refine J_icmp_eq (pc := 39) (tgt := 60) dX1_brightOnes_39 (by decide) (fun h39 => ?_) (fun h39 => ?_)
        · 
          refine J_iconst (pc := 60) dX1_brightOnes_60 kni_1 ?_
          refine J_goto (pc := 61) (tgt := 65) dX1_brightOnes_61 (by decide) ?_
          refine J_istore (pc := 65) (ls' := [some _, some _, some _, some _, some _, some _, some _]) dX1_brightOnes_65 rfl (Nat.le_of_ble_eq_true rfl) rfl ?_
          refine Jn_iinc (pc := 67) (ls' := [some _, some _, some _, some _, some _, some _, some _]) dX1_brightOnes_67 rfl knz_1 rfl rfl ?_
          refine J_goto (pc := 70) (tgt := 16) dX1_brightOnes_70 (by decide) ?_
          rw [allB_t h32 (by unfold brB; rw [decide_eq_true_eq]; exact Or.inl h39)] at ih16
          refine J_wk' ih16 rfl ?_
          rintro (_ | _ | _ | _ | _ | _ | _ | _ | _ | _ | k) v hv <;> first | exact hv | cases hv
        · 
          refine J_aload_n (pc := 42) dX1_brightOnes_42 rfl ?_
          refine K_getR (pc := 43) dX1_brightOnes_43 kf_X1_23 job_40 jrf_40_3 ?_
          refine J_iload_n (pc := 46) dX1_brightOnes_46 rfl ?_
          refine K_ialdn (pc := 47) (id := 68) dX1_brightOnes_47 jar_68 (by omega) (by decide) ?_
          refine J_aload_n (pc := 48) dX1_brightOnes_48 rfl ?_
          refine K_getR (pc := 49) dX1_brightOnes_49 kf_X1_23 job_40 jrf_40_3 ?_
          refine J_iload (pc := 52) dX1_brightOnes_52 rfl ?_
          refine K_iald (pc := 54) (id := 68) dX1_brightOnes_54 jar_68 (bes_in hi hj h39) ?_
          refine J_isub (pc := 55) dX1_brightOnes_55 ?_
          refine J_iload_n (pc := 56) dX1_brightOnes_56 rfl ?_
          refine J_icmp_lt (pc := 57) (tgt := 64) dX1_brightOnes_57 (by decide) (fun h57 => ?_) (fun h57 => ?_)
          · 
            refine J_iconst (pc := 64) dX1_brightOnes_64 kni_0 ?_
            refine J_istore (pc := 65) (ls' := [some _, some _, some _, some _, some _, some _, some _]) dX1_brightOnes_65 rfl (Nat.le_of_ble_eq_true rfl) rfl ?_
            refine Jn_iinc (pc := 67) (ls' := [some _, some _, some _, some _, some _, some _, some _]) dX1_brightOnes_67 rfl knz_1 rfl rfl ?_
            refine J_goto (pc := 70) (tgt := 16) dX1_brightOnes_70 (by decide) ?_
            rw [allB_f (fun q => by have q2 := q.2; unfold brB at q2; rw [decide_eq_true_eq] at q2; exact q2.elim h39 (fun r => absurd h57 (Int32.not_lt.mpr r)))] at ih16
            refine J_wk' ih16 rfl ?_
            rintro (_ | _ | _ | _ | _ | _ | _ | _ | _ | _ | k) v hv <;> first | exact hv | cases hv
          · 
            refine J_iconst (pc := 60) dX1_brightOnes_60 kni_1 ?_
            refine J_goto (pc := 61) (tgt := 65) dX1_brightOnes_61 (by decide) ?_
            refine J_istore (pc := 65) (ls' := [some _, some _, some _, some _, some _, some _, some _]) dX1_brightOnes_65 rfl (Nat.le_of_ble_eq_true rfl) rfl ?_
            refine Jn_iinc (pc := 67) (ls' := [some _, some _, some _, some _, some _, some _, some _]) dX1_brightOnes_67 rfl knz_1 rfl rfl ?_
            refine J_goto (pc := 70) (tgt := 16) dX1_brightOnes_70 (by decide) ?_
            rw [allB_t h32 (by unfold brB; rw [decide_eq_true_eq]; exact Or.inr (Int32.not_lt.mp h57))] at ih16
            refine J_wk' ih16 rfl ?_
            rintro (_ | _ | _ | _ | _ | _ | _ | _ | _ | _ | k) v hv <;> first | exact hv | cases hv
    ·
      show K x _ _ 16 [some (.ref (jxb x + 40)), some (.int e), some (.int (nI (cnt (fun p => allB (brB (m 68) e p) 4) i))), some (.int (nI i)), some (.int (jb (allB (brB (m 68) e i) 4 = true))), some (.int (nI 4)), none] _ m _
      refine J_iload (pc := 16) dX1_brightOnes_16 rfl ?_
      refine J_iconst (pc := 18) dX1_brightOnes_18 kni_4 ?_
      refine Jn_ge (pc := 19) (tgt := 73) dX1_brightOnes_19 (by decide) (by omega) (by omega) (fun h19_2 => ?_) (fun h19_2 => absurd h19_2 (by omega))
      refine J_iload_n (pc := 73) dX1_brightOnes_73 rfl ?_
      refine J_iload (pc := 74) dX1_brightOnes_74 rfl ?_
      refine Jb_eq (pc := 76) (tgt := 83) dX1_brightOnes_76 (by decide) (fun h76 => ?_) (fun h76 => ?_)
      · 
        refine J_iconst (pc := 83) dX1_brightOnes_83 kni_0 ?_
        refine J_iaddv (pc := 84) dX1_brightOnes_84 (nI_add _ _) ?_
        refine J_istore_n (pc := 85) (ls' := [some _, some _, some _, some _, some _, some _, none]) dX1_brightOnes_85 rfl (Nat.le_of_ble_eq_true rfl) rfl ?_
        refine Jn_iinc (pc := 86) (ls' := [some _, some _, some _, some _, some _, some _, none]) dX1_brightOnes_86 rfl knz_1 rfl rfl ?_
        refine J_goto (pc := 89) (tgt := 4) dX1_brightOnes_89 (by decide) ?_
        rw [cnt_f (by exact h76)] at ih4
        refine J_wk' ih4 rfl ?_
        rintro (_ | _ | _ | _ | _ | _ | _ | _ | _ | _ | k) v hv <;> first | exact hv | cases hv
      · 
        refine J_iconst (pc := 79) dX1_brightOnes_79 kni_1 ?_
        refine J_goto (pc := 80) (tgt := 84) dX1_brightOnes_80 (by decide) ?_
        refine J_iaddv (pc := 84) dX1_brightOnes_84 (nI_add _ _) ?_
        refine J_istore_n (pc := 85) (ls' := [some _, some _, some _, some _, some _, some _, none]) dX1_brightOnes_85 rfl (Nat.le_of_ble_eq_true rfl) rfl ?_
        refine Jn_iinc (pc := 86) (ls' := [some _, some _, some _, some _, some _, some _, none]) dX1_brightOnes_86 rfl knz_1 rfl rfl ?_
        refine J_goto (pc := 89) (tgt := 4) dX1_brightOnes_89 (by decide) ?_
        rw [cnt_t (by exact h76)] at ih4
        refine J_wk' ih4 rfl ?_
        rintro (_ | _ | _ | _ | _ | _ | _ | _ | _ | _ | k) v hv <;> first | exact hv | cases hv
  ·
    show K x _ _ 4 [some (.ref (jxb x + 40)), some (.int e), some (.int (nI (cnt (fun p => allB (brB (m 68) e p) 4) 48))), some (.int (nI 48)), none, none, none] _ m _
    refine J_iload_n (pc := 4) dX1_brightOnes_4 rfl ?_
    refine J_bipush (pc := 5) dX1_brightOnes_5 knb_48 ?_
    refine Jn_ge (pc := 7) (tgt := 92) dX1_brightOnes_7 (by decide) (by omega) (by omega) (fun h7_2 => ?_) (fun h7_2 => absurd h7_2 (by omega))
    refine J_iload_n (pc := 92) dX1_brightOnes_92 rfl ?_
    refine K_iret (pc := 93) dX1_brightOnes_93 rfl ⟨_, rfl, ?_⟩
    exact ⟨rfl, rfl⟩

theorem shadeS_c {m m' : jm} {g : Nat} (h1 : m' 41 = m 41) (h2 : m' 42 = m 42) (h4 : ∀ l, l < 24 → m' (44 + l) = m (44 + l)) {p : Nat} (hg : g < 4) (hp : p < 48) : shadeS m' g p = shadeS m g p := by
  unfold shadeS
  rw [h1, h2, h4 _ (by omega)]
set_option maxRecDepth 100000 in
set_option maxHeartbeats 400000 in
theorem c_askAll {x : jX} {m : jm} {d : Nat} {g : Nat} (hg : g < 4) (e : Int32) : Ct x (d + 3) eX1_askAll [.ref (jxb x + 40), .int (nI g), .int e] m (jr x 69 fun m' => m' = askM m g e) := by
  refine J_start (by decide +kernel) (Nat.le_of_ble_eq_true rfl) (ls := [some (.ref (jxb x + 40)), some (.int (nI g)), some (.int e), none]) rfl rfl ?_
  refine J_iconst (pc := 0) dX1_askAll_0 kni_0 ?_
  refine J_istore_n (pc := 1) (ls' := [some _, some _, some _, some _]) dX1_askAll_1 rfl (Nat.le_of_ble_eq_true rfl) rfl ?_
  refine K_for' (pc := 2) 48 (fun i => [some (.ref (jxb x + 40)), some (.int (nI g)), some (.int e), some (.int (nI i))]) (fun i => mfill m 68 i (shadeS m g)) (by rfl) (by exact (mfill_0 _ _ _).symm) (fun i hi ih2 => ?_) ?_
  ·
    show K x _ _ 2 [some (.ref (jxb x + 40)), some (.int (nI g)), some (.int e), some (.int (nI i))] _ (mfill m 68 i (shadeS m g)) _
    refine J_iload_n (pc := 2) dX1_askAll_2 rfl ?_
    refine J_bipush (pc := 3) dX1_askAll_3 knb_48 ?_
    refine Jn_ge (pc := 5) (tgt := 26) dX1_askAll_5 (by decide) (by omega) (by omega) (fun h5 => absurd h5 (by omega)) (fun h5 => ?_)
    refine J_aload_n (pc := 8) dX1_askAll_8 rfl ?_
    refine K_getR (pc := 9) dX1_askAll_9 kf_X1_23 job_40 jrf_40_3 ?_
    refine J_iload_n (pc := 12) dX1_askAll_12 rfl ?_
    refine J_aload_n (pc := 13) dX1_askAll_13 rfl ?_
    refine J_iload_n (pc := 14) dX1_askAll_14 rfl ?_
    refine J_iload_n (pc := 15) dX1_askAll_15 rfl ?_
    refine K_callVp (pc := 16) (id := 40) (As := [_, _]) dX1_askAll_16 kl_X1_33 rfl job_40 rfl rfl (Nat.le_of_ble_eq_true rfl) (c_shadeAt (m := mfill m 68 i (shadeS m g)) hg hi) ?_
    refine K_iastn (pc := 19) (id := 68) dX1_askAll_19 jar_68 (by omega) (by decide) ?_
    refine Jn_iinc (pc := 20) (ls' := [some _, some _, some _, some _]) dX1_askAll_20 rfl knz_1 rfl rfl ?_
    refine J_goto (pc := 23) (tgt := 2) dX1_askAll_23 (by decide) ?_
    have ev : ((shadeS (mfill m 68 i (shadeS m g)) g i)) = shadeS m g i := by
      exact shadeS_c (mfill_i' (by decide)) (mfill_i' (by decide)) (fun l hl => mfill_i' (by omega)) hg hi
    rw [mfill_s _ _ _ _ ev]
    exact ih2
  ·
    show K x _ _ 2 [some (.ref (jxb x + 40)), some (.int (nI g)), some (.int e), some (.int (nI 48))] _ (mfill m 68 48 (shadeS m g)) _
    refine J_iload_n (pc := 2) dX1_askAll_2 rfl ?_
    refine J_bipush (pc := 3) dX1_askAll_3 knb_48 ?_
    refine Jn_ge (pc := 5) (tgt := 26) dX1_askAll_5 (by decide) (by omega) (by omega) (fun h5_2 => ?_) (fun h5_2 => absurd h5_2 (by omega))
    refine J_aload_n (pc := 26) dX1_askAll_26 rfl ?_
    refine K_getR (pc := 27) dX1_askAll_27 kf_X1_26 job_40 jrf_40_4 ?_
    refine J_iconst (pc := 30) dX1_askAll_30 kni_0 ?_
    refine J_aload_n (pc := 31) dX1_askAll_31 rfl ?_
    refine K_callVp (pc := 32) (id := 40) (As := []) dX1_askAll_32 kl_X1_36 rfl job_40 rfl rfl (Nat.le_of_ble_eq_true rfl) (c_mean) ?_
    refine J_top (b := (q0V (shadeS m g))) (q0V_c (fun p hp => by simp only [mup, mfill]; simp [hp])) ?_
    refine K_iastn (pc := 35) (id := 69) dX1_askAll_35 jar_69 (by omega) (by decide) ?_
    refine J_aload_n (pc := 36) dX1_askAll_36 rfl ?_
    refine K_getR (pc := 37) dX1_askAll_37 kf_X1_26 job_40 jrf_40_4 ?_
    refine J_iconst (pc := 40) dX1_askAll_40 kni_1 ?_
    refine J_aload_n (pc := 41) dX1_askAll_41 rfl ?_
    refine K_callVp (pc := 42) (id := 40) (As := []) dX1_askAll_42 kl_X1_40 rfl job_40 rfl rfl (Nat.le_of_ble_eq_true rfl) (c_allDifferences) ?_
    refine J_bipush (pc := 45) dX1_askAll_45 knb_82 ?_
    refine J_idiv (pc := 47) dX1_askAll_47 (nI_ne0 (by decide) (by decide)) rfl ?_
    refine J_top (b := (q1V (shadeS m g))) (q1V_c (fun p hp => by simp only [mup, mfill]; simp [hp])) ?_
    refine K_iastn (pc := 48) (id := 69) dX1_askAll_48 jar_69 (by omega) (by decide) ?_
    refine J_aload_n (pc := 49) dX1_askAll_49 rfl ?_
    refine K_getR (pc := 50) dX1_askAll_50 kf_X1_26 job_40 jrf_40_4 ?_
    refine J_iconst (pc := 53) dX1_askAll_53 kni_2 ?_
    refine J_aload_n (pc := 54) dX1_askAll_54 rfl ?_
    refine J_iload_n (pc := 55) dX1_askAll_55 rfl ?_
    refine K_callVp (pc := 56) (id := 40) (As := [_]) dX1_askAll_56 kl_X1_43 rfl job_40 rfl rfl (Nat.le_of_ble_eq_true rfl) (c_allEdges e) ?_
    refine J_top (b := (q2V (shadeS m g) e)) (q2V_c (fun p hp => by simp only [mup, mfill]; simp [hp]) e) ?_
    refine K_iastn (pc := 59) (id := 69) dX1_askAll_59 jar_69 (by omega) (by decide) ?_
    refine J_aload_n (pc := 60) dX1_askAll_60 rfl ?_
    refine K_getR (pc := 61) dX1_askAll_61 kf_X1_26 job_40 jrf_40_4 ?_
    refine J_iconst (pc := 64) dX1_askAll_64 kni_3 ?_
    refine J_aload_n (pc := 65) dX1_askAll_65 rfl ?_
    refine J_iload_n (pc := 66) dX1_askAll_66 rfl ?_
    refine K_callVp (pc := 67) (id := 40) (As := [_]) dX1_askAll_67 kl_X1_47 rfl job_40 rfl rfl (Nat.le_of_ble_eq_true rfl) (c_brightOnes e) ?_
    refine J_top (b := (q3V (shadeS m g) e)) (q3V_c (fun p hp => by simp only [mup, mfill]; simp [hp]) e) ?_
    refine K_iastn (pc := 70) (id := 69) dX1_askAll_70 jar_69 (by omega) (by decide) ?_
    refine J_aload_n (pc := 71) dX1_askAll_71 rfl ?_
    refine K_getR (pc := 72) dX1_askAll_72 kf_X1_26 job_40 jrf_40_4 ?_
    refine K_aret (pc := 75) dX1_askAll_75 rfl ⟨rfl, ?_⟩
    rfl
