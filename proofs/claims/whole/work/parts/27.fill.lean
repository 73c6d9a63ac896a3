/-- places that hang together -/
def adjS (a b : Nat) : Prop := ∃ s, s < 4 ∧ besV a s = nI b
def rch (f : Nat → Int32) (k q : Nat) : Prop := ∀ T : Nat → Prop, T k → (∀ a b, T a → adjS a b → b < 48 → ¬ f b = 0 → T b) → T q
noncomputable def rB (f : Nat → Int32) (k q : Nat) : Bool := by classical exact decide (rch f k q)
theorem rB_iff {f : Nat → Int32} {k q : Nat} : rB f k q = true ↔ rch f k q := by unfold rB; simp
def ers (f g : Nat → Int32) (q : Nat) : Prop := ¬ f q = 0 ∧ g q = 0
def fset (g : Nat → Int32) (b : Nat) (v : Int32) : Nat → Int32 := fun q => if q = b then v else g q
theorem fset_s {g : Nat → Int32} {b : Nat} {v : Int32} : fset g b v b = v := if_pos rfl
theorem fset_n {g : Nat → Int32} {b q : Nat} {v : Int32} (h : q ≠ b) : fset g b v q = g q := if_neg h
theorem mup_row {m : jm} {id k : Nat} {v : Int32} : mup m id k v id = fset (m id) k v := by
  funext j
  unfold mup fset
  by_cases h : j = k
  · rw [if_pos ⟨rfl, h⟩, if_pos h]
  · rw [if_neg (fun q => h q.2), if_neg h]
def flI (f : Nat → Int32) (k : Nat) (g h : Nat → Int32) (n : Nat) : Prop :=
  (∀ q, q < 48 → g q = f q ∨ g q = 0) ∧ n = cnt (fun q => decide (¬ f q = 0 ∧ g q = 0)) 48 ∧ (∀ q, q < 48 → ers f g q → ∃ i, i < n ∧ h i = nI q) ∧
  (∀ i, i < n → ∃ q, q < 48 ∧ h i = nI q ∧ ers f g q ∧ rch f k q) ∧ ers f g k
def flP (nb : Nat → Int32) (f g : Nat → Int32) (j : Nat) : Prop := ∀ s, s < j → ∀ b, b < 48 → nb s = nI b → ¬ f b = 0 → g b = 0
def flC (nb : Nat → Nat → Int32) (f g h : Nat → Int32) (i : Nat) : Prop := ∀ j, j < i → ∀ a, a < 48 → h j = nI a → flP (nb a) f g 4
theorem cnt_same {c c' : Nat → Bool} {b : Nat} (h : ∀ q, q ≠ b → c' q = c q) : ∀ n, n ≤ b → cnt c' n = cnt c n
  | 0, _ => rfl
  | n + 1, hn => by rw [cnt_s, cnt_s, cnt_same h n (by omega), h n (by omega)]
theorem cnt_up {c c' : Nat → Bool} {b : Nat} (h : ∀ q, q ≠ b → c' q = c q) (h0 : c b = false) (h1 : c' b = true) : ∀ n, b < n → cnt c' n = cnt c n + 1
  | 0, hn => absurd hn (Nat.not_lt_zero _)
  | n + 1, hn => by
    by_cases e : n = b
    · subst e
      rw [cnt_s, cnt_s, cnt_same h n (Nat.le_refl _), h0, h1]
      rfl
    · rw [cnt_s, cnt_s, cnt_up h h0 h1 n (by omega), h n e]
      omega
theorem cnt_lt {c : Nat → Bool} {b : Nat} (h0 : c b = false) (n : Nat) (hb : b < n) : cnt c n < n := by
  have := cnt_up (c := c) (c' := fun q => if q = b then true else c q) (fun q hq => if_neg hq) h0 (if_pos rfl) n hb
  have := cnt_le (fun q => if q = b then true else c q) n
  omega
theorem flI_0 {f : Nat → Int32} {k : Nat} {h : Nat → Int32} (hk : k < 48) (hf : ¬ f k = 0) : flI f k (fset f k 0) (fset h 0 (nI k)) 1 := by
  have hc : cnt (fun q => decide (¬ f q = 0 ∧ fset f k 0 q = 0)) 48 = cnt (fun _ => false) 48 + 1 :=
    cnt_up (b := k) (fun q hq => by rw [fset_n hq]; exact decide_eq_false (fun z => z.1 z.2)) rfl (decide_eq_true ⟨hf, fset_s⟩) 48 hk
  refine ⟨fun q hq => ?_, ?_, fun q hq he => ?_, fun i hi => ?_, ⟨hf, fset_s⟩⟩
  · by_cases e : q = k
    · subst e; exact Or.inr fset_s
    · exact Or.inl (fset_n e)
  · rw [hc]; rfl
  · by_cases e : q = k
    · subst e; exact ⟨0, by decide, fset_s⟩
    · exact absurd ((fset_n e).symm.trans he.2) he.1
  · obtain rfl : i = 0 := by omega
    exact ⟨k, hk, fset_s, ⟨hf, fset_s⟩, fun T h1 _ => h1⟩
theorem flI_put {f : Nat → Int32} {k : Nat} {g h : Nat → Int32} {n a b : Nat} (hI : flI f k g h n) (hb : b < 48) (hg : ¬ g b = 0) (hr : rch f k a) (hab : adjS a b) : n < 48 ∧ flI f k (fset g b 0) (fset h n (nI b)) (n + 1) := by
  obtain ⟨h1, h2, h3, h4, h5⟩ := hI
  have hfb : ¬ f b = 0 := by
    rcases h1 b hb with e | e
    · rw [e] at hg; exact hg
    · exact absurd e hg
  have hc0 : decide (¬ f b = 0 ∧ g b = 0) = false := decide_eq_false (fun z => hg z.2)
  have hne : ∀ q, ers f g q → q ≠ b := fun q he e => by subst e; exact hg he.2
  have hc := cnt_up (c := fun q => decide (¬ f q = 0 ∧ g q = 0)) (c' := fun q => decide (¬ f q = 0 ∧ fset g b 0 q = 0)) (b := b) (fun q hq => by simp only [fset_n hq]) hc0 (decide_eq_true ⟨hfb, fset_s⟩) 48 hb
  have hlt := cnt_lt (c := fun q => decide (¬ f q = 0 ∧ g q = 0)) hc0 48 hb
  refine ⟨by omega, fun q hq => ?_, by omega, fun q hq he => ?_, fun i hi => ?_, ⟨h5.1, by rw [fset_n (hne k h5)]; exact h5.2⟩⟩
  · by_cases e : q = b
    · subst e; exact Or.inr fset_s
    · rw [fset_n e]; exact h1 q hq
  · by_cases e : q = b
    · subst e; exact ⟨n, by omega, fset_s⟩
    · obtain ⟨i, hi, ei⟩ := h3 q hq ⟨he.1, (fset_n e).symm.trans he.2⟩
      exact ⟨i, by omega, by rw [fset_n (by omega)]; exact ei⟩
  · by_cases e : i = n
    · subst e
      exact ⟨b, hb, fset_s, ⟨hfb, fset_s⟩, fun T t1 t2 => t2 a b (hr T t1 t2) hab hb hfb⟩
    · obtain ⟨q, hq, e1, e2, e3⟩ := h4 i (by omega)
      exact ⟨q, hq, by rw [fset_n e]; exact e1, ⟨e2.1, by rw [fset_n (hne q e2)]; exact e2.2⟩, e3⟩
theorem flP_up {nb : Nat → Int32} {f g : Nat → Int32} {j b : Nat} (h : flP nb f g j) : flP nb f (fset g b 0) j := fun s hs c hc e hf => by
  by_cases q : c = b
  · subst q; exact fset_s
  · rw [fset_n q]; exact h s hs c hc e hf
theorem flP_s {nb : Nat → Int32} {f g : Nat → Int32} {j : Nat} (h : flP nb f g j) (h2 : ∀ b, b < 48 → nb j = nI b → ¬ f b = 0 → g b = 0) : flP nb f g (j + 1) := fun s hs c hc e hf => by
  by_cases q : s = j
  · subst q; exact h2 c hc e hf
  · exact h s (by omega) c hc e hf
theorem flC_up {nb : Nat → Nat → Int32} {f g h : Nat → Int32} {i n b : Nat} {v : Int32} (hc : flC nb f g h i) (hn : i ≤ n) : flC nb f (fset g b 0) (fset h n v) i := fun j hj a ha e => by
  rw [fset_n (by omega)] at e
  exact flP_up (hc j hj a ha e)
theorem flC_s {nb : Nat → Nat → Int32} {f g h : Nat → Int32} {i a : Nat} (hc : flC nb f g h i) (he : h i = nI a) (ha : a < 48) (hp : flP (nb a) f g 4) : flC nb f g h (i + 1) := fun j hj c hcc e => by
  by_cases q : j = i
  · subst q
    have : a = c := (nI_eq (by omega) (by omega)).mp (he.symm.trans e)
    subst this
    exact hp
  · exact hc j (by omega) c hcc e
/-- when nothing is left to follow, what was met is what hangs together -/
theorem fl_end {nb : Nat → Nat → Int32} {f : Nat → Int32} {k : Nat} {g h : Nat → Int32} {n : Nat} (hI : flI f k g h n) (hc : flC nb f g h n) (hnb : ∀ a b, a < 48 → adjS a b → b < 48 → ∃ s, s < 4 ∧ nb a s = nI b) (hk : k < 48) :
    n = cnt (rB f k) 48 ∧ ∀ q, q < 48 → g q = if rB f k q = true then 0 else f q := by
  obtain ⟨h1, h2, h3, h4, h5⟩ := hI
  have hr : ∀ q, q < 48 → (ers f g q ↔ rch f k q) := by
    intro q hq
    constructor
    · intro he
      obtain ⟨i, hi, e⟩ := h3 q hq he
      obtain ⟨p, hp, e1, e2, e3⟩ := h4 i hi
      have : p = q := (nI_eq (by omega) (by omega)).mp (e1.symm.trans e)
      subst this
      exact e3
    · intro hh
      have := hh (fun q => q < 48 ∧ ers f g q) ⟨hk, h5⟩ (fun a b ha hab hb hf => ⟨hb, hf, by
        obtain ⟨i, hi, e⟩ := h3 a ha.1 ha.2
        obtain ⟨s, hs, es⟩ := hnb a b ha.1 hab hb
        exact hc i hi a ha.1 e s hs b hb es hf⟩)
      exact this.2
  constructor
  · rw [h2]
    exact cnt_c 48 fun q hq => Bool.eq_iff_iff.mpr (by rw [decide_eq_true_iff, rB_iff]; exact hr q hq)
  · intro q hq
    by_cases e : rB f k q = true
    · rw [if_pos e]; exact ((hr q hq).mpr (rB_iff.mp e)).2
    · rw [if_neg e]
      rcases h1 q hq with z | z
      · exact z
      · by_cases y : f q = 0
        · rw [z, y]
        · exact absurd (rB_iff.mpr ((hr q hq).mp ⟨y, z⟩)) e
theorem bes_b {a s : Nat} (ha : a < 48) (hs : s < 4) : besV a s = NONEv ∨ ∃ b, b < 48 ∧ besV a s = nI b := by
  rcases (show s = 0 ∨ s = 1 ∨ s = 2 ∨ s = 3 by omega) with rfl | rfl | rfl | rfl <;> unfold besV <;> simp only [] <;> split <;> first | exact Or.inl rfl | exact Or.inr ⟨_, by omega, rfl⟩
theorem nI_NONE {b : Nat} (h : b < 48) : ¬ nI b = NONEv := fun e => by
  have := congrArg Int32.toInt e
  rw [nI_toInt (by omega), show NONEv.toInt = -1000000005 from rfl] at this
  omega
set_option maxRecDepth 100000 in
set_option maxHeartbeats 400000 in
theorem c_follow {x : jX} {m : jm} {d : Nat} {k : Nat} (hk : k < 48) (hs : ¬ m 100 k = 0) : Ct x (d + 1) eX0_follow [.ref (jxb x + 95), .int (nI k)] m (ji fun v m' => v = nI (cnt (rB (m 100) k) 48) ∧ exs [100, 101] m m' ∧ ∀ q, q < 48 → m' 100 q = if rB (m 100) k q = true then 0 else m 100 q) := by
  refine J_start (by decide +kernel) (Nat.le_of_ble_eq_true rfl) (ls := [some (.ref (jxb x + 95)), some (.int (nI k)), none, none, none, none]) rfl rfl ?_
  refine J_aload_n (pc := 0) dX0_follow_0 rfl ?_
  refine K_getR (pc := 1) dX0_follow_1 kf_X0_28 job_95 jrf_95_5 ?_
  refine J_iconst (pc := 4) dX0_follow_4 kni_0 ?_
  refine J_iload_n (pc := 5) dX0_follow_5 rfl ?_
  refine K_iastn (pc := 6) (id := 101) dX0_follow_6 jar_101 (by omega) (by decide) ?_
  refine J_aload_n (pc := 7) dX0_follow_7 rfl ?_
  refine K_getR (pc := 8) dX0_follow_8 kf_X0_24 job_95 jrf_95_4 ?_
  refine J_iload_n (pc := 11) dX0_follow_11 rfl ?_
  refine J_iconst (pc := 12) dX0_follow_12 kni_0 ?_
  refine K_zastn (pc := 13) (id := 100) (w := nI 0) dX0_follow_13 jar_100 (by omega) (by decide) rfl ?_
  refine J_iconst (pc := 14) dX0_follow_14 kni_1 ?_
  refine J_istore_n (pc := 15) (ls' := [some _, some _, some _, none, none, none]) dX0_follow_15 rfl (Nat.le_of_ble_eq_true rfl) rfl ?_
  refine J_iconst (pc := 16) dX0_follow_16 kni_0 ?_
  refine J_istore_n (pc := 17) (ls' := [some _, some _, some _, some _, none, none]) dX0_follow_17 rfl (Nat.le_of_ble_eq_true rfl) rfl ?_
  refine K_inv (pc := 18) 48 (fun i lsq mq => ∃ (n : Nat), lsq = [some (.ref (jxb x + 95)), some (.int (nI k)), some (.int (nI n)), some (.int (nI i)), none, none] ∧ (exs [100, 101] m mq) ∧ (flI (m 100) k (mq 100) (mq 101) n) ∧ (flC besV (m 100) (mq 100) (mq 101) i)) (fun i hi lsq mm hI18 ih18 => ?_) (fun lsq mm hI18 => ?_) 0 (Nat.zero_le _) _ _ (⟨1, rfl, exs_up (exs_up (exs_rf _ _) (by decide)) (by decide), by rw [show (mup (mup m 101 0 (nI k)) 100 k (nI 0)) 100 = fset (m 100) k 0 from by rw [mup_row, mup_i' (by decide)]; rfl, show (mup (mup m 101 0 (nI k)) 100 k (nI 0)) 101 = fset (m 101) 0 (nI k) from (mup_i' (by decide)).trans mup_row]; exact flI_0 hk hs, fun j hj => absurd hj (Nat.not_lt_zero _)⟩)
  ·
    obtain ⟨n, rfl, hx, hI, hC⟩ := hI18
    have hn48 : n ≤ 48 := by rw [hI.2.1]; exact cnt_le _ 48
    refine J_iload_n (pc := 18) dX0_follow_18 rfl ?_
    refine J_iload_n (pc := 19) dX0_follow_19 rfl ?_
    refine Jn_ge (pc := 20) (tgt := 105) dX0_follow_20 (by decide) (by omega) (by omega) (fun h20 => ?_) (fun h20 => ?_)
    · 
      refine J_iload_n (pc := 105) dX0_follow_105 rfl ?_
      refine K_iret (pc := 106) dX0_follow_106 rfl ⟨_, rfl, ?_⟩
      have hn48 : n ≤ 48 := by rw [hI.2.1]; exact cnt_le _ 48
      have hCn : flC besV (m 100) (mm 100) (mm 101) n := fun j hj => hC j (by omega)
      obtain ⟨q1, q2⟩ := fl_end hI hCn (fun a b ha hab hb => hab) hk
      exact ⟨by rw [q1], hx, q2⟩
    · 
      refine J_iload_n (pc := 23) dX0_follow_23 rfl ?_
      refine J_bipush (pc := 24) dX0_follow_24 knb_48 ?_
      refine Jn_ge (pc := 26) (tgt := 105) dX0_follow_26 (by decide) (by omega) (by omega) (fun h26 => absurd h26 (by omega)) (fun h26 => ?_)
      obtain ⟨a, ha, hea, hra, hrb⟩ := hI.2.2.2.1 i (by omega)
      refine J_iconst (pc := 29) dX0_follow_29 kni_0 ?_
      refine J_istore (pc := 30) (ls' := [some _, some _, some _, some _, some _, none]) dX0_follow_30 rfl (Nat.le_of_ble_eq_true rfl) rfl ?_
      refine K_inv (pc := 32) 4 (fun j lsq mq => ∃ (nn : Nat), lsq = [some (.ref (jxb x + 95)), some (.int (nI k)), some (.int (nI nn)), some (.int (nI i)), some (.int (nI j)), none] ∧ (exs [100, 101] m mq) ∧ (flI (m 100) k (mq 100) (mq 101) nn) ∧ (flC besV (m 100) (mq 100) (mq 101) i) ∧ (i < nn) ∧ (mq 101 i = nI a) ∧ (flP (besV a) (m 100) (mq 100) j)) (fun j hj lsq mj hI32 ih32 => ?_) (fun lsq mj hI32 => ?_) 0 (Nat.zero_le _) _ _ (⟨n, rfl, hx, hI, hC, by omega, hea, fun s hs => absurd hs (Nat.not_lt_zero _)⟩)
      ·
        obtain ⟨nn, rfl, hxj, hIj, hCj, hin, hej, hPj⟩ := hI32
        refine J_iload (pc := 32) dX0_follow_32 rfl ?_
        refine J_iconst (pc := 34) dX0_follow_34 kni_4 ?_
        refine Jn_ge (pc := 35) (tgt := 99) dX0_follow_35 (by decide) (by omega) (by omega) (fun h35 => absurd h35 (by omega)) (fun h35 => ?_)
        refine J_aload_n (pc := 38) dX0_follow_38 rfl ?_
        refine K_getR (pc := 39) dX0_follow_39 kf_X0_28 job_95 jrf_95_5 ?_
        have hn48j : nn ≤ 48 := by rw [hIj.2.1]; exact cnt_le _ 48
        refine J_iload_n (pc := 42) dX0_follow_42 rfl ?_
        refine K_ialdn (pc := 43) (id := 101) dX0_follow_43 jar_101 (by omega) (by decide) ?_
        refine J_top (b := nI a) (hej) ?_
        refine J_iload (pc := 44) dX0_follow_44 rfl ?_
        refine K_callSp (pc := 46) (As := [_, _]) dX0_follow_46 kl_X0_79 rfl rfl (Nat.le_of_ble_eq_true rfl) (c_beside (m := mj) ha hj) ?_
        refine J_istore (pc := 49) (ls' := [some _, some _, some _, some _, some _, some _]) dX0_follow_49 rfl (Nat.le_of_ble_eq_true rfl) rfl ?_
        refine J_iload (pc := 51) dX0_follow_51 rfl ?_
        refine J_ldc (pc := 53) dX0_follow_53 kc_X0_38 ?_
        refine J_icmp_eq (pc := 55) (tgt := 93) dX0_follow_55 (by decide) (fun h55 => ?_) (fun h55 => ?_)
        · 
          refine Jn_iinc (pc := 93) (ls' := [some _, some _, some _, some _, some _, some _]) dX0_follow_93 rfl knz_1 rfl rfl ?_
          refine J_goto (pc := 96) (tgt := 32) dX0_follow_96 (by decide) ?_
          refine J_wk' (ih32 [some (.ref (jxb x + 95)), some (.int (nI k)), some (.int (nI nn)), some (.int (nI i)), some (.int (nI (j + 1))), none] _ ⟨nn, rfl, hxj, hIj, hCj, hin, hej, flP_s hPj (fun b hb e _ => absurd (e.symm.trans h55) (nI_NONE hb))⟩) rfl ?_
          · rintro (_ | _ | _ | _ | _ | _ | _ | _ | _ | _ | k) v hv <;> first | exact hv | cases hv
        · 
          obtain ⟨b, hb48, hb⟩ := (bes_b ha hj).resolve_left h55
          refine J_aload_n (pc := 58) dX0_follow_58 rfl ?_
          refine K_getR (pc := 59) dX0_follow_59 kf_X0_24 job_95 jrf_95_4 ?_
          refine J_iload (pc := 62) dX0_follow_62 rfl ?_
          refine J_top (b := nI b) (hb) ?_
          refine K_zaldn (pc := 64) (id := 100) dX0_follow_64 jar_100 (by omega) (by decide) ?_
          refine J_if_eq (pc := 65) (tgt := 93) dX0_follow_65 (by decide) (fun h65 => ?_) (fun h65 => ?_)
          · 
            refine Jn_iinc (pc := 93) (ls' := [some _, some _, some _, some _, some _, some _]) dX0_follow_93 rfl knz_1 rfl rfl ?_
            refine J_goto (pc := 96) (tgt := 32) dX0_follow_96 (by decide) ?_
            refine J_wk' (ih32 [some (.ref (jxb x + 95)), some (.int (nI k)), some (.int (nI nn)), some (.int (nI i)), some (.int (nI (j + 1))), none] _ ⟨nn, rfl, hxj, hIj, hCj, hin, hej, flP_s hPj (fun c hc e _ => by rw [(nI_eq (by omega) (by omega)).mp (e.symm.trans hb)]; exact h65)⟩) rfl ?_
            · rintro (_ | _ | _ | _ | _ | _ | _ | _ | _ | _ | k) v hv <;> first | exact hv | cases hv
          · 
            have hput := flI_put hIj hb48 h65 hrb ⟨j, hj, hb⟩
            have hnn := hput.1
            refine J_iload_n (pc := 68) dX0_follow_68 rfl ?_
            refine J_bipush (pc := 69) dX0_follow_69 knb_48 ?_
            refine Jn_ge (pc := 71) (tgt := 93) dX0_follow_71 (by decide) (by omega) (by omega) (fun h71 => absurd h71 (by omega)) (fun h71 => ?_)
            refine J_aload_n (pc := 74) dX0_follow_74 rfl ?_
            refine K_getR (pc := 75) dX0_follow_75 kf_X0_24 job_95 jrf_95_4 ?_
            refine J_iload (pc := 78) dX0_follow_78 rfl ?_
            refine J_top (b := nI b) (hb) ?_
            refine J_iconst (pc := 80) dX0_follow_80 kni_0 ?_
            refine K_zastn (pc := 81) (id := 100) (w := nI 0) dX0_follow_81 jar_100 (by omega) (by decide) rfl ?_
            refine J_aload_n (pc := 82) dX0_follow_82 rfl ?_
            refine K_getR (pc := 83) dX0_follow_83 kf_X0_28 job_95 jrf_95_5 ?_
            refine J_iload_n (pc := 86) dX0_follow_86 rfl ?_
            refine Jn_iinc (pc := 87) (ls' := [some _, some _, some _, some _, some _, some _]) dX0_follow_87 rfl knz_1 rfl rfl ?_
            refine J_iload (pc := 90) dX0_follow_90 rfl ?_
            refine J_top (b := nI b) (hb) ?_
            refine K_iastn (pc := 92) (id := 101) dX0_follow_92 jar_101 (by omega) (by decide) ?_
            refine Jn_iinc (pc := 93) (ls' := [some _, some _, some _, some _, some _, some _]) dX0_follow_93 rfl knz_1 rfl rfl ?_
            refine J_goto (pc := 96) (tgt := 32) dX0_follow_96 (by decide) ?_
            have e100 : (mup (mup mj 100 b (nI 0)) 101 nn (nI b)) 100 = fset (mj 100) b 0 := (mup_i' (by decide)).trans mup_row
            have e101 : (mup (mup mj 100 b (nI 0)) 101 nn (nI b)) 101 = fset (mj 101) nn (nI b) := by rw [mup_row, mup_i' (by decide)]
            refine J_wk' (ih32 [some (.ref (jxb x + 95)), some (.int (nI k)), some (.int (nI (nn + 1))), some (.int (nI i)), some (.int (nI (j + 1))), none] _ ⟨nn + 1, rfl, exs_up (exs_up hxj (by decide)) (by decide), by rw [e100, e101]; exact hput.2, by rw [e100, e101]; exact flC_up hCj (by omega), by omega, by rw [e101, fset_n (by omega)]; exact hej, by rw [e100]; exact flP_s (flP_up hPj) (fun c hc e _ => by rw [(nI_eq (by omega) (by omega)).mp (e.symm.trans hb)]; exact fset_s)⟩) rfl ?_
            · rintro (_ | _ | _ | _ | _ | _ | _ | _ | _ | _ | k) v hv <;> first | exact hv | cases hv
      ·
        obtain ⟨nn, rfl, hxj, hIj, hCj, hin, hej, hPj⟩ := hI32
        refine J_iload (pc := 32) dX0_follow_32 rfl ?_
        refine J_iconst (pc := 34) dX0_follow_34 kni_4 ?_
        refine Jn_ge (pc := 35) (tgt := 99) dX0_follow_35 (by decide) (by omega) (by omega) (fun h35 => ?_) (fun h35 => absurd h35 (by omega))
        refine Jn_iinc (pc := 99) (ls' := [some _, some _, some _, some _, some _, none]) dX0_follow_99 rfl knz_1 rfl rfl ?_
        refine J_goto (pc := 102) (tgt := 18) dX0_follow_102 (by decide) ?_
        refine J_wk' (ih18 [some (.ref (jxb x + 95)), some (.int (nI k)), some (.int (nI nn)), some (.int (nI (i + 1))), none, none] _ ⟨nn, rfl, hxj, hIj, flC_s hCj hej ha hPj⟩) rfl ?_
        · rintro (_ | _ | _ | _ | _ | _ | _ | _ | _ | _ | k) v hv <;> first | exact hv | cases hv
  ·
    obtain ⟨n, rfl, hx, hI, hC⟩ := hI18
    have hn48 : n ≤ 48 := by rw [hI.2.1]; exact cnt_le _ 48
    refine J_iload_n (pc := 18) dX0_follow_18 rfl ?_
    refine J_iload_n (pc := 19) dX0_follow_19 rfl ?_
    refine Jn_ge (pc := 20) (tgt := 105) dX0_follow_20 (by decide) (by omega) (by omega) (fun h20 => ?_) (fun h20 => ?_)
    · 
      refine J_iload_n (pc := 105) dX0_follow_105 rfl ?_
      refine K_iret (pc := 106) dX0_follow_106 rfl ⟨_, rfl, ?_⟩
      have hn48 : n ≤ 48 := by rw [hI.2.1]; exact cnt_le _ 48
      have hCn : flC besV (m 100) (mm 100) (mm 101) n := fun j hj => hC j (by omega)
      obtain ⟨q1, q2⟩ := fl_end hI hCn (fun a b ha hab hb => hab) hk
      exact ⟨by rw [q1], hx, q2⟩
    · 
      refine J_iload_n (pc := 23) dX0_follow_23 rfl ?_
      refine J_bipush (pc := 24) dX0_follow_24 knb_48 ?_
      refine Jn_ge (pc := 26) (tgt := 105) dX0_follow_26 (by decide) (by omega) (by omega) (fun h26 => ?_) (fun h26 => absurd h26 (by omega))
      refine J_iload_n (pc := 105) dX0_follow_105 rfl ?_
      refine K_iret (pc := 106) dX0_follow_106 rfl ⟨_, rfl, ?_⟩
      have hn48 : n ≤ 48 := by rw [hI.2.1]; exact cnt_le _ 48
      have hCn : flC besV (m 100) (mm 100) (mm 101) n := fun j hj => hC j (by omega)
      obtain ⟨q1, q2⟩ := fl_end hI hCn (fun a b ha hab hb => hab) hk
      exact ⟨by rw [q1], hx, q2⟩
