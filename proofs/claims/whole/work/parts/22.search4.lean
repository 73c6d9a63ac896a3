/-- what is left of a row's digits after t turns -/
def lf (r : Nat) : Nat → Nat
  | 0 => r
  | t + 1 => lf r t / 10
/-- the loop's way down -/
def iL (G : Nat) : Nat → Int32
  | 0 => nI (nG G - 1)
  | t + 1 => iL G t + Int32.ofInt (-1)
def ptM (m : jm) (G r : Nat) : Nat → jm
  | 0 => m
  | t + 1 => mup (ptM m G r t) 114 (chG G (nG G - 1 - t)) (nI (lf r t % 10))
theorem lf_le (r : Nat) : ∀ t, lf r t ≤ r
  | 0 => Nat.le_refl _
  | t + 1 => Nat.le_trans (Nat.div_le_self _ _) (lf_le r t)
theorem nI_dec {k : Nat} (h : 1 ≤ k) (h2 : k < 2 ^ 31) : nI k + Int32.ofInt (-1) = nI (k - 1) := by
  apply Int32.toInt_inj.mp
  have e1 : (Int32.ofInt (-1)).toInt = -1 := by decide
  rw [Int32.toInt_add, nI_toInt h2, nI_toInt (by omega), e1]
  rw [Int.bmod_eq_of_le (by omega) (by omega)]
  omega
theorem iL_lt {G : Nat} : ∀ t, t < nG G → iL G t = nI (nG G - 1 - t)
  | 0, _ => rfl
  | t + 1, h => by
    have h3 := nG_3 G
    rw [iL, iL_lt t (by omega), nI_dec (by omega) (by omega)]
    exact congrArg nI (by omega)
theorem iL_n (G : Nat) : iL G (nG G) = -1 := by
  have h3 := nG_3 G
  obtain ⟨k, hk⟩ : ∃ k, nG G = k + 1 := ⟨nG G - 1, by omega⟩
  rw [hk, iL, iL_lt k (by omega), show nG G - 1 - k = 0 by omega]
  decide
theorem ptM_i {m : jm} {G r i : Nat} (h : i ≠ 114) : ∀ t, ptM m G r t i = m i
  | 0 => rfl
  | t + 1 => (mup_i' h).trans (ptM_i h t)
def lookM (m : jm) (G P r : Nat) : jm := mfill (settleM (ptM m G r (nG G)) 103 P) 118 48 (lightS (settleM (ptM m G r (nG G)) 103 P) 103)
set_option maxRecDepth 100000 in
set_option maxHeartbeats 400000 in
theorem c_puts {x : jX} {m : jm} {d : Nat} {r G P : Nat} (hr : r < 1000) (hc : chosenG m G) (hok : okG G) (hw : wfPt m 103) (hat : wfAt m 103) (hP : m 103 0 = nI P) (h48 : P ≤ 48) : Ct x (d + 4) eX3_puts [.ref (jxb x + 102), .int (nI r)] m (ji fun v m' => (v = nI 0 ∧ ∃ t, t < nG G ∧ ¬ m 124 ((nG G - 1 - t) * 10 + lf r t % 10) = 0 ∧ m' = ptM m G r t) ∨ (v = nI 1 ∧ m' = lookM m G P r)) := by
  refine J_start (by decide +kernel) (Nat.le_of_ble_eq_true rfl) (ls := [some (.ref (jxb x + 102)), some (.int (nI r)), none, none, none]) rfl rfl ?_
  refine J_iload_n (pc := 0) dX3_puts_0 rfl ?_
  refine J_istore_n (pc := 1) (ls' := [some _, some _, some _, none, none]) dX3_puts_1 rfl (Nat.le_of_ble_eq_true rfl) rfl ?_
  refine J_aload_n (pc := 2) dX3_puts_2 rfl ?_
  refine K_getI (pc := 3) dX3_puts_3 kf_X3_29 job_102 jrf_102_3 ?_
  refine J_top (b := nI (nG G)) (hc.1) ?_
  refine J_iconst (pc := 6) dX3_puts_6 kni_1 ?_
  refine J_isubv (pc := 7) dX3_puts_7 (pk_sub (by have := nG_3 G; omega)) ?_
  refine J_istore_n (pc := 8) (ls' := [some _, some _, some _, some _, none]) dX3_puts_8 rfl (Nat.le_of_ble_eq_true rfl) rfl ?_
  refine K_for' (pc := 9) (nG G) (fun t => [some (.ref (jxb x + 102)), some (.int (nI r)), some (.int (nI (lf r t))), some (.int ((iL G t))), none]) (fun t => (ptM m G r t)) (by rfl) (by rfl) (fun t ht ih9 => ?_) ?_
  ·
    show K x _ _ 9 [some (.ref (jxb x + 102)), some (.int (nI r)), some (.int (nI (lf r t))), some (.int ((iL G t))), none] _ ((ptM m G r t)) _
    have hG3 := nG_3 G
    have hlf := lf_le r t
    refine J_iload_n (pc := 9) dX3_puts_9 rfl ?_
    refine J_top (b := nI (nG G - 1 - t)) (iL_lt t ht) ?_
    refine Jn_if_lt (pc := 10) (tgt := 63) dX3_puts_10 (by decide) (by omega) ?_
    refine J_iload_n (pc := 13) dX3_puts_13 rfl ?_
    refine J_bipush (pc := 14) dX3_puts_14 knb_10 ?_
    refine J_irem (pc := 16) (v := nI ((lf r t) % 10)) dX3_puts_16 (by decide) (pk_rem (by omega) (by omega) (by omega)) ?_
    refine J_istore (pc := 17) (ls' := [some _, some _, some _, some _, some _]) dX3_puts_17 rfl (Nat.le_of_ble_eq_true rfl) rfl ?_
    refine J_aload_n (pc := 19) dX3_puts_19 rfl ?_
    refine K_getR (pc := 20) dX3_puts_20 kf_X3_33 job_102 jrf_102_4 ?_
    refine J_iload_n (pc := 23) dX3_puts_23 rfl ?_
    refine J_top (b := nI (nG G - 1 - t)) (iL_lt t ht) ?_
    refine J_bipush (pc := 24) dX3_puts_24 knb_10 ?_
    refine J_imulv (pc := 26) dX3_puts_26 (pk_mul _ _) ?_
    refine J_iload (pc := 27) dX3_puts_27 rfl ?_
    refine J_iaddv (pc := 29) dX3_puts_29 (nI_add _ _) ?_
    refine K_zaldn (pc := 30) (id := 124) dX3_puts_30 jar_124 (by omega) (by decide) ?_
    refine J_if_eq (pc := 31) (tgt := 36) dX3_puts_31 (by decide) (fun h31 => ?_) (fun h31 => ?_)
    · 
      refine J_aload_n (pc := 36) dX3_puts_36 rfl ?_
      refine K_getR (pc := 37) dX3_puts_37 kf_X3_14 job_102 jrf_102_0 ?_
      refine K_getR (pc := 40) dX3_puts_40 kf_X3_83 job_103 jrf_103_11 ?_
      refine J_aload_n (pc := 43) dX3_puts_43 rfl ?_
      refine K_getR (pc := 44) dX3_puts_44 kf_X3_25 job_102 jrf_102_2 ?_
      refine J_iload_n (pc := 47) dX3_puts_47 rfl ?_
      refine J_top (b := nI (nG G - 1 - t)) (iL_lt t ht) ?_
      refine K_ialdn (pc := 48) (id := 123) dX3_puts_48 jar_123 (by omega) (by decide) ?_
      refine J_top (b := nI (chG G (nG G - 1 - t))) (by rw [ptM_i (by decide)]; exact hc.2 _ (by omega)) ?_
      refine J_iload (pc := 49) dX3_puts_49 rfl ?_
      refine K_iastn (pc := 51) (id := 114) dX3_puts_51 jar_114 (chG_6 hok (by omega)) (by decide) ?_
      refine J_iload_n (pc := 52) dX3_puts_52 rfl ?_
      refine J_bipush (pc := 53) dX3_puts_53 knb_10 ?_
      refine J_idiv (pc := 55) (v := nI ((lf r t) / 10)) dX3_puts_55 (by decide) (pk_div (by omega) (by omega) (by omega)) ?_
      refine J_istore_n (pc := 56) (ls' := [some _, some _, some _, some _, some _]) dX3_puts_56 rfl (Nat.le_of_ble_eq_true rfl) rfl ?_
      refine J_iinc (pc := 57) (v := _) (ls' := [some _, some _, some _, some _, some _]) dX3_puts_57 rfl rfl rfl rfl ?_
      refine J_goto (pc := 60) (tgt := 9) dX3_puts_60 (by decide) ?_
      refine J_wk' ih9 rfl ?_
      rintro (_ | _ | _ | _ | _ | _ | _ | _ | _ | _ | k) v hv <;> first | exact hv | cases hv
    · 
      refine J_iconst (pc := 34) dX3_puts_34 kni_0 ?_
      refine K_zret (pc := 35) dX3_puts_35 rfl rfl ⟨_, rfl, ?_⟩
      exact Or.inl ⟨rfl, t, ht, by rw [← ptM_i (m := m) (G := G) (r := r) (i := 124) (by decide) t]; exact h31, rfl⟩
  ·
    show K x _ _ 9 [some (.ref (jxb x + 102)), some (.int (nI r)), some (.int (nI (lf r (nG G)))), some (.int ((iL G (nG G)))), none] _ ((ptM m G r ((nG G)))) _
    refine J_iload_n (pc := 9) dX3_puts_9 rfl ?_
    refine J_top (b := -1) (iL_n G) ?_
    refine J_if_lt (pc := 10) (tgt := 63) dX3_puts_10 (by decide) (fun h10 => ?_) (fun h10 => absurd (by decide) h10)
    refine J_aload_n (pc := 63) dX3_puts_63 rfl ?_
    refine K_getR (pc := 64) dX3_puts_64 kf_X3_14 job_102 jrf_102_0 ?_
    refine K_callVi (pc := 67) (id := 103) (As := []) dX3_puts_67 kl_X3_86 rfl job_103 rfl rfl (Nat.le_of_ble_eq_true rfl) (c_settle (m := (ptM m G r (nG G))) (P := P) (Or.inr (Or.inr (Or.inr rfl))) (wfPt_c (ptM_i (by decide) _) (ptM_i (by decide) _) hw) (by rw [ptM_i (by decide)]; exact hP) h48) (fun v67 m67 h67 => ?_)
    obtain ⟨rfl, rfl⟩ := h67
    refine J_pop (pc := 70) dX3_puts_70 rfl ?_
    refine J_aload_n (pc := 71) dX3_puts_71 rfl ?_
    refine K_getR (pc := 72) dX3_puts_72 kf_X3_21 job_102 jrf_102_1 ?_
    refine J_aload_n (pc := 75) dX3_puts_75 rfl ?_
    refine K_getR (pc := 76) dX3_puts_76 kf_X3_14 job_102 jrf_102_0 ?_
    refine K_callVv (pc := 79) (id := 116) (As := [_]) dX3_puts_79 kl_X3_89 rfl job_116 rfl rfl (Nat.le_of_ble_eq_true rfl) (c_look (m := (settleM (ptM m G r (nG G)) 103 P)) (e := 116) (o := 103) (Or.inr rfl) (Or.inr (Or.inr (Or.inr rfl))) (fun q hq => by rw [show (settleM (ptM m G r (nG G)) 103 P) (103 + 7) q = m 110 q from (mfill_i (by decide)).trans (congrFun (ptM_i (by decide) _) q)]; exact hat q hq)) (fun m79 h79 => ?_)
    subst h79
    refine J_iconst (pc := 82) dX3_puts_82 kni_1 ?_
    refine K_zret (pc := 83) dX3_puts_83 rfl rfl ⟨_, rfl, ?_⟩
    exact Or.inr ⟨rfl, rfl⟩
