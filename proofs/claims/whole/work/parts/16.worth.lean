theorem jdec {k : Nat} (h : 1 ≤ k) : nI k + Int32.ofInt (-1) = nI (k - 1) := by
  obtain ⟨j, rfl⟩ : ∃ j, k = j + 1 := ⟨k - 1, by omega⟩
  exact pk_m1 j
def stkR (L : List Int32) (k : Nat) (f : Nat → Int32) : Prop := k = L.length ∧ ∀ j, j < k → L[k - 1 - j]? = some (f j)
theorem stk_push {L : List Int32} {k : Nat} {mm : jm} {c : Nat} (h : stkR L k (mm c)) (v : Int32) : stkR (v :: L) (k + 1) (mup mm c k v c) := by
  refine ⟨by rw [List.length_cons, ← h.1], fun j hj => ?_⟩
  by_cases e : j = k
  · subst e
    rw [mup_s, show j + 1 - 1 - j = 0 by omega]
    rfl
  · rw [mup_j e, show k + 1 - 1 - j = (k - 1 - j) + 1 by omega, List.getElem?_cons_succ]
    exact h.2 j (by omega)
theorem stk_top {L : List Int32} {k : Nat} {f : Nat → Int32} {v : Int32} {t : List Int32} (h : stkR (v :: t) k f) : 1 ≤ k ∧ f (k - 1) = v ∧ stkR t (k - 1) f := by
  obtain ⟨h1, h2⟩ := h
  rw [List.length_cons] at h1
  have h3 := h2 (k - 1) (by omega)
  rw [show k - 1 - (k - 1) = 0 by omega] at h3
  refine ⟨by omega, (Option.some.inj h3).symm, by omega, fun j hj => ?_⟩
  have h4 := h2 j (by omega)
  rw [show k - 1 - j = (k - 1 - 1 - j) + 1 by omega, List.getElem?_cons_succ] at h4
  exact h4
theorem stk_f {L : List Int32} {k : Nat} {f g : Nat → Int32} (h : stkR L k f) (hf : ∀ j, j < k → g j = f j) : stkR L k g := ⟨h.1, fun j hj => by rw [hf j hj]; exact h.2 j hj⟩
theorem wrun_push {a b c d : Int32} {code : Nat → Int32} {i : Nat} (h : ¬ code i < 0) : wrun a b c d code (i + 1) = code i :: wrun a b c d code i := by
  rw [wrun]; unfold wstep; rw [if_pos (Int32.not_lt.mp h)]
theorem wrun_name {a b c d v : Int32} {code : Nat → Int32} {i : Nat} (h : code i < 0) (h4 : ¬ code i < -4) (hv : nmV (code i) a b c d = v) : wrun a b c d code (i + 1) = v :: wrun a b c d code i := by
  rw [wrun]; unfold wstep; rw [if_neg (Int32.not_le.mpr h), if_pos (Int32.not_lt.mp h4), hv]
theorem wrun_not {a b c d v : Int32} {code : Nat → Int32} {i : Nat} {t : List Int32} (h : code i = -33) (hl : wrun a b c d code i = v :: t) : wrun a b c d code (i + 1) = jb (v = 0) :: t := by
  rw [wrun]; unfold wstep; rw [if_neg (by rw [h]; decide), if_neg (by rw [h]; decide), if_pos h, hl]
theorem wrun_bin {a b c d u v : Int32} {code : Nat → Int32} {i : Nat} {t : List Int32} (h0 : code i < 0) (h4 : code i < -4) (h : ¬ code i = -33) (hl : wrun a b c d code i = v :: u :: t) : wrun a b c d code (i + 1) = joinedV (-(code i)) u v :: t := by
  rw [wrun]; unfold wstep; rw [if_neg (Int32.not_le.mpr h0), if_neg (Int32.not_le.mpr h4), if_neg h, hl]
set_option maxRecDepth 100000 in
set_option maxHeartbeats 400000 in
theorem c_worth {x : jX} {m : jm} {d : Nat} {t n : Nat} (ht : t < 14) (hn : m 78 t = nI n) (hn96 : n ≤ 96) (hwf : wfC (m (80 + t)) n) (a b c dd : Int32) : Ct x (d + 1) eX6_worth [.ref (jxb x + 74), .int (nI t), .int a, .int b, .int c, .int dd] m (ji fun v m' => v = worthV (m (80 + t)) n a b c dd ∧ exs [94] m m') := by
  refine J_start (by decide +kernel) (Nat.le_of_ble_eq_true rfl) (ls := [some (.ref (jxb x + 74)), some (.int (nI t)), some (.int a), some (.int b), some (.int c), some (.int dd), none, none, none]) rfl rfl ?_
  refine J_iconst (pc := 0) dX6_worth_0 kni_0 ?_
  refine J_istore (pc := 1) (ls' := [some _, some _, some _, some _, some _, some _, some _, none, none]) dX6_worth_1 rfl (Nat.le_of_ble_eq_true rfl) rfl ?_
  refine J_iconst (pc := 3) dX6_worth_3 kni_0 ?_
  refine J_istore (pc := 4) (ls' := [some _, some _, some _, some _, some _, some _, some _, some _, none]) dX6_worth_4 rfl (Nat.le_of_ble_eq_true rfl) rfl ?_
  refine J_wk (ls' := [some _, some _, some _, some _, some _, some _, some _, some _, none]) rfl (by rintro (_ | _ | _ | _ | _ | _ | _ | _ | _ | k) v hv <;> first | exact hv | cases hv) ?_
  refine K_inv (pc := 6) n (fun i lsq mq => ∃ (k : Nat), lsq = [some (.ref (jxb x + 74)), some (.int (nI t)), some (.int a), some (.int b), some (.int c), some (.int dd), some (.int (nI k)), some (.int (nI i)), none] ∧ (stkR (wrun a b c dd (m (80 + t)) i) k (mq 94)) ∧ (exs [94] m mq)) (fun i hi lsq mm hI6 ih6 => ?_) (fun lsq mm hI6 => ?_) 0 (Nat.zero_le _) _ _ (⟨0, rfl, ⟨rfl, fun j hj => absurd hj (Nat.not_lt_zero _)⟩, exs_rf _ _⟩)
  ·
    obtain ⟨k, rfl, hst, hex⟩ := hI6
    have hd := wrun_len hwf.1 a b c dd i (by omega)
    have hdl := dep_le (m (80 + t)) i
    have hki : k ≤ i := by rw [hst.1, hd]; exact hdl
    have hcode := hex (80 + t) (by simp; omega)
    refine J_iload (pc := 6) dX6_worth_6 rfl ?_
    refine J_aload_n (pc := 8) dX6_worth_8 rfl ?_
    refine K_getR (pc := 9) dX6_worth_9 kf_X6_21 job_74 jrf_74_3 ?_
    refine J_iload_n (pc := 12) dX6_worth_12 rfl ?_
    refine K_ialdn (pc := 13) (id := 78) dX6_worth_13 jar_78 (by omega) (by decide) ?_
    refine J_top (b := nI n) (by rw [hex 78 (by decide)]; exact hn) ?_
    refine Jn_ge (pc := 14) (tgt := 190) dX6_worth_14 (by decide) (by omega) (by omega) (fun h14 => absurd h14 (by omega)) (fun h14 => ?_)
    refine J_aload_n (pc := 17) dX6_worth_17 rfl ?_
    refine K_getR (pc := 18) dX6_worth_18 kf_X6_26 job_74 jrf_74_4 ?_
    refine J_iload_n (pc := 21) dX6_worth_21 rfl ?_
    refine K_aaldn (pc := 22) (t := 80 + t) dX6_worth_22 job_79 (by omega) (by decide) (jgr_code (by omega)) ?_
    refine J_iload (pc := 23) dX6_worth_23 rfl ?_
    refine K_ialdn (pc := 25) (id := (80 + t)) dX6_worth_25 (jar_code (j := t) (by omega)) (by omega) (by decide) ?_
    refine J_top (b := (m (80 + t) i)) (congrFun hcode i) ?_
    refine J_istore (pc := 26) (ls' := [some _, some _, some _, some _, some _, some _, some _, some _, some _]) dX6_worth_26 rfl (Nat.le_of_ble_eq_true rfl) rfl ?_
    refine J_iload (pc := 28) dX6_worth_28 rfl ?_
    refine J_if_lt (pc := 30) (tgt := 48) dX6_worth_30 (by decide) (fun h30 => ?_) (fun h30 => ?_)
    · 
      refine J_iload (pc := 48) dX6_worth_48 rfl ?_
      refine J_bipush (pc := 50) dX6_worth_50 knb_m4 ?_
      refine J_icmp_lt (pc := 52) (tgt := 103) dX6_worth_52 (by decide) (fun h52 => ?_) (fun h52 => ?_)
      · 
        refine J_iload (pc := 103) dX6_worth_103 rfl ?_
        refine J_bipush (pc := 105) dX6_worth_105 knb_m33 ?_
        refine J_icmp_ne (pc := 107) (tgt := 144) dX6_worth_107 (by decide) (fun h107 => ?_) (fun h107 => ?_)
        · 
          have hk2 : 2 ≤ k := by have q := hwf.1 i hi (Int32.not_le.mpr h52); rw [if_neg h107] at q; rw [← hd, ← hst.1] at q; exact q
          have u2x : ∃ u v t2, wrun a b c dd (m (80 + t)) i = u :: v :: t2 := by
            cases hl : wrun a b c dd (m (80 + t)) i with
            | nil => have q := hst.1; rw [hl] at q; simp at q; omega
            | cons u t2 =>
              cases t2 with
              | nil => have q := hst.1; rw [hl] at q; simp at q; omega
              | cons v t3 => exact ⟨u, v, t3, rfl⟩
          refine J_iload (pc := 144) dX6_worth_144 rfl ?_
          refine J_iconst (pc := 146) dX6_worth_146 kni_1 ?_
          refine Jn_le (pc := 147) (tgt := 184) dX6_worth_147 (by decide) (by omega) (by omega) (fun h147 => absurd h147 (by omega)) (fun h147 => ?_)
          refine J_iinc (pc := 150) (v := nI (k - 1)) (ls' := [some _, some _, some _, some _, some _, some _, some _, some _, some _]) dX6_worth_150 rfl (jdec (by omega)) rfl rfl ?_
          refine J_aload_n (pc := 153) dX6_worth_153 rfl ?_
          refine K_getR (pc := 154) dX6_worth_154 kf_X6_29 job_74 jrf_74_5 ?_
          refine J_iload (pc := 157) dX6_worth_157 rfl ?_
          refine J_iconst (pc := 159) dX6_worth_159 kni_1 ?_
          refine J_isubv (pc := 160) dX6_worth_160 (pk_sub (by omega)) ?_
          refine J_iload (pc := 161) dX6_worth_161 rfl ?_
          refine J_ineg (pc := 163) dX6_worth_163 ?_
          refine J_aload_n (pc := 164) dX6_worth_164 rfl ?_
          refine K_getR (pc := 165) dX6_worth_165 kf_X6_29 job_74 jrf_74_5 ?_
          refine J_iload (pc := 168) dX6_worth_168 rfl ?_
          refine J_iconst (pc := 170) dX6_worth_170 kni_1 ?_
          refine J_isubv (pc := 171) dX6_worth_171 (pk_sub (by omega)) ?_
          refine K_ialdn (pc := 172) (id := 94) dX6_worth_172 jar_94 (by omega) (by decide) ?_
          refine J_aload_n (pc := 173) dX6_worth_173 rfl ?_
          refine K_getR (pc := 174) dX6_worth_174 kf_X6_29 job_74 jrf_74_5 ?_
          refine J_iload (pc := 177) dX6_worth_177 rfl ?_
          refine K_ialdn (pc := 179) (id := 94) dX6_worth_179 jar_94 (by omega) (by decide) ?_
          refine K_callSp (pc := 180) (As := [_, _, _]) dX6_worth_180 kl_X6_58 rfl rfl (Nat.le_of_ble_eq_true rfl) (c_joined _ _ _) ?_
          refine K_iastn (pc := 183) (id := 94) dX6_worth_183 jar_94 (by omega) (by decide) ?_
          refine Jn_iinc (pc := 184) (ls' := [some _, some _, some _, some _, some _, some _, some _, some _, some _]) dX6_worth_184 rfl knz_1 rfl rfl ?_
          refine J_goto (pc := 187) (tgt := 6) dX6_worth_187 (by decide) ?_
          obtain ⟨u1, u2, t1, hl⟩ := u2x
          rw [hl] at hst
          obtain ⟨hk1, hv1, hs1⟩ := stk_top (L := t1) hst
          obtain ⟨hk2, hv2, hs2⟩ := stk_top (L := t1) hs1
          have ev := wrun_bin h30 h52 h107 hl
          refine J_wk' (ih6 [some (.ref (jxb x + 74)), some (.int (nI t)), some (.int a), some (.int b), some (.int c), some (.int dd), some (.int (nI (k - 1))), some (.int (nI (i + 1))), none] _ ⟨k - 1, rfl, ?_, exs_up hex (by decide)⟩) rfl ?_
          · rw [ev]
            have hs3 := stk_push (mm := mm) (c := 94) hs2 (joinedV (-(m (80 + t) i)) u2 u1)
            rw [show k - 1 - 1 + 1 = k - 1 by omega] at hs3
            rw [hv1, hv2]
            exact hs3
          · rintro (_ | _ | _ | _ | _ | _ | _ | _ | _ | _ | k) v hv <;> first | exact hv | cases hv
        · 
          have hk1 : 1 ≤ k := by have q := hwf.1 i hi (Int32.not_le.mpr h52); rw [if_pos h107] at q; rw [← hd, ← hst.1] at q; exact q
          have u1x : ∃ u t2, wrun a b c dd (m (80 + t)) i = u :: t2 := by
            cases hl : wrun a b c dd (m (80 + t)) i with
            | nil => have q := hst.1; rw [hl] at q; simp at q; omega
            | cons u t2 => exact ⟨u, t2, rfl⟩
          refine J_iload (pc := 110) dX6_worth_110 rfl ?_
          refine Jn_if_le (pc := 112) (tgt := 144) dX6_worth_112 (by decide) (by omega) (fun h112 => absurd h112 (by omega)) (fun h112 => ?_)
          refine J_aload_n (pc := 115) dX6_worth_115 rfl ?_
          refine K_getR (pc := 116) dX6_worth_116 kf_X6_29 job_74 jrf_74_5 ?_
          refine J_iload (pc := 119) dX6_worth_119 rfl ?_
          refine J_iconst (pc := 121) dX6_worth_121 kni_1 ?_
          refine J_isubv (pc := 122) dX6_worth_122 (pk_sub (by omega)) ?_
          refine J_aload_n (pc := 123) dX6_worth_123 rfl ?_
          refine K_getR (pc := 124) dX6_worth_124 kf_X6_29 job_74 jrf_74_5 ?_
          refine J_iload (pc := 127) dX6_worth_127 rfl ?_
          refine J_iconst (pc := 129) dX6_worth_129 kni_1 ?_
          refine J_isubv (pc := 130) dX6_worth_130 (pk_sub (by omega)) ?_
          refine K_ialdn (pc := 131) (id := 94) dX6_worth_131 jar_94 (by omega) (by decide) ?_
          refine K_merge (jc := 140) (ls' := [some (.ref (jxb x + 74)), some (.int (nI t)), some (.int a), some (.int b), some (.int c), some (.int dd), some (.int (nI k)), some (.int (nI i)), some (.int ((m (80 + t) i)))]) (st' := [.int (jb (mm 94 (k - 1) = 0)), .int (nI (k - 1)), .ref (jxb x + 94)]) (m' := mm) ?_ (fun hj140 => ?_)
          ·
            refine K_iastn (pc := 140) (id := 94) dX6_worth_140 jar_94 (by omega) (by decide) ?_
            refine J_goto (pc := 141) (tgt := 184) dX6_worth_141 (by decide) ?_
            refine Jn_iinc (pc := 184) (ls' := [some _, some _, some _, some _, some _, some _, some _, some _, some _]) dX6_worth_184 rfl knz_1 rfl rfl ?_
            refine J_goto (pc := 187) (tgt := 6) dX6_worth_187 (by decide) ?_
            obtain ⟨u1, t1, hl⟩ := u1x
            rw [hl] at hst
            obtain ⟨hk1, hv1, hs1⟩ := stk_top (L := t1) hst
            have ev := wrun_not h107 hl
            refine J_wk' (ih6 [some (.ref (jxb x + 74)), some (.int (nI t)), some (.int a), some (.int b), some (.int c), some (.int dd), some (.int (nI k)), some (.int (nI (i + 1))), none] _ ⟨k, rfl, ?_, exs_up hex (by decide)⟩) rfl ?_
            · rw [ev]
              have hs2 := stk_push (mm := mm) (c := 94) hs1 (jb (u1 = 0))
              rw [show k - 1 + 1 = k by omega] at hs2
              have hj : jb (mm 94 (k - 1) = 0) = jb (u1 = 0) := by rw [hv1]
              rw [hj]
              exact hs2
            · rintro (_ | _ | _ | _ | _ | _ | _ | _ | _ | _ | k) v hv <;> first | exact hv | cases hv
          ·
            refine J_if_ne (pc := 132) (tgt := 139) dX6_worth_132 (by decide) (fun h132 => ?_) (fun h132 => ?_)
            · 
              refine J_iconst (pc := 139) dX6_worth_139 kni_0 ?_
              have e140 : jb (mm 94 (k - 1) = 0) = nI 0 := if_neg h132
              rw [e140] at hj140
              exact hj140
            · 
              refine J_iconst (pc := 135) dX6_worth_135 kni_1 ?_
              refine J_goto (pc := 136) (tgt := 140) dX6_worth_136 (by decide) ?_
              have e140 : jb (mm 94 (k - 1) = 0) = nI 1 := if_pos h132
              rw [e140] at hj140
              exact hj140
      · 
        refine J_aload_n (pc := 55) dX6_worth_55 rfl ?_
        refine K_getR (pc := 56) dX6_worth_56 kf_X6_29 job_74 jrf_74_5 ?_
        refine J_iload (pc := 59) dX6_worth_59 rfl ?_
        refine Jn_iinc (pc := 61) (ls' := [some _, some _, some _, some _, some _, some _, some _, some _, some _]) dX6_worth_61 rfl knz_1 rfl rfl ?_
        refine J_iload (pc := 64) dX6_worth_64 rfl ?_
        refine J_iconst (pc := 66) dX6_worth_66 kni_m1 ?_
        refine J_icmp_ne (pc := 67) (tgt := 74) dX6_worth_67 (by decide) (fun h67 => ?_) (fun h67 => ?_)
        · 
          refine J_iload (pc := 74) dX6_worth_74 rfl ?_
          refine J_bipush (pc := 76) dX6_worth_76 knb_m2 ?_
          refine J_icmp_ne (pc := 78) (tgt := 85) dX6_worth_78 (by decide) (fun h78 => ?_) (fun h78 => ?_)
          · 
            refine J_iload (pc := 85) dX6_worth_85 rfl ?_
            refine J_bipush (pc := 87) dX6_worth_87 knb_m3 ?_
            refine J_icmp_ne (pc := 89) (tgt := 97) dX6_worth_89 (by decide) (fun h89 => ?_) (fun h89 => ?_)
            · 
              refine J_iload (pc := 97) dX6_worth_97 rfl ?_
              refine K_iastn (pc := 99) (id := 94) dX6_worth_99 jar_94 (by omega) (by decide) ?_
              refine J_goto (pc := 100) (tgt := 184) dX6_worth_100 (by decide) ?_
              refine Jn_iinc (pc := 184) (ls' := [some _, some _, some _, some _, some _, some _, some _, some _, some _]) dX6_worth_184 rfl knz_1 rfl rfl ?_
              refine J_goto (pc := 187) (tgt := 6) dX6_worth_187 (by decide) ?_
              have ev := wrun_name h30 h52 (show nmV (m (80 + t) i) a b c dd = _ from (if_neg h67).trans ((if_neg h78).trans (if_neg h89)))
              refine J_wk' (ih6 [some (.ref (jxb x + 74)), some (.int (nI t)), some (.int a), some (.int b), some (.int c), some (.int dd), some (.int (nI (k + 1))), some (.int (nI (i + 1))), none] _ ⟨k + 1, rfl, by rw [ev]; exact stk_push hst _, exs_up hex (by decide)⟩) rfl ?_
              rintro (_ | _ | _ | _ | _ | _ | _ | _ | _ | _ | k) v hv <;> first | exact hv | cases hv
            · 
              refine J_iload (pc := 92) dX6_worth_92 rfl ?_
              refine J_goto (pc := 94) (tgt := 99) dX6_worth_94 (by decide) ?_
              refine K_iastn (pc := 99) (id := 94) dX6_worth_99 jar_94 (by omega) (by decide) ?_
              refine J_goto (pc := 100) (tgt := 184) dX6_worth_100 (by decide) ?_
              refine Jn_iinc (pc := 184) (ls' := [some _, some _, some _, some _, some _, some _, some _, some _, some _]) dX6_worth_184 rfl knz_1 rfl rfl ?_
              refine J_goto (pc := 187) (tgt := 6) dX6_worth_187 (by decide) ?_
              have ev := wrun_name h30 h52 (show nmV (m (80 + t) i) a b c dd = _ from (if_neg h67).trans ((if_neg h78).trans (if_pos h89)))
              refine J_wk' (ih6 [some (.ref (jxb x + 74)), some (.int (nI t)), some (.int a), some (.int b), some (.int c), some (.int dd), some (.int (nI (k + 1))), some (.int (nI (i + 1))), none] _ ⟨k + 1, rfl, by rw [ev]; exact stk_push hst _, exs_up hex (by decide)⟩) rfl ?_
              rintro (_ | _ | _ | _ | _ | _ | _ | _ | _ | _ | k) v hv <;> first | exact hv | cases hv
          · 
            refine J_iload_n (pc := 81) dX6_worth_81 rfl ?_
            refine J_goto (pc := 82) (tgt := 99) dX6_worth_82 (by decide) ?_
            refine K_iastn (pc := 99) (id := 94) dX6_worth_99 jar_94 (by omega) (by decide) ?_
            refine J_goto (pc := 100) (tgt := 184) dX6_worth_100 (by decide) ?_
            refine Jn_iinc (pc := 184) (ls' := [some _, some _, some _, some _, some _, some _, some _, some _, some _]) dX6_worth_184 rfl knz_1 rfl rfl ?_
            refine J_goto (pc := 187) (tgt := 6) dX6_worth_187 (by decide) ?_
            have ev := wrun_name h30 h52 (show nmV (m (80 + t) i) a b c dd = _ from (if_neg h67).trans (if_pos h78))
            refine J_wk' (ih6 [some (.ref (jxb x + 74)), some (.int (nI t)), some (.int a), some (.int b), some (.int c), some (.int dd), some (.int (nI (k + 1))), some (.int (nI (i + 1))), none] _ ⟨k + 1, rfl, by rw [ev]; exact stk_push hst _, exs_up hex (by decide)⟩) rfl ?_
            rintro (_ | _ | _ | _ | _ | _ | _ | _ | _ | _ | k) v hv <;> first | exact hv | cases hv
        · 
          refine J_iload_n (pc := 70) dX6_worth_70 rfl ?_
          refine J_goto (pc := 71) (tgt := 99) dX6_worth_71 (by decide) ?_
          refine K_iastn (pc := 99) (id := 94) dX6_worth_99 jar_94 (by omega) (by decide) ?_
          refine J_goto (pc := 100) (tgt := 184) dX6_worth_100 (by decide) ?_
          refine Jn_iinc (pc := 184) (ls' := [some _, some _, some _, some _, some _, some _, some _, some _, some _]) dX6_worth_184 rfl knz_1 rfl rfl ?_
          refine J_goto (pc := 187) (tgt := 6) dX6_worth_187 (by decide) ?_
          have ev := wrun_name h30 h52 (show nmV (m (80 + t) i) a b c dd = _ from if_pos h67)
          refine J_wk' (ih6 [some (.ref (jxb x + 74)), some (.int (nI t)), some (.int a), some (.int b), some (.int c), some (.int dd), some (.int (nI (k + 1))), some (.int (nI (i + 1))), none] _ ⟨k + 1, rfl, by rw [ev]; exact stk_push hst _, exs_up hex (by decide)⟩) rfl ?_
          rintro (_ | _ | _ | _ | _ | _ | _ | _ | _ | _ | k) v hv <;> first | exact hv | cases hv
    · 
      refine J_aload_n (pc := 33) dX6_worth_33 rfl ?_
      refine K_getR (pc := 34) dX6_worth_34 kf_X6_29 job_74 jrf_74_5 ?_
      refine J_iload (pc := 37) dX6_worth_37 rfl ?_
      refine Jn_iinc (pc := 39) (ls' := [some _, some _, some _, some _, some _, some _, some _, some _, some _]) dX6_worth_39 rfl knz_1 rfl rfl ?_
      refine J_iload (pc := 42) dX6_worth_42 rfl ?_
      refine K_iastn (pc := 44) (id := 94) dX6_worth_44 jar_94 (by omega) (by decide) ?_
      refine J_goto (pc := 45) (tgt := 184) dX6_worth_45 (by decide) ?_
      refine Jn_iinc (pc := 184) (ls' := [some _, some _, some _, some _, some _, some _, some _, some _, some _]) dX6_worth_184 rfl knz_1 rfl rfl ?_
      refine J_goto (pc := 187) (tgt := 6) dX6_worth_187 (by decide) ?_
      have ev := wrun_push (a := a) (b := b) (c := c) (d := dd) h30
      refine J_wk' (ih6 [some (.ref (jxb x + 74)), some (.int (nI t)), some (.int a), some (.int b), some (.int c), some (.int dd), some (.int (nI (k + 1))), some (.int (nI (i + 1))), none] _ ⟨k + 1, rfl, by rw [ev]; exact stk_push hst _, exs_up hex (by decide)⟩) rfl ?_
      rintro (_ | _ | _ | _ | _ | _ | _ | _ | _ | _ | k) v hv <;> first | exact hv | cases hv
  ·
    obtain ⟨k, rfl, hst, hex⟩ := hI6
    refine J_iload (pc := 6) dX6_worth_6 rfl ?_
    refine J_aload_n (pc := 8) dX6_worth_8 rfl ?_
    refine K_getR (pc := 9) dX6_worth_9 kf_X6_21 job_74 jrf_74_3 ?_
    refine J_iload_n (pc := 12) dX6_worth_12 rfl ?_
    refine K_ialdn (pc := 13) (id := 78) dX6_worth_13 jar_78 (by omega) (by decide) ?_
    refine J_top (b := nI n) (by rw [hex 78 (by decide)]; exact hn) ?_
    refine Jn_ge (pc := 14) (tgt := 190) dX6_worth_14 (by decide) (by omega) (by omega) (fun h14 => ?_) (fun h14 => absurd h14 (by omega))
    refine J_aload_n (pc := 190) dX6_worth_190 rfl ?_
    refine K_getR (pc := 191) dX6_worth_191 kf_X6_29 job_74 jrf_74_5 ?_
    refine J_iconst (pc := 194) dX6_worth_194 kni_0 ?_
    refine K_ialdn (pc := 195) (id := 94) dX6_worth_195 jar_94 (by omega) (by decide) ?_
    refine K_iret (pc := 196) dX6_worth_196 rfl ⟨_, rfl, ?_⟩
    have hd := wrun_len hwf.1 a b c dd n (Nat.le_refl _)
    rw [hwf.2] at hd
    obtain ⟨hk, hs⟩ := hst
    rw [hd] at hk
    subst hk
    have h0 := hs 0 (by decide)
    refine ⟨?_, hex⟩
    unfold worthV
    cases hl : wrun a b c dd (m (80 + t)) n with
    | nil => rw [hl] at hd; simp at hd
    | cons u t2 =>
      rw [hl] at h0
      exact (Option.some.inj h0).symm
