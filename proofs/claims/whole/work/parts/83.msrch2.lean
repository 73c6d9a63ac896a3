def srP (m : jm) (g G h : Nat) (F : Nat → Nat) (m' : jm) : Prop :=
  m' 141 = m 141 ∧ exs [140, 141, 143, 147, 148, 151, 152, 153, 154, 155] m m' ∧ (∀ k, k < 28 ∨ 33 < k → m' 140 k = m 140 k) ∧ m' 140 28 = nI g ∧ m' 140 29 = nI G ∧ m' 140 30 = nI h ∧ m' 140 31 = nI (bst F (tot G)).1 ∧ m' 140 32 = nI (bst F (tot G)).2 ∧ m' 140 33 = nI 1
theorem tot_pos (G : Nat) : 0 < tot G := by
  unfold tot
  by_cases a : 99 < G
  · rw [if_pos a]; decide
  · rw [if_neg a]
    by_cases b : 9 < G
    · rw [if_pos b]; decide
    · rw [if_neg b]; decide
theorem bs1_tot (F : Nat → Nat) (G : Nat) : bs1 F (tot G) = nI (bst F (tot G)).1 := by
  have := tot_pos G
  exact if_neg (by omega)
/-- the memory before the first row -/
def s0M (m : jm) (g : Nat) : jm := mfill (mfill (mfill m 155 24000 (fun _ => nI 0)) 143 3450 (mfill m 155 24000 (fun _ => nI 0) 141)) 154 48 (shdR (mfill (mfill m 155 24000 (fun _ => nI 0)) 143 3450 (mfill m 155 24000 (fun _ => nI 0) 141)) g)
theorem s0M_i {m : jm} {g i : Nat} (h : i ≠ 143) (h4 : i ≠ 154) (h5 : i ≠ 155) : s0M m g i = m i := (mfill_i' h4).trans ((mfill_i' h).trans (mfill_i' h5))
theorem s0M_154 {m : jm} {g p : Nat} (hp : p < 48) : s0M m g 154 p = shdR m g p := (mfill_lt hp).trans (shdR_c ((mfill_i' (by decide)).trans (mfill_i' (by decide))) ((mfill_i' (by decide)).trans (mfill_i' (by decide))) ((mfill_i' (by decide)).trans (mfill_i' (by decide))) g p)
theorem s0M_143 {m : jm} {g j : Nat} (h : j < 3450) : s0M m g 143 j = m 141 j := (mfill_i (by decide)).trans ((mfill_lt h).trans (mfill_i (by decide)))
theorem s0M_155 {m : jm} {g j : Nat} (h : j < 24000) : s0M m g 155 j = nI 0 := (mfill_i (by decide)).trans ((mfill_i (by decide)).trans (mfill_lt h))
set_option maxRecDepth 100000 in
set_option maxHeartbeats 400000 in
theorem m_search0 {x : jX} {m : jm} {d : Nat} {P g G : Nat} (hg : g < 4) (hok : okG G) (h9 : G ≤ 999) (hP : m 141 0 = nI P) (h48 : P ≤ 48) (hplc : ∀ p, p < P → vp_in (m 141 (90 + 6 * p + 1)) 48) (hw : wfR m 141) : Ct x (d + 5) eX8_search [.ref (jxb x + 140), .int (nI g), .int (nI G), .int (nI 0)] m (jv fun m' => srP m g G 0 (misF m g G P) m') := by
  refine J_start (by decide +kernel) (Nat.le_of_ble_eq_true rfl) (ls := [some (.ref (jxb x + 140)), some (.int (nI g)), some (.int (nI G)), some (.int (nI 0)), none, none, none, none, none, none, none]) rfl rfl ?_
  have hn3 := nG_3 G
  have htl := tot_le G
  have htp := tot_pos G
  refine J_iload_n (pc := 0) dX8_search_0 rfl ?_
  refine K_callSp (pc := 1) (As := [_]) dX8_search_1 kl_X8_338 rfl rfl (Nat.le_of_ble_eq_true rfl) (m_toldGroups (nI G)) ?_
  refine J_top (b := nI (nG G)) (by rw [tgN_ok (v := nI G) ⟨vp_in_nI (by omega) (by decide), by rw [tN_n (by omega)]; exact hok⟩, tN_n (by omega)]) ?_
  refine J_istore (pc := 4) (ls' := [some _, some _, some _, some _, some _, none, none, none, none, none, none]) dX8_search_4 rfl (Nat.le_of_ble_eq_true rfl) rfl ?_
  refine J_iconst (pc := 6) dX8_search_6 kni_0 ?_
  refine J_istore (pc := 7) (ls' := [some _, some _, some _, some _, some _, some _, none, none, none, none, none]) dX8_search_7 rfl (Nat.le_of_ble_eq_true rfl) rfl ?_
  refine K_for' (pc := 9) 24000 (fun k => [some (.ref (jxb x + 140)), some (.int (nI g)), some (.int (nI G)), some (.int (nI 0)), some (.int (nI (nG G))), some (.int (nI k)), none, none, none, none, none]) (fun k => (mfill m 155 k (fun _ => nI 0))) (by rfl) (by rw [mfill_0]) (fun k hk ih9 => ?_) ?_
  ·
    show K x _ _ 9 [some (.ref (jxb x + 140)), some (.int (nI g)), some (.int (nI G)), some (.int (nI 0)), some (.int (nI (nG G))), some (.int (nI k)), none, none, none, none, none] _ ((mfill m 155 k (fun _ => nI 0))) _
    refine J_iload (pc := 9) dX8_search_9 rfl ?_
    refine J_sipush (pc := 11) dX8_search_11 kns_24000 ?_
    refine Jn_ge (pc := 14) (tgt := 31) dX8_search_14 (by decide) (by omega) (by omega) (fun h14 => absurd h14 (by omega)) (fun h14 => ?_)
    refine J_aload_n (pc := 17) dX8_search_17 rfl ?_
    refine K_getR (pc := 18) dX8_search_18 kf_X8_53 job_140 jrf_140_26 ?_
    refine J_iload (pc := 21) dX8_search_21 rfl ?_
    refine J_iconst (pc := 23) dX8_search_23 kni_0 ?_
    refine K_bastn (pc := 24) (id := 155) (w := nI 0) dX8_search_24 jar_155 (by omega) (by decide) rfl ?_
    refine Jn_iinc (pc := 25) (ls' := [some _, some _, some _, some _, some _, some _, none, none, none, none, none]) dX8_search_25 rfl knz_1 rfl rfl ?_
    refine J_goto (pc := 28) (tgt := 9) dX8_search_28 (by decide) ?_
    rw [mfill_s m 155 k (fun _ => nI 0) rfl]
    exact ih9
  ·
    show K x _ _ 9 [some (.ref (jxb x + 140)), some (.int (nI g)), some (.int (nI G)), some (.int (nI 0)), some (.int (nI (nG G))), some (.int (nI 24000)), none, none, none, none, none] _ ((mfill m 155 24000 (fun _ => nI 0))) _
    refine J_iload (pc := 9) dX8_search_9 rfl ?_
    refine J_sipush (pc := 11) dX8_search_11 kns_24000 ?_
    refine Jn_ge (pc := 14) (tgt := 31) dX8_search_14 (by decide) (by omega) (by omega) (fun h14 => ?_) (fun h14 => absurd h14 (by omega))
    refine J_iload (pc := 31) dX8_search_31 rfl ?_
    refine J_iconst (pc := 33) dX8_search_33 kni_1 ?_
    refine K_merge (jc := 56) (ls' := [some (.ref (jxb x + 140)), some (.int (nI g)), some (.int (nI G)), some (.int (nI 0)), some (.int (nI (nG G))), some (.int (nI 24000)), none, none, none, none, none]) (st' := [.int (nI (tot G))]) (m' := (mfill m 155 24000 (fun _ => nI 0))) ?_ (fun hj56 => ?_)
    ·
      refine J_istore (pc := 56) (ls' := [some _, some _, some _, some _, some _, some _, none, none, none, none, none]) dX8_search_56 rfl (Nat.le_of_ble_eq_true rfl) rfl ?_
      refine J_aload_n (pc := 58) dX8_search_58 rfl ?_
      refine J_aload_n (pc := 59) dX8_search_59 rfl ?_
      refine K_getR (pc := 60) dX8_search_60 kf_X8_7 job_140 jrf_140_0 ?_
      refine J_aload_n (pc := 63) dX8_search_63 rfl ?_
      refine K_getR (pc := 64) dX8_search_64 kf_X8_16 job_140 jrf_140_2 ?_
      refine K_callVv (pc := 67) (id := 140) (As := [_, _]) dX8_search_67 kl_X8_151 rfl job_140 rfl rfl (Nat.le_of_ble_eq_true rfl) (m_setAside (m := (mfill m 155 24000 (fun _ => nI 0))) (ar := 141) (ar2 := 143) (nn := 3450) jar_141 jar_143 rfl (by decide)) (fun m67 h67 => ?_)
      subst h67
      refine J_aload_n (pc := 70) dX8_search_70 rfl ?_
      refine J_iload_n (pc := 71) dX8_search_71 rfl ?_
      refine K_callVv (pc := 72) (id := 140) (As := [_]) dX8_search_72 kl_X8_301 rfl job_140 rfl rfl (Nat.le_of_ble_eq_true rfl) (m_findGround (m := (mfill (mfill m 155 24000 (fun _ => nI 0)) 143 3450 ((mfill m 155 24000 (fun _ => nI 0)) 141))) (g := g) hg) (fun m72 h72 => ?_)
      subst h72
      refine J_iconst (pc := 75) dX8_search_75 kni_m1 ?_
      refine J_istore (pc := 76) (ls' := [some _, some _, some _, some _, some _, some _, some _, none, none, none, none]) dX8_search_76 rfl (Nat.le_of_ble_eq_true rfl) rfl ?_
      refine J_iconst (pc := 78) dX8_search_78 kni_0 ?_
      refine J_istore (pc := 79) (ls' := [some _, some _, some _, some _, some _, some _, some _, some _, none, none, none]) dX8_search_79 rfl (Nat.le_of_ble_eq_true rfl) rfl ?_
      refine J_iconst (pc := 81) dX8_search_81 kni_0 ?_
      refine J_istore (pc := 82) (ls' := [some _, some _, some _, some _, some _, some _, some _, some _, some _, none, none]) dX8_search_82 rfl (Nat.le_of_ble_eq_true rfl) rfl ?_
      refine K_inv (pc := 84) ((tot G)) (fun r lsq mq => lsq = [some (.ref (jxb x + 140)), some (.int (nI g)), some (.int (nI G)), some (.int (nI 0)), some (.int (nI (nG G))), some (.int (nI (tot G))), some (.int ((bs1 (misF m g G P) r))), some (.int (nI ((bst (misF m g G P) r).2))), some (.int (nI r)), none, none] ∧ (exs [141, 147, 148] (s0M m g) mq) ∧ (sHR m G P mq)) (fun r hr lsq mm hI84 ih84 => ?_) (fun lsq mm hI84 => ?_) 0 (Nat.zero_le _) _ _ (⟨rfl, exs_rf _ _, sHR_c (sHR_0 m G P) (s0M_i (by decide) (by decide) (by decide))⟩)
      ·
        obtain ⟨rfl, hx, hs⟩ := hI84
        have hb48 := bst_48 (f := (misF m g G P)) r
        have hb2 := bst_2 (f := (misF m g G P)) r
        have hs2 : sHR m G P (setR (pt3 mm G r) P) := sHR_s hs hok h9 h48
        have eX : litM (setR (pt3 mm G r) P) P 141 = setR (pt3 mm G r) P 141 := lit_141 (by decide) (by decide)
        have eL : ∀ k, k < 48 → litM (setR (pt3 mm G r) P) P 147 k = LR m G P r k := fun k hk => (mfill_lt hk).trans (sHR_fin hs hok h9 hw h48 k)
        have eo : ∀ i, i ≠ 141 → i ≠ 147 → i ≠ 148 → litM (setR (pt3 mm G r) P) P i = mm i := fun i h1 h7 h8 => (lit_141 h7 h8).trans ((setR_i h1 P).trans (pt3_i h1))
        have eG : ∀ k, k < 48 → litM (setR (pt3 mm G r) P) P 154 k = shdR m g k := fun k hk => by rw [eo 154 (by decide) (by decide) (by decide), hx 154 (by decide)]; exact s0M_154 hk
        have e1 : ∀ j, ¬ (30 ≤ j ∧ j < 36) → (∀ p, p < P → j ≠ 90 + 6 * p + 5) → litM (setR (pt3 mm G r) P) P 141 j = m 141 j := fun j h1 h2 => (congrFun eX j).trans (hs2.1 j h1 h2)
        have e4 : ∀ j, 440 ≤ j → litM (setR (pt3 mm G r) P) P 141 j = m 141 j := fun j hj => e1 j (by omega) (fun q hq => by omega)
        have eF : sumV (misR (litM (setR (pt3 mm G r) P) P)) 48 = nI (misF m g G P r) := by
          rw [← misF_lt.1]
          exact sumV_c 48 fun k hk => by unfold misR; rw [eL k hk, eG k hk]
        refine J_iload (pc := 84) dX8_search_84 rfl ?_
        refine J_iload (pc := 86) dX8_search_86 rfl ?_
        refine Jn_ge (pc := 88) (tgt := 214) dX8_search_88 (by decide) (by omega) (by omega) (fun h88 => absurd h88 (by omega)) (fun h88 => ?_)
        refine J_aload_n (pc := 91) dX8_search_91 rfl ?_
        refine K_getR (pc := 92) dX8_search_92 kf_X8_7 job_140 jrf_140_0 ?_
        refine J_bipush (pc := 95) dX8_search_95 knb_30 ?_
        refine J_iload_n (pc := 97) dX8_search_97 rfl ?_
        refine J_bipush (pc := 98) dX8_search_98 knb_10 ?_
        refine J_irem (pc := 100) (v := nI (G % 10)) dX8_search_100 (by decide) (pk_rem (by omega) (by omega) (by omega)) ?_
        refine J_iaddv (pc := 101) dX8_search_101 (nI_add _ _) ?_
        refine J_iload (pc := 102) dX8_search_102 rfl ?_
        refine J_bipush (pc := 104) dX8_search_104 knb_10 ?_
        refine J_irem (pc := 106) (v := nI (r % 10)) dX8_search_106 (by decide) (pk_rem (by omega) (by omega) (by omega)) ?_
        refine K_iastn (pc := 107) (id := 141) dX8_search_107 jar_141 (by omega) (by decide) ?_
        refine J_iload (pc := 108) dX8_search_108 rfl ?_
        refine J_iconst (pc := 110) dX8_search_110 kni_1 ?_
        refine K_merge (jc := 137) (ls' := [some (.ref (jxb x + 140)), some (.int (nI g)), some (.int (nI G)), some (.int (nI 0)), some (.int (nI (nG G))), some (.int (nI (tot G))), some (.int ((bs1 (misF m g G P) r))), some (.int (nI ((bst (misF m g G P) r).2))), some (.int (nI r)), none, none]) (st' := []) (m' := (pt2 mm G r)) ?_ (fun hj137 => ?_)
        ·
          refine J_iload (pc := 137) dX8_search_137 rfl ?_
          refine J_iconst (pc := 139) dX8_search_139 kni_2 ?_
          refine K_merge (jc := 160) (ls' := [some (.ref (jxb x + 140)), some (.int (nI g)), some (.int (nI G)), some (.int (nI 0)), some (.int (nI (nG G))), some (.int (nI (tot G))), some (.int ((bs1 (misF m g G P) r))), some (.int (nI ((bst (misF m g G P) r).2))), some (.int (nI r)), none, none]) (st' := []) (m' := (pt3 mm G r)) ?_ (fun hj160 => ?_)
          ·
            refine J_aload_n (pc := 160) dX8_search_160 rfl ?_
            refine K_callVi (pc := 161) (id := 140) (As := []) dX8_search_161 kl_X8_147 rfl job_140 rfl rfl (Nat.le_of_ble_eq_true rfl) (m_settle (m := pt3 mm G r) (P := P) ((pt3_j (by omega) hok h9).trans ((hs.1 0 (by omega) (fun q hq => by omega)).trans hP)) h48 (pt3_w hok h9 (sHR_w hs hw))) (fun v161 m161 h161 => ?_)
            obtain ⟨rfl, rfl⟩ := h161
            refine J_istore (pc := 164) (ls' := [some _, some _, some _, some _, some _, some _, some _, some _, some _, some _, none]) dX8_search_164 rfl (Nat.le_of_ble_eq_true rfl) rfl ?_
            refine J_aload_n (pc := 166) dX8_search_166 rfl ?_
            refine K_callVv (pc := 167) (id := 140) (As := []) dX8_search_167 kl_X8_130 rfl job_140 rfl rfl (Nat.le_of_ble_eq_true rfl) (m_findLight (m := (setR (pt3 mm G r) P)) (P := P) ((hs2.1 0 (by omega) (fun q hq => by omega)).trans hP) h48 (fun p hp => by rw [hs2.1 _ (by omega) (fun q hq => by omega)]; exact hplc p hp)) (fun m167 h167 => ?_)
            subst h167
            refine J_iload_n (pc := 170) dX8_search_170 rfl ?_
            refine Jn_if_eq (pc := 171) (tgt := 182) dX8_search_171 (by decide) (by omega) (fun h171 => ?_) (fun h171 => absurd h171 (by omega))
            refine J_aload_n (pc := 182) dX8_search_182 rfl ?_
            refine K_callVp (pc := 183) (id := 140) (As := []) dX8_search_183 kl_X8_341 rfl job_140 rfl rfl (Nat.le_of_ble_eq_true rfl) (m_missed (m := (litM (setR (pt3 mm G r) P) P))) ?_
            refine J_top (b := nI ((misF m g G P) r)) (eF) ?_
            refine J_istore (pc := 186) (ls' := [some _, some _, some _, some _, some _, some _, some _, some _, some _, some _, some _]) dX8_search_186 rfl (Nat.le_of_ble_eq_true rfl) rfl ?_
            refine J_iload (pc := 188) dX8_search_188 rfl ?_
            refine J_if_lt (pc := 190) (tgt := 200) dX8_search_190 (by decide) (fun h190 => ?_) (fun h190 => ?_)
            · 
              refine J_iload (pc := 200) dX8_search_200 rfl ?_
              refine J_istore (pc := 202) (ls' := [some _, some _, some _, some _, some _, some _, some _, some _, some _, some _, some _]) dX8_search_202 rfl (Nat.le_of_ble_eq_true rfl) rfl ?_
              refine J_iload (pc := 204) dX8_search_204 rfl ?_
              refine J_istore (pc := 206) (ls' := [some _, some _, some _, some _, some _, some _, some _, some _, some _, some _, some _]) dX8_search_206 rfl (Nat.le_of_ble_eq_true rfl) rfl ?_
              refine Jn_iinc (pc := 208) (ls' := [some _, some _, some _, some _, some _, some _, some _, some _, some _, some _, some _]) dX8_search_208 rfl knz_1 rfl rfl ?_
              refine J_goto (pc := 211) (tgt := 84) dX8_search_211 (by decide) ?_
              have hlt : (misF m g G P) r < 4800 := misF_lt.2
              obtain ⟨b1, b2⟩ := bs1_up (f := (misF m g G P)) (n := r) hlt (Or.inl h190)
              refine J_wk' (ih84 [some (.ref (jxb x + 140)), some (.int (nI g)), some (.int (nI G)), some (.int (nI 0)), some (.int (nI (nG G))), some (.int (nI (tot G))), some (.int (nI ((misF m g G P) r))), some (.int (nI r)), some (.int (nI (r + 1))), none, none] _ ⟨by rw [b1, b2], fun i hi => (eo i (fun z => hi (by rw [z]; decide)) (fun z => hi (by rw [z]; decide)) (fun z => hi (by rw [z]; decide))).trans (hx i hi), sHR_c hs2 eX⟩) rfl ?_
              rintro (_ | _ | _ | _ | _ | _ | _ | _ | _ | _ | _ | k) v hv <;> first | exact hv | cases hv
            · 
              refine J_iload (pc := 193) dX8_search_193 rfl ?_
              refine J_iload (pc := 195) dX8_search_195 rfl ?_
              refine J_icmp_ge (pc := 197) (tgt := 208) dX8_search_197 (by decide) (fun h197 => ?_) (fun h197 => ?_)
              · 
                refine Jn_iinc (pc := 208) (ls' := [some _, some _, some _, some _, some _, some _, some _, some _, some _, some _, some _]) dX8_search_208 rfl knz_1 rfl rfl ?_
                refine J_goto (pc := 211) (tgt := 84) dX8_search_211 (by decide) ?_
                have hlt : (misF m g G P) r < 4800 := misF_lt.2
                obtain ⟨b1, b2⟩ := bs1_no (f := (misF m g G P)) (n := r) hlt h190 (Int32.not_lt.mpr h197)
                refine J_wk' (ih84 [some (.ref (jxb x + 140)), some (.int (nI g)), some (.int (nI G)), some (.int (nI 0)), some (.int (nI (nG G))), some (.int (nI (tot G))), some (.int ((bs1 (misF m g G P) r))), some (.int (nI ((bst (misF m g G P) r).2))), some (.int (nI (r + 1))), none, none] _ ⟨by rw [b1, b2], fun i hi => (eo i (fun z => hi (by rw [z]; decide)) (fun z => hi (by rw [z]; decide)) (fun z => hi (by rw [z]; decide))).trans (hx i hi), sHR_c hs2 eX⟩) rfl ?_
                rintro (_ | _ | _ | _ | _ | _ | _ | _ | _ | _ | _ | k) v hv <;> first | exact hv | cases hv
              · 
                refine J_iload (pc := 200) dX8_search_200 rfl ?_
                refine J_istore (pc := 202) (ls' := [some _, some _, some _, some _, some _, some _, some _, some _, some _, some _, some _]) dX8_search_202 rfl (Nat.le_of_ble_eq_true rfl) rfl ?_
                refine J_iload (pc := 204) dX8_search_204 rfl ?_
                refine J_istore (pc := 206) (ls' := [some _, some _, some _, some _, some _, some _, some _, some _, some _, some _, some _]) dX8_search_206 rfl (Nat.le_of_ble_eq_true rfl) rfl ?_
                refine Jn_iinc (pc := 208) (ls' := [some _, some _, some _, some _, some _, some _, some _, some _, some _, some _, some _]) dX8_search_208 rfl knz_1 rfl rfl ?_
                refine J_goto (pc := 211) (tgt := 84) dX8_search_211 (by decide) ?_
                have hlt : (misF m g G P) r < 4800 := misF_lt.2
                obtain ⟨b1, b2⟩ := bs1_up (f := (misF m g G P)) (n := r) hlt (Or.inr (Int32.not_le.mp h197))
                refine J_wk' (ih84 [some (.ref (jxb x + 140)), some (.int (nI g)), some (.int (nI G)), some (.int (nI 0)), some (.int (nI (nG G))), some (.int (nI (tot G))), some (.int (nI ((misF m g G P) r))), some (.int (nI r)), some (.int (nI (r + 1))), none, none] _ ⟨by rw [b1, b2], fun i hi => (eo i (fun z => hi (by rw [z]; decide)) (fun z => hi (by rw [z]; decide)) (fun z => hi (by rw [z]; decide))).trans (hx i hi), sHR_c hs2 eX⟩) rfl ?_
                rintro (_ | _ | _ | _ | _ | _ | _ | _ | _ | _ | _ | k) v hv <;> first | exact hv | cases hv
          ·
            refine Jn_le (pc := 140) (tgt := 160) dX8_search_140 (by decide) (by omega) (by omega) (fun h140 => ?_) (fun h140 => ?_)
            · 
              have e160 : pt3 mm G r = pt2 mm G r := if_neg (by omega)
              rw [e160] at hj160
              exact hj160
            · 
              refine J_aload_n (pc := 143) dX8_search_143 rfl ?_
              refine K_getR (pc := 144) dX8_search_144 kf_X8_7 job_140 jrf_140_0 ?_
              refine J_bipush (pc := 147) dX8_search_147 knb_30 ?_
              refine J_iload_n (pc := 149) dX8_search_149 rfl ?_
              refine J_bipush (pc := 150) dX8_search_150 knb_100 ?_
              refine J_idiv (pc := 152) (v := nI (G / 100)) dX8_search_152 (by decide) (pk_div (by omega) (by omega) (by omega)) ?_
              refine J_iaddv (pc := 153) dX8_search_153 (nI_add _ _) ?_
              refine J_iload (pc := 154) dX8_search_154 rfl ?_
              refine J_bipush (pc := 156) dX8_search_156 knb_100 ?_
              refine J_idiv (pc := 158) (v := nI (r / 100)) dX8_search_158 (by decide) (pk_div (by omega) (by omega) (by omega)) ?_
              refine K_iastn (pc := 159) (id := 141) dX8_search_159 jar_141 (by omega) (by decide) ?_
              have e160 : pt3 mm G r = mup (pt2 mm G r) 141 (30 + G / 100) (nI (r / 100)) := if_pos h140
              rw [e160] at hj160
              exact hj160
        ·
          refine Jn_le (pc := 111) (tgt := 137) dX8_search_111 (by decide) (by omega) (by omega) (fun h111 => ?_) (fun h111 => ?_)
          · 
            have e137 : pt2 mm G r = pt1 mm G r := if_neg (by omega)
            rw [e137] at hj137
            exact hj137
          · 
            refine J_aload_n (pc := 114) dX8_search_114 rfl ?_
            refine K_getR (pc := 115) dX8_search_115 kf_X8_7 job_140 jrf_140_0 ?_
            refine J_bipush (pc := 118) dX8_search_118 knb_30 ?_
            refine J_iload_n (pc := 120) dX8_search_120 rfl ?_
            refine J_bipush (pc := 121) dX8_search_121 knb_10 ?_
            refine J_idiv (pc := 123) (v := nI (G / 10)) dX8_search_123 (by decide) (pk_div (by omega) (by omega) (by omega)) ?_
            refine J_bipush (pc := 124) dX8_search_124 knb_10 ?_
            refine J_irem (pc := 126) (v := nI ((G / 10) % 10)) dX8_search_126 (by decide) (pk_rem (by omega) (by omega) (by omega)) ?_
            refine J_iaddv (pc := 127) dX8_search_127 (nI_add _ _) ?_
            refine J_iload (pc := 128) dX8_search_128 rfl ?_
            refine J_bipush (pc := 130) dX8_search_130 knb_10 ?_
            refine J_idiv (pc := 132) (v := nI (r / 10)) dX8_search_132 (by decide) (pk_div (by omega) (by omega) (by omega)) ?_
            refine J_bipush (pc := 133) dX8_search_133 knb_10 ?_
            refine J_irem (pc := 135) (v := nI ((r / 10) % 10)) dX8_search_135 (by decide) (pk_rem (by omega) (by omega) (by omega)) ?_
            refine K_iastn (pc := 136) (id := 141) dX8_search_136 jar_141 (by omega) (by decide) ?_
            have e137 : pt2 mm G r = mup (pt1 mm G r) 141 (30 + G / 10 % 10) (nI (r / 10 % 10)) := if_pos h111
            rw [e137] at hj137
            exact hj137
      ·
        obtain ⟨rfl, hx, hs⟩ := hI84
        have hb48 := bst_48 (f := (misF m g G P)) (tot G)
        have hb2 := bst_2 (f := (misF m g G P)) (tot G)
        rw [bs1_tot]
        refine J_iload (pc := 84) dX8_search_84 rfl ?_
        refine J_iload (pc := 86) dX8_search_86 rfl ?_
        refine Jn_ge (pc := 88) (tgt := 214) dX8_search_88 (by decide) (by omega) (by omega) (fun h88 => ?_) (fun h88 => absurd h88 (by omega))
        refine J_aload_n (pc := 214) dX8_search_214 rfl ?_
        refine J_aload_n (pc := 215) dX8_search_215 rfl ?_
        refine K_getR (pc := 216) dX8_search_216 kf_X8_16 job_140 jrf_140_2 ?_
        refine J_aload_n (pc := 219) dX8_search_219 rfl ?_
        refine K_getR (pc := 220) dX8_search_220 kf_X8_7 job_140 jrf_140_0 ?_
        refine K_callVv (pc := 223) (id := 140) (As := [_, _]) dX8_search_223 kl_X8_151 rfl job_140 rfl rfl (Nat.le_of_ble_eq_true rfl) (m_setAside (m := mm) (ar := 143) (ar2 := 141) (nn := 3450) jar_143 jar_141 rfl (by decide)) (fun m223 h223 => ?_)
        subst h223
        refine J_aload_n (pc := 226) dX8_search_226 rfl ?_
        refine J_iload_n (pc := 227) dX8_search_227 rfl ?_
        refine K_put (pc := 228) dX8_search_228 kp_X8_319 job_140 jrf_140_28 rfl rfl ?_
        refine J_aload_n (pc := 231) dX8_search_231 rfl ?_
        refine J_iload_n (pc := 232) dX8_search_232 rfl ?_
        refine K_put (pc := 233) dX8_search_233 kp_X8_322 job_140 jrf_140_29 rfl rfl ?_
        refine J_aload_n (pc := 236) dX8_search_236 rfl ?_
        refine J_iload_n (pc := 237) dX8_search_237 rfl ?_
        refine K_put (pc := 238) dX8_search_238 kp_X8_325 job_140 jrf_140_30 rfl rfl ?_
        refine J_aload_n (pc := 241) dX8_search_241 rfl ?_
        refine J_iload (pc := 242) dX8_search_242 rfl ?_
        refine K_put (pc := 244) dX8_search_244 kp_X8_332 job_140 jrf_140_31 rfl rfl ?_
        refine J_aload_n (pc := 247) dX8_search_247 rfl ?_
        refine J_iload (pc := 248) dX8_search_248 rfl ?_
        refine K_put (pc := 250) dX8_search_250 kp_X8_335 job_140 jrf_140_32 rfl rfl ?_
        refine J_aload_n (pc := 253) dX8_search_253 rfl ?_
        refine J_iconst (pc := 254) dX8_search_254 kni_1 ?_
        refine K_put (pc := 255) dX8_search_255 kp_X8_67 job_140 jrf_140_33 rfl rfl ?_
        refine K_vret (pc := 258) dX8_search_258 rfl ⟨rfl, ?_⟩
        refine ⟨?_, fun i hi => ?_, fun k hk => ?_, ?_, ?_, ?_, ?_, ?_, mup_s⟩
        · rw [mup_i' (by decide), mup_i' (by decide), mup_i' (by decide), mup_i' (by decide), mup_i' (by decide), mup_i' (by decide)]
          funext j
          by_cases hj : j < 3450
          · rw [mfill_lt hj, hx 143 (by decide), s0M_143 hj]
          · rw [mfill_ge (by omega)]
            exact hs.1 j (by omega) (fun q hq => by omega)
        · have hne : i ≠ 140 ∧ i ≠ 141 ∧ i ≠ 143 ∧ i ≠ 154 ∧ i ≠ 155 := by simp at hi; omega
          rw [mup_i' hne.1, mup_i' hne.1, mup_i' hne.1, mup_i' hne.1, mup_i' hne.1, mup_i' hne.1, mfill_i' hne.2.1, hx i (fun z => hi (by simp at z ⊢; omega)), s0M_i hne.2.2.1 hne.2.2.2.1 hne.2.2.2.2]
        · rw [mup_j (by omega), mup_j (by omega), mup_j (by omega), mup_j (by omega), mup_j (by omega), mup_j (by omega), mfill_i (by decide), hx 140 (by decide), s0M_i (by decide) (by decide) (by decide)]
        · rw [mup_j (by decide), mup_j (by decide), mup_j (by decide), mup_j (by decide), mup_j (by decide), mup_s]
        · rw [mup_j (by decide), mup_j (by decide), mup_j (by decide), mup_j (by decide), mup_s]
        · rw [mup_j (by decide), mup_j (by decide), mup_j (by decide), mup_s]
        · rw [mup_j (by decide), mup_j (by decide), mup_s]
        · rw [mup_j (by decide), mup_s]
    ·
      refine Jn_ne (pc := 34) (tgt := 42) dX8_search_34 (by decide) (by omega) (by omega) (fun h34 => ?_) (fun h34 => ?_)
      · 
        refine J_iload (pc := 42) dX8_search_42 rfl ?_
        refine J_iconst (pc := 44) dX8_search_44 kni_2 ?_
        refine Jn_ne (pc := 45) (tgt := 53) dX8_search_45 (by decide) (by omega) (by omega) (fun h45 => ?_) (fun h45 => ?_)
        · 
          refine J_sipush (pc := 53) dX8_search_53 kns_1000 ?_
          have e56 : tot G = 1000 := tot_3 (by have := nG_3 G; omega)
          rw [e56] at hj56
          exact hj56
        · 
          refine J_bipush (pc := 48) dX8_search_48 knb_100 ?_
          refine J_goto (pc := 50) (tgt := 56) dX8_search_50 (by decide) ?_
          have e56 : tot G = 100 := tot_2 h45
          rw [e56] at hj56
          exact hj56
      · 
        refine J_bipush (pc := 37) dX8_search_37 knb_10 ?_
        refine J_goto (pc := 39) (tgt := 56) dX8_search_39 (by decide) ?_
        have e56 : tot G = 10 := tot_1 (by omega) (by omega)
        rw [e56] at hj56
        exact hj56
set_option maxRecDepth 100000 in
set_option maxHeartbeats 400000 in
theorem m_search1 {x : jX} {m : jm} {d : Nat} {P g G T : Nat} (hg : g < 4) (hok : okG G) (h9 : G ≤ 999) (hP : m 141 0 = nI P) (h48 : P ≤ 48) (hplc : ∀ p, p < P → vp_in (m 141 (90 + 6 * p + 1)) 48) (hw : wfR m 141) (hT : m 141 6 = nI T) (hT14 : T ≤ 14) (hS : ∀ t, t < T → sndT m t) : Ct x (d + 5) eX8_search [.ref (jxb x + 140), .int (nI g), .int (nI G), .int (nI 1)] m (jv fun m' => srP m g G 1 (hidF m g G P (cntR m (nI 6) T)) m') := by
  refine J_start (by decide +kernel) (Nat.le_of_ble_eq_true rfl) (ls := [some (.ref (jxb x + 140)), some (.int (nI g)), some (.int (nI G)), some (.int (nI 1)), none, none, none, none, none, none, none]) rfl rfl ?_
  have hn3 := nG_3 G
  have htl := tot_le G
  have htp := tot_pos G
  refine J_iload_n (pc := 0) dX8_search_0 rfl ?_
  refine K_callSp (pc := 1) (As := [_]) dX8_search_1 kl_X8_338 rfl rfl (Nat.le_of_ble_eq_true rfl) (m_toldGroups (nI G)) ?_
  refine J_top (b := nI (nG G)) (by rw [tgN_ok (v := nI G) ⟨vp_in_nI (by omega) (by decide), by rw [tN_n (by omega)]; exact hok⟩, tN_n (by omega)]) ?_
  refine J_istore (pc := 4) (ls' := [some _, some _, some _, some _, some _, none, none, none, none, none, none]) dX8_search_4 rfl (Nat.le_of_ble_eq_true rfl) rfl ?_
  refine J_iconst (pc := 6) dX8_search_6 kni_0 ?_
  refine J_istore (pc := 7) (ls' := [some _, some _, some _, some _, some _, some _, none, none, none, none, none]) dX8_search_7 rfl (Nat.le_of_ble_eq_true rfl) rfl ?_
  refine K_for' (pc := 9) 24000 (fun k => [some (.ref (jxb x + 140)), some (.int (nI g)), some (.int (nI G)), some (.int (nI 1)), some (.int (nI (nG G))), some (.int (nI k)), none, none, none, none, none]) (fun k => (mfill m 155 k (fun _ => nI 0))) (by rfl) (by rw [mfill_0]) (fun k hk ih9 => ?_) ?_
  ·
    show K x _ _ 9 [some (.ref (jxb x + 140)), some (.int (nI g)), some (.int (nI G)), some (.int (nI 1)), some (.int (nI (nG G))), some (.int (nI k)), none, none, none, none, none] _ ((mfill m 155 k (fun _ => nI 0))) _
    refine J_iload (pc := 9) dX8_search_9 rfl ?_
    refine J_sipush (pc := 11) dX8_search_11 kns_24000 ?_
    refine Jn_ge (pc := 14) (tgt := 31) dX8_search_14 (by decide) (by omega) (by omega) (fun h14 => absurd h14 (by omega)) (fun h14 => ?_)
    refine J_aload_n (pc := 17) dX8_search_17 rfl ?_
    refine K_getR (pc := 18) dX8_search_18 kf_X8_53 job_140 jrf_140_26 ?_
    refine J_iload (pc := 21) dX8_search_21 rfl ?_
    refine J_iconst (pc := 23) dX8_search_23 kni_0 ?_
    refine K_bastn (pc := 24) (id := 155) (w := nI 0) dX8_search_24 jar_155 (by omega) (by decide) rfl ?_
    refine Jn_iinc (pc := 25) (ls' := [some _, some _, some _, some _, some _, some _, none, none, none, none, none]) dX8_search_25 rfl knz_1 rfl rfl ?_
    refine J_goto (pc := 28) (tgt := 9) dX8_search_28 (by decide) ?_
    rw [mfill_s m 155 k (fun _ => nI 0) rfl]
    exact ih9
  ·
    show K x _ _ 9 [some (.ref (jxb x + 140)), some (.int (nI g)), some (.int (nI G)), some (.int (nI 1)), some (.int (nI (nG G))), some (.int (nI 24000)), none, none, none, none, none] _ ((mfill m 155 24000 (fun _ => nI 0))) _
    refine J_iload (pc := 9) dX8_search_9 rfl ?_
    refine J_sipush (pc := 11) dX8_search_11 kns_24000 ?_
    refine Jn_ge (pc := 14) (tgt := 31) dX8_search_14 (by decide) (by omega) (by omega) (fun h14 => ?_) (fun h14 => absurd h14 (by omega))
    refine J_iload (pc := 31) dX8_search_31 rfl ?_
    refine J_iconst (pc := 33) dX8_search_33 kni_1 ?_
    refine K_merge (jc := 56) (ls' := [some (.ref (jxb x + 140)), some (.int (nI g)), some (.int (nI G)), some (.int (nI 1)), some (.int (nI (nG G))), some (.int (nI 24000)), none, none, none, none, none]) (st' := [.int (nI (tot G))]) (m' := (mfill m 155 24000 (fun _ => nI 0))) ?_ (fun hj56 => ?_)
    ·
      refine J_istore (pc := 56) (ls' := [some _, some _, some _, some _, some _, some _, none, none, none, none, none]) dX8_search_56 rfl (Nat.le_of_ble_eq_true rfl) rfl ?_
      refine J_aload_n (pc := 58) dX8_search_58 rfl ?_
      refine J_aload_n (pc := 59) dX8_search_59 rfl ?_
      refine K_getR (pc := 60) dX8_search_60 kf_X8_7 job_140 jrf_140_0 ?_
      refine J_aload_n (pc := 63) dX8_search_63 rfl ?_
      refine K_getR (pc := 64) dX8_search_64 kf_X8_16 job_140 jrf_140_2 ?_
      refine K_callVv (pc := 67) (id := 140) (As := [_, _]) dX8_search_67 kl_X8_151 rfl job_140 rfl rfl (Nat.le_of_ble_eq_true rfl) (m_setAside (m := (mfill m 155 24000 (fun _ => nI 0))) (ar := 141) (ar2 := 143) (nn := 3450) jar_141 jar_143 rfl (by decide)) (fun m67 h67 => ?_)
      subst h67
      refine J_aload_n (pc := 70) dX8_search_70 rfl ?_
      refine J_iload_n (pc := 71) dX8_search_71 rfl ?_
      refine K_callVv (pc := 72) (id := 140) (As := [_]) dX8_search_72 kl_X8_301 rfl job_140 rfl rfl (Nat.le_of_ble_eq_true rfl) (m_findGround (m := (mfill (mfill m 155 24000 (fun _ => nI 0)) 143 3450 ((mfill m 155 24000 (fun _ => nI 0)) 141))) (g := g) hg) (fun m72 h72 => ?_)
      subst h72
      refine J_iconst (pc := 75) dX8_search_75 kni_m1 ?_
      refine J_istore (pc := 76) (ls' := [some _, some _, some _, some _, some _, some _, some _, none, none, none, none]) dX8_search_76 rfl (Nat.le_of_ble_eq_true rfl) rfl ?_
      refine J_iconst (pc := 78) dX8_search_78 kni_0 ?_
      refine J_istore (pc := 79) (ls' := [some _, some _, some _, some _, some _, some _, some _, some _, none, none, none]) dX8_search_79 rfl (Nat.le_of_ble_eq_true rfl) rfl ?_
      refine J_iconst (pc := 81) dX8_search_81 kni_0 ?_
      refine J_istore (pc := 82) (ls' := [some _, some _, some _, some _, some _, some _, some _, some _, some _, none, none]) dX8_search_82 rfl (Nat.le_of_ble_eq_true rfl) rfl ?_
      refine K_inv (pc := 84) ((tot G)) (fun r lsq mq => lsq = [some (.ref (jxb x + 140)), some (.int (nI g)), some (.int (nI G)), some (.int (nI 1)), some (.int (nI (nG G))), some (.int (nI (tot G))), some (.int ((bs1 (hidF m g G P (cntR m (nI 6) T)) r))), some (.int (nI ((bst (hidF m g G P (cntR m (nI 6) T)) r).2))), some (.int (nI r)), none, none] ∧ (exs [141, 147, 148, 151, 152, 153, 155] (s0M m g) mq) ∧ (sHR m G P mq) ∧ (kpt mq (cntR m (nI 6) T))) (fun r hr lsq mm hI84 ih84 => ?_) (fun lsq mm hI84 => ?_) 0 (Nat.zero_le _) _ _ (⟨rfl, exs_rf _ _, sHR_c (sHR_0 m G P) (s0M_i (by decide) (by decide) (by decide)), fun p l e hp hl he => Or.inl (s0M_155 (by omega))⟩)
      ·
        obtain ⟨rfl, hx, hs, hk2⟩ := hI84
        have hb48 := bst_48 (f := (hidF m g G P (cntR m (nI 6) T))) r
        have hb2 := bst_2 (f := (hidF m g G P (cntR m (nI 6) T))) r
        have hs2 : sHR m G P (setR (pt3 mm G r) P) := sHR_s hs hok h9 h48
        have eX : litM (setR (pt3 mm G r) P) P 141 = setR (pt3 mm G r) P 141 := lit_141 (by decide) (by decide)
        have eL : ∀ k, k < 48 → litM (setR (pt3 mm G r) P) P 147 k = LR m G P r k := fun k hk => (mfill_lt hk).trans (sHR_fin hs hok h9 hw h48 k)
        have eo : ∀ i, i ≠ 141 → i ≠ 147 → i ≠ 148 → litM (setR (pt3 mm G r) P) P i = mm i := fun i h1 h7 h8 => (lit_141 h7 h8).trans ((setR_i h1 P).trans (pt3_i h1))
        have eG : ∀ k, k < 48 → litM (setR (pt3 mm G r) P) P 154 k = shdR m g k := fun k hk => by rw [eo 154 (by decide) (by decide) (by decide), hx 154 (by decide)]; exact s0M_154 hk
        have e1 : ∀ j, ¬ (30 ≤ j ∧ j < 36) → (∀ p, p < P → j ≠ 90 + 6 * p + 5) → litM (setR (pt3 mm G r) P) P 141 j = m 141 j := fun j h1 h2 => (congrFun eX j).trans (hs2.1 j h1 h2)
        have e4 : ∀ j, 440 ≤ j → litM (setR (pt3 mm G r) P) P 141 j = m 141 j := fun j hj => e1 j (by omega) (fun q hq => by omega)
        have eT : cntR (litM (setR (pt3 mm G r) P) P) (nI 6) T = cntR m (nI 6) T := cntR_c (e1 1 (by omega) (fun q hq => by omega)) e4 T
        have kp2 : kpt (litM (setR (pt3 mm G r) P) P) (cntR m (nI 6) T) := kpt_c hk2 (fun j hj => by rw [e4 j hj]; exact (hs.1 j (by omega) (fun q hq => by omega)).symm) (eo 154 (by decide) (by decide) (by decide)) (eo 155 (by decide) (by decide) (by decide))
        have eF : cnt (seeF' true (litM (setR (pt3 mm G r) P) P) (cntR (litM (setR (pt3 mm G r) P) P) (nI 6) T)) 48 = hidF m g G P (cntR m (nI 6) T) r := cnt_c 48 fun k hk => by
          unfold seeF' stlF
          rw [eT, eL k hk, eG k hk, sawF_c e4, e1 4 (by omega) (fun q hq => by omega), edcF_c hk eL]
          rfl
        refine J_iload (pc := 84) dX8_search_84 rfl ?_
        refine J_iload (pc := 86) dX8_search_86 rfl ?_
        refine Jn_ge (pc := 88) (tgt := 214) dX8_search_88 (by decide) (by omega) (by omega) (fun h88 => absurd h88 (by omega)) (fun h88 => ?_)
        refine J_aload_n (pc := 91) dX8_search_91 rfl ?_
        refine K_getR (pc := 92) dX8_search_92 kf_X8_7 job_140 jrf_140_0 ?_
        refine J_bipush (pc := 95) dX8_search_95 knb_30 ?_
        refine J_iload_n (pc := 97) dX8_search_97 rfl ?_
        refine J_bipush (pc := 98) dX8_search_98 knb_10 ?_
        refine J_irem (pc := 100) (v := nI (G % 10)) dX8_search_100 (by decide) (pk_rem (by omega) (by omega) (by omega)) ?_
        refine J_iaddv (pc := 101) dX8_search_101 (nI_add _ _) ?_
        refine J_iload (pc := 102) dX8_search_102 rfl ?_
        refine J_bipush (pc := 104) dX8_search_104 knb_10 ?_
        refine J_irem (pc := 106) (v := nI (r % 10)) dX8_search_106 (by decide) (pk_rem (by omega) (by omega) (by omega)) ?_
        refine K_iastn (pc := 107) (id := 141) dX8_search_107 jar_141 (by omega) (by decide) ?_
        refine J_iload (pc := 108) dX8_search_108 rfl ?_
        refine J_iconst (pc := 110) dX8_search_110 kni_1 ?_
        refine K_merge (jc := 137) (ls' := [some (.ref (jxb x + 140)), some (.int (nI g)), some (.int (nI G)), some (.int (nI 1)), some (.int (nI (nG G))), some (.int (nI (tot G))), some (.int ((bs1 (hidF m g G P (cntR m (nI 6) T)) r))), some (.int (nI ((bst (hidF m g G P (cntR m (nI 6) T)) r).2))), some (.int (nI r)), none, none]) (st' := []) (m' := (pt2 mm G r)) ?_ (fun hj137 => ?_)
        ·
          refine J_iload (pc := 137) dX8_search_137 rfl ?_
          refine J_iconst (pc := 139) dX8_search_139 kni_2 ?_
          refine K_merge (jc := 160) (ls' := [some (.ref (jxb x + 140)), some (.int (nI g)), some (.int (nI G)), some (.int (nI 1)), some (.int (nI (nG G))), some (.int (nI (tot G))), some (.int ((bs1 (hidF m g G P (cntR m (nI 6) T)) r))), some (.int (nI ((bst (hidF m g G P (cntR m (nI 6) T)) r).2))), some (.int (nI r)), none, none]) (st' := []) (m' := (pt3 mm G r)) ?_ (fun hj160 => ?_)
          ·
            refine J_aload_n (pc := 160) dX8_search_160 rfl ?_
            refine K_callVi (pc := 161) (id := 140) (As := []) dX8_search_161 kl_X8_147 rfl job_140 rfl rfl (Nat.le_of_ble_eq_true rfl) (m_settle (m := pt3 mm G r) (P := P) ((pt3_j (by omega) hok h9).trans ((hs.1 0 (by omega) (fun q hq => by omega)).trans hP)) h48 (pt3_w hok h9 (sHR_w hs hw))) (fun v161 m161 h161 => ?_)
            obtain ⟨rfl, rfl⟩ := h161
            refine J_istore (pc := 164) (ls' := [some _, some _, some _, some _, some _, some _, some _, some _, some _, some _, none]) dX8_search_164 rfl (Nat.le_of_ble_eq_true rfl) rfl ?_
            refine J_aload_n (pc := 166) dX8_search_166 rfl ?_
            refine K_callVv (pc := 167) (id := 140) (As := []) dX8_search_167 kl_X8_130 rfl job_140 rfl rfl (Nat.le_of_ble_eq_true rfl) (m_findLight (m := (setR (pt3 mm G r) P)) (P := P) ((hs2.1 0 (by omega) (fun q hq => by omega)).trans hP) h48 (fun p hp => by rw [hs2.1 _ (by omega) (fun q hq => by omega)]; exact hplc p hp)) (fun m167 h167 => ?_)
            subst h167
            refine J_iload_n (pc := 170) dX8_search_170 rfl ?_
            refine Jn_if_eq (pc := 171) (tgt := 182) dX8_search_171 (by decide) (by omega) (fun h171 => absurd h171 (by omega)) (fun h171 => ?_)
            refine J_aload_n (pc := 174) dX8_search_174 rfl ?_
            refine J_iconst (pc := 175) dX8_search_175 kni_1 ?_
            refine K_callVi (pc := 176) (id := 140) (As := [_]) dX8_search_176 kl_X8_305 rfl job_140 rfl rfl (Nat.le_of_ble_eq_true rfl) (m_findSeen1 (m := (litM (setR (pt3 mm G r) P) P)) (T := T) ((e1 6 (by omega) (fun q hq => by omega)).trans hT) hT14 (fun t ht => sndT_c e4 (hS t ht)) (fun p hp => by rw [eL p hp]; exact finR_in) (by rw [eT]; exact kp2)) (fun v176 m176 h176 => ?_)
            obtain ⟨rfl, x176, -, k176⟩ := h176
            rw [eF]
            refine J_goto (pc := 179) (tgt := 186) dX8_search_179 (by decide) ?_
            refine J_istore (pc := 186) (ls' := [some _, some _, some _, some _, some _, some _, some _, some _, some _, some _, some _]) dX8_search_186 rfl (Nat.le_of_ble_eq_true rfl) rfl ?_
            refine J_iload (pc := 188) dX8_search_188 rfl ?_
            refine J_if_lt (pc := 190) (tgt := 200) dX8_search_190 (by decide) (fun h190 => ?_) (fun h190 => ?_)
            · 
              refine J_iload (pc := 200) dX8_search_200 rfl ?_
              refine J_istore (pc := 202) (ls' := [some _, some _, some _, some _, some _, some _, some _, some _, some _, some _, some _]) dX8_search_202 rfl (Nat.le_of_ble_eq_true rfl) rfl ?_
              refine J_iload (pc := 204) dX8_search_204 rfl ?_
              refine J_istore (pc := 206) (ls' := [some _, some _, some _, some _, some _, some _, some _, some _, some _, some _, some _]) dX8_search_206 rfl (Nat.le_of_ble_eq_true rfl) rfl ?_
              refine Jn_iinc (pc := 208) (ls' := [some _, some _, some _, some _, some _, some _, some _, some _, some _, some _, some _]) dX8_search_208 rfl knz_1 rfl rfl ?_
              refine J_goto (pc := 211) (tgt := 84) dX8_search_211 (by decide) ?_
              have hlt : (hidF m g G P (cntR m (nI 6) T)) r < 4800 := hidF_lt
              obtain ⟨b1, b2⟩ := bs1_up (f := (hidF m g G P (cntR m (nI 6) T))) (n := r) hlt (Or.inl h190)
              refine J_wk' (ih84 [some (.ref (jxb x + 140)), some (.int (nI g)), some (.int (nI G)), some (.int (nI 1)), some (.int (nI (nG G))), some (.int (nI (tot G))), some (.int (nI ((hidF m g G P (cntR m (nI 6) T)) r))), some (.int (nI r)), some (.int (nI (r + 1))), none, none] _ ⟨by rw [b1, b2], fun i hi => (x176 i (fun z => hi (by simp at z ⊢; omega))).trans ((eo i (fun z => hi (by rw [z]; decide)) (fun z => hi (by rw [z]; decide)) (fun z => hi (by rw [z]; decide))).trans (hx i hi)), sHR_c hs2 ((x176 141 (by decide)).trans eX), by rw [← eT]; exact k176⟩) rfl ?_
              rintro (_ | _ | _ | _ | _ | _ | _ | _ | _ | _ | _ | k) v hv <;> first | exact hv | cases hv
            · 
              refine J_iload (pc := 193) dX8_search_193 rfl ?_
              refine J_iload (pc := 195) dX8_search_195 rfl ?_
              refine J_icmp_ge (pc := 197) (tgt := 208) dX8_search_197 (by decide) (fun h197 => ?_) (fun h197 => ?_)
              · 
                refine Jn_iinc (pc := 208) (ls' := [some _, some _, some _, some _, some _, some _, some _, some _, some _, some _, some _]) dX8_search_208 rfl knz_1 rfl rfl ?_
                refine J_goto (pc := 211) (tgt := 84) dX8_search_211 (by decide) ?_
                have hlt : (hidF m g G P (cntR m (nI 6) T)) r < 4800 := hidF_lt
                obtain ⟨b1, b2⟩ := bs1_no (f := (hidF m g G P (cntR m (nI 6) T))) (n := r) hlt h190 (Int32.not_lt.mpr h197)
                refine J_wk' (ih84 [some (.ref (jxb x + 140)), some (.int (nI g)), some (.int (nI G)), some (.int (nI 1)), some (.int (nI (nG G))), some (.int (nI (tot G))), some (.int ((bs1 (hidF m g G P (cntR m (nI 6) T)) r))), some (.int (nI ((bst (hidF m g G P (cntR m (nI 6) T)) r).2))), some (.int (nI (r + 1))), none, none] _ ⟨by rw [b1, b2], fun i hi => (x176 i (fun z => hi (by simp at z ⊢; omega))).trans ((eo i (fun z => hi (by rw [z]; decide)) (fun z => hi (by rw [z]; decide)) (fun z => hi (by rw [z]; decide))).trans (hx i hi)), sHR_c hs2 ((x176 141 (by decide)).trans eX), by rw [← eT]; exact k176⟩) rfl ?_
                rintro (_ | _ | _ | _ | _ | _ | _ | _ | _ | _ | _ | k) v hv <;> first | exact hv | cases hv
              · 
                refine J_iload (pc := 200) dX8_search_200 rfl ?_
                refine J_istore (pc := 202) (ls' := [some _, some _, some _, some _, some _, some _, some _, some _, some _, some _, some _]) dX8_search_202 rfl (Nat.le_of_ble_eq_true rfl) rfl ?_
                refine J_iload (pc := 204) dX8_search_204 rfl ?_
                refine J_istore (pc := 206) (ls' := [some _, some _, some _, some _, some _, some _, some _, some _, some _, some _, some _]) dX8_search_206 rfl (Nat.le_of_ble_eq_true rfl) rfl ?_
                refine Jn_iinc (pc := 208) (ls' := [some _, some _, some _, some _, some _, some _, some _, some _, some _, some _, some _]) dX8_search_208 rfl knz_1 rfl rfl ?_
                refine J_goto (pc := 211) (tgt := 84) dX8_search_211 (by decide) ?_
                have hlt : (hidF m g G P (cntR m (nI 6) T)) r < 4800 := hidF_lt
                obtain ⟨b1, b2⟩ := bs1_up (f := (hidF m g G P (cntR m (nI 6) T))) (n := r) hlt (Or.inr (Int32.not_le.mp h197))
                refine J_wk' (ih84 [some (.ref (jxb x + 140)), some (.int (nI g)), some (.int (nI G)), some (.int (nI 1)), some (.int (nI (nG G))), some (.int (nI (tot G))), some (.int (nI ((hidF m g G P (cntR m (nI 6) T)) r))), some (.int (nI r)), some (.int (nI (r + 1))), none, none] _ ⟨by rw [b1, b2], fun i hi => (x176 i (fun z => hi (by simp at z ⊢; omega))).trans ((eo i (fun z => hi (by rw [z]; decide)) (fun z => hi (by rw [z]; decide)) (fun z => hi (by rw [z]; decide))).trans (hx i hi)), sHR_c hs2 ((x176 141 (by decide)).trans eX), by rw [← eT]; exact k176⟩) rfl ?_
                rintro (_ | _ | _ | _ | _ | _ | _ | _ | _ | _ | _ | k) v hv <;> first | exact hv | cases hv
          ·
            refine Jn_le (pc := 140) (tgt := 160) dX8_search_140 (by decide) (by omega) (by omega) (fun h140 => ?_) (fun h140 => ?_)
            · 
              have e160 : pt3 mm G r = pt2 mm G r := if_neg (by omega)
              rw [e160] at hj160
              exact hj160
            · 
              refine J_aload_n (pc := 143) dX8_search_143 rfl ?_
              refine K_getR (pc := 144) dX8_search_144 kf_X8_7 job_140 jrf_140_0 ?_
              refine J_bipush (pc := 147) dX8_search_147 knb_30 ?_
              refine J_iload_n (pc := 149) dX8_search_149 rfl ?_
              refine J_bipush (pc := 150) dX8_search_150 knb_100 ?_
              refine J_idiv (pc := 152) (v := nI (G / 100)) dX8_search_152 (by decide) (pk_div (by omega) (by omega) (by omega)) ?_
              refine J_iaddv (pc := 153) dX8_search_153 (nI_add _ _) ?_
              refine J_iload (pc := 154) dX8_search_154 rfl ?_
              refine J_bipush (pc := 156) dX8_search_156 knb_100 ?_
              refine J_idiv (pc := 158) (v := nI (r / 100)) dX8_search_158 (by decide) (pk_div (by omega) (by omega) (by omega)) ?_
              refine K_iastn (pc := 159) (id := 141) dX8_search_159 jar_141 (by omega) (by decide) ?_
              have e160 : pt3 mm G r = mup (pt2 mm G r) 141 (30 + G / 100) (nI (r / 100)) := if_pos h140
              rw [e160] at hj160
              exact hj160
        ·
          refine Jn_le (pc := 111) (tgt := 137) dX8_search_111 (by decide) (by omega) (by omega) (fun h111 => ?_) (fun h111 => ?_)
          · 
            have e137 : pt2 mm G r = pt1 mm G r := if_neg (by omega)
            rw [e137] at hj137
            exact hj137
          · 
            refine J_aload_n (pc := 114) dX8_search_114 rfl ?_
            refine K_getR (pc := 115) dX8_search_115 kf_X8_7 job_140 jrf_140_0 ?_
            refine J_bipush (pc := 118) dX8_search_118 knb_30 ?_
            refine J_iload_n (pc := 120) dX8_search_120 rfl ?_
            refine J_bipush (pc := 121) dX8_search_121 knb_10 ?_
            refine J_idiv (pc := 123) (v := nI (G / 10)) dX8_search_123 (by decide) (pk_div (by omega) (by omega) (by omega)) ?_
            refine J_bipush (pc := 124) dX8_search_124 knb_10 ?_
            refine J_irem (pc := 126) (v := nI ((G / 10) % 10)) dX8_search_126 (by decide) (pk_rem (by omega) (by omega) (by omega)) ?_
            refine J_iaddv (pc := 127) dX8_search_127 (nI_add _ _) ?_
            refine J_iload (pc := 128) dX8_search_128 rfl ?_
            refine J_bipush (pc := 130) dX8_search_130 knb_10 ?_
            refine J_idiv (pc := 132) (v := nI (r / 10)) dX8_search_132 (by decide) (pk_div (by omega) (by omega) (by omega)) ?_
            refine J_bipush (pc := 133) dX8_search_133 knb_10 ?_
            refine J_irem (pc := 135) (v := nI ((r / 10) % 10)) dX8_search_135 (by decide) (pk_rem (by omega) (by omega) (by omega)) ?_
            refine K_iastn (pc := 136) (id := 141) dX8_search_136 jar_141 (by omega) (by decide) ?_
            have e137 : pt2 mm G r = mup (pt1 mm G r) 141 (30 + G / 10 % 10) (nI (r / 10 % 10)) := if_pos h111
            rw [e137] at hj137
            exact hj137
      ·
        obtain ⟨rfl, hx, hs, hk2⟩ := hI84
        have hb48 := bst_48 (f := (hidF m g G P (cntR m (nI 6) T))) (tot G)
        have hb2 := bst_2 (f := (hidF m g G P (cntR m (nI 6) T))) (tot G)
        rw [bs1_tot]
        refine J_iload (pc := 84) dX8_search_84 rfl ?_
        refine J_iload (pc := 86) dX8_search_86 rfl ?_
        refine Jn_ge (pc := 88) (tgt := 214) dX8_search_88 (by decide) (by omega) (by omega) (fun h88 => ?_) (fun h88 => absurd h88 (by omega))
        refine J_aload_n (pc := 214) dX8_search_214 rfl ?_
        refine J_aload_n (pc := 215) dX8_search_215 rfl ?_
        refine K_getR (pc := 216) dX8_search_216 kf_X8_16 job_140 jrf_140_2 ?_
        refine J_aload_n (pc := 219) dX8_search_219 rfl ?_
        refine K_getR (pc := 220) dX8_search_220 kf_X8_7 job_140 jrf_140_0 ?_
        refine K_callVv (pc := 223) (id := 140) (As := [_, _]) dX8_search_223 kl_X8_151 rfl job_140 rfl rfl (Nat.le_of_ble_eq_true rfl) (m_setAside (m := mm) (ar := 143) (ar2 := 141) (nn := 3450) jar_143 jar_141 rfl (by decide)) (fun m223 h223 => ?_)
        subst h223
        refine J_aload_n (pc := 226) dX8_search_226 rfl ?_
        refine J_iload_n (pc := 227) dX8_search_227 rfl ?_
        refine K_put (pc := 228) dX8_search_228 kp_X8_319 job_140 jrf_140_28 rfl rfl ?_
        refine J_aload_n (pc := 231) dX8_search_231 rfl ?_
        refine J_iload_n (pc := 232) dX8_search_232 rfl ?_
        refine K_put (pc := 233) dX8_search_233 kp_X8_322 job_140 jrf_140_29 rfl rfl ?_
        refine J_aload_n (pc := 236) dX8_search_236 rfl ?_
        refine J_iload_n (pc := 237) dX8_search_237 rfl ?_
        refine K_put (pc := 238) dX8_search_238 kp_X8_325 job_140 jrf_140_30 rfl rfl ?_
        refine J_aload_n (pc := 241) dX8_search_241 rfl ?_
        refine J_iload (pc := 242) dX8_search_242 rfl ?_
        refine K_put (pc := 244) dX8_search_244 kp_X8_332 job_140 jrf_140_31 rfl rfl ?_
        refine J_aload_n (pc := 247) dX8_search_247 rfl ?_
        refine J_iload (pc := 248) dX8_search_248 rfl ?_
        refine K_put (pc := 250) dX8_search_250 kp_X8_335 job_140 jrf_140_32 rfl rfl ?_
        refine J_aload_n (pc := 253) dX8_search_253 rfl ?_
        refine J_iconst (pc := 254) dX8_search_254 kni_1 ?_
        refine K_put (pc := 255) dX8_search_255 kp_X8_67 job_140 jrf_140_33 rfl rfl ?_
        refine K_vret (pc := 258) dX8_search_258 rfl ⟨rfl, ?_⟩
        refine ⟨?_, fun i hi => ?_, fun k hk => ?_, ?_, ?_, ?_, ?_, ?_, mup_s⟩
        · rw [mup_i' (by decide), mup_i' (by decide), mup_i' (by decide), mup_i' (by decide), mup_i' (by decide), mup_i' (by decide)]
          funext j
          by_cases hj : j < 3450
          · rw [mfill_lt hj, hx 143 (by decide), s0M_143 hj]
          · rw [mfill_ge (by omega)]
            exact hs.1 j (by omega) (fun q hq => by omega)
        · have hne : i ≠ 140 ∧ i ≠ 141 ∧ i ≠ 143 ∧ i ≠ 154 ∧ i ≠ 155 := by simp at hi; omega
          rw [mup_i' hne.1, mup_i' hne.1, mup_i' hne.1, mup_i' hne.1, mup_i' hne.1, mup_i' hne.1, mfill_i' hne.2.1, hx i (fun z => hi (by simp at z ⊢; omega)), s0M_i hne.2.2.1 hne.2.2.2.1 hne.2.2.2.2]
        · rw [mup_j (by omega), mup_j (by omega), mup_j (by omega), mup_j (by omega), mup_j (by omega), mup_j (by omega), mfill_i (by decide), hx 140 (by decide), s0M_i (by decide) (by decide) (by decide)]
        · rw [mup_j (by decide), mup_j (by decide), mup_j (by decide), mup_j (by decide), mup_j (by decide), mup_s]
        · rw [mup_j (by decide), mup_j (by decide), mup_j (by decide), mup_j (by decide), mup_s]
        · rw [mup_j (by decide), mup_j (by decide), mup_j (by decide), mup_s]
        · rw [mup_j (by decide), mup_j (by decide), mup_s]
        · rw [mup_j (by decide), mup_s]
    ·
      refine Jn_ne (pc := 34) (tgt := 42) dX8_search_34 (by decide) (by omega) (by omega) (fun h34 => ?_) (fun h34 => ?_)
      · 
        refine J_iload (pc := 42) dX8_search_42 rfl ?_
        refine J_iconst (pc := 44) dX8_search_44 kni_2 ?_
        refine Jn_ne (pc := 45) (tgt := 53) dX8_search_45 (by decide) (by omega) (by omega) (fun h45 => ?_) (fun h45 => ?_)
        · 
          refine J_sipush (pc := 53) dX8_search_53 kns_1000 ?_
          have e56 : tot G = 1000 := tot_3 (by have := nG_3 G; omega)
          rw [e56] at hj56
          exact hj56
        · 
          refine J_bipush (pc := 48) dX8_search_48 knb_100 ?_
          refine J_goto (pc := 50) (tgt := 56) dX8_search_50 (by decide) ?_
          have e56 : tot G = 100 := tot_2 h45
          rw [e56] at hj56
          exact hj56
      · 
        refine J_bipush (pc := 37) dX8_search_37 knb_10 ?_
        refine J_goto (pc := 39) (tgt := 56) dX8_search_39 (by decide) ?_
        have e56 : tot G = 10 := tot_1 (by omega) (by omega)
        rw [e56] at hj56
        exact hj56
