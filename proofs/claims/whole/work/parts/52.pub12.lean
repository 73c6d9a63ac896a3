/-- the ticks told, and how far what waits is the same -/
def tkC (m : jm) (P i : Nat) : jm := goN (becM (mup m 0 10 (nI 0)) 27 14) 27 P i
def rwC (m : jm) (P T j : Nat) : Int32 := if j % 2 = 0 then sumV (tkC m P (j / 2 + 1) 33) P else nI (cnt (seeG (tkC m P (j / 2 + 1)) 27 0 (bestV (tkC m P (j / 2 + 1)) 27 (nI 6) T)) 48)
def mch (r w : Nat → Int32) (many : Nat) : Nat → Nat
  | 0 => 0
  | j + 1 => if mch r w many j = j ∧ j < many ∧ w j = r j then j + 1 else mch r w many j
theorem mch_le (r w : Nat → Int32) (many : Nat) : ∀ j, mch r w many j ≤ j
  | 0 => Nat.le_refl _
  | j + 1 => by have := mch_le r w many j; unfold mch; split <;> omega
theorem rwC_0 {m : jm} {P T i : Nat} : rwC m P T (2 * i) = sumV (tkC m P (i + 1) 33) P := by
  unfold rwC
  rw [if_pos (by omega), show 2 * i / 2 = i by omega]
theorem rwC_1 {m : jm} {P T i : Nat} : rwC m P T (2 * i + 1) = nI (cnt (seeG (tkC m P (i + 1)) 27 0 (bestV (tkC m P (i + 1)) 27 (nI 6) T)) 48) := by
  unfold rwC
  rw [if_neg (by omega), show (2 * i + 1) / 2 = i by omega]
theorem knz_2 : Int32.ofInt 2 = nI 2 := by decide +kernel
theorem goOn_c {a b : jm} {o P : Nat} {S : List Nat} (h : exs S a b) (ho : ∀ k, k ∈ S → o + 12 < k) : exs S (goOnM a o P) (goOnM b o P) := by
  have hk : ∀ k, o ≤ k → k ≤ o + 12 → b k = a k := fun k h1 h2 => h k (fun q => by have := ho k q; omega)
  have hm : ∀ k, k ∉ S → markM b o k = markM a o k := fun k hkS => by
    funext j
    unfold markM mfill
    by_cases c : k = o + 8 ∧ j < 48
    · rw [if_pos c, if_pos c]
      exact lightS_i (fun q hq => hk q (by omega) (by omega))
    · rw [if_neg c, if_neg c, h k hkS]
  have hmk : ∀ k, o ≤ k → k ≤ o + 12 → markM b o k = markM a o k := fun k h1 h2 => hm k (fun q => by have := ho k q; omega)
  intro k hkS
  funext j
  unfold goOnM mup
  by_cases c : k = o ∧ j = 13
  · rw [if_pos c, if_pos c, hk o (Nat.le_refl _) (by omega)]
  · rw [if_neg c, if_neg c]
    unfold mfill
    by_cases e : k = o + 6 ∧ j < P
    · rw [if_pos e, if_pos e]
      unfold sizeS paceS
      rw [aimS_c (m := markM a o) (m' := markM b o) (fun k hk => hmk (o + k) (by omega) (by omega)) (congrFun (hmk (o + 6) (by omega) (by omega)) j), hmk (o + 6) (by omega) (by omega), hmk (o + 1) (by omega) (by omega), hmk (o + 3) (by omega) (by omega)]
    · rw [if_neg e, if_neg e, hm k hkS]
theorem shade_x {a b : jm} (h : exs [94, 96, 97, 98, 99, 100] a b) {g p : Nat} (hg : g < 4) (hp : p < 48) : shadeS b g p = shadeS a g p := shadeS_c (h 41 (by decide)) (h 42 (by decide)) (fun l hl => h _ (by simp; omega)) hg hp
theorem seeG_x {a b : jm} (h : exs [94, 96, 97, 98, 99, 100] a b) {tx : Int32} (hX : wfX a tx) {p : Nat} (hp : p < 48) : seeG b 27 0 tx p = seeG a 27 0 tx p := by
  have hl : ∀ q, lightS b 27 q = lightS a 27 q := fun q => lightS_i (fun k hk => h k (by simp; omega))
  unfold seeG movL
  rw [hl, shade_x h (by decide) hp, h (27 + 8) (by decide), h (27 + 12) (by decide), show lightS b 27 = lightS a 27 from funext hl]
  by_cases n : tx = NONEv
  · rw [if_pos n, if_pos n]
  · rw [if_neg n, if_neg n]
    have := (wfX_80 hX).resolve_left n
    rw [textV_c (h _ (by simp; omega)) (h 78 (by decide))]
theorem tkC_i {m : jm} {P i k : Nat} (h : k ≠ 0) (h2 : k < 27 ∨ 39 < k) : tkC m P i k = m k := (goN_i (by omega) (by omega) (by omega) i).trans ((bec_i (by omega)).trans (mup_i' h))
set_option maxRecDepth 100000 in
set_option maxHeartbeats 400000 in
theorem p_check {x : jX} {m : jm} {d : Nat} (n : Int32) {w P T : Nat} (hw0 : m 0 10 = nI w) (hw60 : w ≤ 60) (hP : ¬ m 0 11 = 0 → m 14 0 = nI P) (h48 : P ≤ 48) (hat : ¬ m 0 11 = 0 → wfAt m 14) (hw : ¬ m 0 11 = 0 → wfPt m 14) (hT : ¬ m 0 11 = 0 → m 14 14 = nI T) (hT14 : T ≤ 14) (hX : ∀ i, wfX m (bestV (tkC m P i) 27 (nI 6) T)) : Ct x (d + 6) eX7_check [.ref (jxb x + 0), .int n] m (ji fun rv m' => m' 0 10 = nI 0 ∧ (∀ j, j ≠ 10 → m' 0 j = m 0 j) ∧ (∀ k, k ≠ 0 → (k < 27 ∨ 39 < k) → k ∉ [94, 96, 97, 98, 99, 100] → m' k = m k) ∧ rv = if ¬ (nI 1 ≤ n ∧ n ≤ nI 30) then -1000000001 else if m 0 11 = 0 then -1000000002 else if mch (rwC m P T) (m 139) w (2 * tN n) = 2 * tN n ∧ w = 2 * tN n then nI 0 else nI 1 + nI (mch (rwC m P T) (m 139) w (2 * tN n))) := by
  refine J_start (by decide +kernel) (Nat.le_of_ble_eq_true rfl) (ls := [some (.ref (jxb x + 0)), some (.int n), none, none, none]) rfl rfl ?_
  refine J_aload_n (pc := 0) dX7_check_0 rfl ?_
  refine K_getI (pc := 1) dX7_check_1 kf_X7_68 job_0 jrf_0_10 ?_
  refine J_top (b := nI w) (hw0) ?_
  refine J_istore_n (pc := 4) (ls' := [some _, some _, some _, none, none]) dX7_check_4 rfl (Nat.le_of_ble_eq_true rfl) rfl ?_
  refine J_aload_n (pc := 5) dX7_check_5 rfl ?_
  refine J_iconst (pc := 6) dX7_check_6 kni_0 ?_
  refine K_put (pc := 7) dX7_check_7 kp_X7_68 job_0 jrf_0_10 rfl rfl ?_
  refine J_iload_n (pc := 10) dX7_check_10 rfl ?_
  refine J_iconst (pc := 11) dX7_check_11 kni_1 ?_
  refine J_bipush (pc := 12) dX7_check_12 knb_30 ?_
  refine K_callSp (pc := 14) (As := [_, _, _]) dX7_check_14 kl_X7_76 rfl rfl (Nat.le_of_ble_eq_true rfl) (c_within _ _ _) ?_
  refine Jb_ne (pc := 17) (tgt := 23) dX7_check_17 (by decide) (fun h17 => ?_) (fun h17 => ?_)
  · 
    refine J_aload_n (pc := 23) dX7_check_23 rfl ?_
    refine K_getI (pc := 24) dX7_check_24 kf_X7_72 job_0 jrf_0_11 ?_
    refine J_top (b := (m 0 11)) (mup_j (by decide)) ?_
    refine J_if_ne (pc := 27) (tgt := 33) dX7_check_27 (by decide) (fun h27 => ?_) (fun h27 => ?_)
    · 
      obtain ⟨q, hq1, hq, hqe⟩ := w_of1 h17 (by decide)
      have htq : tN n = q := by rw [hqe]; exact tN_n (by omega)
      subst hqe
      refine J_aload_n (pc := 33) dX7_check_33 rfl ?_
      refine K_getR (pc := 34) dX7_check_34 kf_X7_19 job_0 jrf_0_2 ?_
      refine J_aload_n (pc := 37) dX7_check_37 rfl ?_
      refine K_getR (pc := 38) dX7_check_38 kf_X7_16 job_0 jrf_0_1 ?_
      refine K_callVv (pc := 41) (id := 27) (As := [_]) dX7_check_41 kl_X7_174 rfl job_27 rfl rfl (Nat.le_of_ble_eq_true rfl) (c_becomes (o := 27) (o2 := 14) (Or.inr (Or.inr (Or.inl rfl))) (Or.inr (Or.inl rfl))) (fun m41 h41 => ?_)
      subst h41
      have ha : apart 27 14 := Or.inr (by decide)
      have hat0 : wfAt (becM (mup m 0 10 (nI 0)) 27 14) 27 := fun q hq => by rw [show (becM (mup m 0 10 (nI 0)) 27 14) (27 + 7) q = (mup m 0 10 (nI 0)) (14 + 7) q from bec_7 ha hq, mup_i (by decide)]; exact hat h27 q hq
      have hw1 : wfPt (becM (mup m 0 10 (nI 0)) 27 14) 27 := wfPt_x (o := 27) (o2 := 14) (fun j hj => bec_5 ha hj) (fun j hj => bec_9 ha hj) (wfPt_c (mup_i' (by decide)) (mup_i' (by decide)) (hw h27))
      have hP0 : (becM (mup m 0 10 (nI 0)) 27 14) 27 0 = nI P := (bec_f0 ha).trans ((mup_i (by decide)).trans (hP h27))
      have hT0 : (becM (mup m 0 10 (nI 0)) 27 14) 27 14 = nI T := (bec_f14 ha).trans ((mup_i (by decide)).trans (hT h27))
      refine J_iconst (pc := 44) dX7_check_44 kni_0 ?_
      refine J_istore_n (pc := 45) (ls' := [some _, some _, some _, some _, none]) dX7_check_45 rfl (Nat.le_of_ble_eq_true rfl) rfl ?_
      refine J_iconst (pc := 46) dX7_check_46 kni_0 ?_
      refine J_istore (pc := 47) (ls' := [some _, some _, some _, some _, some _]) dX7_check_47 rfl (Nat.le_of_ble_eq_true rfl) rfl ?_
      refine K_inv (pc := 49) q (fun i lsq mq => lsq = [some (.ref (jxb x + 0)), some (.int (nI q)), some (.int (nI w)), some (.int (nI (mch (rwC m P T) (m 139) w (2 * i)))), some (.int (nI (2 * i)))] ∧ (exs [94, 96, 97, 98, 99, 100] (tkC m P i) mq)) (fun i hi lsq mm hI49 ih49 => ?_) (fun lsq mm hI49 => ?_) 0 (Nat.zero_le _) _ _ (⟨rfl, exs_rf _ _⟩)
      ·
        obtain ⟨rfl, hx⟩ := hI49
        have hml := mch_le (rwC m P T) (m 139) w (2 * i)
        have hml1 := mch_le (rwC m P T) (m 139) w (2 * i + 1)
        refine J_iload (pc := 49) dX7_check_49 rfl ?_
        refine J_iconst (pc := 51) dX7_check_51 kni_2 ?_
        refine J_iload_n (pc := 52) dX7_check_52 rfl ?_
        refine J_imulv (pc := 53) dX7_check_53 (pk_mul _ _) ?_
        refine Jn_ge (pc := 54) (tgt := 134) dX7_check_54 (by decide) (by omega) (by omega) (fun h54 => absurd h54 (by omega)) (fun h54 => ?_)
        refine J_aload_n (pc := 57) dX7_check_57 rfl ?_
        refine K_getR (pc := 58) dX7_check_58 kf_X7_19 job_0 jrf_0_2 ?_
        refine K_callVv (pc := 61) (id := 27) (As := []) dX7_check_61 kl_X7_161 rfl job_27 rfl rfl (Nat.le_of_ble_eq_true rfl) (c_goOn (m := mm) (o := 27) (P := P) (Or.inr (Or.inr (Or.inl rfl))) (fun q hq => by rw [hx (27 + 7) (by decide)]; exact goN_at hat0 i q hq) (wfPt_c (hx _ (by decide)) (hx _ (by decide)) (goN_pt hw1 i)) (by rw [hx 27 (by decide)]; exact (goN_0 i).trans hP0) h48) (fun m61 h61 => ?_)
        subst h61
        have hx1 : exs [94, 96, 97, 98, 99, 100] (tkC m P (i + 1)) (goOnM mm 27 P) := goOn_c hx (by decide)
        have e139 : ∀ j, (goOnM mm 27 P) 139 j = m 139 j := fun j => by rw [hx1 139 (by decide), tkC_i (by decide) (by decide)]
        have hT1 : ∀ k, tkC m P k 27 14 = nI T := fun k => by
          induction k with
          | zero => exact hT0
          | succ k ih =>
            refine Eq.trans ?_ ih
            show goOnM (tkC m P k) 27 P 27 14 = _
            unfold goOnM markM
            rw [mup_j (by decide), mfill_i (by decide), mfill_i (by decide)]
        have hb1 : bestV (goOnM mm 27 P) 27 (nI 6) T = bestV (tkC m P (i + 1)) 27 (nI 6) T := bestV_c (hx1 75 (by decide)) (hx1 76 (by decide)) (by rw [hx1 27 (by decide)]) T
        have hX1 : wfX (tkC m P (i + 1)) (bestV (tkC m P (i + 1)) 27 (nI 6) T) := wfX_c (tkC_i (by decide) (by decide)) (fun t ht => tkC_i (by omega) (by omega)) (hX (i + 1))
        refine K_merge (jc := 94) (ls' := [some (.ref (jxb x + 0)), some (.int (nI q)), some (.int (nI w)), some (.int (nI (mch (rwC m P T) (m 139) w (2 * i + 1)))), some (.int (nI (2 * i)))]) (st' := []) (m' := (goOnM mm 27 P)) ?_ (fun hj94 => ?_)
        ·
          refine J_iload_n (pc := 94) dX7_check_94 rfl ?_
          refine J_iload (pc := 95) dX7_check_95 rfl ?_
          refine J_iconst (pc := 97) dX7_check_97 kni_1 ?_
          refine J_iaddv (pc := 98) dX7_check_98 (nI_add _ _) ?_
          refine Jn_ne (pc := 99) (tgt := 128) dX7_check_99 (by decide) (by omega) (by omega) (fun h99 => ?_) (fun h99 => ?_)
          · 
            refine Jn_iinc (pc := 128) (ls' := [some _, some _, some _, some _, some _]) dX7_check_128 rfl knz_2 rfl rfl ?_
            refine J_goto (pc := 131) (tgt := 49) dX7_check_131 (by decide) ?_
            have e49 : mch (rwC m P T) (m 139) w (2 * i + 1 + 1) = mch (rwC m P T) (m 139) w (2 * i + 1) := if_neg (fun z => h99 z.1)
            exact ih49 _ _ ⟨by rw [show 2 * (i + 1) = 2 * i + 1 + 1 from rfl, e49], hx1⟩
          · 
            refine J_iload_n (pc := 102) dX7_check_102 rfl ?_
            refine J_iload_n (pc := 103) dX7_check_103 rfl ?_
            refine Jn_ge (pc := 104) (tgt := 128) dX7_check_104 (by decide) (by omega) (by omega) (fun h104 => ?_) (fun h104 => ?_)
            · 
              refine Jn_iinc (pc := 128) (ls' := [some _, some _, some _, some _, some _]) dX7_check_128 rfl knz_2 rfl rfl ?_
              refine J_goto (pc := 131) (tgt := 49) dX7_check_131 (by decide) ?_
              have e49 : mch (rwC m P T) (m 139) w (2 * i + 1 + 1) = mch (rwC m P T) (m 139) w (2 * i + 1) := if_neg (fun z => by omega)
              exact ih49 _ _ ⟨by rw [show 2 * (i + 1) = 2 * i + 1 + 1 from rfl, e49], hx1⟩
            · 
              refine J_aload_n (pc := 107) dX7_check_107 rfl ?_
              refine K_getR (pc := 108) dX7_check_108 kf_X7_64 job_0 jrf_0_9 ?_
              refine J_iload_n (pc := 111) dX7_check_111 rfl ?_
              refine K_ialdn (pc := 112) (id := 139) dX7_check_112 jar_139 (by omega) (by decide) ?_
              refine J_top (b := (m 139 (mch (rwC m P T) (m 139) w (2 * i + 1)))) (e139 _) ?_
              refine J_aload_n (pc := 113) dX7_check_113 rfl ?_
              refine J_aload_n (pc := 114) dX7_check_114 rfl ?_
              refine K_getR (pc := 115) dX7_check_115 kf_X7_19 job_0 jrf_0_2 ?_
              refine J_iconst (pc := 118) dX7_check_118 kni_0 ?_
              refine K_callVi (pc := 119) (id := 0) (As := [_, _]) dX7_check_119 kl_X7_264 rfl job_0 rfl rfl (Nat.le_of_ble_eq_true rfl) (p_spotAll (m := (goOnM mm 27 P)) (o := 27) (g := 0) (T := T) (Or.inr (Or.inr (Or.inl rfl))) (fun q hq => by rw [hx1 (27 + 7) (by decide)]; exact goN_at hat0 (i + 1) q hq) (by decide) (by rw [hx1 27 (by decide)]; exact hT1 (i + 1)) hT14 (by rw [hb1]; exact wfX_i hX1 hx1)) (fun v119 m119 h119 => ?_)
              obtain ⟨rfl, x119, -⟩ := h119
              rw [hb1, show cnt (seeG (goOnM mm 27 P) 27 0 (bestV (tkC m P (i + 1)) 27 (nI 6) T)) 48 = cnt (seeG (tkC m P (i + 1)) 27 0 (bestV (tkC m P (i + 1)) 27 (nI 6) T)) 48 from cnt_c 48 fun p hp => seeG_x hx1 hX1 hp]
              have hx2 : exs [94, 96, 97, 98, 99, 100] (tkC m P (i + 1)) m119 := exs_tr hx1 x119
              refine J_icmp_ne (pc := 122) (tgt := 128) dX7_check_122 (by decide) (fun h122 => ?_) (fun h122 => ?_)
              · 
                refine Jn_iinc (pc := 128) (ls' := [some _, some _, some _, some _, some _]) dX7_check_128 rfl knz_2 rfl rfl ?_
                refine J_goto (pc := 131) (tgt := 49) dX7_check_131 (by decide) ?_
                have e49 : mch (rwC m P T) (m 139) w (2 * i + 1 + 1) = mch (rwC m P T) (m 139) w (2 * i + 1) := if_neg (fun z => h122 (by rw [h99]; exact z.2.2.trans rwC_1))
                exact ih49 _ _ ⟨by rw [show 2 * (i + 1) = 2 * i + 1 + 1 from rfl, e49], hx2⟩
              · 
                refine Jn_iinc (pc := 125) (ls' := [some _, some _, some _, some _, some _]) dX7_check_125 rfl knz_1 rfl rfl ?_
                refine Jn_iinc (pc := 128) (ls' := [some _, some _, some _, some _, some _]) dX7_check_128 rfl knz_2 rfl rfl ?_
                refine J_goto (pc := 131) (tgt := 49) dX7_check_131 (by decide) ?_
                have e49 : mch (rwC m P T) (m 139) w (2 * i + 1 + 1) = mch (rwC m P T) (m 139) w (2 * i + 1) + 1 := (if_pos ⟨h99, by omega, (by rw [h99] at h122; exact h122.trans rwC_1.symm)⟩).trans (by rw [h99])
                exact ih49 _ _ ⟨by rw [show 2 * (i + 1) = 2 * i + 1 + 1 from rfl, e49], hx2⟩
        ·
          refine J_iload_n (pc := 64) dX7_check_64 rfl ?_
          refine J_iload (pc := 65) dX7_check_65 rfl ?_
          refine Jn_ne (pc := 67) (tgt := 94) dX7_check_67 (by decide) (by omega) (by omega) (fun h67 => ?_) (fun h67 => ?_)
          · 
            have e94 : mch (rwC m P T) (m 139) w (2 * i + 1) = mch (rwC m P T) (m 139) w (2 * i) := if_neg (fun z => h67 z.1)
            rw [e94] at hj94
            exact hj94
          · 
            refine J_iload_n (pc := 70) dX7_check_70 rfl ?_
            refine J_iload_n (pc := 71) dX7_check_71 rfl ?_
            refine Jn_ge (pc := 72) (tgt := 94) dX7_check_72 (by decide) (by omega) (by omega) (fun h72 => ?_) (fun h72 => ?_)
            · 
              have e94 : mch (rwC m P T) (m 139) w (2 * i + 1) = mch (rwC m P T) (m 139) w (2 * i) := if_neg (fun z => by omega)
              rw [e94] at hj94
              exact hj94
            · 
              refine J_aload_n (pc := 75) dX7_check_75 rfl ?_
              refine K_getR (pc := 76) dX7_check_76 kf_X7_64 job_0 jrf_0_9 ?_
              refine J_iload_n (pc := 79) dX7_check_79 rfl ?_
              refine K_ialdn (pc := 80) (id := 139) dX7_check_80 jar_139 (by omega) (by decide) ?_
              refine J_top (b := (m 139 (mch (rwC m P T) (m 139) w (2 * i)))) (e139 _) ?_
              refine J_aload_n (pc := 81) dX7_check_81 rfl ?_
              refine K_getR (pc := 82) dX7_check_82 kf_X7_19 job_0 jrf_0_2 ?_
              refine K_callVp (pc := 85) (id := 27) (As := []) dX7_check_85 kl_X7_330 rfl job_27 rfl rfl (Nat.le_of_ble_eq_true rfl) (c_allSizes (m := (goOnM mm 27 P)) (o := 27) (P := P) (Or.inr (Or.inr (Or.inl rfl))) (by rw [hx1 27 (by decide)]; exact (goN_0 (i + 1)).trans hP0) h48) ?_
              refine J_top (b := (sumV (tkC m P (i + 1) 33) P)) (by rw [show (goOnM mm 27 P) (27 + 6) = tkC m P (i + 1) 33 from hx1 33 (by decide)]) ?_
              refine J_icmp_ne (pc := 88) (tgt := 94) dX7_check_88 (by decide) (fun h88 => ?_) (fun h88 => ?_)
              · 
                have e94 : mch (rwC m P T) (m 139) w (2 * i + 1) = mch (rwC m P T) (m 139) w (2 * i) := if_neg (fun z => h88 (by rw [h67]; exact z.2.2.trans rwC_0))
                rw [e94] at hj94
                exact hj94
              · 
                refine Jn_iinc (pc := 91) (ls' := [some _, some _, some _, some _, some _]) dX7_check_91 rfl knz_1 rfl rfl ?_
                have e94 : mch (rwC m P T) (m 139) w (2 * i + 1) = mch (rwC m P T) (m 139) w (2 * i) + 1 := (if_pos ⟨h67, by omega, (by rw [h67] at h88; exact h88.trans rwC_0.symm)⟩).trans (by rw [h67])
                rw [e94] at hj94
                exact hj94
      ·
        obtain ⟨rfl, hx⟩ := hI49
        have hml := mch_le (rwC m P T) (m 139) w (2 * q)
        refine J_iload (pc := 49) dX7_check_49 rfl ?_
        refine J_iconst (pc := 51) dX7_check_51 kni_2 ?_
        refine J_iload_n (pc := 52) dX7_check_52 rfl ?_
        refine J_imulv (pc := 53) dX7_check_53 (pk_mul _ _) ?_
        refine Jn_ge (pc := 54) (tgt := 134) dX7_check_54 (by decide) (by omega) (by omega) (fun h54 => ?_) (fun h54 => absurd h54 (by omega))
        refine J_iload_n (pc := 134) dX7_check_134 rfl ?_
        refine J_iconst (pc := 135) dX7_check_135 kni_2 ?_
        refine J_iload_n (pc := 136) dX7_check_136 rfl ?_
        refine J_imulv (pc := 137) dX7_check_137 (pk_mul _ _) ?_
        refine Jn_ne (pc := 138) (tgt := 152) dX7_check_138 (by decide) (by omega) (by omega) (fun h138 => ?_) (fun h138 => ?_)
        · 
          refine J_iconst (pc := 152) dX7_check_152 kni_1 ?_
          refine J_iload_n (pc := 153) dX7_check_153 rfl ?_
          refine J_iaddv (pc := 154) dX7_check_154 (nI_add _ _) ?_
          refine K_iret (pc := 155) dX7_check_155 rfl ⟨_, rfl, ?_⟩
          refine ⟨?_, fun j hj => ?_, fun k hk hk2 hk3 => (hx k hk3).trans (tkC_i hk hk2), ?_⟩
          · rw [hx 0 (by decide)]
            exact (congrFun (goN_i (by decide) (by decide) (by decide) q) 10).trans ((congrFun (bec_i (by decide)) 10).trans mup_s)
          · rw [hx 0 (by decide)]
            exact (congrFun (goN_i (by decide) (by decide) (by decide) q) j).trans ((congrFun (bec_i (by decide)) j).trans (mup_j hj))
          rw [if_neg (Classical.not_not.mpr h17), if_neg h27, htq]
          rw [if_neg (fun z => h138 z.1)]
          exact (nI_add _ _).symm
        · 
          refine J_iload_n (pc := 141) dX7_check_141 rfl ?_
          refine J_iconst (pc := 142) dX7_check_142 kni_2 ?_
          refine J_iload_n (pc := 143) dX7_check_143 rfl ?_
          refine J_imulv (pc := 144) dX7_check_144 (pk_mul _ _) ?_
          refine Jn_ne (pc := 145) (tgt := 152) dX7_check_145 (by decide) (by omega) (by omega) (fun h145 => ?_) (fun h145 => ?_)
          · 
            refine J_iconst (pc := 152) dX7_check_152 kni_1 ?_
            refine J_iload_n (pc := 153) dX7_check_153 rfl ?_
            refine J_iaddv (pc := 154) dX7_check_154 (nI_add _ _) ?_
            refine K_iret (pc := 155) dX7_check_155 rfl ⟨_, rfl, ?_⟩
            refine ⟨?_, fun j hj => ?_, fun k hk hk2 hk3 => (hx k hk3).trans (tkC_i hk hk2), ?_⟩
            · rw [hx 0 (by decide)]
              exact (congrFun (goN_i (by decide) (by decide) (by decide) q) 10).trans ((congrFun (bec_i (by decide)) 10).trans mup_s)
            · rw [hx 0 (by decide)]
              exact (congrFun (goN_i (by decide) (by decide) (by decide) q) j).trans ((congrFun (bec_i (by decide)) j).trans (mup_j hj))
            rw [if_neg (Classical.not_not.mpr h17), if_neg h27, htq]
            rw [if_neg (fun z => by omega)]
            exact (nI_add _ _).symm
          · 
            refine J_iconst (pc := 148) dX7_check_148 kni_0 ?_
            refine J_goto (pc := 149) (tgt := 155) dX7_check_149 (by decide) ?_
            refine K_iret (pc := 155) dX7_check_155 rfl ⟨_, rfl, ?_⟩
            refine ⟨?_, fun j hj => ?_, fun k hk hk2 hk3 => (hx k hk3).trans (tkC_i hk hk2), ?_⟩
            · rw [hx 0 (by decide)]
              exact (congrFun (goN_i (by decide) (by decide) (by decide) q) 10).trans ((congrFun (bec_i (by decide)) 10).trans mup_s)
            · rw [hx 0 (by decide)]
              exact (congrFun (goN_i (by decide) (by decide) (by decide) q) j).trans ((congrFun (bec_i (by decide)) j).trans (mup_j hj))
            rw [if_neg (Classical.not_not.mpr h17), if_neg h27, htq]
            rw [if_pos ⟨h138, by omega⟩]
    · 
      refine J_ldc (pc := 30) dX7_check_30 kc_X7_85 ?_
      refine K_iret (pc := 32) dX7_check_32 rfl ⟨_, rfl, ?_⟩
      refine ⟨mup_s, fun j hj => mup_j hj, fun k hk _ _ => mup_i' hk, ?_⟩
      rw [if_neg (Classical.not_not.mpr h17), if_pos h27]
  · 
    refine J_ldc (pc := 20) dX7_check_20 kc_X7_80 ?_
    refine K_iret (pc := 22) dX7_check_22 rfl ⟨_, rfl, ?_⟩
    refine ⟨mup_s, fun j hj => mup_j hj, fun k hk _ _ => mup_i' hk, ?_⟩
    rw [if_pos h17]
