theorem nI_n0 {n : Nat} (h : n < 2 ^ 31) : ¬ nI n < 0 := by
  rw [Int32.lt_iff_toInt_lt, nI_toInt h, show (0 : Int32).toInt = 0 from rfl]
  omega
/-- the places beside, by the reference's ways and by the class's -/
def swp (s : Nat) : Nat := if s = 0 then 1 else if s = 1 then 0 else if s = 2 then 3 else 2
theorem swp_4 {s : Nat} (h : s < 4) : swp s < 4 ∧ swp (swp s) = s := by
  rcases (show s = 0 ∨ s = 1 ∨ s = 2 ∨ s = 3 by omega) with rfl | rfl | rfl | rfl <;> decide
theorem bes_sw {p s : Nat} (hp : p < 48) (hs : s < 4) : (besV p s = NONEv ∧ besW p (swp s) < 0) ∨ (besV p s = besW p (swp s) ∧ ∃ b, b < 48 ∧ besV p s = nI b) := by
  have n1 : (-1 : Int32) < 0 := by decide
  rcases (show s = 0 ∨ s = 1 ∨ s = 2 ∨ s = 3 by omega) with rfl | rfl | rfl | rfl
  · show ((if p % 8 = 0 then NONEv else nI (p - 1)) = NONEv ∧ besW p 1 < 0) ∨ ((if p % 8 = 0 then NONEv else nI (p - 1)) = besW p 1 ∧ ∃ b, b < 48 ∧ (if p % 8 = 0 then NONEv else nI (p - 1)) = nI b)
    have e : besW p 1 = if 0 < p % 8 then nI (p - 1) else -1 := rfl
    rw [e]
    by_cases c : p % 8 = 0
    · rw [if_pos c, if_neg (by omega)]; exact Or.inl ⟨rfl, n1⟩
    · rw [if_neg c, if_pos (by omega)]; exact Or.inr ⟨rfl, p - 1, by omega, rfl⟩
  · show ((if p % 8 < 7 then nI (p + 1) else NONEv) = NONEv ∧ besW p 0 < 0) ∨ ((if p % 8 < 7 then nI (p + 1) else NONEv) = besW p 0 ∧ ∃ b, b < 48 ∧ (if p % 8 < 7 then nI (p + 1) else NONEv) = nI b)
    have e : besW p 0 = if p % 8 < 7 then nI (p + 1) else -1 := rfl
    rw [e]
    by_cases c : p % 8 < 7
    · rw [if_pos c, if_pos c]; exact Or.inr ⟨rfl, p + 1, by omega, rfl⟩
    · rw [if_neg c, if_neg c]; exact Or.inl ⟨rfl, n1⟩
  · show ((if p < 8 then NONEv else nI (p - 8)) = NONEv ∧ besW p 3 < 0) ∨ ((if p < 8 then NONEv else nI (p - 8)) = besW p 3 ∧ ∃ b, b < 48 ∧ (if p < 8 then NONEv else nI (p - 8)) = nI b)
    have e : besW p 3 = nI p - nI 8 := rfl
    rw [e]
    by_cases c : p < 8
    · rw [if_pos c]
      refine Or.inl ⟨rfl, ?_⟩
      have e : (nI p - nI 8).toInt = (p : Int) - 8 := by
        rw [Int32.toInt_sub, nI_toInt (by omega), nI_toInt (by decide)]
        exact Int.bmod_eq_of_le (by omega) (by omega)
      rw [Int32.lt_iff_toInt_lt, e, show (0 : Int32).toInt = 0 from rfl]
      omega
    · rw [if_neg c]; exact Or.inr ⟨(pk_sub (by omega)).symm, p - 8, by omega, rfl⟩
  · show ((if p < 40 then nI (p + 8) else NONEv) = NONEv ∧ besW p 2 < 0) ∨ ((if p < 40 then nI (p + 8) else NONEv) = besW p 2 ∧ ∃ b, b < 48 ∧ (if p < 40 then nI (p + 8) else NONEv) = nI b)
    have e : besW p 2 = if p + 8 < 48 then nI (p + 8) else -1 := rfl
    rw [e]
    by_cases c : p < 40
    · rw [if_pos c, if_pos (by omega)]; exact Or.inr ⟨rfl, p + 8, by omega, rfl⟩
    · rw [if_neg c, if_neg (by omega)]; exact Or.inl ⟨rfl, n1⟩
theorem adj_W {a b w : Nat} (ha : a < 48) (hw : w < 4) (hb : b < 48) (h : besW a w = nI b) : adjS a b := by
  have h4 := swp_4 hw
  rcases bes_sw (p := a) (s := swp w) ha h4.1 with q | q
  · rw [h4.2, h] at q
    exact absurd q.2 (nI_n0 (by omega))
  · exact ⟨swp w, h4.1, q.1.trans (by rw [h4.2, h])⟩
theorem adj_V {a b : Nat} (ha : a < 48) (h : adjS a b) (hb : b < 48) : ∃ w, w < 4 ∧ besW a w = nI b := by
  obtain ⟨s, hs, e⟩ := h
  rcases bes_sw (p := a) (s := s) ha hs with q | q
  · exact absurd (e.symm.trans q.1) (nI_NONE hb)
  · exact ⟨swp s, (swp_4 hs).1, q.1.symm.trans e⟩
set_option maxRecDepth 100000 in
set_option maxHeartbeats 400000 in
theorem m_fill {x : jX} {m : jm} {d : Nat} {k : Nat} (hk : k < 48) (hs : ¬ m 153 k = 0) : Ct x (d + 1) eX8_fill [.ref (jxb x + 140), .int (nI k)] m (ji fun v m' => v = nI (cnt (rB (m 153) k) 48) ∧ exs [153, 156] m m' ∧ ∀ q, q < 48 → m' 153 q = if rB (m 153) k q = true then 0 else m 153 q) := by
  refine J_start (by decide +kernel) (Nat.le_of_ble_eq_true rfl) (ls := [some (.ref (jxb x + 140)), some (.int (nI k)), none, none, none, none]) rfl rfl ?_
  refine J_iconst (pc := 0) dX8_fill_0 kni_1 ?_
  refine J_istore_n (pc := 1) (ls' := [some _, some _, some _, none, none, none]) dX8_fill_1 rfl (Nat.le_of_ble_eq_true rfl) rfl ?_
  refine J_aload_n (pc := 2) dX8_fill_2 rfl ?_
  refine K_getR (pc := 3) dX8_fill_3 kf_X8_57 job_140 jrf_140_27 ?_
  refine J_iconst (pc := 6) dX8_fill_6 kni_0 ?_
  refine J_iload_n (pc := 7) dX8_fill_7 rfl ?_
  refine K_iastn (pc := 8) (id := 156) dX8_fill_8 jar_156 (by omega) (by decide) ?_
  refine J_aload_n (pc := 9) dX8_fill_9 rfl ?_
  refine K_getR (pc := 10) dX8_fill_10 kf_X8_46 job_140 jrf_140_24 ?_
  refine J_iload_n (pc := 13) dX8_fill_13 rfl ?_
  refine J_iconst (pc := 14) dX8_fill_14 kni_0 ?_
  refine K_zastn (pc := 15) (id := 153) (w := nI 0) dX8_fill_15 jar_153 (by omega) (by decide) rfl ?_
  refine J_iconst (pc := 16) dX8_fill_16 kni_0 ?_
  refine J_istore_n (pc := 17) (ls' := [some _, some _, some _, some _, none, none]) dX8_fill_17 rfl (Nat.le_of_ble_eq_true rfl) rfl ?_
  refine K_inv (pc := 18) 48 (fun i lsq mq => ∃ (n : Nat), lsq = [some (.ref (jxb x + 140)), some (.int (nI k)), some (.int (nI n)), some (.int (nI i)), none, none] ∧ (exs [153, 156] m mq) ∧ (flI (m 153) k (mq 153) (mq 156) n) ∧ (flC besW (m 153) (mq 153) (mq 156) i)) (fun i hi lsq mm hI18 ih18 => ?_) (fun lsq mm hI18 => ?_) 0 (Nat.zero_le _) _ _ (⟨1, rfl, exs_up (exs_up (exs_rf _ _) (by decide)) (by decide), by rw [show (mup (mup m 156 0 (nI k)) 153 k (nI 0)) 153 = fset (m 153) k 0 from by rw [mup_row, mup_i' (by decide)]; rfl, show (mup (mup m 156 0 (nI k)) 153 k (nI 0)) 156 = fset (m 156) 0 (nI k) from (mup_i' (by decide)).trans mup_row]; exact flI_0 hk hs, fun j hj => absurd hj (Nat.not_lt_zero _)⟩)
  ·
    obtain ⟨n, rfl, hx, hI, hC⟩ := hI18
    have hn48 : n ≤ 48 := by rw [hI.2.1]; exact cnt_le _ 48
    refine J_iload_n (pc := 18) dX8_fill_18 rfl ?_
    refine J_iload_n (pc := 19) dX8_fill_19 rfl ?_
    refine Jn_ge (pc := 20) (tgt := 91) dX8_fill_20 (by decide) (by omega) (by omega) (fun h20 => ?_) (fun h20 => ?_)
    · 
      refine J_iload_n (pc := 91) dX8_fill_91 rfl ?_
      refine K_iret (pc := 92) dX8_fill_92 rfl ⟨_, rfl, ?_⟩
      have hn48 : n ≤ 48 := by rw [hI.2.1]; exact cnt_le _ 48
      have hCn : flC besW (m 153) (mm 153) (mm 156) n := fun j hj => hC j (by omega)
      obtain ⟨q1, q2⟩ := fl_end hI hCn (fun a b ha hab hb => adj_V ha hab hb) hk
      exact ⟨by rw [q1], hx, q2⟩
    · 
      obtain ⟨a, ha, hea, hra, hrb⟩ := hI.2.2.2.1 i (by omega)
      refine J_iconst (pc := 23) dX8_fill_23 kni_0 ?_
      refine J_istore (pc := 24) (ls' := [some _, some _, some _, some _, some _, none]) dX8_fill_24 rfl (Nat.le_of_ble_eq_true rfl) rfl ?_
      refine K_inv (pc := 26) 4 (fun j lsq mq => ∃ (nn : Nat), lsq = [some (.ref (jxb x + 140)), some (.int (nI k)), some (.int (nI nn)), some (.int (nI i)), some (.int (nI j)), none] ∧ (exs [153, 156] m mq) ∧ (flI (m 153) k (mq 153) (mq 156) nn) ∧ (flC besW (m 153) (mq 153) (mq 156) i) ∧ (i < nn) ∧ (mq 156 i = nI a) ∧ (flP (besW a) (m 153) (mq 153) j)) (fun j hj lsq mj hI26 ih26 => ?_) (fun lsq mj hI26 => ?_) 0 (Nat.zero_le _) _ _ (⟨n, rfl, hx, hI, hC, by omega, hea, fun s hs => absurd hs (Nat.not_lt_zero _)⟩)
      ·
        obtain ⟨nn, rfl, hxj, hIj, hCj, hin, hej, hPj⟩ := hI26
        refine J_iload (pc := 26) dX8_fill_26 rfl ?_
        refine J_iconst (pc := 28) dX8_fill_28 kni_4 ?_
        refine Jn_ge (pc := 29) (tgt := 85) dX8_fill_29 (by decide) (by omega) (by omega) (fun h29 => absurd h29 (by omega)) (fun h29 => ?_)
        have hn48j : nn ≤ 48 := by rw [hIj.2.1]; exact cnt_le _ 48
        refine J_aload_n (pc := 32) dX8_fill_32 rfl ?_
        refine K_getR (pc := 33) dX8_fill_33 kf_X8_57 job_140 jrf_140_27 ?_
        refine J_iload_n (pc := 36) dX8_fill_36 rfl ?_
        refine K_ialdn (pc := 37) (id := 156) dX8_fill_37 jar_156 (by omega) (by decide) ?_
        refine J_top (b := nI a) (hej) ?_
        refine J_iload (pc := 38) dX8_fill_38 rfl ?_
        refine K_callSp (pc := 40) (As := [_, _]) dX8_fill_40 kl_X8_174 rfl rfl (Nat.le_of_ble_eq_true rfl) (m_beside (m := mj) (p := a) (w := j) ha hj) ?_
        refine J_istore (pc := 43) (ls' := [some _, some _, some _, some _, some _, some _]) dX8_fill_43 rfl (Nat.le_of_ble_eq_true rfl) rfl ?_
        refine J_iload (pc := 45) dX8_fill_45 rfl ?_
        refine J_if_lt (pc := 47) (tgt := 79) dX8_fill_47 (by decide) (fun h47 => ?_) (fun h47 => ?_)
        · 
          refine Jn_iinc (pc := 79) (ls' := [some _, some _, some _, some _, some _, some _]) dX8_fill_79 rfl knz_1 rfl rfl ?_
          refine J_goto (pc := 82) (tgt := 26) dX8_fill_82 (by decide) ?_
          refine J_wk' (ih26 [some (.ref (jxb x + 140)), some (.int (nI k)), some (.int (nI nn)), some (.int (nI i)), some (.int (nI (j + 1))), none] _ ⟨nn, rfl, hxj, hIj, hCj, hin, hej, flP_s hPj (fun b hb e _ => absurd (e ▸ h47) (nI_n0 (by omega)))⟩) rfl ?_
          · rintro (_ | _ | _ | _ | _ | _ | _ | _ | _ | _ | k) v hv <;> first | exact hv | cases hv
        · 
          obtain ⟨b, hb48, hb⟩ := (besW_in (p := a) (w := j) ha hj).resolve_left h47
          refine J_aload_n (pc := 50) dX8_fill_50 rfl ?_
          refine K_getR (pc := 51) dX8_fill_51 kf_X8_46 job_140 jrf_140_24 ?_
          refine J_iload (pc := 54) dX8_fill_54 rfl ?_
          refine J_top (b := nI b) (hb) ?_
          refine K_zaldn (pc := 56) (id := 153) dX8_fill_56 jar_153 (by omega) (by decide) ?_
          refine J_if_eq (pc := 57) (tgt := 79) dX8_fill_57 (by decide) (fun h57 => ?_) (fun h57 => ?_)
          · 
            refine Jn_iinc (pc := 79) (ls' := [some _, some _, some _, some _, some _, some _]) dX8_fill_79 rfl knz_1 rfl rfl ?_
            refine J_goto (pc := 82) (tgt := 26) dX8_fill_82 (by decide) ?_
            refine J_wk' (ih26 [some (.ref (jxb x + 140)), some (.int (nI k)), some (.int (nI nn)), some (.int (nI i)), some (.int (nI (j + 1))), none] _ ⟨nn, rfl, hxj, hIj, hCj, hin, hej, flP_s hPj (fun c hc e _ => by rw [(nI_eq (by omega) (by omega)).mp (e.symm.trans hb)]; exact h57)⟩) rfl ?_
            · rintro (_ | _ | _ | _ | _ | _ | _ | _ | _ | _ | k) v hv <;> first | exact hv | cases hv
          · 
            have hput := flI_put hIj hb48 h57 hrb (adj_W ha hj hb48 hb)
            have hnn := hput.1
            refine J_aload_n (pc := 60) dX8_fill_60 rfl ?_
            refine K_getR (pc := 61) dX8_fill_61 kf_X8_46 job_140 jrf_140_24 ?_
            refine J_iload (pc := 64) dX8_fill_64 rfl ?_
            refine J_top (b := nI b) (hb) ?_
            refine J_iconst (pc := 66) dX8_fill_66 kni_0 ?_
            refine K_zastn (pc := 67) (id := 153) (w := nI 0) dX8_fill_67 jar_153 (by omega) (by decide) rfl ?_
            refine J_aload_n (pc := 68) dX8_fill_68 rfl ?_
            refine K_getR (pc := 69) dX8_fill_69 kf_X8_57 job_140 jrf_140_27 ?_
            refine J_iload_n (pc := 72) dX8_fill_72 rfl ?_
            refine J_iload (pc := 73) dX8_fill_73 rfl ?_
            refine J_top (b := nI b) (hb) ?_
            refine K_iastn (pc := 75) (id := 156) dX8_fill_75 jar_156 (by omega) (by decide) ?_
            refine Jn_iinc (pc := 76) (ls' := [some _, some _, some _, some _, some _, some _]) dX8_fill_76 rfl knz_1 rfl rfl ?_
            refine Jn_iinc (pc := 79) (ls' := [some _, some _, some _, some _, some _, some _]) dX8_fill_79 rfl knz_1 rfl rfl ?_
            refine J_goto (pc := 82) (tgt := 26) dX8_fill_82 (by decide) ?_
            have e100 : (mup (mup mj 153 b (nI 0)) 156 nn (nI b)) 153 = fset (mj 153) b 0 := (mup_i' (by decide)).trans mup_row
            have e101 : (mup (mup mj 153 b (nI 0)) 156 nn (nI b)) 156 = fset (mj 156) nn (nI b) := by rw [mup_row, mup_i' (by decide)]
            refine J_wk' (ih26 [some (.ref (jxb x + 140)), some (.int (nI k)), some (.int (nI (nn + 1))), some (.int (nI i)), some (.int (nI (j + 1))), none] _ ⟨nn + 1, rfl, exs_up (exs_up hxj (by decide)) (by decide), by rw [e100, e101]; exact hput.2, by rw [e100, e101]; exact flC_up hCj (by omega), by omega, by rw [e101, fset_n (by omega)]; exact hej, by rw [e100]; exact flP_s (flP_up hPj) (fun c hc e _ => by rw [(nI_eq (by omega) (by omega)).mp (e.symm.trans hb)]; exact fset_s)⟩) rfl ?_
            · rintro (_ | _ | _ | _ | _ | _ | _ | _ | _ | _ | k) v hv <;> first | exact hv | cases hv
      ·
        obtain ⟨nn, rfl, hxj, hIj, hCj, hin, hej, hPj⟩ := hI26
        refine J_iload (pc := 26) dX8_fill_26 rfl ?_
        refine J_iconst (pc := 28) dX8_fill_28 kni_4 ?_
        refine Jn_ge (pc := 29) (tgt := 85) dX8_fill_29 (by decide) (by omega) (by omega) (fun h29 => ?_) (fun h29 => absurd h29 (by omega))
        refine Jn_iinc (pc := 85) (ls' := [some _, some _, some _, some _, some _, none]) dX8_fill_85 rfl knz_1 rfl rfl ?_
        refine J_goto (pc := 88) (tgt := 18) dX8_fill_88 (by decide) ?_
        refine J_wk' (ih18 [some (.ref (jxb x + 140)), some (.int (nI k)), some (.int (nI nn)), some (.int (nI (i + 1))), none, none] _ ⟨nn, rfl, hxj, hIj, flC_s hCj hej ha hPj⟩) rfl ?_
        · rintro (_ | _ | _ | _ | _ | _ | _ | _ | _ | _ | k) v hv <;> first | exact hv | cases hv
  ·
    obtain ⟨n, rfl, hx, hI, hC⟩ := hI18
    have hn48 : n ≤ 48 := by rw [hI.2.1]; exact cnt_le _ 48
    refine J_iload_n (pc := 18) dX8_fill_18 rfl ?_
    refine J_iload_n (pc := 19) dX8_fill_19 rfl ?_
    refine Jn_ge (pc := 20) (tgt := 91) dX8_fill_20 (by decide) (by omega) (by omega) (fun h20 => ?_) (fun h20 => absurd h20 (by omega))
    refine J_iload_n (pc := 91) dX8_fill_91 rfl ?_
    refine K_iret (pc := 92) dX8_fill_92 rfl ⟨_, rfl, ?_⟩
    have hn48 : n ≤ 48 := by rw [hI.2.1]; exact cnt_le _ 48
    have hCn : flC besW (m 153) (mm 153) (mm 156) n := fun j hj => hC j (by omega)
    obtain ⟨q1, q2⟩ := fl_end hI hCn (fun a b ha hab hb => adj_V ha hab hb) hk
    exact ⟨by rw [q1], hx, q2⟩
