-- told groups
def nG (G : Nat) : Nat := if 99 < G then 3 else if 9 < G then 2 else 1
def okG (G : Nat) : Prop := if 99 < G then (G % 10 < 6 ∧ G / 10 % 10 < 6 ∧ G / 10 / 10 % 10 < 6 ∧ G / 10 % 10 ≠ G % 10 ∧ G / 10 / 10 % 10 ≠ G / 10 % 10 ∧ G / 10 / 10 % 10 ≠ G % 10) else if 9 < G then (G % 10 < 6 ∧ G / 10 % 10 < 6 ∧ G / 10 % 10 ≠ G % 10) else G % 10 < 6
def chG (G i : Nat) : Nat := if 99 < G then (match i with | 0 => G / 10 / 10 % 10 | 1 => G / 10 % 10 | _ => G % 10) else if 9 < G then (match i with | 0 => G / 10 % 10 | _ => G % 10) else G % 10
/-- the groups that a search has taken -/
def chosenG (m : jm) (G : Nat) : Prop := m 102 3 = nI (nG G) ∧ ∀ i, i < nG G → m 123 i = nI (chG G i)
def okW (w : Int32) : Prop := vp_in w 1000 ∧ okG (tN w)
theorem w_in {w : Int32} : (nI 0 ≤ w ∧ w ≤ nI 999) ↔ vp_in w 1000 := by
  rw [vp_in_iff, Int32.le_iff_toInt_le, Int32.le_iff_toInt_le, nI_toInt (by decide), nI_toInt (by decide)]
  omega
set_option maxRecDepth 100000 in
set_option maxHeartbeats 400000 in
theorem c_choose {x : jX} {m : jm} {d : Nat} (w : Int32) : Ct x (d + 1) eX3_choose [.ref (jxb x + 102), .int w] m (ji fun v m' => v = jbp (okW w) ∧ (∀ i, i ≠ 102 → i ≠ 123 → m' i = m i) ∧ (∀ k, k ≠ 3 → m' 102 k = m 102 k) ∧ (okW w → chosenG m' (tN w))) := by
  refine J_start (by decide +kernel) (Nat.le_of_ble_eq_true rfl) (ls := [some (.ref (jxb x + 102)), some (.int w), none, none, none]) rfl rfl ?_
  refine J_iload_n (pc := 0) dX3_choose_0 rfl ?_
  refine J_iconst (pc := 1) dX3_choose_1 kni_0 ?_
  refine J_sipush (pc := 2) dX3_choose_2 kns_999 ?_
  refine K_callSp (pc := 5) (As := [_, _, _]) dX3_choose_5 kl_X3_46 rfl rfl (Nat.le_of_ble_eq_true rfl) (c_within _ _ _) ?_
  refine Jb_ne (pc := 8) (tgt := 13) dX3_choose_8 (by decide) (fun h8 => ?_) (fun h8 => ?_)
  · 
    have hG := w_in.mp h8
    obtain ⟨G, hG3, rfl⟩ := vp_in_of hG (by decide)
    have hG0 : tN (nI G) = G := tN_n (by omega)
    refine J_aload_n (pc := 13) dX3_choose_13 rfl ?_
    refine J_iload_n (pc := 14) dX3_choose_14 rfl ?_
    refine J_bipush (pc := 15) dX3_choose_15 knb_99 ?_
    refine Jn_le (pc := 17) (tgt := 24) dX3_choose_17 (by decide) (by omega) (by omega) (fun h17 => ?_) (fun h17 => ?_)
    · 
      refine J_iload_n (pc := 24) dX3_choose_24 rfl ?_
      refine J_bipush (pc := 25) dX3_choose_25 knb_9 ?_
      refine Jn_le (pc := 27) (tgt := 34) dX3_choose_27 (by decide) (by omega) (by omega) (fun h27 => ?_) (fun h27 => ?_)
      · 
        refine J_iconst (pc := 34) dX3_choose_34 kni_1 ?_
        refine K_put (pc := 35) dX3_choose_35 kp_X3_29 job_102 jrf_102_3 rfl rfl ?_
        refine J_iload_n (pc := 38) dX3_choose_38 rfl ?_
        refine J_istore_n (pc := 39) (ls' := [some _, some _, some _, none, none]) dX3_choose_39 rfl (Nat.le_of_ble_eq_true rfl) rfl ?_
        refine J_aload_n (pc := 40) dX3_choose_40 rfl ?_
        refine K_getI (pc := 41) dX3_choose_41 kf_X3_29 job_102 jrf_102_3 ?_
        refine J_top (b := nI 1) (by rw [mup_s]) ?_
        refine J_iconst (pc := 44) dX3_choose_44 kni_1 ?_
        refine J_isubv (pc := 45) (v := nI 0) dX3_choose_45 (by decide +kernel) ?_
        refine J_istore_n (pc := 46) (ls' := [some _, some _, some _, some _, none]) dX3_choose_46 rfl (Nat.le_of_ble_eq_true rfl) rfl ?_
        refine J_iload_n (pc := 47) dX3_choose_47 rfl ?_
        refine Jn_if_lt (pc := 48) (tgt := 123) dX3_choose_48 (by decide) (by omega) ?_
        refine J_aload_n (pc := 51) dX3_choose_51 rfl ?_
        refine K_getR (pc := 52) dX3_choose_52 kf_X3_25 job_102 jrf_102_2 ?_
        refine J_iload_n (pc := 55) dX3_choose_55 rfl ?_
        refine J_iload_n (pc := 56) dX3_choose_56 rfl ?_
        refine J_bipush (pc := 57) dX3_choose_57 knb_10 ?_
        refine J_irem (pc := 59) (v := nI (G % 10)) dX3_choose_59 (nI_ne0 (by decide) (by decide)) (pk_rem (by omega) (by omega) (by omega)) ?_
        refine K_iastn (pc := 60) (id := 123) dX3_choose_60 jar_123 (by omega) (by decide) ?_
        refine J_iload_n (pc := 61) dX3_choose_61 rfl ?_
        refine J_bipush (pc := 62) dX3_choose_62 knb_10 ?_
        refine J_idiv (pc := 64) (v := nI (G / 10)) dX3_choose_64 (nI_ne0 (by decide) (by decide)) (pk_div (by omega) (by omega) (by omega)) ?_
        refine J_istore_n (pc := 65) (ls' := [some _, some _, some _, some _, none]) dX3_choose_65 rfl (Nat.le_of_ble_eq_true rfl) rfl ?_
        refine J_iload_n (pc := 66) dX3_choose_66 rfl ?_
        refine J_iconst (pc := 67) dX3_choose_67 kni_1 ?_
        refine J_iaddv (pc := 68) (v := nI 1) dX3_choose_68 (by decide +kernel) ?_
        refine J_istore (pc := 69) (ls' := [some _, some _, some _, some _, some _]) dX3_choose_69 rfl (Nat.le_of_ble_eq_true rfl) rfl ?_
        refine J_iload (pc := 71) dX3_choose_71 rfl ?_
        refine J_aload_n (pc := 73) dX3_choose_73 rfl ?_
        refine K_getI (pc := 74) dX3_choose_74 kf_X3_29 job_102 jrf_102_3 ?_
        refine J_top (b := nI 1) (by rw [mup_i (by decide), mup_s]) ?_
        refine Jn_ge (pc := 77) (tgt := 104) dX3_choose_77 (by decide) (by omega) (by omega) (fun h77 => ?_) (fun h77 => absurd h77 (by omega))
        refine J_aload_n (pc := 104) dX3_choose_104 rfl ?_
        refine K_getR (pc := 105) dX3_choose_105 kf_X3_25 job_102 jrf_102_2 ?_
        refine J_iload_n (pc := 108) dX3_choose_108 rfl ?_
        refine K_ialdn (pc := 109) (id := 123) dX3_choose_109 jar_123 (by omega) (by decide) ?_
        refine J_top (b := nI (G % 10)) (by rw [mup_s]) ?_
        refine J_bipush (pc := 110) dX3_choose_110 knb_6 ?_
        refine Jn_lt (pc := 112) (tgt := 117) dX3_choose_112 (by decide) (by omega) (by omega) (fun h112 => ?_) (fun h112 => ?_)
        · 
          refine J_iinc (pc := 117) (v := (-1)) (ls' := [some _, some _, some _, some _, some _]) dX3_choose_117 rfl (by decide +kernel) rfl rfl ?_
          refine J_goto (pc := 120) (tgt := 47) dX3_choose_120 (by decide) ?_
          refine J_iload_n (pc := 47) dX3_choose_47 rfl ?_
          refine J_if_lt (pc := 48) (tgt := 123) dX3_choose_48 (by decide) (fun h48 => ?_) (fun h48 => absurd (by decide) h48)
          refine J_iconst (pc := 123) dX3_choose_123 kni_1 ?_
          refine K_zret (pc := 124) dX3_choose_124 rfl rfl ⟨_, rfl, ?_⟩
          have hgood : okW (nI G) := ⟨hG, by rw [hG0, okG, if_neg (by omega), if_neg (by omega)]; omega⟩
          refine ⟨jbpT hgood, fun i h1 h2 => by funext j; simp [mup, h1, h2], fun k h1 => by simp [mup, h1], fun _ => ?_⟩
          rw [hG0]
          refine ⟨?_, fun i hi => ?_⟩
          · rw [nG, if_neg (by omega), if_neg (by omega)]
            simp [mup]
          · rw [nG, if_neg (by omega), if_neg (by omega)] at hi
            unfold chG
            rw [if_neg (by omega), if_neg (by omega)]
            rcases (show i = 0 by omega) with rfl <;> simp [mup]
        · 
          refine J_iconst (pc := 115) dX3_choose_115 kni_0 ?_
          refine K_zret (pc := 116) dX3_choose_116 rfl rfl ⟨_, rfl, ?_⟩
          have hbad : ¬ okW (nI G) := fun q => by
            have q := q.2
            rw [hG0] at q
            rw [okG, if_neg (by omega), if_neg (by omega)] at q
            omega
          exact ⟨jbpF hbad, fun i h1 h2 => by funext j; simp [mup, h1, h2], fun k h1 => by simp [mup, h1], fun q => absurd q hbad⟩
      · 
        refine J_iconst (pc := 30) dX3_choose_30 kni_2 ?_
        refine J_goto (pc := 31) (tgt := 35) dX3_choose_31 (by decide) ?_
        refine K_put (pc := 35) dX3_choose_35 kp_X3_29 job_102 jrf_102_3 rfl rfl ?_
        refine J_iload_n (pc := 38) dX3_choose_38 rfl ?_
        refine J_istore_n (pc := 39) (ls' := [some _, some _, some _, none, none]) dX3_choose_39 rfl (Nat.le_of_ble_eq_true rfl) rfl ?_
        refine J_aload_n (pc := 40) dX3_choose_40 rfl ?_
        refine K_getI (pc := 41) dX3_choose_41 kf_X3_29 job_102 jrf_102_3 ?_
        refine J_top (b := nI 2) (by rw [mup_s]) ?_
        refine J_iconst (pc := 44) dX3_choose_44 kni_1 ?_
        refine J_isubv (pc := 45) (v := nI 1) dX3_choose_45 (by decide +kernel) ?_
        refine J_istore_n (pc := 46) (ls' := [some _, some _, some _, some _, none]) dX3_choose_46 rfl (Nat.le_of_ble_eq_true rfl) rfl ?_
        refine J_iload_n (pc := 47) dX3_choose_47 rfl ?_
        refine Jn_if_lt (pc := 48) (tgt := 123) dX3_choose_48 (by decide) (by omega) ?_
        refine J_aload_n (pc := 51) dX3_choose_51 rfl ?_
        refine K_getR (pc := 52) dX3_choose_52 kf_X3_25 job_102 jrf_102_2 ?_
        refine J_iload_n (pc := 55) dX3_choose_55 rfl ?_
        refine J_iload_n (pc := 56) dX3_choose_56 rfl ?_
        refine J_bipush (pc := 57) dX3_choose_57 knb_10 ?_
        refine J_irem (pc := 59) (v := nI (G % 10)) dX3_choose_59 (nI_ne0 (by decide) (by decide)) (pk_rem (by omega) (by omega) (by omega)) ?_
        refine K_iastn (pc := 60) (id := 123) dX3_choose_60 jar_123 (by omega) (by decide) ?_
        refine J_iload_n (pc := 61) dX3_choose_61 rfl ?_
        refine J_bipush (pc := 62) dX3_choose_62 knb_10 ?_
        refine J_idiv (pc := 64) (v := nI (G / 10)) dX3_choose_64 (nI_ne0 (by decide) (by decide)) (pk_div (by omega) (by omega) (by omega)) ?_
        refine J_istore_n (pc := 65) (ls' := [some _, some _, some _, some _, none]) dX3_choose_65 rfl (Nat.le_of_ble_eq_true rfl) rfl ?_
        refine J_iload_n (pc := 66) dX3_choose_66 rfl ?_
        refine J_iconst (pc := 67) dX3_choose_67 kni_1 ?_
        refine J_iaddv (pc := 68) (v := nI 2) dX3_choose_68 (by decide +kernel) ?_
        refine J_istore (pc := 69) (ls' := [some _, some _, some _, some _, some _]) dX3_choose_69 rfl (Nat.le_of_ble_eq_true rfl) rfl ?_
        refine J_iload (pc := 71) dX3_choose_71 rfl ?_
        refine J_aload_n (pc := 73) dX3_choose_73 rfl ?_
        refine K_getI (pc := 74) dX3_choose_74 kf_X3_29 job_102 jrf_102_3 ?_
        refine J_top (b := nI 2) (by rw [mup_i (by decide), mup_s]) ?_
        refine Jn_ge (pc := 77) (tgt := 104) dX3_choose_77 (by decide) (by omega) (by omega) (fun h77 => ?_) (fun h77 => absurd h77 (by omega))
        refine J_aload_n (pc := 104) dX3_choose_104 rfl ?_
        refine K_getR (pc := 105) dX3_choose_105 kf_X3_25 job_102 jrf_102_2 ?_
        refine J_iload_n (pc := 108) dX3_choose_108 rfl ?_
        refine K_ialdn (pc := 109) (id := 123) dX3_choose_109 jar_123 (by omega) (by decide) ?_
        refine J_top (b := nI (G % 10)) (by rw [mup_s]) ?_
        refine J_bipush (pc := 110) dX3_choose_110 knb_6 ?_
        refine Jn_lt (pc := 112) (tgt := 117) dX3_choose_112 (by decide) (by omega) (by omega) (fun h112 => ?_) (fun h112 => ?_)
        · 
          refine J_iinc (pc := 117) (v := nI 0) (ls' := [some _, some _, some _, some _, some _]) dX3_choose_117 rfl (by decide +kernel) rfl rfl ?_
          refine J_goto (pc := 120) (tgt := 47) dX3_choose_120 (by decide) ?_
          refine J_iload_n (pc := 47) dX3_choose_47 rfl ?_
          refine Jn_if_lt (pc := 48) (tgt := 123) dX3_choose_48 (by decide) (by omega) ?_
          refine J_aload_n (pc := 51) dX3_choose_51 rfl ?_
          refine K_getR (pc := 52) dX3_choose_52 kf_X3_25 job_102 jrf_102_2 ?_
          refine J_iload_n (pc := 55) dX3_choose_55 rfl ?_
          refine J_iload_n (pc := 56) dX3_choose_56 rfl ?_
          refine J_bipush (pc := 57) dX3_choose_57 knb_10 ?_
          refine J_irem (pc := 59) (v := nI ((G / 10) % 10)) dX3_choose_59 (nI_ne0 (by decide) (by decide)) (pk_rem (by omega) (by omega) (by omega)) ?_
          refine K_iastn (pc := 60) (id := 123) dX3_choose_60 jar_123 (by omega) (by decide) ?_
          refine J_iload_n (pc := 61) dX3_choose_61 rfl ?_
          refine J_bipush (pc := 62) dX3_choose_62 knb_10 ?_
          refine J_idiv (pc := 64) (v := nI ((G / 10) / 10)) dX3_choose_64 (nI_ne0 (by decide) (by decide)) (pk_div (by omega) (by omega) (by omega)) ?_
          refine J_istore_n (pc := 65) (ls' := [some _, some _, some _, some _, some _]) dX3_choose_65 rfl (Nat.le_of_ble_eq_true rfl) rfl ?_
          refine J_iload_n (pc := 66) dX3_choose_66 rfl ?_
          refine J_iconst (pc := 67) dX3_choose_67 kni_1 ?_
          refine J_iaddv (pc := 68) (v := nI 1) dX3_choose_68 (by decide +kernel) ?_
          refine J_istore (pc := 69) (ls' := [some _, some _, some _, some _, some _]) dX3_choose_69 rfl (Nat.le_of_ble_eq_true rfl) rfl ?_
          refine J_iload (pc := 71) dX3_choose_71 rfl ?_
          refine J_aload_n (pc := 73) dX3_choose_73 rfl ?_
          refine K_getI (pc := 74) dX3_choose_74 kf_X3_29 job_102 jrf_102_3 ?_
          refine J_top (b := nI 2) (by rw [mup_i (by decide), mup_i (by decide), mup_s]) ?_
          refine Jn_ge (pc := 77) (tgt := 104) dX3_choose_77 (by decide) (by omega) (by omega) (fun h77_2 => absurd h77_2 (by omega)) (fun h77_2 => ?_)
          refine J_aload_n (pc := 80) dX3_choose_80 rfl ?_
          refine K_getR (pc := 81) dX3_choose_81 kf_X3_25 job_102 jrf_102_2 ?_
          refine J_iload (pc := 84) dX3_choose_84 rfl ?_
          refine K_ialdn (pc := 86) (id := 123) dX3_choose_86 jar_123 (by omega) (by decide) ?_
          refine J_top (b := nI (G % 10)) (by rw [mup_j (by decide), mup_s]) ?_
          refine J_aload_n (pc := 87) dX3_choose_87 rfl ?_
          refine K_getR (pc := 88) dX3_choose_88 kf_X3_25 job_102 jrf_102_2 ?_
          refine J_iload_n (pc := 91) dX3_choose_91 rfl ?_
          refine K_ialdn (pc := 92) (id := 123) dX3_choose_92 jar_123 (by omega) (by decide) ?_
          refine J_top (b := nI ((G / 10) % 10)) (by rw [mup_s]) ?_
          refine Jn_ne (pc := 93) (tgt := 98) dX3_choose_93 (by decide) (by omega) (by omega) (fun h93 => ?_) (fun h93 => ?_)
          · 
            refine J_iinc (pc := 98) (v := nI 2) (ls' := [some _, some _, some _, some _, some _]) dX3_choose_98 rfl (by decide +kernel) rfl rfl ?_
            refine J_goto (pc := 101) (tgt := 71) dX3_choose_101 (by decide) ?_
            refine J_iload (pc := 71) dX3_choose_71 rfl ?_
            refine J_aload_n (pc := 73) dX3_choose_73 rfl ?_
            refine K_getI (pc := 74) dX3_choose_74 kf_X3_29 job_102 jrf_102_3 ?_
            refine J_top (b := nI 2) (by rw [mup_i (by decide), mup_i (by decide), mup_s]) ?_
            refine Jn_ge (pc := 77) (tgt := 104) dX3_choose_77 (by decide) (by omega) (by omega) (fun h77_3 => ?_) (fun h77_3 => absurd h77_3 (by omega))
            refine J_aload_n (pc := 104) dX3_choose_104 rfl ?_
            refine K_getR (pc := 105) dX3_choose_105 kf_X3_25 job_102 jrf_102_2 ?_
            refine J_iload_n (pc := 108) dX3_choose_108 rfl ?_
            refine K_ialdn (pc := 109) (id := 123) dX3_choose_109 jar_123 (by omega) (by decide) ?_
            refine J_top (b := nI ((G / 10) % 10)) (by rw [mup_s]) ?_
            refine J_bipush (pc := 110) dX3_choose_110 knb_6 ?_
            refine Jn_lt (pc := 112) (tgt := 117) dX3_choose_112 (by decide) (by omega) (by omega) (fun h112_2 => ?_) (fun h112_2 => ?_)
            · 
              refine J_iinc (pc := 117) (v := (-1)) (ls' := [some _, some _, some _, some _, some _]) dX3_choose_117 rfl (by decide +kernel) rfl rfl ?_
              refine J_goto (pc := 120) (tgt := 47) dX3_choose_120 (by decide) ?_
              refine J_iload_n (pc := 47) dX3_choose_47 rfl ?_
              refine J_if_lt (pc := 48) (tgt := 123) dX3_choose_48 (by decide) (fun h48 => ?_) (fun h48 => absurd (by decide) h48)
              refine J_iconst (pc := 123) dX3_choose_123 kni_1 ?_
              refine K_zret (pc := 124) dX3_choose_124 rfl rfl ⟨_, rfl, ?_⟩
              have hgood : okW (nI G) := ⟨hG, by rw [hG0, okG, if_neg (by omega), if_pos (by omega)]; omega⟩
              refine ⟨jbpT hgood, fun i h1 h2 => by funext j; simp [mup, h1, h2], fun k h1 => by simp [mup, h1], fun _ => ?_⟩
              rw [hG0]
              refine ⟨?_, fun i hi => ?_⟩
              · rw [nG, if_neg (by omega), if_pos (by omega)]
                simp [mup]
              · rw [nG, if_neg (by omega), if_pos (by omega)] at hi
                unfold chG
                rw [if_neg (by omega), if_pos (by omega)]
                rcases (show i = 0 ∨ i = 1 by omega) with rfl | rfl <;> simp [mup]
            · 
              refine J_iconst (pc := 115) dX3_choose_115 kni_0 ?_
              refine K_zret (pc := 116) dX3_choose_116 rfl rfl ⟨_, rfl, ?_⟩
              have hbad : ¬ okW (nI G) := fun q => by
                have q := q.2
                rw [hG0] at q
                rw [okG, if_neg (by omega), if_pos (by omega)] at q
                omega
              exact ⟨jbpF hbad, fun i h1 h2 => by funext j; simp [mup, h1, h2], fun k h1 => by simp [mup, h1], fun q => absurd q hbad⟩
          · 
            refine J_iconst (pc := 96) dX3_choose_96 kni_0 ?_
            refine K_zret (pc := 97) dX3_choose_97 rfl rfl ⟨_, rfl, ?_⟩
            have hbad : ¬ okW (nI G) := fun q => by
              have q := q.2
              rw [hG0] at q
              rw [okG, if_neg (by omega), if_pos (by omega)] at q
              omega
            exact ⟨jbpF hbad, fun i h1 h2 => by funext j; simp [mup, h1, h2], fun k h1 => by simp [mup, h1], fun q => absurd q hbad⟩
        · 
          refine J_iconst (pc := 115) dX3_choose_115 kni_0 ?_
          refine K_zret (pc := 116) dX3_choose_116 rfl rfl ⟨_, rfl, ?_⟩
          have hbad : ¬ okW (nI G) := fun q => by
            have q := q.2
            rw [hG0] at q
            rw [okG, if_neg (by omega), if_pos (by omega)] at q
            omega
          exact ⟨jbpF hbad, fun i h1 h2 => by funext j; simp [mup, h1, h2], fun k h1 => by simp [mup, h1], fun q => absurd q hbad⟩
    · 
      refine J_iconst (pc := 20) dX3_choose_20 kni_3 ?_
      refine J_goto (pc := 21) (tgt := 35) dX3_choose_21 (by decide) ?_
      refine K_put (pc := 35) dX3_choose_35 kp_X3_29 job_102 jrf_102_3 rfl rfl ?_
      refine J_iload_n (pc := 38) dX3_choose_38 rfl ?_
      refine J_istore_n (pc := 39) (ls' := [some _, some _, some _, none, none]) dX3_choose_39 rfl (Nat.le_of_ble_eq_true rfl) rfl ?_
      refine J_aload_n (pc := 40) dX3_choose_40 rfl ?_
      refine K_getI (pc := 41) dX3_choose_41 kf_X3_29 job_102 jrf_102_3 ?_
      refine J_top (b := nI 3) (by rw [mup_s]) ?_
      refine J_iconst (pc := 44) dX3_choose_44 kni_1 ?_
      refine J_isubv (pc := 45) (v := nI 2) dX3_choose_45 (by decide +kernel) ?_
      refine J_istore_n (pc := 46) (ls' := [some _, some _, some _, some _, none]) dX3_choose_46 rfl (Nat.le_of_ble_eq_true rfl) rfl ?_
      refine J_iload_n (pc := 47) dX3_choose_47 rfl ?_
      refine Jn_if_lt (pc := 48) (tgt := 123) dX3_choose_48 (by decide) (by omega) ?_
      refine J_aload_n (pc := 51) dX3_choose_51 rfl ?_
      refine K_getR (pc := 52) dX3_choose_52 kf_X3_25 job_102 jrf_102_2 ?_
      refine J_iload_n (pc := 55) dX3_choose_55 rfl ?_
      refine J_iload_n (pc := 56) dX3_choose_56 rfl ?_
      refine J_bipush (pc := 57) dX3_choose_57 knb_10 ?_
      refine J_irem (pc := 59) (v := nI (G % 10)) dX3_choose_59 (nI_ne0 (by decide) (by decide)) (pk_rem (by omega) (by omega) (by omega)) ?_
      refine K_iastn (pc := 60) (id := 123) dX3_choose_60 jar_123 (by omega) (by decide) ?_
      refine J_iload_n (pc := 61) dX3_choose_61 rfl ?_
      refine J_bipush (pc := 62) dX3_choose_62 knb_10 ?_
      refine J_idiv (pc := 64) (v := nI (G / 10)) dX3_choose_64 (nI_ne0 (by decide) (by decide)) (pk_div (by omega) (by omega) (by omega)) ?_
      refine J_istore_n (pc := 65) (ls' := [some _, some _, some _, some _, none]) dX3_choose_65 rfl (Nat.le_of_ble_eq_true rfl) rfl ?_
      refine J_iload_n (pc := 66) dX3_choose_66 rfl ?_
      refine J_iconst (pc := 67) dX3_choose_67 kni_1 ?_
      refine J_iaddv (pc := 68) (v := nI 3) dX3_choose_68 (by decide +kernel) ?_
      refine J_istore (pc := 69) (ls' := [some _, some _, some _, some _, some _]) dX3_choose_69 rfl (Nat.le_of_ble_eq_true rfl) rfl ?_
      refine J_iload (pc := 71) dX3_choose_71 rfl ?_
      refine J_aload_n (pc := 73) dX3_choose_73 rfl ?_
      refine K_getI (pc := 74) dX3_choose_74 kf_X3_29 job_102 jrf_102_3 ?_
      refine J_top (b := nI 3) (by rw [mup_i (by decide), mup_s]) ?_
      refine Jn_ge (pc := 77) (tgt := 104) dX3_choose_77 (by decide) (by omega) (by omega) (fun h77 => ?_) (fun h77 => absurd h77 (by omega))
      refine J_aload_n (pc := 104) dX3_choose_104 rfl ?_
      refine K_getR (pc := 105) dX3_choose_105 kf_X3_25 job_102 jrf_102_2 ?_
      refine J_iload_n (pc := 108) dX3_choose_108 rfl ?_
      refine K_ialdn (pc := 109) (id := 123) dX3_choose_109 jar_123 (by omega) (by decide) ?_
      refine J_top (b := nI (G % 10)) (by rw [mup_s]) ?_
      refine J_bipush (pc := 110) dX3_choose_110 knb_6 ?_
      refine Jn_lt (pc := 112) (tgt := 117) dX3_choose_112 (by decide) (by omega) (by omega) (fun h112 => ?_) (fun h112 => ?_)
      · 
        refine J_iinc (pc := 117) (v := nI 1) (ls' := [some _, some _, some _, some _, some _]) dX3_choose_117 rfl (by decide +kernel) rfl rfl ?_
        refine J_goto (pc := 120) (tgt := 47) dX3_choose_120 (by decide) ?_
        refine J_iload_n (pc := 47) dX3_choose_47 rfl ?_
        refine Jn_if_lt (pc := 48) (tgt := 123) dX3_choose_48 (by decide) (by omega) ?_
        refine J_aload_n (pc := 51) dX3_choose_51 rfl ?_
        refine K_getR (pc := 52) dX3_choose_52 kf_X3_25 job_102 jrf_102_2 ?_
        refine J_iload_n (pc := 55) dX3_choose_55 rfl ?_
        refine J_iload_n (pc := 56) dX3_choose_56 rfl ?_
        refine J_bipush (pc := 57) dX3_choose_57 knb_10 ?_
        refine J_irem (pc := 59) (v := nI ((G / 10) % 10)) dX3_choose_59 (nI_ne0 (by decide) (by decide)) (pk_rem (by omega) (by omega) (by omega)) ?_
        refine K_iastn (pc := 60) (id := 123) dX3_choose_60 jar_123 (by omega) (by decide) ?_
        refine J_iload_n (pc := 61) dX3_choose_61 rfl ?_
        refine J_bipush (pc := 62) dX3_choose_62 knb_10 ?_
        refine J_idiv (pc := 64) (v := nI ((G / 10) / 10)) dX3_choose_64 (nI_ne0 (by decide) (by decide)) (pk_div (by omega) (by omega) (by omega)) ?_
        refine J_istore_n (pc := 65) (ls' := [some _, some _, some _, some _, some _]) dX3_choose_65 rfl (Nat.le_of_ble_eq_true rfl) rfl ?_
        refine J_iload_n (pc := 66) dX3_choose_66 rfl ?_
        refine J_iconst (pc := 67) dX3_choose_67 kni_1 ?_
        refine J_iaddv (pc := 68) (v := nI 2) dX3_choose_68 (by decide +kernel) ?_
        refine J_istore (pc := 69) (ls' := [some _, some _, some _, some _, some _]) dX3_choose_69 rfl (Nat.le_of_ble_eq_true rfl) rfl ?_
        refine J_iload (pc := 71) dX3_choose_71 rfl ?_
        refine J_aload_n (pc := 73) dX3_choose_73 rfl ?_
        refine K_getI (pc := 74) dX3_choose_74 kf_X3_29 job_102 jrf_102_3 ?_
        refine J_top (b := nI 3) (by rw [mup_i (by decide), mup_i (by decide), mup_s]) ?_
        refine Jn_ge (pc := 77) (tgt := 104) dX3_choose_77 (by decide) (by omega) (by omega) (fun h77_2 => absurd h77_2 (by omega)) (fun h77_2 => ?_)
        refine J_aload_n (pc := 80) dX3_choose_80 rfl ?_
        refine K_getR (pc := 81) dX3_choose_81 kf_X3_25 job_102 jrf_102_2 ?_
        refine J_iload (pc := 84) dX3_choose_84 rfl ?_
        refine K_ialdn (pc := 86) (id := 123) dX3_choose_86 jar_123 (by omega) (by decide) ?_
        refine J_top (b := nI (G % 10)) (by rw [mup_j (by decide), mup_s]) ?_
        refine J_aload_n (pc := 87) dX3_choose_87 rfl ?_
        refine K_getR (pc := 88) dX3_choose_88 kf_X3_25 job_102 jrf_102_2 ?_
        refine J_iload_n (pc := 91) dX3_choose_91 rfl ?_
        refine K_ialdn (pc := 92) (id := 123) dX3_choose_92 jar_123 (by omega) (by decide) ?_
        refine J_top (b := nI ((G / 10) % 10)) (by rw [mup_s]) ?_
        refine Jn_ne (pc := 93) (tgt := 98) dX3_choose_93 (by decide) (by omega) (by omega) (fun h93 => ?_) (fun h93 => ?_)
        · 
          refine J_iinc (pc := 98) (v := nI 3) (ls' := [some _, some _, some _, some _, some _]) dX3_choose_98 rfl (by decide +kernel) rfl rfl ?_
          refine J_goto (pc := 101) (tgt := 71) dX3_choose_101 (by decide) ?_
          refine J_iload (pc := 71) dX3_choose_71 rfl ?_
          refine J_aload_n (pc := 73) dX3_choose_73 rfl ?_
          refine K_getI (pc := 74) dX3_choose_74 kf_X3_29 job_102 jrf_102_3 ?_
          refine J_top (b := nI 3) (by rw [mup_i (by decide), mup_i (by decide), mup_s]) ?_
          refine Jn_ge (pc := 77) (tgt := 104) dX3_choose_77 (by decide) (by omega) (by omega) (fun h77_3 => ?_) (fun h77_3 => absurd h77_3 (by omega))
          refine J_aload_n (pc := 104) dX3_choose_104 rfl ?_
          refine K_getR (pc := 105) dX3_choose_105 kf_X3_25 job_102 jrf_102_2 ?_
          refine J_iload_n (pc := 108) dX3_choose_108 rfl ?_
          refine K_ialdn (pc := 109) (id := 123) dX3_choose_109 jar_123 (by omega) (by decide) ?_
          refine J_top (b := nI ((G / 10) % 10)) (by rw [mup_s]) ?_
          refine J_bipush (pc := 110) dX3_choose_110 knb_6 ?_
          refine Jn_lt (pc := 112) (tgt := 117) dX3_choose_112 (by decide) (by omega) (by omega) (fun h112_2 => ?_) (fun h112_2 => ?_)
          · 
            refine J_iinc (pc := 117) (v := nI 0) (ls' := [some _, some _, some _, some _, some _]) dX3_choose_117 rfl (by decide +kernel) rfl rfl ?_
            refine J_goto (pc := 120) (tgt := 47) dX3_choose_120 (by decide) ?_
            refine J_iload_n (pc := 47) dX3_choose_47 rfl ?_
            refine Jn_if_lt (pc := 48) (tgt := 123) dX3_choose_48 (by decide) (by omega) ?_
            refine J_aload_n (pc := 51) dX3_choose_51 rfl ?_
            refine K_getR (pc := 52) dX3_choose_52 kf_X3_25 job_102 jrf_102_2 ?_
            refine J_iload_n (pc := 55) dX3_choose_55 rfl ?_
            refine J_iload_n (pc := 56) dX3_choose_56 rfl ?_
            refine J_bipush (pc := 57) dX3_choose_57 knb_10 ?_
            refine J_irem (pc := 59) (v := nI (((G / 10) / 10) % 10)) dX3_choose_59 (nI_ne0 (by decide) (by decide)) (pk_rem (by omega) (by omega) (by omega)) ?_
            refine K_iastn (pc := 60) (id := 123) dX3_choose_60 jar_123 (by omega) (by decide) ?_
            refine J_iload_n (pc := 61) dX3_choose_61 rfl ?_
            refine J_bipush (pc := 62) dX3_choose_62 knb_10 ?_
            refine J_idiv (pc := 64) (v := nI (((G / 10) / 10) / 10)) dX3_choose_64 (nI_ne0 (by decide) (by decide)) (pk_div (by omega) (by omega) (by omega)) ?_
            refine J_istore_n (pc := 65) (ls' := [some _, some _, some _, some _, some _]) dX3_choose_65 rfl (Nat.le_of_ble_eq_true rfl) rfl ?_
            refine J_iload_n (pc := 66) dX3_choose_66 rfl ?_
            refine J_iconst (pc := 67) dX3_choose_67 kni_1 ?_
            refine J_iaddv (pc := 68) (v := nI 1) dX3_choose_68 (by decide +kernel) ?_
            refine J_istore (pc := 69) (ls' := [some _, some _, some _, some _, some _]) dX3_choose_69 rfl (Nat.le_of_ble_eq_true rfl) rfl ?_
            refine J_iload (pc := 71) dX3_choose_71 rfl ?_
            refine J_aload_n (pc := 73) dX3_choose_73 rfl ?_
            refine K_getI (pc := 74) dX3_choose_74 kf_X3_29 job_102 jrf_102_3 ?_
            refine J_top (b := nI 3) (by rw [mup_i (by decide), mup_i (by decide), mup_i (by decide), mup_s]) ?_
            refine Jn_ge (pc := 77) (tgt := 104) dX3_choose_77 (by decide) (by omega) (by omega) (fun h77_4 => absurd h77_4 (by omega)) (fun h77_4 => ?_)
            refine J_aload_n (pc := 80) dX3_choose_80 rfl ?_
            refine K_getR (pc := 81) dX3_choose_81 kf_X3_25 job_102 jrf_102_2 ?_
            refine J_iload (pc := 84) dX3_choose_84 rfl ?_
            refine K_ialdn (pc := 86) (id := 123) dX3_choose_86 jar_123 (by omega) (by decide) ?_
            refine J_top (b := nI ((G / 10) % 10)) (by rw [mup_j (by decide), mup_s]) ?_
            refine J_aload_n (pc := 87) dX3_choose_87 rfl ?_
            refine K_getR (pc := 88) dX3_choose_88 kf_X3_25 job_102 jrf_102_2 ?_
            refine J_iload_n (pc := 91) dX3_choose_91 rfl ?_
            refine K_ialdn (pc := 92) (id := 123) dX3_choose_92 jar_123 (by omega) (by decide) ?_
            refine J_top (b := nI (((G / 10) / 10) % 10)) (by rw [mup_s]) ?_
            refine Jn_ne (pc := 93) (tgt := 98) dX3_choose_93 (by decide) (by omega) (by omega) (fun h93_2 => ?_) (fun h93_2 => ?_)
            · 
              refine J_iinc (pc := 98) (v := nI 2) (ls' := [some _, some _, some _, some _, some _]) dX3_choose_98 rfl (by decide +kernel) rfl rfl ?_
              refine J_goto (pc := 101) (tgt := 71) dX3_choose_101 (by decide) ?_
              refine J_iload (pc := 71) dX3_choose_71 rfl ?_
              refine J_aload_n (pc := 73) dX3_choose_73 rfl ?_
              refine K_getI (pc := 74) dX3_choose_74 kf_X3_29 job_102 jrf_102_3 ?_
              refine J_top (b := nI 3) (by rw [mup_i (by decide), mup_i (by decide), mup_i (by decide), mup_s]) ?_
              refine Jn_ge (pc := 77) (tgt := 104) dX3_choose_77 (by decide) (by omega) (by omega) (fun h77_5 => absurd h77_5 (by omega)) (fun h77_5 => ?_)
              refine J_aload_n (pc := 80) dX3_choose_80 rfl ?_
              refine K_getR (pc := 81) dX3_choose_81 kf_X3_25 job_102 jrf_102_2 ?_
              refine J_iload (pc := 84) dX3_choose_84 rfl ?_
              refine K_ialdn (pc := 86) (id := 123) dX3_choose_86 jar_123 (by omega) (by decide) ?_
              refine J_top (b := nI (G % 10)) (by rw [mup_j (by decide), mup_j (by decide), mup_s]) ?_
              refine J_aload_n (pc := 87) dX3_choose_87 rfl ?_
              refine K_getR (pc := 88) dX3_choose_88 kf_X3_25 job_102 jrf_102_2 ?_
              refine J_iload_n (pc := 91) dX3_choose_91 rfl ?_
              refine K_ialdn (pc := 92) (id := 123) dX3_choose_92 jar_123 (by omega) (by decide) ?_
              refine J_top (b := nI (((G / 10) / 10) % 10)) (by rw [mup_s]) ?_
              refine Jn_ne (pc := 93) (tgt := 98) dX3_choose_93 (by decide) (by omega) (by omega) (fun h93_3 => ?_) (fun h93_3 => ?_)
              · 
                refine J_iinc (pc := 98) (v := nI 3) (ls' := [some _, some _, some _, some _, some _]) dX3_choose_98 rfl (by decide +kernel) rfl rfl ?_
                refine J_goto (pc := 101) (tgt := 71) dX3_choose_101 (by decide) ?_
                refine J_iload (pc := 71) dX3_choose_71 rfl ?_
                refine J_aload_n (pc := 73) dX3_choose_73 rfl ?_
                refine K_getI (pc := 74) dX3_choose_74 kf_X3_29 job_102 jrf_102_3 ?_
                refine J_top (b := nI 3) (by rw [mup_i (by decide), mup_i (by decide), mup_i (by decide), mup_s]) ?_
                refine Jn_ge (pc := 77) (tgt := 104) dX3_choose_77 (by decide) (by omega) (by omega) (fun h77_6 => ?_) (fun h77_6 => absurd h77_6 (by omega))
                refine J_aload_n (pc := 104) dX3_choose_104 rfl ?_
                refine K_getR (pc := 105) dX3_choose_105 kf_X3_25 job_102 jrf_102_2 ?_
                refine J_iload_n (pc := 108) dX3_choose_108 rfl ?_
                refine K_ialdn (pc := 109) (id := 123) dX3_choose_109 jar_123 (by omega) (by decide) ?_
                refine J_top (b := nI (((G / 10) / 10) % 10)) (by rw [mup_s]) ?_
                refine J_bipush (pc := 110) dX3_choose_110 knb_6 ?_
                refine Jn_lt (pc := 112) (tgt := 117) dX3_choose_112 (by decide) (by omega) (by omega) (fun h112_3 => ?_) (fun h112_3 => ?_)
                · 
                  refine J_iinc (pc := 117) (v := (-1)) (ls' := [some _, some _, some _, some _, some _]) dX3_choose_117 rfl (by decide +kernel) rfl rfl ?_
                  refine J_goto (pc := 120) (tgt := 47) dX3_choose_120 (by decide) ?_
                  refine J_iload_n (pc := 47) dX3_choose_47 rfl ?_
                  refine J_if_lt (pc := 48) (tgt := 123) dX3_choose_48 (by decide) (fun h48 => ?_) (fun h48 => absurd (by decide) h48)
                  refine J_iconst (pc := 123) dX3_choose_123 kni_1 ?_
                  refine K_zret (pc := 124) dX3_choose_124 rfl rfl ⟨_, rfl, ?_⟩
                  have hgood : okW (nI G) := ⟨hG, by rw [hG0, okG, if_pos (by omega)]; omega⟩
                  refine ⟨jbpT hgood, fun i h1 h2 => by funext j; simp [mup, h1, h2], fun k h1 => by simp [mup, h1], fun _ => ?_⟩
                  rw [hG0]
                  refine ⟨?_, fun i hi => ?_⟩
                  · rw [nG, if_pos (by omega)]
                    simp [mup]
                  · rw [nG, if_pos (by omega)] at hi
                    unfold chG
                    rw [if_pos (by omega)]
                    rcases (show i = 0 ∨ i = 1 ∨ i = 2 by omega) with rfl | rfl | rfl <;> simp [mup]
                · 
                  refine J_iconst (pc := 115) dX3_choose_115 kni_0 ?_
                  refine K_zret (pc := 116) dX3_choose_116 rfl rfl ⟨_, rfl, ?_⟩
                  have hbad : ¬ okW (nI G) := fun q => by
                    have q := q.2
                    rw [hG0] at q
                    rw [okG, if_pos (by omega)] at q
                    omega
                  exact ⟨jbpF hbad, fun i h1 h2 => by funext j; simp [mup, h1, h2], fun k h1 => by simp [mup, h1], fun q => absurd q hbad⟩
              · 
                refine J_iconst (pc := 96) dX3_choose_96 kni_0 ?_
                refine K_zret (pc := 97) dX3_choose_97 rfl rfl ⟨_, rfl, ?_⟩
                have hbad : ¬ okW (nI G) := fun q => by
                  have q := q.2
                  rw [hG0] at q
                  rw [okG, if_pos (by omega)] at q
                  omega
                exact ⟨jbpF hbad, fun i h1 h2 => by funext j; simp [mup, h1, h2], fun k h1 => by simp [mup, h1], fun q => absurd q hbad⟩
            · 
              refine J_iconst (pc := 96) dX3_choose_96 kni_0 ?_
              refine K_zret (pc := 97) dX3_choose_97 rfl rfl ⟨_, rfl, ?_⟩
              have hbad : ¬ okW (nI G) := fun q => by
                have q := q.2
                rw [hG0] at q
                rw [okG, if_pos (by omega)] at q
                omega
              exact ⟨jbpF hbad, fun i h1 h2 => by funext j; simp [mup, h1, h2], fun k h1 => by simp [mup, h1], fun q => absurd q hbad⟩
          · 
            refine J_iconst (pc := 115) dX3_choose_115 kni_0 ?_
            refine K_zret (pc := 116) dX3_choose_116 rfl rfl ⟨_, rfl, ?_⟩
            have hbad : ¬ okW (nI G) := fun q => by
              have q := q.2
              rw [hG0] at q
              rw [okG, if_pos (by omega)] at q
              omega
            exact ⟨jbpF hbad, fun i h1 h2 => by funext j; simp [mup, h1, h2], fun k h1 => by simp [mup, h1], fun q => absurd q hbad⟩
        · 
          refine J_iconst (pc := 96) dX3_choose_96 kni_0 ?_
          refine K_zret (pc := 97) dX3_choose_97 rfl rfl ⟨_, rfl, ?_⟩
          have hbad : ¬ okW (nI G) := fun q => by
            have q := q.2
            rw [hG0] at q
            rw [okG, if_pos (by omega)] at q
            omega
          exact ⟨jbpF hbad, fun i h1 h2 => by funext j; simp [mup, h1, h2], fun k h1 => by simp [mup, h1], fun q => absurd q hbad⟩
      · 
        refine J_iconst (pc := 115) dX3_choose_115 kni_0 ?_
        refine K_zret (pc := 116) dX3_choose_116 rfl rfl ⟨_, rfl, ?_⟩
        have hbad : ¬ okW (nI G) := fun q => by
          have q := q.2
          rw [hG0] at q
          rw [okG, if_pos (by omega)] at q
          omega
        exact ⟨jbpF hbad, fun i h1 h2 => by funext j; simp [mup, h1, h2], fun k h1 => by simp [mup, h1], fun q => absurd q hbad⟩
  · 
    skip
    refine J_iconst (pc := 11) dX3_choose_11 kni_0 ?_
    refine K_zret (pc := 12) dX3_choose_12 rfl rfl ⟨_, rfl, ?_⟩
    exact ⟨jbpF (fun q => h8 (w_in.mpr q.1)), fun i h1 h2 => rfl, fun k h1 => rfl, fun q => absurd (w_in.mpr q.1) h8⟩
