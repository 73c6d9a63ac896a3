/-- the questions, place by place -/
def farQ (m : jm) (g k w : Nat) : Int32 := shdR m g k - shdR m g (tN (besW k w))
def briQ (m : jm) (g k : Nat) : Nat → Bool
  | 0 => true
  | w + 1 => if besW k w < 0 then briQ m g k w else briQ m g k w && decide (m 141 4 ≤ farQ m g k w)
def addQ (m : jm) (q : Int32) (w : Nat) (v : Int32) : Int32 := if w % 2 = 1 then nI 0 else if q = nI 1 then sizV v else if q = nI 2 then (if m 141 4 ≤ sizV v then nI 1 else nI 0) else nI 0
def wayQ (m : jm) (g : Nat) (q : Int32) (k : Nat) (s : Int32) : Nat → Int32
  | 0 => s
  | w + 1 => if besW k w < 0 then wayQ m g q k s w else wayQ m g q k s w + addQ m q w (farQ m g k w)
def ownQ (m : jm) (g : Nat) (q : Int32) (k : Nat) : Int32 := if q = 0 then shdR m g k else nI 0
def lstQ (m : jm) (g : Nat) (q : Int32) (k : Nat) : Int32 := if q = nI 3 ∧ briQ m g k 4 = true then nI 1 else nI 0
def sumQ (m : jm) (g : Nat) (q : Int32) : Nat → Int32
  | 0 => nI 0
  | k + 1 => wayQ m g q k (sumQ m g q k + ownQ m g q k) 4 + lstQ m g q k
def qstR (m : jm) (g : Nat) (q : Int32) : Int32 := if q = 0 then sumQ m g q 48 / nI 48 else if q = nI 1 then sumQ m g q 48 / nI 82 else sumQ m g q 48
set_option maxRecDepth 100000 in
set_option maxHeartbeats 400000 in
theorem m_questionOf {x : jX} {m : jm} {d : Nat} {g : Nat} (hg : g < 4) (q : Int32) : Ct x (d + 2) eX8_questionOf [.ref (jxb x + 140), .int (nI g), .int q] m (jp (qstR m g q) m) := by
  refine J_start (by decide +kernel) (Nat.le_of_ble_eq_true rfl) (ls := [some (.ref (jxb x + 140)), some (.int (nI g)), some (.int q), none, none, none, none, none, none, none]) rfl rfl ?_
  refine J_iconst (pc := 0) dX8_questionOf_0 kni_0 ?_
  refine J_istore_n (pc := 1) (ls' := [some _, some _, some _, some _, none, none, none, none, none, none]) dX8_questionOf_1 rfl (Nat.le_of_ble_eq_true rfl) rfl ?_
  refine J_iconst (pc := 2) dX8_questionOf_2 kni_0 ?_
  refine J_istore (pc := 3) (ls' := [some _, some _, some _, some _, some _, none, none, none, none, none]) dX8_questionOf_3 rfl (Nat.le_of_ble_eq_true rfl) rfl ?_
  refine K_for' (pc := 5) 48 (fun k => [some (.ref (jxb x + 140)), some (.int (nI g)), some (.int q), some (.int ((sumQ m g q k))), some (.int (nI k)), none, none, none, none, none]) (fun k => m) (by rfl) (by rfl) (fun k hk ih5 => ?_) ?_
  ·
    show K x _ _ 5 [some (.ref (jxb x + 140)), some (.int (nI g)), some (.int q), some (.int ((sumQ m g q k))), some (.int (nI k)), none, none, none, none, none] _ m _
    refine J_iload (pc := 5) dX8_questionOf_5 rfl ?_
    refine J_bipush (pc := 7) dX8_questionOf_7 knb_48 ?_
    refine Jn_ge (pc := 9) (tgt := 180) dX8_questionOf_9 (by decide) (by omega) (by omega) (fun h9 => absurd h9 (by omega)) (fun h9 => ?_)
    refine J_aload_n (pc := 12) dX8_questionOf_12 rfl ?_
    refine J_iload_n (pc := 13) dX8_questionOf_13 rfl ?_
    refine J_iload (pc := 14) dX8_questionOf_14 rfl ?_
    refine K_callVp (pc := 16) (id := 140) (As := [_, _]) dX8_questionOf_16 kl_X8_171 rfl job_140 rfl rfl (Nat.le_of_ble_eq_true rfl) (m_groundAt (g := g) (p := k) hg (by omega)) ?_
    refine J_istore (pc := 19) (ls' := [some _, some _, some _, some _, some _, some _, none, none, none, none]) dX8_questionOf_19 rfl (Nat.le_of_ble_eq_true rfl) rfl ?_
    refine J_iconst (pc := 21) dX8_questionOf_21 kni_1 ?_
    refine J_istore (pc := 22) (ls' := [some _, some _, some _, some _, some _, some _, some _, none, none, none]) dX8_questionOf_22 rfl (Nat.le_of_ble_eq_true rfl) rfl ?_
    refine J_iload_n (pc := 24) dX8_questionOf_24 rfl ?_
    refine J_iload_n (pc := 25) dX8_questionOf_25 rfl ?_
    refine K_merge (jc := 35) (ls' := [some (.ref (jxb x + 140)), some (.int (nI g)), some (.int q), some (.int ((sumQ m g q k))), some (.int (nI k)), some (.int ((shdR m g k))), some (.int (nI 1)), none, none, none]) (st' := [.int ((ownQ m g q k)), .int ((sumQ m g q k))]) (m' := m) ?_ (fun hj35 => ?_)
    ·
      refine J_iadd (pc := 35) dX8_questionOf_35 ?_
      refine J_istore_n (pc := 36) (ls' := [some _, some _, some _, some _, some _, some _, some _, none, none, none]) dX8_questionOf_36 rfl (Nat.le_of_ble_eq_true rfl) rfl ?_
      refine J_iconst (pc := 37) dX8_questionOf_37 kni_0 ?_
      refine J_istore (pc := 38) (ls' := [some _, some _, some _, some _, some _, some _, some _, some _, none, none]) dX8_questionOf_38 rfl (Nat.le_of_ble_eq_true rfl) rfl ?_
      refine K_for' (pc := 40) 4 (fun w => [some (.ref (jxb x + 140)), some (.int (nI g)), some (.int q), some (.int ((wayQ m g q k (sumQ m g q k + ownQ m g q k) w))), some (.int (nI k)), some (.int ((shdR m g k))), some (.int (jb (briQ m g k w = true))), some (.int (nI w)), none, none]) (fun w => m) (by rfl) (by rfl) (fun w hw ih40 => ?_) ?_
      ·
        show K x _ _ 40 [some (.ref (jxb x + 140)), some (.int (nI g)), some (.int q), some (.int ((wayQ m g q k (sumQ m g q k + ownQ m g q k) w))), some (.int (nI k)), some (.int ((shdR m g k))), some (.int (jb (briQ m g k w = true))), some (.int (nI w)), none, none] _ m _
        refine J_iload (pc := 40) dX8_questionOf_40 rfl ?_
        refine J_iconst (pc := 42) dX8_questionOf_42 kni_4 ?_
        refine Jn_ge (pc := 43) (tgt := 156) dX8_questionOf_43 (by decide) (by omega) (by omega) (fun h43 => absurd h43 (by omega)) (fun h43 => ?_)
        refine J_iload (pc := 46) dX8_questionOf_46 rfl ?_
        refine J_iload (pc := 48) dX8_questionOf_48 rfl ?_
        refine K_callSp (pc := 50) (As := [_, _]) dX8_questionOf_50 kl_X8_174 rfl rfl (Nat.le_of_ble_eq_true rfl) (m_beside (p := k) (w := w) (by omega) (by omega)) ?_
        refine J_istore (pc := 53) (ls' := [some _, some _, some _, some _, some _, some _, some _, some _, some _, none]) dX8_questionOf_53 rfl (Nat.le_of_ble_eq_true rfl) rfl ?_
        refine J_iload (pc := 55) dX8_questionOf_55 rfl ?_
        refine J_if_ge (pc := 57) (tgt := 63) dX8_questionOf_57 (by decide) (fun h57 => ?_) (fun h57 => ?_)
        · 
          have hlt := Int32.not_lt.mpr h57
          obtain ⟨b, hb, hbe⟩ := (besW_in (p := k) (w := w) (by omega) (by omega)).resolve_left hlt
          have htb : tN (besW k w) = b := by rw [hbe]; exact tN_n (by omega)
          have hfar : shdR m g k - shdR m g b = farQ m g k w := by unfold farQ; rw [htb]
          have hbn : briQ m g k (w + 1) = (briQ m g k w && decide (m 141 4 ≤ farQ m g k w)) := if_neg hlt
          refine J_iload (pc := 63) dX8_questionOf_63 rfl ?_
          refine J_aload_n (pc := 65) dX8_questionOf_65 rfl ?_
          refine J_iload_n (pc := 66) dX8_questionOf_66 rfl ?_
          refine J_iload (pc := 67) dX8_questionOf_67 rfl ?_
          refine J_top (b := nI b) (hbe) ?_
          refine K_callVp (pc := 69) (id := 140) (As := [_, _]) dX8_questionOf_69 kl_X8_171 rfl job_140 rfl rfl (Nat.le_of_ble_eq_true rfl) (m_groundAt (g := g) (p := b) hg hb) ?_
          refine J_isub (pc := 72) dX8_questionOf_72 ?_
          refine J_top (b := (farQ m g k w)) (hfar) ?_
          refine J_istore (pc := 73) (ls' := [some _, some _, some _, some _, some _, some _, some _, some _, some _, some _]) dX8_questionOf_73 rfl (Nat.le_of_ble_eq_true rfl) rfl ?_
          refine J_iload (pc := 75) dX8_questionOf_75 rfl ?_
          refine K_merge (jc := 96) (ls' := [some (.ref (jxb x + 140)), some (.int (nI g)), some (.int q), some (.int ((wayQ m g q k (sumQ m g q k + ownQ m g q k) w))), some (.int (nI k)), some (.int ((shdR m g k))), some (.int (jb (briQ m g k w = true))), some (.int (nI w)), some (.int ((besW k w))), some (.int ((farQ m g k w)))]) (st' := [.int (jb (briQ m g k (w + 1) = true))]) (m' := m) ?_ (fun hj96 => ?_)
          ·
            refine J_istore (pc := 96) (ls' := [some _, some _, some _, some _, some _, some _, some _, some _, some _, some _]) dX8_questionOf_96 rfl (Nat.le_of_ble_eq_true rfl) rfl ?_
            refine J_iload_n (pc := 98) dX8_questionOf_98 rfl ?_
            refine J_iload (pc := 99) dX8_questionOf_99 rfl ?_
            refine J_iconst (pc := 101) dX8_questionOf_101 kni_2 ?_
            refine J_irem (pc := 102) (v := nI (w % 2)) dX8_questionOf_102 (by decide) (pk_rem (by omega) (by omega) (by omega)) ?_
            refine J_iconst (pc := 103) dX8_questionOf_103 kni_1 ?_
            refine K_merge (jc := 148) (ls' := [some (.ref (jxb x + 140)), some (.int (nI g)), some (.int q), some (.int ((wayQ m g q k (sumQ m g q k + ownQ m g q k) w))), some (.int (nI k)), some (.int ((shdR m g k))), some (.int (jb (briQ m g k (w + 1) = true))), some (.int (nI w)), some (.int ((besW k w))), some (.int ((farQ m g k w)))]) (st' := [.int ((addQ m q w (farQ m g k w))), .int ((wayQ m g q k (sumQ m g q k + ownQ m g q k) w))]) (m' := m) ?_ (fun hj148 => ?_)
            ·
              refine J_iadd (pc := 148) dX8_questionOf_148 ?_
              refine J_istore_n (pc := 149) (ls' := [some _, some _, some _, some _, some _, some _, some _, some _, some _, some _]) dX8_questionOf_149 rfl (Nat.le_of_ble_eq_true rfl) rfl ?_
              refine Jn_iinc (pc := 150) (ls' := [some _, some _, some _, some _, some _, some _, some _, some _, some _, some _]) dX8_questionOf_150 rfl knz_1 rfl rfl ?_
              refine J_goto (pc := 153) (tgt := 40) dX8_questionOf_153 (by decide) ?_
              have e2 : wayQ m g q k (sumQ m g q k + ownQ m g q k) (w + 1) = wayQ m g q k (sumQ m g q k + ownQ m g q k) w + addQ m q w (farQ m g k w) := if_neg hlt
              rw [e2] at ih40
              refine J_wk' ih40 rfl ?_
              rintro (_ | _ | _ | _ | _ | _ | _ | _ | _ | _ | k) v hv <;> first | exact hv | cases hv
            ·
              refine Jn_ne (pc := 104) (tgt := 111) dX8_questionOf_104 (by decide) (by omega) (by omega) (fun h104 => ?_) (fun h104 => ?_)
              · 
                have hodd : ¬ w % 2 = 1 := h104
                refine J_iload_n (pc := 111) dX8_questionOf_111 rfl ?_
                refine J_iconst (pc := 112) dX8_questionOf_112 kni_1 ?_
                refine J_icmp_ne (pc := 113) (tgt := 124) dX8_questionOf_113 (by decide) (fun h113 => ?_) (fun h113 => ?_)
                · 
                  refine J_iload_n (pc := 124) dX8_questionOf_124 rfl ?_
                  refine J_iconst (pc := 125) dX8_questionOf_125 kni_2 ?_
                  refine J_icmp_ne (pc := 126) (tgt := 147) dX8_questionOf_126 (by decide) (fun h126 => ?_) (fun h126 => ?_)
                  · 
                    refine J_iconst (pc := 147) dX8_questionOf_147 kni_0 ?_
                    have e148 : addQ m q w (farQ m g k w) = nI 0 := (if_neg hodd).trans ((if_neg h113).trans (if_neg h126))
                    rw [e148] at hj148
                    exact hj148
                  · 
                    refine J_iload (pc := 129) dX8_questionOf_129 rfl ?_
                    refine K_callSp (pc := 131) (As := [_]) dX8_questionOf_131 kl_X8_139 rfl rfl (Nat.le_of_ble_eq_true rfl) (m_size _) ?_
                    refine J_aload_n (pc := 134) dX8_questionOf_134 rfl ?_
                    refine K_getR (pc := 135) dX8_questionOf_135 kf_X8_7 job_140 jrf_140_0 ?_
                    refine J_iconst (pc := 138) dX8_questionOf_138 kni_4 ?_
                    refine K_ialdn (pc := 139) (id := 141) dX8_questionOf_139 jar_141 (by decide) (by decide) ?_
                    refine J_icmp_lt (pc := 140) (tgt := 147) dX8_questionOf_140 (by decide) (fun h140 => ?_) (fun h140 => ?_)
                    · 
                      refine J_iconst (pc := 147) dX8_questionOf_147 kni_0 ?_
                      have e148 : addQ m q w (farQ m g k w) = nI 0 := (if_neg hodd).trans ((if_neg h113).trans ((if_pos h126).trans (if_neg (Int32.not_le.mpr h140))))
                      rw [e148] at hj148
                      exact hj148
                    · 
                      refine J_iconst (pc := 143) dX8_questionOf_143 kni_1 ?_
                      refine J_goto (pc := 144) (tgt := 148) dX8_questionOf_144 (by decide) ?_
                      have e148 : addQ m q w (farQ m g k w) = nI 1 := (if_neg hodd).trans ((if_neg h113).trans ((if_pos h126).trans (if_pos (Int32.not_lt.mp h140))))
                      rw [e148] at hj148
                      exact hj148
                · 
                  refine J_iload (pc := 116) dX8_questionOf_116 rfl ?_
                  refine K_callSp (pc := 118) (As := [_]) dX8_questionOf_118 kl_X8_139 rfl rfl (Nat.le_of_ble_eq_true rfl) (m_size _) ?_
                  refine J_goto (pc := 121) (tgt := 148) dX8_questionOf_121 (by decide) ?_
                  have e148 : addQ m q w (farQ m g k w) = sizV (farQ m g k w) := (if_neg hodd).trans (if_pos h113)
                  rw [e148] at hj148
                  exact hj148
              · 
                have hodd : w % 2 = 1 := h104
                refine J_iconst (pc := 107) dX8_questionOf_107 kni_0 ?_
                refine J_goto (pc := 108) (tgt := 148) dX8_questionOf_108 (by decide) ?_
                have e148 : addQ m q w (farQ m g k w) = nI 0 := if_pos hodd
                rw [e148] at hj148
                exact hj148
          ·
            refine Jb_eq (pc := 77) (tgt := 95) dX8_questionOf_77 (by decide) (fun h77 => ?_) (fun h77 => ?_)
            · 
              refine J_iconst (pc := 95) dX8_questionOf_95 kni_0 ?_
              have e96 : jb (briQ m g k (w + 1) = true) = nI 0 := (jbF (by rw [hbn, Bool.and_eq_true]; exact fun z => h77 z.1)).symm
              rw [e96] at hj96
              exact hj96
            · 
              refine J_iload (pc := 80) dX8_questionOf_80 rfl ?_
              refine J_aload_n (pc := 82) dX8_questionOf_82 rfl ?_
              refine K_getR (pc := 83) dX8_questionOf_83 kf_X8_7 job_140 jrf_140_0 ?_
              refine J_iconst (pc := 86) dX8_questionOf_86 kni_4 ?_
              refine K_ialdn (pc := 87) (id := 141) dX8_questionOf_87 jar_141 (by decide) (by decide) ?_
              refine J_icmp_lt (pc := 88) (tgt := 95) dX8_questionOf_88 (by decide) (fun h88 => ?_) (fun h88 => ?_)
              · 
                refine J_iconst (pc := 95) dX8_questionOf_95 kni_0 ?_
                have e96 : jb (briQ m g k (w + 1) = true) = nI 0 := (jbF (by rw [hbn, Bool.and_eq_true]; exact fun z => absurd h88 (Int32.not_lt.mpr (of_decide_eq_true z.2)))).symm
                rw [e96] at hj96
                exact hj96
              · 
                refine J_iconst (pc := 91) dX8_questionOf_91 kni_1 ?_
                refine J_goto (pc := 92) (tgt := 96) dX8_questionOf_92 (by decide) ?_
                have e96 : jb (briQ m g k (w + 1) = true) = nI 1 := (jbT (by rw [hbn, Bool.and_eq_true]; exact ⟨h77, decide_eq_true (Int32.not_lt.mp h88)⟩)).symm
                rw [e96] at hj96
                exact hj96
        · 
          have hlt := Int32.not_le.mp h57
          refine J_goto (pc := 60) (tgt := 150) dX8_questionOf_60 (by decide) ?_
          refine Jn_iinc (pc := 150) (ls' := [some _, some _, some _, some _, some _, some _, some _, some _, some _, none]) dX8_questionOf_150 rfl knz_1 rfl rfl ?_
          refine J_goto (pc := 153) (tgt := 40) dX8_questionOf_153 (by decide) ?_
          have e1 : briQ m g k (w + 1) = briQ m g k w := if_pos hlt
          have e2 : wayQ m g q k (sumQ m g q k + ownQ m g q k) (w + 1) = wayQ m g q k (sumQ m g q k + ownQ m g q k) w := if_pos hlt
          rw [e1, e2] at ih40
          refine J_wk' ih40 rfl ?_
          rintro (_ | _ | _ | _ | _ | _ | _ | _ | _ | _ | k) v hv <;> first | exact hv | cases hv
      ·
        show K x _ _ 40 [some (.ref (jxb x + 140)), some (.int (nI g)), some (.int q), some (.int ((wayQ m g q k (sumQ m g q k + ownQ m g q k) 4))), some (.int (nI k)), some (.int ((shdR m g k))), some (.int (jb (briQ m g k 4 = true))), some (.int (nI 4)), none, none] _ m _
        refine J_iload (pc := 40) dX8_questionOf_40 rfl ?_
        refine J_iconst (pc := 42) dX8_questionOf_42 kni_4 ?_
        refine Jn_ge (pc := 43) (tgt := 156) dX8_questionOf_43 (by decide) (by omega) (by omega) (fun h43 => ?_) (fun h43 => absurd h43 (by omega))
        refine J_iload_n (pc := 156) dX8_questionOf_156 rfl ?_
        refine J_iload_n (pc := 157) dX8_questionOf_157 rfl ?_
        refine J_iconst (pc := 158) dX8_questionOf_158 kni_3 ?_
        refine K_merge (jc := 172) (ls' := [some (.ref (jxb x + 140)), some (.int (nI g)), some (.int q), some (.int ((wayQ m g q k (sumQ m g q k + ownQ m g q k) 4))), some (.int (nI k)), some (.int ((shdR m g k))), some (.int (jb (briQ m g k 4 = true))), some (.int (nI 4)), none, none]) (st' := [.int ((lstQ m g q k)), .int ((wayQ m g q k (sumQ m g q k + ownQ m g q k) 4))]) (m' := m) ?_ (fun hj172 => ?_)
        ·
          refine J_iadd (pc := 172) dX8_questionOf_172 ?_
          refine J_istore_n (pc := 173) (ls' := [some _, some _, some _, some _, some _, some _, some _, some _, none, none]) dX8_questionOf_173 rfl (Nat.le_of_ble_eq_true rfl) rfl ?_
          refine Jn_iinc (pc := 174) (ls' := [some _, some _, some _, some _, some _, some _, some _, some _, none, none]) dX8_questionOf_174 rfl knz_1 rfl rfl ?_
          refine J_goto (pc := 177) (tgt := 5) dX8_questionOf_177 (by decide) ?_
          refine J_wk' ih5 rfl ?_
          rintro (_ | _ | _ | _ | _ | _ | _ | _ | _ | _ | k) v hv <;> first | exact hv | cases hv
        ·
          refine J_icmp_ne (pc := 159) (tgt := 171) dX8_questionOf_159 (by decide) (fun h159 => ?_) (fun h159 => ?_)
          · 
            refine J_iconst (pc := 171) dX8_questionOf_171 kni_0 ?_
            have e172 : lstQ m g q k = nI 0 := if_neg (fun z => h159 z.1)
            rw [e172] at hj172
            exact hj172
          · 
            refine J_iload (pc := 162) dX8_questionOf_162 rfl ?_
            refine Jb_eq (pc := 164) (tgt := 171) dX8_questionOf_164 (by decide) (fun h164 => ?_) (fun h164 => ?_)
            · 
              refine J_iconst (pc := 171) dX8_questionOf_171 kni_0 ?_
              have e172 : lstQ m g q k = nI 0 := if_neg (fun z => h164 z.2)
              rw [e172] at hj172
              exact hj172
            · 
              refine J_iconst (pc := 167) dX8_questionOf_167 kni_1 ?_
              refine J_goto (pc := 168) (tgt := 172) dX8_questionOf_168 (by decide) ?_
              have e172 : lstQ m g q k = nI 1 := if_pos ⟨h159, h164⟩
              rw [e172] at hj172
              exact hj172
    ·
      refine J_if_ne (pc := 26) (tgt := 34) dX8_questionOf_26 (by decide) (fun h26 => ?_) (fun h26 => ?_)
      · 
        refine J_iconst (pc := 34) dX8_questionOf_34 kni_0 ?_
        have e35 : ownQ m g q k = nI 0 := if_neg h26
        rw [e35] at hj35
        exact hj35
      · 
        refine J_iload (pc := 29) dX8_questionOf_29 rfl ?_
        refine J_goto (pc := 31) (tgt := 35) dX8_questionOf_31 (by decide) ?_
        have e35 : ownQ m g q k = shdR m g k := if_pos h26
        rw [e35] at hj35
        exact hj35
  ·
    show K x _ _ 5 [some (.ref (jxb x + 140)), some (.int (nI g)), some (.int q), some (.int ((sumQ m g q 48))), some (.int (nI 48)), none, none, none, none, none] _ m _
    refine J_iload (pc := 5) dX8_questionOf_5 rfl ?_
    refine J_bipush (pc := 7) dX8_questionOf_7 knb_48 ?_
    refine Jn_ge (pc := 9) (tgt := 180) dX8_questionOf_9 (by decide) (by omega) (by omega) (fun h9 => ?_) (fun h9 => absurd h9 (by omega))
    refine J_iload_n (pc := 180) dX8_questionOf_180 rfl ?_
    refine J_if_ne (pc := 181) (tgt := 191) dX8_questionOf_181 (by decide) (fun h181 => ?_) (fun h181 => ?_)
    · 
      refine J_iload_n (pc := 191) dX8_questionOf_191 rfl ?_
      refine J_iconst (pc := 192) dX8_questionOf_192 kni_1 ?_
      refine J_icmp_ne (pc := 193) (tgt := 203) dX8_questionOf_193 (by decide) (fun h193 => ?_) (fun h193 => ?_)
      · 
        refine J_iload_n (pc := 203) dX8_questionOf_203 rfl ?_
        refine K_iret (pc := 204) dX8_questionOf_204 rfl ⟨_, rfl, ?_⟩
        unfold qstR
        exact ⟨by rw [if_neg h181, if_neg h193], rfl⟩
      · 
        refine J_iload_n (pc := 196) dX8_questionOf_196 rfl ?_
        refine J_bipush (pc := 197) dX8_questionOf_197 knb_82 ?_
        refine J_idiv (pc := 199) dX8_questionOf_199 (by decide) rfl ?_
        refine J_goto (pc := 200) (tgt := 204) dX8_questionOf_200 (by decide) ?_
        refine K_iret (pc := 204) dX8_questionOf_204 rfl ⟨_, rfl, ?_⟩
        unfold qstR
        exact ⟨by rw [if_neg h181, if_pos h193], rfl⟩
    · 
      refine J_iload_n (pc := 184) dX8_questionOf_184 rfl ?_
      refine J_bipush (pc := 185) dX8_questionOf_185 knb_48 ?_
      refine J_idiv (pc := 187) dX8_questionOf_187 (by decide) rfl ?_
      refine J_goto (pc := 188) (tgt := 204) dX8_questionOf_188 (by decide) ?_
      refine K_iret (pc := 204) dX8_questionOf_204 rfl ⟨_, rfl, ?_⟩
      unfold qstR
      exact ⟨by rw [if_pos h181], rfl⟩
def R_ask (m : jm) (g q : Int32) : Int32 × jm :=
  if ¬ (nI 0 ≤ g ∧ g ≤ nI 3) then (-1000000001, m) else if ¬ (nI 0 ≤ q ∧ q ≤ nI 3) then (-1000000001, m) else (qstR m (tN g) q, m)
set_option maxRecDepth 100000 in
set_option maxHeartbeats 400000 in
theorem m_ask {x : jX} {m : jm} {d : Nat} (g q : Int32) : Ct x (d + 3) eX8_ask [.ref (jxb x + 140), .int g, .int q] m (ji fun rv m' => (rv, m') = R_ask m g q) := by
  refine J_start (by decide +kernel) (Nat.le_of_ble_eq_true rfl) (ls := [some (.ref (jxb x + 140)), some (.int g), some (.int q)]) rfl rfl ?_
  refine J_iload_n (pc := 0) dX8_ask_0 rfl ?_
  refine K_callSp (pc := 1) (As := [_]) dX8_ask_1 kl_X8_168 rfl rfl (Nat.le_of_ble_eq_true rfl) (m_isGround g) ?_
  refine Jb_eq (pc := 4) (tgt := 28) dX8_ask_4 (by decide) (fun h4 => ?_) (fun h4 => ?_)
  · 
    refine J_ldc (pc := 28) dX8_ask_28 kc_X8_91 ?_
    refine K_iret (pc := 30) dX8_ask_30 rfl ⟨_, rfl, ?_⟩
    show (_, _) = _
    unfold R_ask
    try rw [htr]
    try first | rw [if_pos h4] | rw [if_neg h4] | rw [if_neg (Classical.not_not.mpr h4)]
    try rfl
  · 
    refine J_iload_n (pc := 7) dX8_ask_7 rfl ?_
    refine J_i2l (pc := 8) dX8_ask_8 ?_
    refine J_lconst (pc := 9) (v := 0) dX8_ask_9 rfl ?_
    refine J_ldc2 (pc := 10) dX8_ask_10 kg_X8_77 ?_
    refine K_callSp (pc := 13) (As := [_, _, _]) dX8_ask_13 kl_X8_71 rfl rfl (Nat.le_of_ble_eq_true rfl) (m_in32 (v := q) (a := nI 0) (b := nI 3) (by decide) (by decide)) ?_
    refine Jb_eq (pc := 16) (tgt := 28) dX8_ask_16 (by decide) (fun h16 => ?_) (fun h16 => ?_)
    · 
      refine J_ldc (pc := 28) dX8_ask_28 kc_X8_91 ?_
      refine K_iret (pc := 30) dX8_ask_30 rfl ⟨_, rfl, ?_⟩
      show (_, _) = _
      unfold R_ask
      try rw [htr]
      try first | rw [if_pos h4] | rw [if_neg h4] | rw [if_neg (Classical.not_not.mpr h4)]
      try first | rw [if_pos h16] | rw [if_neg h16] | rw [if_neg (Classical.not_not.mpr h16)]
      try rfl
    · 
      obtain ⟨r, hr, hre⟩ := w_of h4 (by decide)
      have htr : tN g = r := by rw [hre]; exact tN_n (by omega)
      subst hre
      refine J_aload_n (pc := 19) dX8_ask_19 rfl ?_
      refine J_iload_n (pc := 20) dX8_ask_20 rfl ?_
      refine J_iload_n (pc := 21) dX8_ask_21 rfl ?_
      refine K_callVp (pc := 22) (id := 140) (As := [_, _]) dX8_ask_22 kl_X8_177 rfl job_140 rfl rfl (Nat.le_of_ble_eq_true rfl) (m_questionOf (g := r) (by omega) q) ?_
      refine J_goto (pc := 25) (tgt := 30) dX8_ask_25 (by decide) ?_
      refine K_iret (pc := 30) dX8_ask_30 rfl ⟨_, rfl, ?_⟩
      show (_, _) = _
      unfold R_ask
      try rw [htr]
      try first | rw [if_pos h4] | rw [if_neg h4] | rw [if_neg (Classical.not_not.mpr h4)]
      try first | rw [if_pos h16] | rw [if_neg h16] | rw [if_neg (Classical.not_not.mpr h16)]
      try rfl
def byR (a b c : Int32) (k : Nat) : Int32 := ((if k < 4 then a else if k < 8 then b else c) >>> ((nI 24 - nI (8 * (k % 4))) &&& 31)) &&& nI 255
def fdR (m : jm) (n : Nat) (a b c : Int32) : Nat → jm
  | 0 => m
  | k + 1 => mup (mup (fdR m n a b c k) 150 (n + k) (byR a b c k)) 140 11 (nI (n + k + 1))
theorem fdR_11 {m : jm} {n : Nat} {a b c : Int32} (h : m 140 11 = nI n) : ∀ k, fdR m n a b c k 140 11 = nI (n + k)
  | 0 => h
  | k + 1 => mup_s
def R_feed (m : jm) (a b c : Int32) : Int32 × jm := if 96 < tN (m 140 11) + 12 then (-1000000003, m) else (nI (tN (m 140 11) + 12), fdR m (tN (m 140 11)) a b c 12)
set_option maxRecDepth 100000 in
set_option maxHeartbeats 400000 in
theorem m_feed {x : jX} {m : jm} {d : Nat} (a b c : Int32) {n : Nat} (hn : m 140 11 = nI n) (h96 : n ≤ 96) : Ct x d eX8_feed [.ref (jxb x + 140), .int a, .int b, .int c] m (ji fun rv m' => (rv, m') = R_feed m a b c) := by
  refine J_start (by decide +kernel) (Nat.le_of_ble_eq_true rfl) (ls := [some (.ref (jxb x + 140)), some (.int a), some (.int b), some (.int c), none, none]) rfl rfl ?_
  have htn : tN (m 140 11) = n := by rw [hn]; exact tN_n (by omega)
  refine J_aload_n (pc := 0) dX8_feed_0 rfl ?_
  refine K_getI (pc := 1) dX8_feed_1 kf_X8_180 job_140 jrf_140_11 ?_
  refine J_top (b := nI n) (hn) ?_
  refine J_bipush (pc := 4) dX8_feed_4 knb_12 ?_
  refine J_iaddv (pc := 6) dX8_feed_6 (nI_add _ _) ?_
  refine J_bipush (pc := 7) dX8_feed_7 knb_96 ?_
  refine Jn_le (pc := 9) (tgt := 15) dX8_feed_9 (by decide) (by omega) (by omega) (fun h9 => ?_) (fun h9 => ?_)
  · 
    refine J_iconst (pc := 15) dX8_feed_15 kni_0 ?_
    refine J_istore (pc := 16) (ls' := [some _, some _, some _, some _, some _, none]) dX8_feed_16 rfl (Nat.le_of_ble_eq_true rfl) rfl ?_
    refine K_for' (pc := 18) 12 (fun k => [some (.ref (jxb x + 140)), some (.int a), some (.int b), some (.int c), some (.int (nI k)), none]) (fun k => (fdR m n a b c k)) (by rfl) (by rfl) (fun k hk ih18 => ?_) ?_
    ·
      show K x _ _ 18 [some (.ref (jxb x + 140)), some (.int a), some (.int b), some (.int c), some (.int (nI k)), none] _ ((fdR m n a b c k)) _
      have h11 := fdR_11 (a := a) (b := b) (c := c) hn k
      refine J_iload (pc := 18) dX8_feed_18 rfl ?_
      refine J_bipush (pc := 20) dX8_feed_20 knb_12 ?_
      refine Jn_ge (pc := 22) (tgt := 91) dX8_feed_22 (by decide) (by omega) (by omega) (fun h22 => absurd h22 (by omega)) (fun h22 => ?_)
      refine J_iload (pc := 25) dX8_feed_25 rfl ?_
      refine J_iconst (pc := 27) dX8_feed_27 kni_4 ?_
      refine K_merge (jc := 47) (ls' := [some (.ref (jxb x + 140)), some (.int a), some (.int b), some (.int c), some (.int (nI k)), none]) (st' := [.int ((if k < 4 then a else if k < 8 then b else c))]) (m' := (fdR m n a b c k)) ?_ (fun hj47 => ?_)
      ·
        refine J_istore (pc := 47) (ls' := [some _, some _, some _, some _, some _, some _]) dX8_feed_47 rfl (Nat.le_of_ble_eq_true rfl) rfl ?_
        refine J_aload_n (pc := 49) dX8_feed_49 rfl ?_
        refine K_getR (pc := 50) dX8_feed_50 kf_X8_37 job_140 jrf_140_10 ?_
        refine J_aload_n (pc := 53) dX8_feed_53 rfl ?_
        refine K_getI (pc := 54) dX8_feed_54 kf_X8_180 job_140 jrf_140_11 ?_
        refine J_top (b := nI (n + k)) (h11) ?_
        refine J_iload (pc := 57) dX8_feed_57 rfl ?_
        refine J_bipush (pc := 59) dX8_feed_59 knb_24 ?_
        refine J_bipush (pc := 61) dX8_feed_61 knb_8 ?_
        refine J_iload (pc := 63) dX8_feed_63 rfl ?_
        refine J_iconst (pc := 65) dX8_feed_65 kni_4 ?_
        refine J_irem (pc := 66) (v := nI (k % 4)) dX8_feed_66 (by decide) (pk_rem (by omega) (by omega) (by omega)) ?_
        refine J_imulv (pc := 67) dX8_feed_67 (pk_mul _ _) ?_
        refine J_isub (pc := 68) dX8_feed_68 ?_
        refine J_ishr (pc := 69) dX8_feed_69 ?_
        refine J_sipush (pc := 70) dX8_feed_70 kns_255 ?_
        refine J_iand (pc := 73) dX8_feed_73 ?_
        refine K_iastn (pc := 74) (id := 150) dX8_feed_74 jar_150 (by omega) (by decide) ?_
        refine J_aload_n (pc := 75) dX8_feed_75 rfl ?_
        refine J_dup (pc := 76) dX8_feed_76 rfl ?_
        refine K_getI (pc := 77) dX8_feed_77 kf_X8_180 job_140 jrf_140_11 ?_
        refine J_top (b := nI (n + k)) ((mup_i (by decide)).trans h11) ?_
        refine J_iconst (pc := 80) dX8_feed_80 kni_1 ?_
        refine J_iaddv (pc := 81) dX8_feed_81 (nI_add _ _) ?_
        refine K_put (pc := 82) dX8_feed_82 kp_X8_180 job_140 jrf_140_11 rfl rfl ?_
        refine Jn_iinc (pc := 85) (ls' := [some _, some _, some _, some _, some _, some _]) dX8_feed_85 rfl knz_1 rfl rfl ?_
        refine J_goto (pc := 88) (tgt := 18) dX8_feed_88 (by decide) ?_
        refine J_wk' ih18 rfl ?_
        rintro (_ | _ | _ | _ | _ | _ | _ | _ | _ | _ | k) v hv <;> first | exact hv | cases hv
      ·
        refine Jn_ge (pc := 28) (tgt := 35) dX8_feed_28 (by decide) (by omega) (by omega) (fun h28 => ?_) (fun h28 => ?_)
        · 
          refine J_iload (pc := 35) dX8_feed_35 rfl ?_
          refine J_bipush (pc := 37) dX8_feed_37 knb_8 ?_
          refine Jn_ge (pc := 39) (tgt := 46) dX8_feed_39 (by decide) (by omega) (by omega) (fun h39 => ?_) (fun h39 => ?_)
          · 
            refine J_iload_n (pc := 46) dX8_feed_46 rfl ?_
            have e47 : (if k < 4 then a else if k < 8 then b else c) = c := (if_neg (by omega)).trans (if_neg (by omega))
            rw [e47] at hj47
            exact hj47
          · 
            refine J_iload_n (pc := 42) dX8_feed_42 rfl ?_
            refine J_goto (pc := 43) (tgt := 47) dX8_feed_43 (by decide) ?_
            have e47 : (if k < 4 then a else if k < 8 then b else c) = b := (if_neg (by omega)).trans (if_pos (by omega))
            rw [e47] at hj47
            exact hj47
        · 
          refine J_iload_n (pc := 31) dX8_feed_31 rfl ?_
          refine J_goto (pc := 32) (tgt := 47) dX8_feed_32 (by decide) ?_
          have e47 : (if k < 4 then a else if k < 8 then b else c) = a := if_pos (by omega)
          rw [e47] at hj47
          exact hj47
    ·
      show K x _ _ 18 [some (.ref (jxb x + 140)), some (.int a), some (.int b), some (.int c), some (.int (nI 12)), none] _ ((fdR m n a b c 12)) _
      refine J_iload (pc := 18) dX8_feed_18 rfl ?_
      refine J_bipush (pc := 20) dX8_feed_20 knb_12 ?_
      refine Jn_ge (pc := 22) (tgt := 91) dX8_feed_22 (by decide) (by omega) (by omega) (fun h22 => ?_) (fun h22 => absurd h22 (by omega))
      refine J_aload_n (pc := 91) dX8_feed_91 rfl ?_
      refine K_getI (pc := 92) dX8_feed_92 kf_X8_180 job_140 jrf_140_11 ?_
      refine J_top (b := nI (n + 12)) (fdR_11 hn 12) ?_
      refine K_iret (pc := 95) dX8_feed_95 rfl ⟨_, rfl, ?_⟩
      show (_, _) = _
      unfold R_feed
      rw [htn]
      try first | rw [if_pos h9] | rw [if_neg h9] | rw [if_neg (Classical.not_not.mpr h9)]
      try first | rw [if_pos h22] | rw [if_neg h22] | rw [if_neg (Classical.not_not.mpr h22)]
      try rw [if_neg (by omega)]
  · 
    refine J_ldc (pc := 12) dX8_feed_12 kc_X8_96 ?_
    refine K_iret (pc := 14) dX8_feed_14 rfl ⟨_, rfl, ?_⟩
    show (_, _) = _
    unfold R_feed
    rw [htn]
    try first | rw [if_pos h9] | rw [if_neg h9] | rw [if_neg (Classical.not_not.mpr h9)]
    try rw [if_pos (by omega)]
