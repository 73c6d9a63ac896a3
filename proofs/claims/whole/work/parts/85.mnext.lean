/-- a byte without its sign -/
def bR (u v : Int32) : Prop := (u = v ∧ 0 ≤ v ∧ v ≤ nI 127) ∨ (v < 0 ∧ nI 127 < u)
theorem bR_c {u v : Int32} (h : bR u v) {c : Nat} (hc : c < 128) : u = nI c ↔ v = nI c := by
  have hn : (nI c).toInt = c := nI_toInt (by omega)
  have h127 : (nI 127).toInt = 127 := rfl
  have h0 : (0 : Int32).toInt = 0 := rfl
  rcases h with ⟨rfl, -, -⟩ | ⟨h1, h2⟩
  · exact Iff.rfl
  · rw [Int32.lt_iff_toInt_lt] at h1 h2
    constructor
    · intro e; rw [e] at h2; omega
    · intro e; rw [e] at h1; omega
theorem bR_in {u v : Int32} (h : bR u v) {a b : Nat} (ha : a < 128) (hb : b < 128) : (nI a ≤ u ∧ u ≤ nI b) ↔ (nI a ≤ v ∧ v ≤ nI b) := by
  have hn : (nI b).toInt = b := nI_toInt (by omega)
  have h127 : (nI 127).toInt = 127 := rfl
  rcases h with ⟨rfl, -, -⟩ | ⟨h1, h2⟩
  · exact Iff.rfl
  · rw [Int32.lt_iff_toInt_lt] at h1 h2
    constructor
    · intro e
      have := e.2
      rw [Int32.le_iff_toInt_le] at this
      omega
    · intro e
      have h3 := e.1
      rw [Int32.le_iff_toInt_le, nI_toInt (by omega)] at h3
      rw [show (0 : Int32).toInt = 0 from rfl] at h1
      omega
theorem bR_lt {u v : Int32} (h : bR u v) : (nI 97 ≤ u ∧ u ≤ nI 122) ↔ lB v = true := (bR_in h (by decide) (by decide)).trans lB_iff.symm
theorem bR_dg {u v : Int32} (h : bR u v) : (nI 48 ≤ u ∧ u ≤ nI 57) ↔ dB v = true := (bR_in h (by decide) (by decide)).trans dB_iff.symm
theorem bR_eq {u v : Int32} (h : bR u v) (h0 : 0 ≤ v) : u = v := by
  rcases h with h | h
  · exact h.1
  · exact absurd h.1 (Int32.not_lt.mpr h0)
theorem lB_0 {v : Int32} (h : lB v = true) : 0 ≤ v := Int32.le_trans (by decide) (lB_iff.mp h).1
theorem dB_0 {v : Int32} (h : dB v = true) : 0 ≤ v := Int32.le_trans (by decide) (dB_iff.mp h).1
theorem lB_dB {v : Int32} (h : lB v = true) : ¬ dB v = true := fun q => by
  have h1 := (lB_iff.mp h).1
  have h2 := (dB_iff.mp q).2
  rw [Int32.le_iff_toInt_le] at h1 h2
  have a : (nI 97).toInt = 97 := rfl
  have b : (nI 57).toInt = 57 := rfl
  omega
theorem wB_32 : ¬ wB (nI 32) = true := fun h => by
  rcases wB_iff.mp h with q | q
  · exact absurd (lB_iff.mp q).1 (by decide)
  · exact absurd (dB_iff.mp q).1 (by decide)
/-- what kind of word or sign stands there -/
noncomputable def kdT (t : Nat → Int32) (n s e : Nat) : Nat := if s < n then (if lB (t s) = true then (if glP t n s then 4 else 1) else if dB (t s) = true then (if glP t n s ∨ 4 < e - s then 4 else 2) else 3) else 0
theorem mup_id {m : jm} {i k : Nat} {v : Int32} (h : m i k = v) : mup m i k v = m := by
  funext a b
  unfold mup
  by_cases q : a = i ∧ b = k
  · rw [if_pos q, q.1, q.2, h]
  · rw [if_neg q]
/-- what a step to the next word leaves -/
noncomputable def nxP (t : Nat → Int32) (n s e : Nat) (m m' : jm) : Prop :=
  (∀ i, i ≠ 140 → m' i = m i) ∧ (∀ j, j < 12 ∨ 16 < j → m' 140 j = m 140 j) ∧ m' 140 12 = nI s ∧ m' 140 13 = nI e ∧ m' 140 14 = nI (kdT t n s e) ∧
  (kdT t n s e = 2 → m' 140 15 = numV t s (e - s)) ∧ (kdT t n s e = 1 → m' 140 16 = if e - s = 1 then t s else nI 0) ∧ (kdT t n s e = 3 → bR (m' 140 16) (t s))
theorem m_isLetter2 {x : jX} {m : jm} {d n i : Nat} {t : Nat → Int32} (hn : m 140 11 = nI n) (h96 : n ≤ 96) (hi : i ≤ 96) (hb : ∀ j, j < n → bR (m 150 j) (t j)) : Ct x (d + 1) eX8_isLetter [.ref (jxb x + 140), .int (nI i)] m (jp (jb (i < n ∧ lB (t i) = true)) m) := by
  rw [← jb_iff (c := i < n ∧ nI 97 ≤ m 150 i ∧ m 150 i ≤ nI 122) (e := i < n ∧ lB (t i) = true) ⟨fun z => ⟨z.1, (bR_lt (hb i z.1)).mp z.2⟩, fun z => ⟨z.1, (bR_lt (hb i z.1)).mpr z.2⟩⟩]
  exact m_isLetter hn h96 hi
theorem m_isDigit2 {x : jX} {m : jm} {d n i : Nat} {t : Nat → Int32} (hn : m 140 11 = nI n) (h96 : n ≤ 96) (hi : i ≤ 96) (hb : ∀ j, j < n → bR (m 150 j) (t j)) : Ct x (d + 1) eX8_isDigit [.ref (jxb x + 140), .int (nI i)] m (jp (jb (i < n ∧ dB (t i) = true)) m) := by
  rw [← jb_iff (c := i < n ∧ nI 48 ≤ m 150 i ∧ m 150 i ≤ nI 57) (e := i < n ∧ dB (t i) = true) ⟨fun z => ⟨z.1, (bR_dg (hb i z.1)).mp z.2⟩, fun z => ⟨z.1, (bR_dg (hb i z.1)).mpr z.2⟩⟩]
  exact m_isDigit hn h96 hi
theorem dg_s {m : jm} {v w v' w' : Int32} : mup (mup (mup (mup m 140 15 v) 140 13 w) 140 15 v') 140 13 w' = mup (mup m 140 15 v') 140 13 w' := by
  funext a b
  by_cases q : a = 140 ∧ b = 13
  · simp only [mup, if_pos q]
  · by_cases r : a = 140 ∧ b = 15
    · simp only [mup, if_neg q, if_pos r]
    · simp only [mup, if_neg q, if_neg r]
set_option maxRecDepth 100000 in
set_option maxHeartbeats 400000 in
theorem m_next {x : jX} {m : jm} {d : Nat} {n e kd : Nat} {t : Nat → Int32} (hn : m 140 11 = nI n) (h96 : n ≤ 96) (he : m 140 13 = nI e) (hen : e ≤ n) (hk : m 140 14 = nI kd) (hk4 : kd ≤ 4) (hb : ∀ j, j < n → bR (m 150 j) (t j)) (hq : (0 < e ∧ (kd = 1 ∨ kd = 2)) ↔ (0 < e ∧ wB (t (e - 1)) = true)) : Ct x (d + 2) eX8_next [.ref (jxb x + 140)] m (jv fun m' => nxP t n (skp t n e) (ndp t n (skp t n e)) m m') := by
  refine J_start (by decide +kernel) (Nat.le_of_ble_eq_true rfl) (ls := [some (.ref (jxb x + 140)), none, none]) rfl rfl ?_
  obtain ⟨s, hs⟩ : ∃ s, s = skp t n e := ⟨_, rfl⟩
  have hle := skp_le (t := t) (n := n) (e := e) hen
  rw [← hs] at hle
  have hske : s < n → ¬ t s = nI 32 := fun h => by rw [hs]; exact skp_end hen (by omega)
  have hnd := ndp_le (t := t) (n := n) (s := s) (by omega)
  rw [← hs]
  have hglu0 : s < n → wB (t s) = true → (((0 < e ∧ (kd = 1 ∨ kd = 2)) ∧ e = s) ↔ glP t n s) := fun hsn hw => by
    constructor
    · intro z
      have q := hq.mp z.1
      exact ⟨by omega, hsn, hw, by rw [← z.2]; exact q.2⟩
    · intro z
      have : e = s := by
        rcases Nat.lt_or_ge e s with y | y
        · have b := skp_in (t := t) (n := n) (e := e) (j := s - 1) (by omega) (by omega)
          have w := z.2.2.2
          rw [b] at w
          exact absurd w wB_32
        · omega
      exact ⟨hq.mpr ⟨by have := z.1; omega, by rw [this]; exact z.2.2.2⟩, this⟩
  have hlr : s < n ∧ lB (t s) = true → ∀ i, i < ndp t n s - s → s + i < n ∧ lB (t (s + i)) = true := fun z i hi => by
    have e1 : ndp t n s = run (fun j => lB (t j)) (s + 1) (n - (s + 1)) := by unfold ndp; rw [if_pos z.1, if_pos z.2]
    refine ⟨by omega, ?_⟩
    by_cases y : i = 0
    · subst y; exact z.2
    · exact run_in (fun j => lB (t j)) (n - (s + 1)) (s + 1) (s + i) (by omega) (by rw [← e1]; omega)
  have hle2 : s < n ∧ lB (t s) = true → ¬ (ndp t n s < n ∧ lB (t (ndp t n s)) = true) := fun z y => by
    have e1 : ndp t n s = run (fun j => lB (t j)) (s + 1) (n - (s + 1)) := by unfold ndp; rw [if_pos z.1, if_pos z.2]
    have := run_end (fun j => lB (t j)) (n - (s + 1)) (s + 1) (by rw [← e1]; omega)
    rw [← e1] at this
    exact this y.2
  have hdr : s < n ∧ dB (t s) = true → ∀ i, i < ndp t n s - s → s + i < n ∧ dB (t (s + i)) = true := fun z i hi => by
    have e1 : ndp t n s = run (fun j => dB (t j)) (s + 1) (n - (s + 1)) := by unfold ndp; rw [if_pos z.1, if_neg (fun q => lB_dB q z.2), if_pos z.2]
    refine ⟨by omega, ?_⟩
    by_cases y : i = 0
    · subst y; exact z.2
    · exact run_in (fun j => dB (t j)) (n - (s + 1)) (s + 1) (s + i) (by omega) (by rw [← e1]; omega)
  have hde2 : s < n ∧ dB (t s) = true → ¬ (ndp t n s < n ∧ dB (t (ndp t n s)) = true) := fun z y => by
    have e1 : ndp t n s = run (fun j => dB (t j)) (s + 1) (n - (s + 1)) := by unfold ndp; rw [if_pos z.1, if_neg (fun q => lB_dB q z.2), if_pos z.2]
    have := run_end (fun j => dB (t j)) (n - (s + 1)) (s + 1) (by rw [← e1]; omega)
    rw [← e1] at this
    exact this y.2
  refine J_aload_n (pc := 0) dX8_next_0 rfl ?_
  refine K_getI (pc := 1) dX8_next_1 kf_X8_190 job_140 jrf_140_13 ?_
  refine J_top (b := nI e) (he) ?_
  refine K_merge (jc := 28) (ls' := [some (.ref (jxb x + 140)), none, none]) (st' := [.int (jb (0 < e ∧ (kd = 1 ∨ kd = 2)))]) (m' := m) ?_ (fun hj28 => ?_)
  ·
    refine J_istore_n (pc := 28) (ls' := [some _, some _, none]) dX8_next_28 rfl (Nat.le_of_ble_eq_true rfl) rfl ?_
    refine J_aload_n (pc := 29) dX8_next_29 rfl ?_
    refine K_getI (pc := 30) dX8_next_30 kf_X8_190 job_140 jrf_140_13 ?_
    refine J_top (b := nI e) (he) ?_
    refine J_istore_n (pc := 33) (ls' := [some _, some _, some _]) dX8_next_33 rfl (Nat.le_of_ble_eq_true rfl) rfl ?_
    refine K_merge (jc := 72) (ls' := [some (.ref (jxb x + 140)), some (.int (jb (0 < e ∧ (kd = 1 ∨ kd = 2)))), some (.int (nI e))]) (st' := []) (m' := (mup m 140 13 (nI s))) ?_ (fun hj72 => ?_)
    ·
      refine J_iload_n (pc := 72) dX8_next_72 rfl ?_
      refine K_merge (jc := 89) (ls' := [some (.ref (jxb x + 140)), some (.int (jb (0 < e ∧ (kd = 1 ∨ kd = 2)))), some (.int (nI e))]) (st' := [.int (jb (((0 < e ∧ (kd = 1 ∨ kd = 2)) ∧ e = s)))]) (m' := (mup m 140 13 (nI s))) ?_ (fun hj89 => ?_)
      ·
        refine J_istore_n (pc := 89) (ls' := [some _, some _, some _]) dX8_next_89 rfl (Nat.le_of_ble_eq_true rfl) rfl ?_
        refine J_aload_n (pc := 90) dX8_next_90 rfl ?_
        refine J_aload_n (pc := 91) dX8_next_91 rfl ?_
        refine K_getI (pc := 92) dX8_next_92 kf_X8_190 job_140 jrf_140_13 ?_
        refine J_top (b := nI s) (mup_s) ?_
        refine K_put (pc := 95) dX8_next_95 kp_X8_196 job_140 jrf_140_12 rfl rfl ?_
        refine J_aload_n (pc := 98) dX8_next_98 rfl ?_
        refine K_getI (pc := 99) dX8_next_99 kf_X8_196 job_140 jrf_140_12 ?_
        refine J_top (b := nI s) (by rw [mup_s]) ?_
        refine J_aload_n (pc := 102) dX8_next_102 rfl ?_
        refine K_getI (pc := 103) dX8_next_103 kf_X8_180 job_140 jrf_140_11 ?_
        refine J_top (b := nI n) ((mup_j (by decide)).trans ((mup_j (by decide)).trans hn)) ?_
        refine Jn_ne (pc := 106) (tgt := 117) dX8_next_106 (by decide) (by omega) (by omega) (fun h106 => ?_) (fun h106 => ?_)
        · 
          refine J_aload_n (pc := 117) dX8_next_117 rfl ?_
          refine J_aload_n (pc := 118) dX8_next_118 rfl ?_
          refine K_getI (pc := 119) dX8_next_119 kf_X8_196 job_140 jrf_140_12 ?_
          refine J_top (b := nI s) (by rw [mup_s]) ?_
          refine K_callVp (pc := 122) (id := 140) (As := [_]) dX8_next_122 kl_X8_199 rfl job_140 rfl rfl (Nat.le_of_ble_eq_true rfl) (m_isLetter2 (t := t) (n := n) (i := s) ((mup_j (by decide)).trans ((mup_j (by decide)).trans hn)) h96 (by omega) (fun j hj => by rw [mup_i (by decide), mup_i (by decide)]; exact hb j hj)) ?_
          refine Jb_eq (pc := 125) (tgt := 198) dX8_next_125 (by decide) (fun h125 => ?_) (fun h125 => ?_)
          · 
            have hsn : s < n := by omega
            have hglu := hglu0 hsn
            refine J_aload_n (pc := 198) dX8_next_198 rfl ?_
            refine J_aload_n (pc := 199) dX8_next_199 rfl ?_
            refine K_getI (pc := 200) dX8_next_200 kf_X8_196 job_140 jrf_140_12 ?_
            refine J_top (b := nI s) (by rw [mup_s]) ?_
            refine K_callVp (pc := 203) (id := 140) (As := [_]) dX8_next_203 kl_X8_205 rfl job_140 rfl rfl (Nat.le_of_ble_eq_true rfl) (m_isDigit2 (t := t) (n := n) (i := s) ((mup_j (by decide)).trans ((mup_j (by decide)).trans hn)) h96 (by omega) (fun j hj => by rw [mup_i (by decide), mup_i (by decide)]; exact hb j hj)) ?_
            refine Jb_eq (pc := 206) (tgt := 311) dX8_next_206 (by decide) (fun h206 => ?_) (fun h206 => ?_)
            · 
              refine J_aload_n (pc := 311) dX8_next_311 rfl ?_
              refine J_iconst (pc := 312) dX8_next_312 kni_3 ?_
              refine K_put (pc := 313) dX8_next_313 kp_X8_193 job_140 jrf_140_14 rfl rfl ?_
              refine J_aload_n (pc := 316) dX8_next_316 rfl ?_
              refine J_aload_n (pc := 317) dX8_next_317 rfl ?_
              refine K_getR (pc := 318) dX8_next_318 kf_X8_37 job_140 jrf_140_10 ?_
              refine J_aload_n (pc := 321) dX8_next_321 rfl ?_
              refine K_getI (pc := 322) dX8_next_322 kf_X8_196 job_140 jrf_140_12 ?_
              refine J_top (b := nI s) (by rw [mup_j (by decide), mup_s]) ?_
              refine K_ialdn (pc := 325) (id := 150) dX8_next_325 jar_150 (by omega) (by decide) ?_
              refine J_top (b := (m 150 s)) ((mup_i (by decide)).trans ((mup_i (by decide)).trans (mup_i (by decide)))) ?_
              refine K_put (pc := 326) dX8_next_326 kp_X8_202 job_140 jrf_140_16 rfl rfl ?_
              refine J_aload_n (pc := 329) dX8_next_329 rfl ?_
              refine J_dup (pc := 330) dX8_next_330 rfl ?_
              refine K_getI (pc := 331) dX8_next_331 kf_X8_190 job_140 jrf_140_13 ?_
              refine J_top (b := nI s) (by rw [mup_j (by decide), mup_j (by decide), mup_j (by decide)]; exact mup_s) ?_
              refine J_iconst (pc := 334) dX8_next_334 kni_1 ?_
              refine J_iaddv (pc := 335) dX8_next_335 (nI_add _ _) ?_
              refine K_put (pc := 336) dX8_next_336 kp_X8_190 job_140 jrf_140_13 rfl rfl ?_
              refine K_vret (pc := 339) dX8_next_339 rfl ⟨rfl, ?_⟩
              have hE : ndp t n s = s + 1 := by unfold ndp; rw [if_pos hsn, if_neg (fun z => h125 ⟨hsn, z⟩), if_neg (fun z => h206 ⟨hsn, z⟩)]
              have hk : kdT t n s (ndp t n s) = 3 := by unfold kdT; rw [if_pos hsn, if_neg (fun z => h125 ⟨hsn, z⟩), if_neg (fun z => h206 ⟨hsn, z⟩)]
              refine ⟨fun i hi => by rw [mup_i' hi, mup_i' hi, mup_i' hi, mup_i' hi, mup_i' hi], fun j hj => by rw [mup_j (by omega), mup_j (by omega), mup_j (by omega), mup_j (by omega), mup_j (by omega)], by rw [mup_j (by decide), mup_j (by decide), mup_j (by decide)]; exact mup_s, by rw [hE]; exact mup_s, by rw [hk, mup_j (by decide), mup_j (by decide)]; exact mup_s, fun z => ?_, fun z => ?_, fun z => ?_⟩
              · rw [hk] at z; exact absurd z (by decide)
              · rw [hk] at z; exact absurd z (by decide)
              · rw [mup_j (by decide), mup_s]; exact hb s hsn
            · 
              have hdr := hdr h206
              have hde2 := hde2 h206
              refine J_aload_n (pc := 209) dX8_next_209 rfl ?_
              refine J_iconst (pc := 210) dX8_next_210 kni_0 ?_
              refine K_put (pc := 211) dX8_next_211 kp_X8_208 job_140 jrf_140_15 rfl rfl ?_
              refine K_for' (pc := 214) (ndp t n s - s) (fun i => [some (.ref (jxb x + 140)), some (.int (jb (((0 < e ∧ (kd = 1 ∨ kd = 2)) ∧ e = s)))), some (.int (nI e))]) (fun i => (mup (mup (mup (mup m 140 13 (nI s)) 140 12 (nI s)) 140 15 (numV t s (min i 4))) 140 13 (nI (s + i)))) (by rfl) (by exact (mup_id (by rw [mup_j (by decide), mup_j (by decide)]; exact mup_s)).symm) (fun i hi ih214 => ?_) ?_
              ·
                show K x _ _ 214 [some (.ref (jxb x + 140)), some (.int (jb (((0 < e ∧ (kd = 1 ∨ kd = 2)) ∧ e = s)))), some (.int (nI e))] _ ((mup (mup (mup (mup m 140 13 (nI s)) 140 12 (nI s)) 140 15 (numV t s (min i 4))) 140 13 (nI (s + i)))) _
                have hlt := hdr i hi
                refine J_aload_n (pc := 214) dX8_next_214 rfl ?_
                refine J_aload_n (pc := 215) dX8_next_215 rfl ?_
                refine K_getI (pc := 216) dX8_next_216 kf_X8_190 job_140 jrf_140_13 ?_
                refine J_top (b := nI (s + i)) (mup_s) ?_
                refine K_callVp (pc := 219) (id := 140) (As := [_]) dX8_next_219 kl_X8_205 rfl job_140 rfl rfl (Nat.le_of_ble_eq_true rfl) (m_isDigit2 (t := t) (n := n) (i := s + i) (by rw [mup_j (by decide), mup_j (by decide), mup_j (by decide), mup_j (by decide)]; exact hn) h96 (by omega) (fun j hj => by rw [mup_i (by decide), mup_i (by decide), mup_i (by decide), mup_i (by decide)]; exact hb j hj)) ?_
                refine Jb_eq (pc := 222) (tgt := 282) dX8_next_222 (by decide) (fun h222 => absurd h222 (fun z => z hlt)) (fun h222 => ?_)
                refine J_aload_n (pc := 225) dX8_next_225 rfl ?_
                refine J_aload_n (pc := 226) dX8_next_226 rfl ?_
                refine K_getI (pc := 227) dX8_next_227 kf_X8_190 job_140 jrf_140_13 ?_
                refine J_top (b := nI (s + i)) (mup_s) ?_
                refine J_aload_n (pc := 230) dX8_next_230 rfl ?_
                refine K_getI (pc := 231) dX8_next_231 kf_X8_196 job_140 jrf_140_12 ?_
                refine J_top (b := nI s) (by rw [mup_j (by decide), mup_j (by decide)]; exact mup_s) ?_
                refine J_isubv (pc := 234) dX8_next_234 (pk_sub (by omega)) ?_
                refine J_iconst (pc := 235) dX8_next_235 kni_4 ?_
                refine K_merge (jc := 266) (ls' := [some (.ref (jxb x + 140)), some (.int (jb (((0 < e ∧ (kd = 1 ∨ kd = 2)) ∧ e = s)))), some (.int (nI e))]) (st' := [.int ((numV t s (min (i + 1) 4))), .ref (jxb x + 140)]) (m' := (mup (mup (mup (mup m 140 13 (nI s)) 140 12 (nI s)) 140 15 (numV t s (min i 4))) 140 13 (nI (s + i)))) ?_ (fun hj266 => ?_)
                ·
                  refine K_put (pc := 266) dX8_next_266 kp_X8_208 job_140 jrf_140_15 rfl rfl ?_
                  refine J_aload_n (pc := 269) dX8_next_269 rfl ?_
                  refine J_dup (pc := 270) dX8_next_270 rfl ?_
                  refine K_getI (pc := 271) dX8_next_271 kf_X8_190 job_140 jrf_140_13 ?_
                  refine J_top (b := nI (s + i)) ((mup_j (by decide)).trans mup_s) ?_
                  refine J_iconst (pc := 274) dX8_next_274 kni_1 ?_
                  refine J_iaddv (pc := 275) dX8_next_275 (nI_add _ _) ?_
                  refine K_put (pc := 276) dX8_next_276 kp_X8_190 job_140 jrf_140_13 rfl rfl ?_
                  refine J_goto (pc := 279) (tgt := 214) dX8_next_279 (by decide) ?_
                  rw [dg_s]
                  exact ih214
                ·
                  refine Jn_ge (pc := 236) (tgt := 262) dX8_next_236 (by decide) (by omega) (by omega) (fun h236 => ?_) (fun h236 => ?_)
                  · 
                    refine J_aload_n (pc := 262) dX8_next_262 rfl ?_
                    refine K_getI (pc := 263) dX8_next_263 kf_X8_208 job_140 jrf_140_15 ?_
                    refine J_top (b := (numV t s (min i 4))) ((mup_j (by decide)).trans mup_s) ?_
                    have e266 : numV t s (min (i + 1) 4) = numV t s (min i 4) := by rw [show min (i + 1) 4 = min i 4 by omega]
                    rw [e266] at hj266
                    exact hj266
                  · 
                    refine J_bipush (pc := 239) dX8_next_239 knb_10 ?_
                    refine J_aload_n (pc := 241) dX8_next_241 rfl ?_
                    refine K_getI (pc := 242) dX8_next_242 kf_X8_208 job_140 jrf_140_15 ?_
                    refine J_top (b := (numV t s (min i 4))) ((mup_j (by decide)).trans mup_s) ?_
                    refine J_imul (pc := 245) dX8_next_245 ?_
                    refine J_aload_n (pc := 246) dX8_next_246 rfl ?_
                    refine K_getR (pc := 247) dX8_next_247 kf_X8_37 job_140 jrf_140_10 ?_
                    refine J_aload_n (pc := 250) dX8_next_250 rfl ?_
                    refine K_getI (pc := 251) dX8_next_251 kf_X8_190 job_140 jrf_140_13 ?_
                    refine J_top (b := nI (s + i)) (mup_s) ?_
                    refine K_ialdn (pc := 254) (id := 150) dX8_next_254 jar_150 (by omega) (by decide) ?_
                    refine J_top (b := (m 150 (s + i))) (by rw [mup_i (by decide), mup_i (by decide), mup_i (by decide), mup_i (by decide)]) ?_
                    refine J_iadd (pc := 255) dX8_next_255 ?_
                    refine J_bipush (pc := 256) dX8_next_256 knb_48 ?_
                    refine J_isub (pc := 258) dX8_next_258 ?_
                    refine J_goto (pc := 259) (tgt := 266) dX8_next_259 (by decide) ?_
                    have e266 : numV t s (min (i + 1) 4) = nI 10 * numV t s (min i 4) + m 150 (s + i) - nI 48 := by
                      rw [show min (i + 1) 4 = i + 1 by omega, show min i 4 = i by omega, bR_eq (hb (s + i) (by omega)) (dB_0 hlt.2)]
                      show numV t s i * nI 10 + t (s + i) - nI 48 = _
                      rw [Int32.mul_comm]
                    rw [e266] at hj266
                    exact hj266
              ·
                show K x _ _ 214 [some (.ref (jxb x + 140)), some (.int (jb (((0 < e ∧ (kd = 1 ∨ kd = 2)) ∧ e = s)))), some (.int (nI e))] _ ((mup (mup (mup (mup m 140 13 (nI s)) 140 12 (nI s)) 140 15 (numV t s (min ((ndp t n s - s)) 4))) 140 13 (nI (s + ((ndp t n s - s)))))) _
                rw [show s + (ndp t n s - s) = ndp t n s by omega]
                refine J_aload_n (pc := 214) dX8_next_214 rfl ?_
                refine J_aload_n (pc := 215) dX8_next_215 rfl ?_
                refine K_getI (pc := 216) dX8_next_216 kf_X8_190 job_140 jrf_140_13 ?_
                refine J_top (b := nI (ndp t n s)) (mup_s) ?_
                refine K_callVp (pc := 219) (id := 140) (As := [_]) dX8_next_219 kl_X8_205 rfl job_140 rfl rfl (Nat.le_of_ble_eq_true rfl) (m_isDigit2 (t := t) (n := n) (i := ndp t n s) (by rw [mup_j (by decide), mup_j (by decide), mup_j (by decide), mup_j (by decide)]; exact hn) h96 (by omega) (fun j hj => by rw [mup_i (by decide), mup_i (by decide), mup_i (by decide), mup_i (by decide)]; exact hb j hj)) ?_
                refine Jb_eq (pc := 222) (tgt := 282) dX8_next_222 (by decide) (fun h222 => ?_) (fun h222 => absurd h222 (hde2))
                refine J_aload_n (pc := 282) dX8_next_282 rfl ?_
                refine J_iload_n (pc := 283) dX8_next_283 rfl ?_
                refine Jb_ne (pc := 284) (tgt := 300) dX8_next_284 (by decide) (fun h284 => ?_) (fun h284 => ?_)
                · 
                  refine J_iconst (pc := 300) dX8_next_300 kni_4 ?_
                  refine J_goto (pc := 301) (tgt := 305) dX8_next_301 (by decide) ?_
                  refine K_put (pc := 305) dX8_next_305 kp_X8_193 job_140 jrf_140_14 rfl rfl ?_
                  refine J_goto (pc := 308) (tgt := 339) dX8_next_308 (by decide) ?_
                  refine K_vret (pc := 339) dX8_next_339 rfl ⟨rfl, ?_⟩
                  have hk : kdT t n s (ndp t n s) = 4 := by unfold kdT; rw [if_pos h206.1, if_neg (fun z => h125 ⟨h206.1, z⟩), if_pos h206.2]; exact if_pos (Or.inl ((hglu (wB_iff.mpr (Or.inr h206.2))).mp h284))
                  refine ⟨fun i hi => by rw [mup_i' hi, mup_i' hi, mup_i' hi, mup_i' hi, mup_i' hi], fun j hj => by rw [mup_j (by omega), mup_j (by omega), mup_j (by omega), mup_j (by omega), mup_j (by omega)], by rw [mup_j (by decide), mup_j (by decide), mup_j (by decide)]; exact mup_s, by rw [mup_j (by decide)]; exact mup_s, by rw [hk]; exact mup_s, fun z => ?_, fun z => ?_, fun z => ?_⟩
                  · rw [hk] at z; exact absurd z (by decide)
                  · rw [hk] at z; exact absurd z (by decide)
                  · rw [hk] at z; exact absurd z (by decide)
                · 
                  refine J_aload_n (pc := 287) dX8_next_287 rfl ?_
                  refine K_getI (pc := 288) dX8_next_288 kf_X8_190 job_140 jrf_140_13 ?_
                  refine J_top (b := nI (ndp t n s)) (mup_s) ?_
                  refine J_aload_n (pc := 291) dX8_next_291 rfl ?_
                  refine K_getI (pc := 292) dX8_next_292 kf_X8_196 job_140 jrf_140_12 ?_
                  refine J_top (b := nI s) (by rw [mup_j (by decide), mup_j (by decide)]; exact mup_s) ?_
                  refine J_isubv (pc := 295) dX8_next_295 (pk_sub (by omega)) ?_
                  refine J_iconst (pc := 296) dX8_next_296 kni_4 ?_
                  refine Jn_le (pc := 297) (tgt := 304) dX8_next_297 (by decide) (by omega) (by omega) (fun h297 => ?_) (fun h297 => ?_)
                  · 
                    refine J_iconst (pc := 304) dX8_next_304 kni_2 ?_
                    refine K_put (pc := 305) dX8_next_305 kp_X8_193 job_140 jrf_140_14 rfl rfl ?_
                    refine J_goto (pc := 308) (tgt := 339) dX8_next_308 (by decide) ?_
                    refine K_vret (pc := 339) dX8_next_339 rfl ⟨rfl, ?_⟩
                    have hk : kdT t n s (ndp t n s) = 2 := by unfold kdT; rw [if_pos h206.1, if_neg (fun z => h125 ⟨h206.1, z⟩), if_pos h206.2]; exact if_neg (fun z => z.elim (fun y => h284 ((hglu (wB_iff.mpr (Or.inr h206.2))).mpr y)) (fun y => by omega))
                    refine ⟨fun i hi => by rw [mup_i' hi, mup_i' hi, mup_i' hi, mup_i' hi, mup_i' hi], fun j hj => by rw [mup_j (by omega), mup_j (by omega), mup_j (by omega), mup_j (by omega), mup_j (by omega)], by rw [mup_j (by decide), mup_j (by decide), mup_j (by decide)]; exact mup_s, by rw [mup_j (by decide)]; exact mup_s, by rw [hk]; exact mup_s, fun z => ?_, fun z => ?_, fun z => ?_⟩
                    · rw [mup_j (by decide), mup_j (by decide), mup_s, show min (ndp t n s - s) 4 = ndp t n s - s by omega]
                    · rw [hk] at z; exact absurd z (by decide)
                    · rw [hk] at z; exact absurd z (by decide)
                  · 
                    refine J_iconst (pc := 300) dX8_next_300 kni_4 ?_
                    refine J_goto (pc := 301) (tgt := 305) dX8_next_301 (by decide) ?_
                    refine K_put (pc := 305) dX8_next_305 kp_X8_193 job_140 jrf_140_14 rfl rfl ?_
                    refine J_goto (pc := 308) (tgt := 339) dX8_next_308 (by decide) ?_
                    refine K_vret (pc := 339) dX8_next_339 rfl ⟨rfl, ?_⟩
                    have hk : kdT t n s (ndp t n s) = 4 := by unfold kdT; rw [if_pos h206.1, if_neg (fun z => h125 ⟨h206.1, z⟩), if_pos h206.2]; exact if_pos (Or.inr h297)
                    refine ⟨fun i hi => by rw [mup_i' hi, mup_i' hi, mup_i' hi, mup_i' hi, mup_i' hi], fun j hj => by rw [mup_j (by omega), mup_j (by omega), mup_j (by omega), mup_j (by omega), mup_j (by omega)], by rw [mup_j (by decide), mup_j (by decide), mup_j (by decide)]; exact mup_s, by rw [mup_j (by decide)]; exact mup_s, by rw [hk]; exact mup_s, fun z => ?_, fun z => ?_, fun z => ?_⟩
                    · rw [hk] at z; exact absurd z (by decide)
                    · rw [hk] at z; exact absurd z (by decide)
                    · rw [hk] at z; exact absurd z (by decide)
          · 
            have hsn := h125.1
            have hglu := hglu0 hsn
            have hlr := hlr h125
            have hle2 := hle2 h125
            refine K_for' (pc := 128) (ndp t n s - s) (fun i => [some (.ref (jxb x + 140)), some (.int (jb (((0 < e ∧ (kd = 1 ∨ kd = 2)) ∧ e = s)))), some (.int (nI e))]) (fun i => (mup (mup (mup m 140 13 (nI s)) 140 12 (nI s)) 140 13 (nI (s + i)))) (by rfl) (by exact (mup_id ((mup_j (by decide)).trans mup_s)).symm) (fun i hi ih128 => ?_) ?_
            ·
              show K x _ _ 128 [some (.ref (jxb x + 140)), some (.int (jb (((0 < e ∧ (kd = 1 ∨ kd = 2)) ∧ e = s)))), some (.int (nI e))] _ ((mup (mup (mup m 140 13 (nI s)) 140 12 (nI s)) 140 13 (nI (s + i)))) _
              have hlt := hlr i hi
              refine J_aload_n (pc := 128) dX8_next_128 rfl ?_
              refine J_aload_n (pc := 129) dX8_next_129 rfl ?_
              refine K_getI (pc := 130) dX8_next_130 kf_X8_190 job_140 jrf_140_13 ?_
              refine J_top (b := nI (s + i)) (mup_s) ?_
              refine K_callVp (pc := 133) (id := 140) (As := [_]) dX8_next_133 kl_X8_199 rfl job_140 rfl rfl (Nat.le_of_ble_eq_true rfl) (m_isLetter2 (t := t) (n := n) (i := s + i) ((mup_j (by decide)).trans ((mup_j (by decide)).trans ((mup_j (by decide)).trans hn))) h96 (by omega) (fun j hj => by rw [mup_i (by decide), mup_i (by decide), mup_i (by decide)]; exact hb j hj)) ?_
              refine Jb_eq (pc := 136) (tgt := 152) dX8_next_136 (by decide) (fun h136 => absurd h136 (fun z => z hlt)) (fun h136 => ?_)
              refine J_aload_n (pc := 139) dX8_next_139 rfl ?_
              refine J_dup (pc := 140) dX8_next_140 rfl ?_
              refine K_getI (pc := 141) dX8_next_141 kf_X8_190 job_140 jrf_140_13 ?_
              refine J_top (b := nI (s + i)) (mup_s) ?_
              refine J_iconst (pc := 144) dX8_next_144 kni_1 ?_
              refine J_iaddv (pc := 145) dX8_next_145 (nI_add _ _) ?_
              refine K_put (pc := 146) dX8_next_146 kp_X8_190 job_140 jrf_140_13 rfl rfl ?_
              refine J_goto (pc := 149) (tgt := 128) dX8_next_149 (by decide) ?_
              rw [mup_mm]
              exact ih128
            ·
              show K x _ _ 128 [some (.ref (jxb x + 140)), some (.int (jb (((0 < e ∧ (kd = 1 ∨ kd = 2)) ∧ e = s)))), some (.int (nI e))] _ ((mup (mup (mup m 140 13 (nI s)) 140 12 (nI s)) 140 13 (nI (s + ((ndp t n s - s)))))) _
              rw [show s + (ndp t n s - s) = ndp t n s by omega]
              refine J_aload_n (pc := 128) dX8_next_128 rfl ?_
              refine J_aload_n (pc := 129) dX8_next_129 rfl ?_
              refine K_getI (pc := 130) dX8_next_130 kf_X8_190 job_140 jrf_140_13 ?_
              refine J_top (b := nI (ndp t n s)) (mup_s) ?_
              refine K_callVp (pc := 133) (id := 140) (As := [_]) dX8_next_133 kl_X8_199 rfl job_140 rfl rfl (Nat.le_of_ble_eq_true rfl) (m_isLetter2 (t := t) (n := n) (i := ndp t n s) ((mup_j (by decide)).trans ((mup_j (by decide)).trans ((mup_j (by decide)).trans hn))) h96 (by omega) (fun j hj => by rw [mup_i (by decide), mup_i (by decide), mup_i (by decide)]; exact hb j hj)) ?_
              refine Jb_eq (pc := 136) (tgt := 152) dX8_next_136 (by decide) (fun h136 => ?_) (fun h136 => absurd h136 (hle2))
              refine J_aload_n (pc := 152) dX8_next_152 rfl ?_
              refine J_iload_n (pc := 153) dX8_next_153 rfl ?_
              refine Jb_eq (pc := 154) (tgt := 161) dX8_next_154 (by decide) (fun h154 => ?_) (fun h154 => ?_)
              · 
                refine J_iconst (pc := 161) dX8_next_161 kni_1 ?_
                refine K_put (pc := 162) dX8_next_162 kp_X8_193 job_140 jrf_140_14 rfl rfl ?_
                refine J_aload_n (pc := 165) dX8_next_165 rfl ?_
                refine J_aload_n (pc := 166) dX8_next_166 rfl ?_
                refine K_getI (pc := 167) dX8_next_167 kf_X8_190 job_140 jrf_140_13 ?_
                refine J_top (b := nI (ndp t n s)) ((mup_j (by decide)).trans mup_s) ?_
                refine J_aload_n (pc := 170) dX8_next_170 rfl ?_
                refine K_getI (pc := 171) dX8_next_171 kf_X8_196 job_140 jrf_140_12 ?_
                refine J_top (b := nI s) ((mup_j (by decide)).trans ((mup_j (by decide)).trans mup_s)) ?_
                refine J_isubv (pc := 174) dX8_next_174 (pk_sub (by omega)) ?_
                refine J_iconst (pc := 175) dX8_next_175 kni_1 ?_
                refine Jn_ne (pc := 176) (tgt := 191) dX8_next_176 (by decide) (by omega) (by omega) (fun h176 => ?_) (fun h176 => ?_)
                · 
                  refine J_iconst (pc := 191) dX8_next_191 kni_0 ?_
                  refine K_put (pc := 192) dX8_next_192 kp_X8_202 job_140 jrf_140_16 rfl rfl ?_
                  refine J_goto (pc := 195) (tgt := 339) dX8_next_195 (by decide) ?_
                  refine K_vret (pc := 339) dX8_next_339 rfl ⟨rfl, ?_⟩
                  have hk : kdT t n s (ndp t n s) = 1 := by unfold kdT; rw [if_pos h125.1, if_pos h125.2]; exact if_neg (fun z => h154 ((hglu (wB_iff.mpr (Or.inl h125.2))).mpr z))
                  refine ⟨fun i hi => by rw [mup_i' hi, mup_i' hi, mup_i' hi, mup_i' hi, mup_i' hi], fun j hj => by rw [mup_j (by omega), mup_j (by omega), mup_j (by omega), mup_j (by omega), mup_j (by omega)], by rw [mup_j (by decide), mup_j (by decide), mup_j (by decide)]; exact mup_s, by rw [mup_j (by decide), mup_j (by decide)]; exact mup_s, by rw [hk, mup_j (by decide)]; exact mup_s, fun z => ?_, fun z => ?_, fun z => ?_⟩
                  · rw [hk] at z; exact absurd z (by decide)
                  · rw [mup_s]; exact (if_neg h176).symm
                  · rw [hk] at z; exact absurd z (by decide)
                · 
                  refine J_aload_n (pc := 179) dX8_next_179 rfl ?_
                  refine K_getR (pc := 180) dX8_next_180 kf_X8_37 job_140 jrf_140_10 ?_
                  refine J_aload_n (pc := 183) dX8_next_183 rfl ?_
                  refine K_getI (pc := 184) dX8_next_184 kf_X8_196 job_140 jrf_140_12 ?_
                  refine J_top (b := nI s) ((mup_j (by decide)).trans ((mup_j (by decide)).trans mup_s)) ?_
                  refine K_ialdn (pc := 187) (id := 150) dX8_next_187 jar_150 (by omega) (by decide) ?_
                  refine J_top (b := (m 150 s)) ((mup_i (by decide)).trans ((mup_i (by decide)).trans ((mup_i (by decide)).trans (mup_i (by decide))))) ?_
                  refine J_goto (pc := 188) (tgt := 192) dX8_next_188 (by decide) ?_
                  refine K_put (pc := 192) dX8_next_192 kp_X8_202 job_140 jrf_140_16 rfl rfl ?_
                  refine J_goto (pc := 195) (tgt := 339) dX8_next_195 (by decide) ?_
                  refine K_vret (pc := 339) dX8_next_339 rfl ⟨rfl, ?_⟩
                  have hk : kdT t n s (ndp t n s) = 1 := by unfold kdT; rw [if_pos h125.1, if_pos h125.2]; exact if_neg (fun z => h154 ((hglu (wB_iff.mpr (Or.inl h125.2))).mpr z))
                  refine ⟨fun i hi => by rw [mup_i' hi, mup_i' hi, mup_i' hi, mup_i' hi, mup_i' hi], fun j hj => by rw [mup_j (by omega), mup_j (by omega), mup_j (by omega), mup_j (by omega), mup_j (by omega)], by rw [mup_j (by decide), mup_j (by decide), mup_j (by decide)]; exact mup_s, by rw [mup_j (by decide), mup_j (by decide)]; exact mup_s, by rw [hk, mup_j (by decide)]; exact mup_s, fun z => ?_, fun z => ?_, fun z => ?_⟩
                  · rw [hk] at z; exact absurd z (by decide)
                  · rw [mup_s, if_pos h176]; exact bR_eq (hb s h125.1) (lB_0 h125.2)
                  · rw [hk] at z; exact absurd z (by decide)
              · 
                refine J_iconst (pc := 157) dX8_next_157 kni_4 ?_
                refine J_goto (pc := 158) (tgt := 162) dX8_next_158 (by decide) ?_
                refine K_put (pc := 162) dX8_next_162 kp_X8_193 job_140 jrf_140_14 rfl rfl ?_
                refine J_aload_n (pc := 165) dX8_next_165 rfl ?_
                refine J_aload_n (pc := 166) dX8_next_166 rfl ?_
                refine K_getI (pc := 167) dX8_next_167 kf_X8_190 job_140 jrf_140_13 ?_
                refine J_top (b := nI (ndp t n s)) ((mup_j (by decide)).trans mup_s) ?_
                refine J_aload_n (pc := 170) dX8_next_170 rfl ?_
                refine K_getI (pc := 171) dX8_next_171 kf_X8_196 job_140 jrf_140_12 ?_
                refine J_top (b := nI s) ((mup_j (by decide)).trans ((mup_j (by decide)).trans mup_s)) ?_
                refine J_isubv (pc := 174) dX8_next_174 (pk_sub (by omega)) ?_
                refine J_iconst (pc := 175) dX8_next_175 kni_1 ?_
                refine Jn_ne (pc := 176) (tgt := 191) dX8_next_176 (by decide) (by omega) (by omega) (fun h176 => ?_) (fun h176 => ?_)
                · 
                  refine J_iconst (pc := 191) dX8_next_191 kni_0 ?_
                  refine K_put (pc := 192) dX8_next_192 kp_X8_202 job_140 jrf_140_16 rfl rfl ?_
                  refine J_goto (pc := 195) (tgt := 339) dX8_next_195 (by decide) ?_
                  refine K_vret (pc := 339) dX8_next_339 rfl ⟨rfl, ?_⟩
                  have hk : kdT t n s (ndp t n s) = 4 := by unfold kdT; rw [if_pos h125.1, if_pos h125.2]; exact if_pos (hglu (wB_iff.mpr (Or.inl h125.2)) |>.mp h154)
                  refine ⟨fun i hi => by rw [mup_i' hi, mup_i' hi, mup_i' hi, mup_i' hi, mup_i' hi], fun j hj => by rw [mup_j (by omega), mup_j (by omega), mup_j (by omega), mup_j (by omega), mup_j (by omega)], by rw [mup_j (by decide), mup_j (by decide), mup_j (by decide)]; exact mup_s, by rw [mup_j (by decide), mup_j (by decide)]; exact mup_s, by rw [hk, mup_j (by decide)]; exact mup_s, fun z => ?_, fun z => ?_, fun z => ?_⟩
                  · rw [hk] at z; exact absurd z (by decide)
                  · rw [hk] at z; exact absurd z (by decide)
                  · rw [hk] at z; exact absurd z (by decide)
                · 
                  refine J_aload_n (pc := 179) dX8_next_179 rfl ?_
                  refine K_getR (pc := 180) dX8_next_180 kf_X8_37 job_140 jrf_140_10 ?_
                  refine J_aload_n (pc := 183) dX8_next_183 rfl ?_
                  refine K_getI (pc := 184) dX8_next_184 kf_X8_196 job_140 jrf_140_12 ?_
                  refine J_top (b := nI s) ((mup_j (by decide)).trans ((mup_j (by decide)).trans mup_s)) ?_
                  refine K_ialdn (pc := 187) (id := 150) dX8_next_187 jar_150 (by omega) (by decide) ?_
                  refine J_top (b := (m 150 s)) ((mup_i (by decide)).trans ((mup_i (by decide)).trans ((mup_i (by decide)).trans (mup_i (by decide))))) ?_
                  refine J_goto (pc := 188) (tgt := 192) dX8_next_188 (by decide) ?_
                  refine K_put (pc := 192) dX8_next_192 kp_X8_202 job_140 jrf_140_16 rfl rfl ?_
                  refine J_goto (pc := 195) (tgt := 339) dX8_next_195 (by decide) ?_
                  refine K_vret (pc := 339) dX8_next_339 rfl ⟨rfl, ?_⟩
                  have hk : kdT t n s (ndp t n s) = 4 := by unfold kdT; rw [if_pos h125.1, if_pos h125.2]; exact if_pos (hglu (wB_iff.mpr (Or.inl h125.2)) |>.mp h154)
                  refine ⟨fun i hi => by rw [mup_i' hi, mup_i' hi, mup_i' hi, mup_i' hi, mup_i' hi], fun j hj => by rw [mup_j (by omega), mup_j (by omega), mup_j (by omega), mup_j (by omega), mup_j (by omega)], by rw [mup_j (by decide), mup_j (by decide), mup_j (by decide)]; exact mup_s, by rw [mup_j (by decide), mup_j (by decide)]; exact mup_s, by rw [hk, mup_j (by decide)]; exact mup_s, fun z => ?_, fun z => ?_, fun z => ?_⟩
                  · rw [hk] at z; exact absurd z (by decide)
                  · rw [hk] at z; exact absurd z (by decide)
                  · rw [hk] at z; exact absurd z (by decide)
        · 
          refine J_aload_n (pc := 109) dX8_next_109 rfl ?_
          refine J_iconst (pc := 110) dX8_next_110 kni_0 ?_
          refine K_put (pc := 111) dX8_next_111 kp_X8_193 job_140 jrf_140_14 rfl rfl ?_
          refine J_goto (pc := 114) (tgt := 339) dX8_next_114 (by decide) ?_
          refine K_vret (pc := 339) dX8_next_339 rfl ⟨rfl, ?_⟩
          have hs : ¬ s < n := by omega
          have hE : ndp t n s = n := if_neg hs
          have hk : kdT t n s (ndp t n s) = 0 := if_neg hs
          refine ⟨fun i hi => by rw [mup_i' hi, mup_i' hi, mup_i' hi], fun j hj => by rw [mup_j (by omega), mup_j (by omega), mup_j (by omega)], by rw [mup_j (by decide)]; exact mup_s, by rw [mup_j (by decide), mup_j (by decide), hE, ← h106]; exact mup_s, by rw [hk]; exact mup_s, fun z => ?_, fun z => ?_, fun z => ?_⟩ <;> (rw [hk] at z; exact absurd z (by decide))
      ·
        refine Jb_eq (pc := 73) (tgt := 88) dX8_next_73 (by decide) (fun h73 => ?_) (fun h73 => ?_)
        · 
          refine J_iconst (pc := 88) dX8_next_88 kni_0 ?_
          have e89 : jb (((0 < e ∧ (kd = 1 ∨ kd = 2)) ∧ e = s)) = nI 0 := if_neg (fun z => h73 z.1)
          rw [e89] at hj89
          exact hj89
        · 
          refine J_iload_n (pc := 76) dX8_next_76 rfl ?_
          refine J_aload_n (pc := 77) dX8_next_77 rfl ?_
          refine K_getI (pc := 78) dX8_next_78 kf_X8_190 job_140 jrf_140_13 ?_
          refine J_top (b := nI s) (mup_s) ?_
          refine Jn_ne (pc := 81) (tgt := 88) dX8_next_81 (by decide) (by omega) (by omega) (fun h81 => ?_) (fun h81 => ?_)
          · 
            refine J_iconst (pc := 88) dX8_next_88 kni_0 ?_
            have e89 : jb (((0 < e ∧ (kd = 1 ∨ kd = 2)) ∧ e = s)) = nI 0 := if_neg (fun z => h81 z.2)
            rw [e89] at hj89
            exact hj89
          · 
            refine J_iconst (pc := 84) dX8_next_84 kni_1 ?_
            refine J_goto (pc := 85) (tgt := 89) dX8_next_85 (by decide) ?_
            have e89 : jb (((0 < e ∧ (kd = 1 ∨ kd = 2)) ∧ e = s)) = nI 1 := if_pos ⟨h73, h81⟩
            rw [e89] at hj89
            exact hj89
    ·
      refine K_for' (pc := 34) (s - e) (fun i => [some (.ref (jxb x + 140)), some (.int (jb (0 < e ∧ (kd = 1 ∨ kd = 2)))), some (.int (nI e))]) (fun i => (mup m 140 13 (nI (e + i)))) (by rfl) (by exact (mup_id he).symm) (fun i hi ih34 => ?_) ?_
      ·
        show K x _ _ 34 [some (.ref (jxb x + 140)), some (.int (jb (0 < e ∧ (kd = 1 ∨ kd = 2)))), some (.int (nI e))] _ ((mup m 140 13 (nI (e + i)))) _
        have hbl := skp_in (t := t) (n := n) (e := e) (j := e + i) (by omega) (by omega)
        have hb2 := (bR_c (hb (e + i) (by omega)) (c := 32) (by decide)).mpr hbl
        refine J_aload_n (pc := 34) dX8_next_34 rfl ?_
        refine K_getI (pc := 35) dX8_next_35 kf_X8_190 job_140 jrf_140_13 ?_
        refine J_top (b := nI (e + i)) (mup_s) ?_
        refine J_aload_n (pc := 38) dX8_next_38 rfl ?_
        refine K_getI (pc := 39) dX8_next_39 kf_X8_180 job_140 jrf_140_11 ?_
        refine J_top (b := nI n) ((mup_j (by decide)).trans hn) ?_
        refine Jn_ge (pc := 42) (tgt := 72) dX8_next_42 (by decide) (by omega) (by omega) (fun h42 => absurd h42 (by omega)) (fun h42 => ?_)
        refine J_aload_n (pc := 45) dX8_next_45 rfl ?_
        refine K_getR (pc := 46) dX8_next_46 kf_X8_37 job_140 jrf_140_10 ?_
        refine J_aload_n (pc := 49) dX8_next_49 rfl ?_
        refine K_getI (pc := 50) dX8_next_50 kf_X8_190 job_140 jrf_140_13 ?_
        refine J_top (b := nI (e + i)) (mup_s) ?_
        refine K_ialdn (pc := 53) (id := 150) dX8_next_53 jar_150 (by omega) (by decide) ?_
        refine J_bipush (pc := 54) dX8_next_54 knb_32 ?_
        refine J_icmp_ne (pc := 56) (tgt := 72) dX8_next_56 (by decide) (fun h56 => absurd h56 (fun z => z hb2)) (fun h56 => ?_)
        refine J_aload_n (pc := 59) dX8_next_59 rfl ?_
        refine J_dup (pc := 60) dX8_next_60 rfl ?_
        refine K_getI (pc := 61) dX8_next_61 kf_X8_190 job_140 jrf_140_13 ?_
        refine J_top (b := nI (e + i)) (mup_s) ?_
        refine J_iconst (pc := 64) dX8_next_64 kni_1 ?_
        refine J_iaddv (pc := 65) dX8_next_65 (nI_add _ _) ?_
        refine K_put (pc := 66) dX8_next_66 kp_X8_190 job_140 jrf_140_13 rfl rfl ?_
        refine J_goto (pc := 69) (tgt := 34) dX8_next_69 (by decide) ?_
        rw [mup_mm]
        exact ih34
      ·
        show K x _ _ 34 [some (.ref (jxb x + 140)), some (.int (jb (0 < e ∧ (kd = 1 ∨ kd = 2)))), some (.int (nI e))] _ ((mup m 140 13 (nI (e + ((s - e)))))) _
        rw [show e + (s - e) = s by omega]
        refine J_aload_n (pc := 34) dX8_next_34 rfl ?_
        refine K_getI (pc := 35) dX8_next_35 kf_X8_190 job_140 jrf_140_13 ?_
        refine J_top (b := nI s) (mup_s) ?_
        refine J_aload_n (pc := 38) dX8_next_38 rfl ?_
        refine K_getI (pc := 39) dX8_next_39 kf_X8_180 job_140 jrf_140_11 ?_
        refine J_top (b := nI n) ((mup_j (by decide)).trans hn) ?_
        refine Jn_ge (pc := 42) (tgt := 72) dX8_next_42 (by decide) (by omega) (by omega) (fun h42 => ?_) (fun h42 => ?_)
        · 
          exact hj72
        · 
          refine J_aload_n (pc := 45) dX8_next_45 rfl ?_
          refine K_getR (pc := 46) dX8_next_46 kf_X8_37 job_140 jrf_140_10 ?_
          refine J_aload_n (pc := 49) dX8_next_49 rfl ?_
          refine K_getI (pc := 50) dX8_next_50 kf_X8_190 job_140 jrf_140_13 ?_
          refine J_top (b := nI s) (mup_s) ?_
          refine K_ialdn (pc := 53) (id := 150) dX8_next_53 jar_150 (by omega) (by decide) ?_
          refine J_bipush (pc := 54) dX8_next_54 knb_32 ?_
          refine J_icmp_ne (pc := 56) (tgt := 72) dX8_next_56 (by decide) (fun h56 => ?_) (fun h56 => absurd h56 (fun z => hske (by omega) ((bR_c (hb s (by omega)) (by decide)).mp z)))
          exact hj72
  ·
    refine Jn_if_le (pc := 4) (tgt := 27) dX8_next_4 (by decide) (by omega) (fun h4 => ?_) (fun h4 => ?_)
    · 
      refine J_iconst (pc := 27) dX8_next_27 kni_0 ?_
      have e28 : jb (0 < e ∧ (kd = 1 ∨ kd = 2)) = nI 0 := if_neg (fun z => by omega)
      rw [e28] at hj28
      exact hj28
    · 
      refine J_aload_n (pc := 7) dX8_next_7 rfl ?_
      refine K_getI (pc := 8) dX8_next_8 kf_X8_193 job_140 jrf_140_14 ?_
      refine J_top (b := nI kd) (hk) ?_
      refine J_iconst (pc := 11) dX8_next_11 kni_1 ?_
      refine Jn_eq (pc := 12) (tgt := 23) dX8_next_12 (by decide) (by omega) (by omega) (fun h12 => ?_) (fun h12 => ?_)
      · 
        refine J_iconst (pc := 23) dX8_next_23 kni_1 ?_
        refine J_goto (pc := 24) (tgt := 28) dX8_next_24 (by decide) ?_
        have e28 : jb (0 < e ∧ (kd = 1 ∨ kd = 2)) = nI 1 := if_pos (by omega)
        rw [e28] at hj28
        exact hj28
      · 
        refine J_aload_n (pc := 15) dX8_next_15 rfl ?_
        refine K_getI (pc := 16) dX8_next_16 kf_X8_193 job_140 jrf_140_14 ?_
        refine J_top (b := nI kd) (hk) ?_
        refine J_iconst (pc := 19) dX8_next_19 kni_2 ?_
        refine Jn_ne (pc := 20) (tgt := 27) dX8_next_20 (by decide) (by omega) (by omega) (fun h20 => ?_) (fun h20 => ?_)
        · 
          refine J_iconst (pc := 27) dX8_next_27 kni_0 ?_
          have e28 : jb (0 < e ∧ (kd = 1 ∨ kd = 2)) = nI 0 := if_neg (fun z => by omega)
          rw [e28] at hj28
          exact hj28
        · 
          refine J_iconst (pc := 23) dX8_next_23 kni_1 ?_
          refine J_goto (pc := 24) (tgt := 28) dX8_next_24 (by decide) ?_
          have e28 : jb (0 < e ∧ (kd = 1 ∨ kd = 2)) = nI 1 := if_pos (by omega)
          rw [e28] at hj28
          exact hj28
