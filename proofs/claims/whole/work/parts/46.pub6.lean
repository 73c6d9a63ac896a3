/-- two memories that differ in some cells alone -/
def agr (a b : jm) : Prop := ∀ k, k ≠ 102 → k ≠ 123 → a k = b k
theorem agr_mup {a b : jm} (h : agr a b) {id k : Nat} {v w : Int32} (hv : v = w) : agr (mup a id k v) (mup b id k w) := fun i h1 h2 => by
  funext j
  subst hv
  unfold mup
  rw [h i h1 h2]
theorem agr_cpy {a b : jm} (h : agr a b) {s d p q n : Nat} (h1 : s ≠ 102) (h2 : s ≠ 123) : agr (mcpy a s d p q n) (mcpy b s d p q n) := fun i h3 h4 => by
  funext j
  unfold mcpy
  rw [h i h3 h4, h s h1 h2]
  try (by_cases e : i = d
       · subst e
         rw [h i h3 h4]
       · rw [if_neg e, if_neg e])
theorem agr_mv {a b : jm} (h : agr a b) {id k i j : Nat} (h1 : i ≠ 102) (h2 : i ≠ 123) : agr (mup a id k (a i j)) (mup b id k (b i j)) := agr_mup h (congrFun (h i h1 h2) j)
theorem agr_bec {a b : jm} (h : agr a b) : agr (becM a 103 1) (becM b 103 1) := by
  unfold becM
  exact agr_mv (agr_mv (agr_mv (agr_mv (agr_cpy (agr_cpy (agr_cpy (agr_cpy (agr_cpy (agr_cpy (agr_cpy (agr_cpy (agr_cpy (agr_cpy (agr_cpy (agr_cpy (agr_mv h (by decide) (by decide)) (by decide) (by decide)) (by decide) (by decide)) (by decide) (by decide)) (by decide) (by decide)) (by decide) (by decide)) (by decide) (by decide)) (by decide) (by decide)) (by decide) (by decide)) (by decide) (by decide)) (by decide) (by decide)) (by decide) (by decide)) (by decide) (by decide)) (by decide) (by decide)) (by decide) (by decide)) (by decide) (by decide)) (by decide) (by decide)
theorem agr_beg {a b : jm} (h : agr a b) {g : Nat} (hg : g < 4) : agr (begB a g) (begB b g) := fun k h1 h2 => by
  funext j
  have e := congrFun (agr_bec h k h1 h2) j
  unfold begB mfill
  by_cases c : k = 117 ∧ j < 48
  · rw [if_pos c, if_pos c]
    exact shadeS_c (h 41 (by decide) (by decide)) (h 42 (by decide) (by decide)) (fun l hl => h _ (by omega) (by omega)) hg c.2
  · rw [if_neg c, if_neg c]; exact e
theorem shade_in (m : jm) (g p : Nat) : vp_in (shadeS m g p) 100 := by
  have e : vp_in (nI 50) 100 := vp_in_nI (by decide) (by decide)
  unfold shadeS
  by_cases c : m 41 (6 * g + p / 8) = -1
  · rw [if_pos c]; exact e
  · rw [if_neg c]
    by_cases c2 : m 42 (6 * g + p / 8) ≤ nI (p % 8)
    · rw [if_pos c2]; exact e
    · rw [if_neg c2]; exact held_in
/-- the memory that a search starts from -/
def srB (mb B0 : jm) : jm := fun k j => if k = 102 ∨ k = 124 then mb k j else B0 k j
theorem srB_1 {mb B0 : jm} {k : Nat} (h : k = 102 ∨ k = 124) : srB mb B0 k = mb k := funext fun j => if_pos h
theorem srB_0 {mb B0 : jm} {k : Nat} (h : k ≠ 102) (h2 : k ≠ 124) : srB mb B0 k = B0 k := funext fun j => if_neg (by omega)
def bgP (m mc mb : jm) (g G P : Nat) : Prop := skI (begB mc g) mb G ∧ (∀ k, k ≠ 102 → k ≠ 109 → k ≠ 114 → k ≠ 124 → mb k = begB mc g k) ∧ idleI (begB mc g) mb G P ∧ mb 102 6 = nI 4800 ∧ mb 102 7 = nI 0 ∧ chosenG mb G
theorem aimG_c {a b : jm} (h : ∀ k, 103 ≤ k → k ≤ 115 → a k = b k) (p v : Nat) : aimG a p v = aimG b p v := by
  unfold aimG
  rw [h 104 (by decide) (by decide), h 107 (by decide) (by decide), h 109 (by decide) (by decide), h 113 (by decide) (by decide), h 108 (by decide) (by decide)]
theorem grpS_c {a b : jm} (h : ∀ k, 103 ≤ k → k ≤ 115 → a k = b k) (p : Nat) : grpS a p = grpS b p := by
  unfold grpS
  rw [h 112 (by decide) (by decide), h 108 (by decide) (by decide)]
theorem srch_B {m mc mb : jm} {g G P : Nat} (hmc : agr mc m) (hg : g < 4) (hb : bgP m mc mb g G P) (hw : wfPt m 1) (hat : wfAtP m 1 P) (hP : m 1 0 = nI P) (h48 : P ≤ 48) (hok : okG G) :
    chosenG (srB mb (begB mc g)) G ∧ wfPt (srB mb (begB mc g)) 103 ∧ wfAtP (srB mb (begB mc g)) 103 P ∧ srB mb (begB mc g) 103 0 = nI P ∧ idleI (srB mb (begB mc g)) (srB mb (begB mc g)) G P ∧ skI (srB mb (begB mc g)) mb G ∧ sFr (srB mb (begB mc g)) mb ∧
    ∀ r q, q < 48 → rowL (srB mb (begB mc g)) G P r q = rowL (begB m g) G P r q := by
  obtain ⟨b1, b2, b3, b4, b5, b6⟩ := hb
  have hc : ∀ k, 103 ≤ k → k ≤ 115 → srB mb (begB mc g) k = begB mc g k := fun k h1 h2 => srB_0 (by omega) (by omega)
  have hd : ∀ k, 103 ≤ k → k ≤ 115 → begB mc g k = begB m g k := fun k h1 h2 => agr_beg hmc hg k (by omega) (by omega)
  have hwm : wfPt (begB m g) 103 := wfPt_x (o := 103) (o2 := 1) (fun j hj => begB_sk (k := 5) (by decide) hj) (fun j hj => begB_sk (k := 9) (by decide) hj) hw
  have hatm : wfAtP (begB m g) 103 P := fun q hq => by rw [show begB m g (103 + 7) q = m 8 q from begB_sk (k := 7) (by decide) hq]; exact hat q hq
  have hsB : skI (begB m g) (srB mb (begB mc g)) G := skI_124 (skI_rf (begB m g) G) (fun k h1 h2 => (hc k h1 h2).trans (hd k h1 h2))
  refine ⟨⟨by rw [srB_1 (Or.inl rfl)]; exact b6.1, fun i hi => ?_⟩, wfPt_c ((hc _ (by decide) (by decide)).trans (hd _ (by decide) (by decide))) ((hc _ (by decide) (by decide)).trans (hd _ (by decide) (by decide))) hwm,
    fun q hq => by rw [(hc (103 + 7) (by decide) (by decide)).trans (hd _ (by decide) (by decide))]; exact hatm q hq, ?_, ⟨fun i hi => by rw [srB_1 (Or.inr rfl)]; exact b3.1 i hi, fun i hi v hv hne => ?_⟩, ?_, ⟨fun k hk => ?_, fun j _ _ => by rw [srB_1 (Or.inl rfl)]⟩, fun r q hq => ?_⟩
  · rw [srB_0 (by decide) (by decide), ← b2 123 (by decide) (by decide) (by decide) (by decide)]; exact b6.2 i hi
  · rw [(hc 103 (by decide) (by decide)).trans (hd _ (by decide) (by decide)), begB_0]; exact hP
  · rw [srB_1 (Or.inr rfl)] at hne
    obtain ⟨c1, c2⟩ := b3.2 i hi v hv hne
    refine ⟨c1, fun p hp hgp => ?_⟩
    rw [aimG_c hc, aimG_c hc]
    exact c2 p hp (by rw [← grpS_c hc]; exact hgp)
  · exact ⟨fun k h1 h2 h3 => by rw [hc _ (by omega) (by omega)]; exact b1.1 k h1 h2 h3, fun p h1 h2 => by rw [hc 109 (by decide) (by decide)]; exact b1.2.1 p h1 (by rw [← hc 104 (by decide) (by decide)]; exact h2), fun q h1 h2 => by rw [hc 114 (by decide) (by decide)]; exact b1.2.2 q h1 h2⟩
  · by_cases e : k = 124
    · subst e; exact (srB_1 (Or.inr rfl)).symm
    · simp only [List.mem_cons, List.not_mem_nil, or_false, not_or] at hk
      rw [srB_0 (by omega) e]; exact b2 k (by omega) (by omega) (by omega) e
  · exact row_eq hok hsB hwm hatm h48 hq

