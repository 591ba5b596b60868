/-! The class's nodes and the reference's agree, and stay as they should be. -/
def Agr (nn : Nat) (nf mf : Nat → Nat → Int32) : Prop := ∀ i, i < 8 → ∀ j, j < nn → mf i j = nf i j
theorem freeB_agr {nn : Nat} {nf mf : Nat → Nat → Int32} (hn : nn ≤ 60) (h : Agr nn nf mf) (r : Int32) : freeB nn mf r = freeB nn nf r := by
  unfold freeB
  cases hr : inR r (nI nn) with
  | false => rfl
  | true =>
    obtain ⟨j, hj, rfl⟩ := inR_of hr (by omega)
    rw [opN_nI (by omega), h 7 (by decide) j hj]
theorem mfit_agr {nn : Nat} {nf mf : Nat → Nat → Int32} (hn : nn ≤ 60) (h : Agr nn nf mf) (m : Nat) (a b c : Int32) : mfit nn mf m a b c = mfit nn nf m a b c := by
  unfold mfit
  rw [freeB_agr hn h a, freeB_agr hn h b, freeB_agr hn h c]
theorem kind_of {x : Int32} (h1 : ¬ x < 0) (h2 : ¬ nI 21 < x) : x = nI (opN x) ∧ opN x ≤ 21 := by
  obtain ⟨k, hk, rfl⟩ := nI_of2 (M := nI 21) (n := 21) (by decide) h1 (Int32.not_lt.mp h2)
  rw [opN_nI (by omega)]
  exact ⟨rfl, hk⟩
theorem nodeOk_agr {nn : Nat} {nf mf : Nat → Nat → Int32} (hn : nn ≤ 60) (h : Agr nn nf mf) (x a b c : Int32) : nodeOk nn mf x a b c = nodeOk nn nf x a b c := by
  unfold nodeOk
  by_cases h1 : x < 0
  · simp [h1]
  by_cases h2 : nI 21 < x
  · simp [h2]
  have hk := (kind_of h1 h2).2
  rw [mfit_agr hn h]
  cases hm : mfit nn nf (opsN (opN x)) a b c with
  | false => simp
  | true => rw [bndF_congr (nf := nf) (nf' := mf) hk hn (mfit_k hk hm hn) (h 4 (by decide)), wkF_congr (nf := nf) (nf' := mf) hk hn (mfit_k hk hm hn) (h 4 (by decide)) (h 5 (by decide)), lvF_congr (nf := nf) (nf' := mf) (m5 hk) hn (mfit_m (m5 hk) hm hn) (h 6 (by decide))]
/-- what a node that is made tells -/
theorem nodeOk_of {nn : Nat} {nf : Nat → Nat → Int32} {x a b c : Int32} (h : nodeOk nn nf x a b c = true) : x = nI (opN x) ∧ opN x ≤ 21 ∧ nn < 60 ∧ plainF (opN x) a = true ∧ mfit nn nf (opsN (opN x)) a b c = true ∧ ¬ nI 64 < bndF nf (opN x) a b c ∧ lvF nf (opsN (opN x)) a b c ≤ nI 8 := by
  simp only [nodeOk, Bool.and_eq_true, decide_eq_true_eq] at h
  obtain ⟨h1, h2, h3, h4, h5, h6, h7, h8⟩ := h
  exact ⟨(kind_of h1 h2).1, (kind_of h1 h2).2, h3, h4, h5, h6, h8⟩
theorem nd_agr {nn : Nat} {nf mf u u' : Nat → Nat → Int32} {x a b c : Int32} (hn : nn ≤ 60) (h : Agr nn nf mf) (h1 : ndPost nn nf x a b c u) (h2 : ndPost nn mf x a b c u') : Agr (if nodeOk nn nf x a b c = true then nn + 1 else nn) u u' := by
  obtain ⟨a1, a2, a3⟩ := h1
  obtain ⟨b1, b2, b3⟩ := h2
  rw [nodeOk_agr hn h] at b2 b3
  have old : ∀ i, i < 8 → i ≠ 7 → ∀ j, j < nn → u' i j = u i j := fun i hi h7 j hj => by rw [b1 j hj i h7, a1 j hj i h7, h i hi j hj]
  cases hk : nodeOk nn nf x a b c with
  | false =>
    intro i hi j hj
    have hj : j < nn := hj
    by_cases h7 : i = 7
    · subst h7
      rw [b2 hk j hj, a2 hk j hj, h 7 hi j hj]
    · exact old i hi h7 j hj
  | true =>
    obtain ⟨-, hkk, -, -, hm, -, -⟩ := nodeOk_of hk
    obtain ⟨p7, p0, p1, p2, p3, p4, p5, p6, pz⟩ := a3 hk
    obtain ⟨q7, q0, q1, q2, q3, q4, q5, q6, qz⟩ := b3 hk
    rw [bndF_congr (nf := nf) (nf' := mf) hkk hn (mfit_k hkk hm hn) (h 4 (by decide))] at q4
    rw [wkF_congr (nf := nf) (nf' := mf) hkk hn (mfit_k hkk hm hn) (h 4 (by decide)) (h 5 (by decide))] at q5
    rw [lvF_congr (nf := nf) (nf' := mf) (m5 hkk) hn (mfit_m (m5 hkk) hm hn) (h 6 (by decide))] at q6
    intro i hi j hj
    have hj : j < nn + 1 := hj
    rcases Nat.lt_or_eq_of_le (Nat.le_of_lt_succ hj) with hj | rfl
    · by_cases h7 : i = 7
      · subst h7
        rw [q7 j hj, p7 j hj, useN_c (h 7 hi j hj)]
      · exact old i hi h7 j hj
    · rcases (show i = 0 ∨ i = 1 ∨ i = 2 ∨ i = 3 ∨ i = 4 ∨ i = 5 ∨ i = 6 ∨ i = 7 by omega) with rfl | rfl | rfl | rfl | rfl | rfl | rfl | rfl
      · rw [q0, p0]
      · rw [q1, p1]
      · rw [q2, p2]
      · rw [q3, p3]
      · rw [q4, p4]
      · rw [q5, p5]
      · rw [q6, p6]
      · rw [qz, pz]
theorem NW_congr' {nf u : Nat → Nat → Int32} {j : Nat} (hj : j ≤ 60) (hs : ∀ k, k ≤ j → ∀ i, i < 7 → u i k = nf i k) (h : NW nf j) : NW u j := by
  obtain ⟨h0, hk, h6, hv1, hv8, h4, hB, hbnd, hpl, hop, hlA, hlB, hlC⟩ := h
  have e0 := hs j (Nat.le_refl _) 0 (by decide)
  have e1 := hs j (Nat.le_refl _) 1 (by decide)
  have e2 := hs j (Nat.le_refl _) 2 (by decide)
  have e3 := hs j (Nat.le_refl _) 3 (by decide)
  have e4 := hs j (Nat.le_refl _) 4 (by decide)
  have e6 := hs j (Nat.le_refl _) 6 (by decide)
  have ek : kN u j = kN nf j := by unfold kN; rw [e0]
  have ev : ∀ k, k ≤ j → vN u k = vN nf k := fun k hk => by unfold vN; rw [hs k hk 6 (by decide)]
  have eB : BN u j = BN nf j := by unfold BN; rw [e4]
  unfold NW
  rw [ek, ev j (Nat.le_refl _), eB, e0, e1, e2, e3, e4, e6, bndF_congr (nf := nf) (nf' := u) hk hj hop (fun k hk => hs k (by omega) 4 (by decide))]
  refine ⟨h0, hk, h6, hv1, hv8, h4, hB, hbnd, hpl, hop, fun q => ?_, fun q => ?_, fun q => ?_⟩
  · have := hlA q
    obtain ⟨k, hk, he⟩ := hop.1 q
    rw [he, opN_nI (by omega)] at this ⊢
    rw [ev k (by omega)]
    exact this
  · have := hlB q
    obtain ⟨k, hk, he⟩ := hop.2.1 q
    rw [he, opN_nI (by omega)] at this ⊢
    rw [ev k (by omega)]
    exact this
  · have := hlC q
    obtain ⟨k, hk, he⟩ := hop.2.2 q
    rw [he, opN_nI (by omega)] at this ⊢
    rw [ev k (by omega)]
    exact this
theorem mx_nI {a b : Nat} (ha : a < 2 ^ 31) (hb : b < 2 ^ 31) : mx (nI a) (nI b) = nI (max a b) := by
  unfold mx
  by_cases h : a < b
  · rw [if_pos ((nI_ltI ha hb).mpr h), Nat.max_eq_right (by omega)]
  · rw [if_neg (fun q => h ((nI_ltI ha hb).mp q)), Nat.max_eq_left (by omega)]
theorem nI_le64 {B : Nat} (hB : B < 2 ^ 31) (h : ¬ nI 64 < nI B) : B ≤ 64 := by
  rcases Nat.lt_or_ge 64 B with q | q
  · exact absurd ((nI_ltI (by decide) hB).mpr q) h
  · exact q
theorem nI_le8 {v : Nat} (hv : v < 2 ^ 31) (h : nI v ≤ nI 8) : v ≤ 8 := by
  rcases Nat.lt_or_ge 8 v with q | q
  · exact absurd ((nI_ltI (by decide) hv).mpr q) (Int32.not_lt.mpr h)
  · exact q
/-- THE BOUND of a new node is a number of at most 64 -/
theorem bnd_new {nn k : Nat} {nf : Nat → Nat → Int32} {a b c : Int32} (hn : nn ≤ 60) (hw : WFn nn nf) (hk : k ≤ 21) (hop : okOpsN nn k a b c) (hpl : plainF k a = true) (hb : ¬ nI 64 < bndF nf k a b c) : ∃ B, B ≤ 64 ∧ bndF nf k a b c = nI B := by
  suffices ∃ B, B < 2 ^ 31 ∧ bndF nf k a b c = nI B by
    obtain ⟨B, h1, h2⟩ := this
    rw [h2] at hb
    exact ⟨B, nI_le64 h1 hb, h2⟩
  have hA : (8 ≤ k ∧ k ≠ 17 ∧ k ≠ 18) → ∃ B, B ≤ 64 ∧ nf 4 (opN a) = nI B := fun q => by
    obtain ⟨j, h1, rfl⟩ := hop.1 q
    rw [opN_nI (by omega)]
    have := hw j h1
    exact ⟨_, this.2.2.2.2.2.2.1, this.2.2.2.2.2.1⟩
  have hBb : (9 ≤ k ∧ k ≤ 19) → ∃ B, B ≤ 64 ∧ nf 4 (opN b) = nI B := fun q => by
    obtain ⟨j, h1, rfl⟩ := hop.2.1 q
    rw [opN_nI (by omega)]
    have := hw j h1
    exact ⟨_, this.2.2.2.2.2.2.1, this.2.2.2.2.2.1⟩
  have hC : k = 19 → ∃ B, B ≤ 64 ∧ nf 4 (opN c) = nI B := fun q => by
    obtain ⟨j, h1, rfl⟩ := hop.2.2 q
    rw [opN_nI (by omega)]
    have := hw j h1
    exact ⟨_, this.2.2.2.2.2.2.1, this.2.2.2.2.2.1⟩
  have pr : (9 ≤ k ∧ k ≤ 13) ∨ k = 16 → ∃ B, B < 2 ^ 31 ∧ bndF nf k a b c = nI B := fun q => by
    obtain ⟨A, hA1, hA2⟩ := hA (by omega)
    obtain ⟨B, hB1, hB2⟩ := hBb (by omega)
    have hm : A * B ≤ 64 * 64 := Nat.mul_le_mul hA1 hB1
    refine ⟨A * B, by omega, ?_⟩
    have e1 : ¬ k = 7 := by omega
    have e2 : ¬ k = 8 := by omega
    have e3 : ¬ k = 17 := by omega
    have e4 : ¬ k = 15 := by omega
    have e5 : ¬ k = 18 := by omega
    have e6 : ¬ k = 19 := by omega
    have e8 : ¬ k = 14 := by omega
    have e7 : 9 ≤ k ∧ k ≤ 16 := by omega
    simp only [bndF, e8, e1, e2, e3, e4, e5, e6, if_false, if_pos e7, hA2, hB2, pk_mul]
  rcases k22 hk with rfl | rfl | rfl | rfl | rfl | rfl | rfl | rfl | rfl | rfl | rfl | rfl | rfl | rfl | rfl | rfl | rfl | rfl | rfl | rfl | rfl | rfl

  · exact ⟨1, by decide, by simp [bndF]⟩
  · exact ⟨1, by decide, by simp [bndF]⟩
  · exact ⟨1, by decide, by simp [bndF]⟩
  · exact ⟨1, by decide, by simp [bndF]⟩
  · exact ⟨1, by decide, by simp [bndF]⟩
  · exact ⟨1, by decide, by simp [bndF]⟩
  · exact ⟨1, by decide, by simp [bndF]⟩
  · exact ⟨8, by decide, by simp [bndF]⟩
  · obtain ⟨A, hA1, hA2⟩ := hA (by decide)
    exact ⟨A, by omega, by simp [bndF, hA2]⟩
  · exact pr (by decide)
  · exact pr (by decide)
  · exact pr (by decide)
  · exact pr (by decide)
  · exact pr (by decide)
  · obtain ⟨A, hA1, hA2⟩ := hA (by decide)
    obtain ⟨B, hB1, hB2⟩ := hBb (by decide)
    have hm : A * B ≤ 64 * 64 := Nat.mul_le_mul hA1 hB1
    exact ⟨8 * A * B, by rw [Nat.mul_assoc]; omega, by simp [bndF, hA2, hB2, pk_mul]⟩
  · obtain ⟨A, hA1, hA2⟩ := hA (by decide)
    obtain ⟨B, hB1, hB2⟩ := hBb (by decide)
    exact ⟨A + B, by omega, by simp [bndF, hA2, hB2, nI_add]⟩
  · exact pr (by decide)
  · obtain ⟨B, hB1, hB2⟩ := hBb (by decide)
    exact ⟨B, by omega, by simp [bndF, hB2]⟩
  · obtain ⟨B, hB1, hB2⟩ := hBb (by decide)
    obtain ⟨v, hv, rfl⟩ := cnt8_of (show cnt8 a = true by simpa [plainF] using hpl)
    by_cases hq : nI B < nI v
    · exact ⟨B, by omega, by simp [bndF, hB2, hq]⟩
    · exact ⟨v, by omega, by simp only [bndF, hB2, hq]; simp⟩
  · obtain ⟨B, hB1, hB2⟩ := hBb (by decide)
    obtain ⟨C, hC1, hC2⟩ := hC rfl
    exact ⟨max B C, by omega, by simp only [bndF, hB2, hC2, mx_nI (show B < 2 ^ 31 by omega) (show C < 2 ^ 31 by omega)]; simp⟩
  · exact ⟨1, by decide, by simp [bndF]⟩
  · exact ⟨1, by decide, by simp [bndF]⟩
/-- the LEVEL of a new node is a number of at most 8, above its operands' -/
theorem lv_new {nn m : Nat} {nf : Nat → Nat → Int32} {a b c : Int32} (hn : nn ≤ 60) (hw : WFn nn nf) (hm : m = 0 ∨ m = 1 ∨ m = 2 ∨ m = 3 ∨ m = 7) (hop : (m = 1 ∨ m = 3 ∨ m = 7 → ∃ j, j < nn ∧ a = nI j) ∧ (m = 2 ∨ m = 3 ∨ m = 7 → ∃ j, j < nn ∧ b = nI j) ∧ (m = 7 → ∃ j, j < nn ∧ c = nI j)) (hl : lvF nf m a b c ≤ nI 8) : ∃ v, 1 ≤ v ∧ v ≤ 8 ∧ lvF nf m a b c = nI v ∧ (m = 1 ∨ m = 3 ∨ m = 7 → vN nf (opN a) < v) ∧ (m = 2 ∨ m = 3 ∨ m = 7 → vN nf (opN b) < v) ∧ (m = 7 → vN nf (opN c) < v) := by
  suffices ∃ v, v < 100 ∧ lvF nf m a b c = nI (v + 1) ∧ (m = 1 ∨ m = 3 ∨ m = 7 → vN nf (opN a) ≤ v) ∧ (m = 2 ∨ m = 3 ∨ m = 7 → vN nf (opN b) ≤ v) ∧ (m = 7 → vN nf (opN c) ≤ v) by
    obtain ⟨v, h0, h1, h2, h3, h4⟩ := this
    rw [h1] at hl
    have := nI_le8 (by omega) hl
    exact ⟨v + 1, by omega, this, h1, fun q => Nat.lt_succ_of_le (h2 q), fun q => Nat.lt_succ_of_le (h3 q), fun q => Nat.lt_succ_of_le (h4 q)⟩
  have one : ∀ x : Int32, (∃ j, j < nn ∧ x = nI j) → nf 6 (opN x) = nI (vN nf (opN x)) ∧ vN nf (opN x) ≤ 8 := fun x hx => by
    obtain ⟨j, h1, rfl⟩ := hx
    rw [opN_nI (by omega)]
    have := hw j h1
    exact ⟨this.2.2.1, this.2.2.2.2.1⟩
  rcases hm with rfl | rfl | rfl | rfl | rfl
  · exact ⟨0, by decide, by simp [lvF, nI_add], fun q => by omega, fun q => by omega, fun q => by omega⟩
  · obtain ⟨e1, l1⟩ := one a (hop.1 (by decide))
    refine ⟨vN nf (opN a), by omega, ?_, fun q => by omega, fun q => by omega, fun q => by omega⟩
    have e : lvF nf 1 a b c = mx (nI 0) (nf 6 (opN a)) + nI 1 := by simp [lvF]
    rw [e, e1, mx_nI (by decide) (by omega), nI_add]
    congr 1 <;> omega
  · obtain ⟨e1, l1⟩ := one b (hop.2.1 (by decide))
    refine ⟨vN nf (opN b), by omega, ?_, fun q => by omega, fun q => by omega, fun q => by omega⟩
    have e : lvF nf 2 a b c = mx (nI 0) (nf 6 (opN b)) + nI 1 := by simp [lvF]
    rw [e, e1, mx_nI (by decide) (by omega), nI_add]
    congr 1 <;> omega
  · obtain ⟨e1, l1⟩ := one a (hop.1 (by decide))
    obtain ⟨e2, l2⟩ := one b (hop.2.1 (by decide))
    refine ⟨max (vN nf (opN a)) (vN nf (opN b)), by omega, ?_, fun q => by omega, fun q => by omega, fun q => by omega⟩
    have e : lvF nf 3 a b c = mx (mx (nI 0) (nf 6 (opN a))) (nf 6 (opN b)) + nI 1 := by simp [lvF]
    rw [e, e1, e2, mx_nI (by decide) (by omega), mx_nI (by omega) (by omega), nI_add]
    congr 1 <;> omega
  · obtain ⟨e1, l1⟩ := one a (hop.1 (by decide))
    obtain ⟨e2, l2⟩ := one b (hop.2.1 (by decide))
    obtain ⟨e3, l3⟩ := one c (hop.2.2 rfl)
    refine ⟨max (max (vN nf (opN a)) (vN nf (opN b))) (vN nf (opN c)), by omega, ?_, fun q => by omega, fun q => by omega, fun q => by omega⟩
    have e : lvF nf 7 a b c = mx (mx (mx (nI 0) (nf 6 (opN a))) (nf 6 (opN b))) (nf 6 (opN c)) + nI 1 := by simp [lvF]
    rw [e, e1, e2, e3, mx_nI (by decide) (by omega), mx_nI (by omega) (by omega), mx_nI (by omega) (by omega), nI_add]
    congr 1 <;> omega
theorem ops_m {k : Nat} (hk : k ≤ 21) : ((8 ≤ k ∧ k ≠ 17 ∧ k ≠ 18) → opsN k = 1 ∨ opsN k = 3 ∨ opsN k = 7) ∧ ((9 ≤ k ∧ k ≤ 19) → opsN k = 2 ∨ opsN k = 3 ∨ opsN k = 7) ∧ (k = 19 → opsN k = 7) := by
  rcases k22 hk with rfl | rfl | rfl | rfl | rfl | rfl | rfl | rfl | rfl | rfl | rfl | rfl | rfl | rfl | rfl | rfl | rfl | rfl | rfl | rfl | rfl | rfl <;> decide
theorem nd_wf {nn : Nat} {nf u : Nat → Nat → Int32} {x a b c : Int32} (hn : nn ≤ 60) (hw : WFn nn nf) (h1 : ndPost nn nf x a b c u) : WFn (if nodeOk nn nf x a b c = true then nn + 1 else nn) u := by
  obtain ⟨a1, a2, a3⟩ := h1
  have old : ∀ i, i < nn → NW u i := fun i hi => NW_congr' (by omega) (fun k hk i hi => a1 k (by omega) i (by omega)) (hw i hi)
  cases hk : nodeOk nn nf x a b c with
  | false => exact fun i hi => old i hi
  | true =>
    obtain ⟨hx, hkk, h60, hpl, hm, hb, hl⟩ := nodeOk_of hk
    obtain ⟨p7, p0, p1, p2, p3, p4, p5, p6, pz⟩ := a3 hk
    have hop := mfit_k hkk hm hn
    obtain ⟨B, hB, eB⟩ := bnd_new hn hw hkk hop hpl hb
    obtain ⟨v, hv1, hv8, ev, lA, lB, lC⟩ := lv_new hn hw (m5 hkk) (mfit_m (m5 hkk) hm hn) hl
    intro i hi
    have hi : i < nn + 1 := hi
    rcases Nat.lt_or_eq_of_le (Nat.le_of_lt_succ hi) with hi | rfl
    · exact old i hi
    have ek : kN u i = opN x := by unfold kN; rw [p0]
    have evN : vN u i = v := by unfold vN; rw [p6, ev, opN_nI (by omega)]
    have eBN : BN u i = B := by unfold BN; rw [p4, eB, opN_nI (by omega)]
    have evo : ∀ y : Int32, (∃ j, j < i ∧ y = nI j) → vN u (opN y) = vN nf (opN y) := fun y hy => by
      obtain ⟨j, hj, rfl⟩ := hy
      rw [opN_nI (by omega)]
      unfold vN
      rw [a1 j hj 6 (by decide)]
    obtain ⟨m1, m2, m3⟩ := ops_m hkk
    unfold NW
    rw [ek, evN, eBN, p1, p2, p3, p4, p6, p0]
    refine ⟨hx, hkk, ev, hv1, hv8, eB, hB, ?_, hpl, hop, fun q => ?_, fun q => ?_, fun q => ?_⟩
    · exact (bndF_congr (nf := nf) (nf' := u) hkk hn hop (fun j hj => a1 j hj 4 (by decide))).symm
    · rw [evo a (hop.1 q)]
      exact lA (m1 q)
    · rw [evo b (hop.2.1 q)]
      exact lB (m2 q)
    · rw [evo c (hop.2.2 q)]
      exact lC (m3 q)
set_option maxRecDepth 100000 in
set_option maxHeartbeats 4000000 in
theorem ev_agr {tl : Nat} {ch : Nat → Int32} {nn : Nat} {nf mf : Nat → Nat → Int32} (hn : nn ≤ 60) (hw : WFn nn nf) (h : Agr nn nf mf) : ∀ n i, i < nn → ∀ s, ev tl ch (ndOf mf) n i s = ev tl ch (ndOf nf) n i s := by
  intro n
  induction n with
  | zero => intro i _ s; show ([] : List Rs) = []; rfl
  | succ n ih =>
    intro i hi s
    obtain ⟨h0, hk, h6, hv1, hv8, h4, hB, hbnd, hpl, hop, hlA, hlB, hlC⟩ := hw i hi
    have ek : (ndOf mf).1 i = (ndOf nf).1 i := by show opN (mf 0 i) = opN (nf 0 i); rw [h 0 (by decide) i hi]
    have ea : (ndOf mf).2.1 i = (ndOf nf).2.1 i := h 1 (by decide) i hi
    have eb : (ndOf mf).2.2.1 i = (ndOf nf).2.2.1 i := h 2 (by decide) i hi
    have ec : (ndOf mf).2.2.2 i = (ndOf nf).2.2.2 i := h 3 (by decide) i hi
    have hN : (ndOf nf).1 i = kN nf i := rfl
    have sub : ∀ x : Int32, (∃ j, j < i ∧ x = nI j) → ev tl ch (ndOf mf) n (opN x) = ev tl ch (ndOf nf) n (opN x) := fun x hx => by
      obtain ⟨j, hj, rfl⟩ := hx
      rw [opN_nI (by omega)]
      funext s
      exact ih j (by omega) s
    have hA : (8 ≤ kN nf i ∧ kN nf i ≠ 17 ∧ kN nf i ≠ 18) → ev tl ch (ndOf mf) n (opN ((ndOf nf).2.1 i)) = ev tl ch (ndOf nf) n (opN ((ndOf nf).2.1 i)) := fun q => sub _ (hop.1 q)
    have hBb : (9 ≤ kN nf i ∧ kN nf i ≤ 19) → ev tl ch (ndOf mf) n (opN ((ndOf nf).2.2.1 i)) = ev tl ch (ndOf nf) n (opN ((ndOf nf).2.2.1 i)) := fun q => sub _ (hop.2.1 q)
    have hC : kN nf i = 19 → ev tl ch (ndOf mf) n (opN ((ndOf nf).2.2.2 i)) = ev tl ch (ndOf nf) n (opN ((ndOf nf).2.2.2 i)) := fun q => sub _ (hop.2.2 q)
    have pairs : ((9 ≤ kN nf i ∧ kN nf i ≤ 14) ∨ kN nf i = 16) → ev tl ch (ndOf mf) (n + 1) i s = ev tl ch (ndOf nf) (n + 1) i s := fun q => by
      rw [ev_pairs (N := ndOf mf) (by rw [ek]; exact q), ev_pairs (N := ndOf nf) q, ek, ea, eb, hA (by omega), hBb (by omega)]
    rcases k22 hk with e | e | e | e | e | e | e | e | e | e | e | e | e | e | e | e | e | e | e | e | e | e
    · rw [ev_k0 (N := ndOf mf) (by rw [ek]; exact e), ev_k0 (N := ndOf nf) e, ea]
    · rw [ev_k1 (N := ndOf mf) (by rw [ek]; exact e), ev_k1 (N := ndOf nf) e, ea]
    · rw [ev_k2 (N := ndOf mf) (by rw [ek]; exact e), ev_k2 (N := ndOf nf) e]
    · rw [ev_k3 (N := ndOf mf) (by rw [ek]; exact e), ev_k3 (N := ndOf nf) e]
    · rw [ev_k4 (N := ndOf mf) (by rw [ek]; exact e), ev_k4 (N := ndOf nf) e, ea]
    · rw [ev_k5 (N := ndOf mf) (by rw [ek]; exact e), ev_k5 (N := ndOf nf) e, ea]
    · rw [ev_k6 (N := ndOf mf) (by rw [ek]; exact e), ev_k6 (N := ndOf nf) e]
    · rw [ev_k7 (N := ndOf mf) (by rw [ek]; exact e), ev_k7 (N := ndOf nf) e, ea]
    · rw [ev_k8 (N := ndOf mf) (by rw [ek]; exact e), ev_k8 (N := ndOf nf) e, ea, hA (by omega)]
    · exact pairs (by omega)
    · exact pairs (by omega)
    · exact pairs (by omega)
    · exact pairs (by omega)
    · exact pairs (by omega)
    · exact pairs (by omega)
    · rw [ev_k15 (N := ndOf mf) (by rw [ek]; exact e), ev_k15 (N := ndOf nf) e, ea, eb, hA (by omega), hBb (by omega)]
    · exact pairs (by omega)
    · rw [ev_k17 (N := ndOf mf) (by rw [ek]; exact e), ev_k17 (N := ndOf nf) e, ea, eb, hBb (by omega)]
    · rw [ev_k18 (N := ndOf mf) (by rw [ek]; exact e), ev_k18 (N := ndOf nf) e, ea, eb, hBb (by omega)]
    · rw [ev_k19 (N := ndOf mf) (by rw [ek]; exact e), ev_k19 (N := ndOf nf) e, ea, eb, ec, hA (by omega), hBb (by omega), hC e]
    · rw [ev_k20 (N := ndOf mf) (by rw [ek]; exact e), ev_k20 (N := ndOf nf) e, ea, hA (by omega)]
    · rw [ev_k21 (N := ndOf mf) (by rw [ek]; exact e), ev_k21 (N := ndOf nf) e, ea, hA (by omega)]
theorem kpL_agr {tl : Nat} {ch : Nat → Int32} {nn : Nat} {nf mf : Nat → Nat → Int32} (hn : nn ≤ 60) (hw : WFn nn nf) (h : Agr nn nf mf) (m : Nat) {r : Int32} (hr : inR r (nI nn) = true) : kpL tl ch mf m r = kpL tl ch nf m r := by
  unfold kpL evAll
  obtain ⟨j, hj, rfl⟩ := inR_of hr (by omega)
  rw [ev_agr hn hw h 8 _ (by rw [opN_nI (by omega)]; exact hj)]
theorem WFn_agr {nn : Nat} {nf mf : Nat → Nat → Int32} (hn : nn ≤ 60) (hw : WFn nn nf) (h : Agr nn nf mf) : WFn nn mf := fun i hi => by
  refine NW_congr' (by omega) (fun k hk j hj => h j (by omega) k (by omega)) (hw i hi)
/-- the kept RESULTS lie on both sides -/
theorem two_rows {qf rw : Nat → Int32} {L : List Rs} (h1 : Holds qf 0 L) (h2 : Holds rw 1024 L) {k : Nat} (hk : k < L.length) : ∀ c, c < 6 → qf (6 * k + c) = rw (6 * (1024 + k) + c) := by
  have e : gRow qf (0 + k) = gRow rw (1024 + k) := (h1 k hk).trans (h2 k hk).symm
  rw [Nat.zero_add] at e
  have e1 : qf (6 * k) = rw (6 * (1024 + k)) := congrArg Prod.fst e
  have e2 : ∀ c : Fin 5, qf (6 * k + 1 + c.val) = rw (6 * (1024 + k) + 1 + c.val) := fun c => congrFun (congrArg Prod.snd e) c
  intro c hc
  match c, hc with
  | 0, _ => exact e1
  | c + 1, hc =>
    have := e2 ⟨c, by omega⟩
    dsimp only at this
    rw [show 6 * k + (c + 1) = 6 * k + 1 + c by omega, show 6 * (1024 + k) + (c + 1) = 6 * (1024 + k) + 1 + c by omega]
    exact this
