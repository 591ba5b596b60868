/-! The class's world: the object, its text, its array of nodes, its two tables of rows, its 60 nodes. ad: the addresses by place. -/
def ndF (nf : Nat → Nat → Int32) (j : Nat) : List Value := [.int (nf 0 j), .int (nf 1 j), .int (nf 2 j), .int (nf 3 j), .int (nf 4 j), .int (nf 5 j), .int (nf 6 j), .int (nf 7 j)]
def WCn (ad : Nat → Nat) (nf : Nat → Nat → Int32) : va_W := (List.range 60).map (fun j => (ad (8 + j), .inr (0, ndF nf j)))
abbrev WCf (ad : Nat → Nat) (cI cN : ClassId) (nn qt tl : Nat) (ch : Nat → Int32) (rz : Nat) (rf : Nat → Int32) (qz : Nat) (qf : Nat → Int32) : va_W :=
  [(ad 0, .inr (3, [.ref (ad 1), .ref (ad 3), .int (nI nn), .ref (ad 4), .ref (ad 6), .int (nI qt)])), (ad 1, .inr (2, [.ref (ad 2), .int (nI tl)])), (ad 2, .inl (cI, 24, .inl ch)), (ad 3, .inl (cN, 60, .inr (.inr (.inr (.inr (fun j => some (ad (8 + j)))))))), (ad 4, .inr (1, [.ref (ad 5), .int (nI 1025), .int (nI rz)])), (ad 5, .inl (cI, 6150, .inl rf)), (ad 6, .inr (1, [.ref (ad 7), .int (nI 64), .int (nI qz)])), (ad 7, .inl (cI, 384, .inl qf))]
abbrev WC (ad : Nat → Nat) (cI cN : ClassId) (nn qt tl : Nat) (ch : Nat → Int32) (rz : Nat) (rf : Nat → Int32) (qz : Nat) (qf : Nat → Int32) (nf : Nat → Nat → Int32) : va_W := WCf ad cI cN nn qt tl ch rz rf qz qf ++ WCn ad nf
theorem wc_at {F : va_W} {ad : Nat → Nat} {nf : Nat → Nat → Int32} (hF : F.length = 8) {j : Nat} (hj : j < 60) : (F ++ WCn ad nf)[8 + j]? = some (ad (8 + j), .inr (0, ndF nf j)) := by
  rw [List.getElem?_append_right (by omega), hF, Nat.add_sub_cancel_left]
  unfold WCn
  rw [List.getElem?_map, List.getElem?_range hj]
  rfl
/-- field k of node j gets v -/
def nfU (nf : Nat → Nat → Int32) (k j : Nat) (v : Int32) : Nat → Nat → Int32 := fun i => if i = k then upd (nf i) j v else nf i
theorem wcn_set {ad : Nat → Nat} {nf nf' : Nat → Nat → Int32} {j : Nat} (h : ∀ i, i ≠ j → ∀ k, nf' k i = nf k i) : (WCn ad nf).set j (ad (8 + j), .inr (0, ndF nf' j)) = WCn ad nf' := by
  unfold WCn
  refine List.ext_getElem? fun k => ?_
  by_cases hk : k = j
  · subst hk
    by_cases hl : k < 60
    · rw [List.getElem?_set_self (by simpa using hl), List.getElem?_map, List.getElem?_range hl]
      rfl
    · rw [List.getElem?_eq_none (by simp; omega), List.getElem?_eq_none (by simp; omega)]
  · rw [List.getElem?_set_ne (Ne.symm hk), List.getElem?_map, List.getElem?_map]
    by_cases hl : k < 60
    · rw [List.getElem?_range hl]
      simp only [Option.map_some, ndF, h k hk]
    · rw [List.getElem?_eq_none (by simp; omega)]
      rfl
theorem wc_set {F : va_W} {ad : Nat → Nat} {nf nf' : Nat → Nat → Int32} (hF : F.length = 8) {j : Nat} {l : List Value} (hl : l = ndF nf' j) (h : ∀ i, i ≠ j → ∀ k, nf' k i = nf k i) : (F ++ WCn ad nf).set (8 + j) (ad (8 + j), .inr (0, l)) = F ++ WCn ad nf' := by
  rw [List.set_append_right _ _ (by omega), hF, Nat.add_sub_cancel_left, hl, wcn_set h]
theorem nfU_ne {nf : Nat → Nat → Int32} {k j i m : Nat} {v : Int32} (h : i ≠ j) : nfU nf k j v m i = nf m i := by
  unfold nfU
  split
  · exact pk_un h
  · rfl
theorem nfU_o {nf : Nat → Nat → Int32} {k j i m : Nat} {v : Int32} (h : m ≠ k) : nfU nf k j v m i = nf m i := by
  unfold nfU
  rw [if_neg h]
theorem nfU_s {nf : Nat → Nat → Int32} {k j : Nat} {v : Int32} : nfU nf k j v k j = v := by
  unfold nfU
  rw [if_pos rfl]
  exact pk_us
theorem wc_put {F : va_W} {ad : Nat → Nat} {nf : Nat → Nat → Int32} (hF : F.length = 8) {k j : Nat} {v : Int32} (hk : k < 8) : (F ++ WCn ad nf).set (8 + j) (ad (8 + j), .inr (0, (ndF nf j).set k (.int v))) = F ++ WCn ad (nfU nf k j v) := by
  refine wc_set hF ?_ (fun i hi m => nfU_ne hi)
  match k, hk with
  | 0, _ | 1, _ | 2, _ | 3, _ | 4, _ | 5, _ | 6, _ | 7, _ => simp [ndF, nfU, pk_us]
  | k + 8, hk => omega
theorem opN_nI {j : Nat} (h : j < 2 ^ 31) : opN (nI j) = j := nI_clamp h
theorem inR_of {r : Int32} {n : Nat} (h : inR r (nI n) = true) (hn : n < 2 ^ 31) : ∃ j, j < n ∧ r = nI j := by
  simp [inR] at h
  obtain ⟨j, hj, rfl⟩ := nI_of (x := r) (by simpa using h.1)
  refine ⟨j, ?_, rfl⟩
  rcases Nat.lt_or_ge j n with q | q
  · exact q
  · exact absurd h.2 (by simpa using nI_le q hj)
theorem inR_nI {j n : Nat} (h : j < n) (hn : n < 2 ^ 31) : inR (nI j) (nI n) = true := by
  simp only [inR, Bool.and_eq_true, decide_eq_true_eq]
  exact ⟨nI_pos (by omega), nI_ge h hn⟩
def isSrt (a : Int32) : Bool := (decide (¬ a < 0) && decide (a ≤ nI 4)) || (decide (¬ a < nI 256) && decide (¬ nI 511 < a))
def cnt8 (a : Int32) : Bool := decide (¬ a < nI 1) && decide (¬ nI 8 < a)
/-- whether a may stand there, for a kind whose a is a variable, a SORT or a count -/
def plainF (k : Nat) (a : Int32) : Bool := if k = 1 ∨ k = 17 then inR a (nI 4) else if k = 4 ∨ k = 5 ∨ k = 7 then isSrt a else if k = 18 then cnt8 a else true
theorem k22 {k : Nat} (h : k ≤ 21) : k = 0 ∨ k = 1 ∨ k = 2 ∨ k = 3 ∨ k = 4 ∨ k = 5 ∨ k = 6 ∨ k = 7 ∨ k = 8 ∨ k = 9 ∨ k = 10 ∨ k = 11 ∨ k = 12 ∨ k = 13 ∨ k = 14 ∨ k = 15 ∨ k = 16 ∨ k = 17 ∨ k = 18 ∨ k = 19 ∨ k = 20 ∨ k = 21 := by omega
theorem sw4 (a : Int32) : a = nI 0 ∨ a = nI 1 ∨ a = nI 2 ∨ a = nI 3 ∨ ((a.toInt < 0 ∨ 3 < a.toInt) ∧ a ≠ nI 0 ∧ a ≠ nI 1 ∧ a ≠ nI 2 ∧ a ≠ nI 3) := by
  rcases sw5 a with h | h | h | h | h | ⟨h, h0, h1, h2, h3, h4⟩
  · exact Or.inl h
  · exact Or.inr (Or.inl h)
  · exact Or.inr (Or.inr (Or.inl h))
  · exact Or.inr (Or.inr (Or.inr (Or.inl h)))
  · subst h
    exact Or.inr (Or.inr (Or.inr (Or.inr (by decide))))
  · exact Or.inr (Or.inr (Or.inr (Or.inr ⟨by omega, h0, h1, h2, h3⟩)))
section ClassA
variable {l : Launch} {D : va_G} {cI cZ cN : ClassId} {ad : Nat → Nat} {nn qt tl rz qz : Nat} {ch rf qf : Nat → Int32} {nf : Nat → Nat → Int32}
set_option maxRecDepth 100000 in
set_option maxHeartbeats 4000000 in
theorem c_G_isVariable (a : Int32) : CT l D (tyL cI cZ cN) none y_G_isVariable b_G_isVariable 1 (some .boolean) 0 [.int a] [] (fun _ : Unit => True) (fun _ => some (.int (bI (inR a (nI 4))))) (fun _ => []) := by
  refine CT.of (by decide) (Nat.le_of_ble_eq_true rfl) ?_
  intro X A hl hX hF
  refine r_iload_n (i := 0) hX d_G_isVariable_0 rfl rfl ?_
  refine r_if_lt 13 hX d_G_isVariable_1 (by decide) (fun c1 => ?_) (fun c1 => ?_)
  · have hn : inR a (nI 4) = false := by simp [inR, c1]
    refine r_iconst (v := nI 0) hX d_G_isVariable_13 (by decide) ?_
    exact r_zret () hX hF d_G_isVariable_14 rfl trivial (by rw [hn]; rfl) rfl
  · refine r_iload_n (i := 0) hX d_G_isVariable_4 rfl rfl ?_
    refine r_iconst (v := nI 4) hX d_G_isVariable_5 (by decide) ?_
    refine r_icmp_ge 13 hX d_G_isVariable_6 (by decide) (fun c6 => ?_) (fun c6 => ?_)
    · have hn : inR a (nI 4) = false := by simp [inR, c1, c6]
      refine r_iconst (v := nI 0) hX d_G_isVariable_13 (by decide) ?_
      exact r_zret () hX hF d_G_isVariable_14 rfl trivial (by rw [hn]; rfl) rfl
    · have hn : inR a (nI 4) = true := by simp [inR, c1, c6]
      refine r_iconst (v := nI 1) hX d_G_isVariable_9 (by decide) ?_
      refine r_goto 14 hX d_G_isVariable_10 (by decide) ?_
      exact r_zret () hX hF d_G_isVariable_14 rfl trivial (by rw [hn]; rfl) rfl
set_option maxRecDepth 100000 in
set_option maxHeartbeats 4000000 in
theorem c_G_isSort (a : Int32) : CT l D (tyL cI cZ cN) none y_G_isSort b_G_isSort 1 (some .boolean) 0 [.int a] [] (fun _ : Unit => True) (fun _ => some (.int (bI (isSrt a)))) (fun _ => []) := by
  refine CT.of (by decide) (Nat.le_of_ble_eq_true rfl) ?_
  intro X A hl hX hF
  refine r_iload_n (i := 0) hX d_G_isSort_0 rfl rfl ?_
  refine r_if_lt 9 hX d_G_isSort_1 (by decide) (fun c1 => ?_) (fun c1 => ?_)
  · have h4 : (decide (¬ a < 0) && decide (a ≤ nI 4)) = false := by simp [c1]
    refine r_iload_n (i := 0) hX d_G_isSort_9 rfl rfl ?_
    refine r_sipush (v := nI 256) hX d_G_isSort_10 (by decide) ?_
    refine r_icmp_lt 27 hX d_G_isSort_13 (by decide) (fun c13 => ?_) (fun c13 => ?_)
    · have hn : isSrt a = false := by rw [isSrt, h4]; simp [c13]
      refine r_iconst (v := nI 0) hX d_G_isSort_27 (by decide) ?_
      exact r_zret () hX hF d_G_isSort_28 rfl trivial (by rw [hn]; rfl) rfl
    · refine r_iload_n (i := 0) hX d_G_isSort_16 rfl rfl ?_
      refine r_sipush (v := nI 511) hX d_G_isSort_17 (by decide) ?_
      refine r_icmp_gt 27 hX d_G_isSort_20 (by decide) (fun c20 => ?_) (fun c20 => ?_)
      · have hn : isSrt a = false := by rw [isSrt, h4]; simp [c20]
        refine r_iconst (v := nI 0) hX d_G_isSort_27 (by decide) ?_
        exact r_zret () hX hF d_G_isSort_28 rfl trivial (by rw [hn]; rfl) rfl
      · have hn : isSrt a = true := by rw [isSrt, h4]; simp [c13, c20]
        refine r_iconst (v := nI 1) hX d_G_isSort_23 (by decide) ?_
        refine r_goto 28 hX d_G_isSort_24 (by decide) ?_
        exact r_zret () hX hF d_G_isSort_28 rfl trivial (by rw [hn]; rfl) rfl
  · refine r_iload_n (i := 0) hX d_G_isSort_4 rfl rfl ?_
    refine r_iconst (v := nI 4) hX d_G_isSort_5 (by decide) ?_
    refine r_icmp_le 23 hX d_G_isSort_6 (by decide) (fun c6 => ?_) (fun c6 => ?_)
    · have hn : isSrt a = true := by simp [isSrt, c1, c6]
      refine r_iconst (v := nI 1) hX d_G_isSort_23 (by decide) ?_
      refine r_goto 28 hX d_G_isSort_24 (by decide) ?_
      exact r_zret () hX hF d_G_isSort_28 rfl trivial (by rw [hn]; rfl) rfl
    · have h4 : (decide (¬ a < 0) && decide (a ≤ nI 4)) = false := by simp [c6]
      refine r_iload_n (i := 0) hX d_G_isSort_9 rfl rfl ?_
      refine r_sipush (v := nI 256) hX d_G_isSort_10 (by decide) ?_
      refine r_icmp_lt 27 hX d_G_isSort_13 (by decide) (fun c13 => ?_) (fun c13 => ?_)
      · have hn : isSrt a = false := by rw [isSrt, h4]; simp [c13]
        refine r_iconst (v := nI 0) hX d_G_isSort_27 (by decide) ?_
        exact r_zret () hX hF d_G_isSort_28 rfl trivial (by rw [hn]; rfl) rfl
      · refine r_iload_n (i := 0) hX d_G_isSort_16 rfl rfl ?_
        refine r_sipush (v := nI 511) hX d_G_isSort_17 (by decide) ?_
        refine r_icmp_gt 27 hX d_G_isSort_20 (by decide) (fun c20 => ?_) (fun c20 => ?_)
        · have hn : isSrt a = false := by rw [isSrt, h4]; simp [c20]
          refine r_iconst (v := nI 0) hX d_G_isSort_27 (by decide) ?_
          exact r_zret () hX hF d_G_isSort_28 rfl trivial (by rw [hn]; rfl) rfl
        · have hn : isSrt a = true := by rw [isSrt, h4]; simp [c13, c20]
          refine r_iconst (v := nI 1) hX d_G_isSort_23 (by decide) ?_
          refine r_goto 28 hX d_G_isSort_24 (by decide) ?_
          exact r_zret () hX hF d_G_isSort_28 rfl trivial (by rw [hn]; rfl) rfl
set_option maxRecDepth 100000 in
set_option maxHeartbeats 4000000 in
theorem c_G_isPlainOperandFit (k : Nat) (a : Int32) (hk : k ≤ 21) : CT l D (tyL cI cZ cN) none y_G_isPlainOperandFit b_G_isPlainOperandFit 2 (some .boolean) 1 [.int (nI k), .int a] [] (fun _ : Unit => True) (fun _ => some (.int (bI (plainF k a)))) (fun _ => []) := by
  refine CT.of (by decide) (Nat.le_of_ble_eq_true rfl) ?_
  intro X A hl hX hF
  refine r_iload_n (i := 0) hX d_G_isPlainOperandFit_0 rfl rfl ?_
  rcases k22 hk with rfl | rfl | rfl | rfl | rfl | rfl | rfl | rfl | rfl | rfl | rfl | rfl | rfl | rfl | rfl | rfl | rfl | rfl | rfl | rfl | rfl | rfl
  · refine r_tableOut 115 hX d_G_isPlainOperandFit_1 (Or.inl (by decide)) (by decide) ?_
    refine r_iconst (v := nI 1) hX d_G_isPlainOperandFit_115 (by decide) ?_
    exact r_zret () hX hF d_G_isPlainOperandFit_116 rfl trivial rfl rfl
  · refine r_tableIn (off := 87) 88 hX d_G_isPlainOperandFit_1 (by decide) (by decide) (by decide) (by decide) ?_
    refine r_iload_n (i := 1) hX d_G_isPlainOperandFit_88 rfl rfl ?_
    refine r_callSi [] hX d_G_isPlainOperandFit_89 cw_G_isVariable ml_G_101 (c_G_isVariable a) (Or.inl rfl) rfl rfl (by decide) (Nat.le_of_ble_eq_true rfl) rfl (fun _ => rfl) rfl (fun _ _ => ?_)
    exact r_zret () hX hF d_G_isPlainOperandFit_92 (bI_nar _) trivial rfl rfl
  · refine r_tableIn (off := 114) 115 hX d_G_isPlainOperandFit_1 (by decide) (by decide) (by decide) (by decide) ?_
    refine r_iconst (v := nI 1) hX d_G_isPlainOperandFit_115 (by decide) ?_
    exact r_zret () hX hF d_G_isPlainOperandFit_116 rfl trivial rfl rfl
  · refine r_tableIn (off := 114) 115 hX d_G_isPlainOperandFit_1 (by decide) (by decide) (by decide) (by decide) ?_
    refine r_iconst (v := nI 1) hX d_G_isPlainOperandFit_115 (by decide) ?_
    exact r_zret () hX hF d_G_isPlainOperandFit_116 rfl trivial rfl rfl
  · refine r_tableIn (off := 92) 93 hX d_G_isPlainOperandFit_1 (by decide) (by decide) (by decide) (by decide) ?_
    refine r_iload_n (i := 1) hX d_G_isPlainOperandFit_93 rfl rfl ?_
    refine r_callSi [] hX d_G_isPlainOperandFit_94 cw_G_isSort ml_G_123 (c_G_isSort a) (Or.inl rfl) rfl rfl (by decide) (Nat.le_of_ble_eq_true rfl) rfl (fun _ => rfl) rfl (fun _ _ => ?_)
    exact r_zret () hX hF d_G_isPlainOperandFit_97 (bI_nar _) trivial rfl rfl
  · refine r_tableIn (off := 92) 93 hX d_G_isPlainOperandFit_1 (by decide) (by decide) (by decide) (by decide) ?_
    refine r_iload_n (i := 1) hX d_G_isPlainOperandFit_93 rfl rfl ?_
    refine r_callSi [] hX d_G_isPlainOperandFit_94 cw_G_isSort ml_G_123 (c_G_isSort a) (Or.inl rfl) rfl rfl (by decide) (Nat.le_of_ble_eq_true rfl) rfl (fun _ => rfl) rfl (fun _ _ => ?_)
    exact r_zret () hX hF d_G_isPlainOperandFit_97 (bI_nar _) trivial rfl rfl
  · refine r_tableIn (off := 114) 115 hX d_G_isPlainOperandFit_1 (by decide) (by decide) (by decide) (by decide) ?_
    refine r_iconst (v := nI 1) hX d_G_isPlainOperandFit_115 (by decide) ?_
    exact r_zret () hX hF d_G_isPlainOperandFit_116 rfl trivial rfl rfl
  · refine r_tableIn (off := 92) 93 hX d_G_isPlainOperandFit_1 (by decide) (by decide) (by decide) (by decide) ?_
    refine r_iload_n (i := 1) hX d_G_isPlainOperandFit_93 rfl rfl ?_
    refine r_callSi [] hX d_G_isPlainOperandFit_94 cw_G_isSort ml_G_123 (c_G_isSort a) (Or.inl rfl) rfl rfl (by decide) (Nat.le_of_ble_eq_true rfl) rfl (fun _ => rfl) rfl (fun _ _ => ?_)
    exact r_zret () hX hF d_G_isPlainOperandFit_97 (bI_nar _) trivial rfl rfl
  · refine r_tableIn (off := 114) 115 hX d_G_isPlainOperandFit_1 (by decide) (by decide) (by decide) (by decide) ?_
    refine r_iconst (v := nI 1) hX d_G_isPlainOperandFit_115 (by decide) ?_
    exact r_zret () hX hF d_G_isPlainOperandFit_116 rfl trivial rfl rfl
  · refine r_tableIn (off := 114) 115 hX d_G_isPlainOperandFit_1 (by decide) (by decide) (by decide) (by decide) ?_
    refine r_iconst (v := nI 1) hX d_G_isPlainOperandFit_115 (by decide) ?_
    exact r_zret () hX hF d_G_isPlainOperandFit_116 rfl trivial rfl rfl
  · refine r_tableIn (off := 114) 115 hX d_G_isPlainOperandFit_1 (by decide) (by decide) (by decide) (by decide) ?_
    refine r_iconst (v := nI 1) hX d_G_isPlainOperandFit_115 (by decide) ?_
    exact r_zret () hX hF d_G_isPlainOperandFit_116 rfl trivial rfl rfl
  · refine r_tableIn (off := 114) 115 hX d_G_isPlainOperandFit_1 (by decide) (by decide) (by decide) (by decide) ?_
    refine r_iconst (v := nI 1) hX d_G_isPlainOperandFit_115 (by decide) ?_
    exact r_zret () hX hF d_G_isPlainOperandFit_116 rfl trivial rfl rfl
  · refine r_tableIn (off := 114) 115 hX d_G_isPlainOperandFit_1 (by decide) (by decide) (by decide) (by decide) ?_
    refine r_iconst (v := nI 1) hX d_G_isPlainOperandFit_115 (by decide) ?_
    exact r_zret () hX hF d_G_isPlainOperandFit_116 rfl trivial rfl rfl
  · refine r_tableIn (off := 114) 115 hX d_G_isPlainOperandFit_1 (by decide) (by decide) (by decide) (by decide) ?_
    refine r_iconst (v := nI 1) hX d_G_isPlainOperandFit_115 (by decide) ?_
    exact r_zret () hX hF d_G_isPlainOperandFit_116 rfl trivial rfl rfl
  · refine r_tableIn (off := 114) 115 hX d_G_isPlainOperandFit_1 (by decide) (by decide) (by decide) (by decide) ?_
    refine r_iconst (v := nI 1) hX d_G_isPlainOperandFit_115 (by decide) ?_
    exact r_zret () hX hF d_G_isPlainOperandFit_116 rfl trivial rfl rfl
  · refine r_tableIn (off := 114) 115 hX d_G_isPlainOperandFit_1 (by decide) (by decide) (by decide) (by decide) ?_
    refine r_iconst (v := nI 1) hX d_G_isPlainOperandFit_115 (by decide) ?_
    exact r_zret () hX hF d_G_isPlainOperandFit_116 rfl trivial rfl rfl
  · refine r_tableIn (off := 114) 115 hX d_G_isPlainOperandFit_1 (by decide) (by decide) (by decide) (by decide) ?_
    refine r_iconst (v := nI 1) hX d_G_isPlainOperandFit_115 (by decide) ?_
    exact r_zret () hX hF d_G_isPlainOperandFit_116 rfl trivial rfl rfl
  · refine r_tableIn (off := 87) 88 hX d_G_isPlainOperandFit_1 (by decide) (by decide) (by decide) (by decide) ?_
    refine r_iload_n (i := 1) hX d_G_isPlainOperandFit_88 rfl rfl ?_
    refine r_callSi [] hX d_G_isPlainOperandFit_89 cw_G_isVariable ml_G_101 (c_G_isVariable a) (Or.inl rfl) rfl rfl (by decide) (Nat.le_of_ble_eq_true rfl) rfl (fun _ => rfl) rfl (fun _ _ => ?_)
    exact r_zret () hX hF d_G_isPlainOperandFit_92 (bI_nar _) trivial rfl rfl
  · refine r_tableIn (off := 97) 98 hX d_G_isPlainOperandFit_1 (by decide) (by decide) (by decide) (by decide) ?_
    refine r_iload_n (i := 1) hX d_G_isPlainOperandFit_98 rfl rfl ?_
    refine r_iconst (v := nI 1) hX d_G_isPlainOperandFit_99 (by decide) ?_
    refine r_icmp_lt 113 hX d_G_isPlainOperandFit_100 (by decide) (fun c100 => ?_) (fun c100 => ?_)
    · have hn : plainF 18 a = false := by simp [plainF, cnt8, c100]
      refine r_iconst (v := nI 0) hX d_G_isPlainOperandFit_113 (by decide) ?_
      exact r_zret () hX hF d_G_isPlainOperandFit_114 rfl trivial (by rw [hn]; rfl) rfl
    · refine r_iload_n (i := 1) hX d_G_isPlainOperandFit_103 rfl rfl ?_
      refine r_bipush (v := nI 8) hX d_G_isPlainOperandFit_104 (by decide) ?_
      refine r_icmp_gt 113 hX d_G_isPlainOperandFit_106 (by decide) (fun c106 => ?_) (fun c106 => ?_)
      · have hn : plainF 18 a = false := by simp [plainF, cnt8, c106]
        refine r_iconst (v := nI 0) hX d_G_isPlainOperandFit_113 (by decide) ?_
        exact r_zret () hX hF d_G_isPlainOperandFit_114 rfl trivial (by rw [hn]; rfl) rfl
      · have hn : plainF 18 a = true := by simp [plainF, cnt8, c100, c106]
        refine r_iconst (v := nI 1) hX d_G_isPlainOperandFit_109 (by decide) ?_
        refine r_goto 114 hX d_G_isPlainOperandFit_110 (by decide) ?_
        exact r_zret () hX hF d_G_isPlainOperandFit_114 rfl trivial (by rw [hn]; rfl) rfl
  · refine r_tableOut 115 hX d_G_isPlainOperandFit_1 (Or.inr (by decide)) (by decide) ?_
    refine r_iconst (v := nI 1) hX d_G_isPlainOperandFit_115 (by decide) ?_
    exact r_zret () hX hF d_G_isPlainOperandFit_116 rfl trivial rfl rfl
  · refine r_tableOut 115 hX d_G_isPlainOperandFit_1 (Or.inr (by decide)) (by decide) ?_
    refine r_iconst (v := nI 1) hX d_G_isPlainOperandFit_115 (by decide) ?_
    exact r_zret () hX hF d_G_isPlainOperandFit_116 rfl trivial rfl rfl
  · refine r_tableOut 115 hX d_G_isPlainOperandFit_1 (Or.inr (by decide)) (by decide) ?_
    refine r_iconst (v := nI 1) hX d_G_isPlainOperandFit_115 (by decide) ?_
    exact r_zret () hX hF d_G_isPlainOperandFit_116 rfl trivial rfl rfl
set_option maxRecDepth 100000 in
set_option maxHeartbeats 4000000 in
theorem c_G_isNode (r : Int32) : CT l D (tyL cI cZ cN) none y_G_isNode b_G_isNode 2 (some .boolean) 0 [.ref (ad 0), .int r] (WC ad cI cN nn qt tl ch rz rf qz qf nf) (fun _ : Unit => True) (fun _ => some (.int (bI (inR r (nI nn))))) (fun _ => WC ad cI cN nn qt tl ch rz rf qz qf nf) := by
  refine CT.of (by decide) (Nat.le_of_ble_eq_true rfl) ?_
  intro X A hl hX hF
  refine r_iload_n (i := 1) hX d_G_isNode_0 rfl rfl ?_
  refine r_if_lt 16 hX d_G_isNode_1 (by decide) (fun c1 => ?_) (fun c1 => ?_)
  · have hn : inR r (nI nn) = false := by simp [inR, c1]
    refine r_iconst (v := nI 0) hX d_G_isNode_16 (by decide) ?_
    exact r_zret () hX hF d_G_isNode_17 rfl trivial (by rw [hn]; rfl) rfl
  · refine r_iload_n (i := 1) hX d_G_isNode_4 rfl rfl ?_
    refine r_aload_n (i := 0) hX d_G_isNode_5 rfl rfl ?_
    refine r_get 0 2 hX d_G_isNode_6 rfl rfl fi_G (by decide) fl_G_42 rfl rfl ?_
    refine r_icmp_ge 16 hX d_G_isNode_9 (by decide) (fun c9 => ?_) (fun c9 => ?_)
    · have hn : inR r (nI nn) = false := by simp [inR, c1, c9]
      refine r_iconst (v := nI 0) hX d_G_isNode_16 (by decide) ?_
      exact r_zret () hX hF d_G_isNode_17 rfl trivial (by rw [hn]; rfl) rfl
    · have hn : inR r (nI nn) = true := by simp [inR, c1, c9]
      refine r_iconst (v := nI 1) hX d_G_isNode_12 (by decide) ?_
      refine r_goto 17 hX d_G_isNode_13 (by decide) ?_
      exact r_zret () hX hF d_G_isNode_17 rfl trivial (by rw [hn]; rfl) rfl
/-- the int names a node that none uses -/
def freeB (nn : Nat) (nf : Nat → Nat → Int32) (r : Int32) : Bool := inR r (nI nn) && decide (nf 7 (opN r) = 0)
set_option maxRecDepth 100000 in
set_option maxHeartbeats 4000000 in
theorem c_G_isFree (r : Int32) (hnn : nn ≤ 60) : CT l D (tyL cI cZ cN) none y_G_isFree b_G_isFree 2 (some .boolean) 1 [.ref (ad 0), .int r] (WC ad cI cN nn qt tl ch rz rf qz qf nf) (fun _ : Unit => True) (fun _ => some (.int (bI (freeB nn nf r)))) (fun _ => WC ad cI cN nn qt tl ch rz rf qz qf nf) := by
  refine CT.of (by decide) (Nat.le_of_ble_eq_true rfl) ?_
  intro X A hl hX hF
  refine r_aload_n (i := 0) hX d_G_isFree_0 rfl rfl ?_
  refine r_iload_n (i := 1) hX d_G_isFree_1 rfl rfl ?_
  refine r_callVwi (q0 := 0) hX d_G_isFree_2 cw_G_isNode ml_G_107 (c_G_isNode r) (Or.inl rfl) rfl rfl rfl rfl (by decide) (Nat.le_of_ble_eq_true rfl) (fun _ => rfl) (fun _ _ => ?_)
  refine r_if_eq 24 hX d_G_isFree_5 (by decide) (fun c5 => ?_) (fun c5 => ?_)
  · have hn : freeB nn nf r = false := by have := bI_0 c5; simp [freeB, this]
    refine r_iconst (v := nI 0) hX d_G_isFree_24 (by decide) ?_
    exact r_zret () hX hF d_G_isFree_25 rfl trivial (by rw [hn]; rfl) rfl
  · have hr := bI_1 c5
    obtain ⟨j, hj, rfl⟩ := inR_of hr (by omega)
    refine r_aload_n (i := 0) hX d_G_isFree_8 rfl rfl ?_
    refine r_get 0 1 hX d_G_isFree_9 rfl rfl fi_G (by decide) fl_G_18 rfl rfl ?_
    refine r_iload_n (i := 1) hX d_G_isFree_12 rfl rfl ?_
    refine r_aald 3 2 (j) hX d_G_isFree_13 rfl rfl rfl (by omega) (by decide) rfl ?_
    refine r_get (8 + j) 7 hX d_G_isFree_14 (wc_at rfl (by omega)) rfl fi_N (by decide) fl_G_110 rfl rfl ?_
    refine r_if_ne 24 hX d_G_isFree_17 (by decide) (fun c17 => ?_) (fun c17 => ?_)
    · have hn : freeB nn nf (nI j) = false := by rw [freeB, opN_nI (by omega)]; simp [c17]
      refine r_iconst (v := nI 0) hX d_G_isFree_24 (by decide) ?_
      exact r_zret () hX hF d_G_isFree_25 rfl trivial (by rw [hn]; rfl) rfl
    · have hn : freeB nn nf (nI j) = true := by rw [freeB, opN_nI (by omega), hr]; simp [c17]
      refine r_iconst (v := nI 1) hX d_G_isFree_20 (by decide) ?_
      refine r_goto 25 hX d_G_isFree_21 (by decide) ?_
      exact r_zret () hX hF d_G_isFree_25 rfl trivial (by rw [hn]; rfl) rfl
set_option maxRecDepth 100000 in
set_option maxHeartbeats 4000000 in
theorem c_G_bound (r : Int32) (hnn : nn ≤ 60) : CT l D (tyL cI cZ cN) none y_G_bound b_G_bound 2 (some .int) 1 [.ref (ad 0), .int r] (WC ad cI cN nn qt tl ch rz rf qz qf nf) (fun _ : Unit => True) (fun _ => some (.int (if inR r (nI nn) = true then nf 4 (opN r) else -1))) (fun _ => WC ad cI cN nn qt tl ch rz rf qz qf nf) := by
  refine CT.of (by decide) (Nat.le_of_ble_eq_true rfl) ?_
  intro X A hl hX hF
  refine r_aload_n (i := 0) hX d_G_bound_0 rfl rfl ?_
  refine r_iload_n (i := 1) hX d_G_bound_1 rfl rfl ?_
  refine r_callVwi (q0 := 0) hX d_G_bound_2 cw_G_isNode ml_G_107 (c_G_isNode r) (Or.inl rfl) rfl rfl rfl rfl (by decide) (Nat.le_of_ble_eq_true rfl) (fun _ => rfl) (fun _ _ => ?_)
  refine r_if_eq 20 hX d_G_bound_5 (by decide) (fun c5 => ?_) (fun c5 => ?_)
  · have hn : (if inR r (nI nn) = true then nf 4 (opN r) else -1) = -1 := by have := bI_0 c5; simp [this]
    refine r_iconst (v := -1) hX d_G_bound_20 (by decide) ?_
    exact r_iret () hX hF d_G_bound_21 trivial (by rw [hn]) rfl
  · have hr := bI_1 c5
    obtain ⟨j, hj, rfl⟩ := inR_of hr (by omega)
    have hn : (if inR (nI j) (nI nn) = true then nf 4 (opN (nI j)) else -1) = nf 4 j := by rw [if_pos hr, opN_nI (by omega)]
    refine r_aload_n (i := 0) hX d_G_bound_8 rfl rfl ?_
    refine r_get 0 1 hX d_G_bound_9 rfl rfl fi_G (by decide) fl_G_18 rfl rfl ?_
    refine r_iload_n (i := 1) hX d_G_bound_12 rfl rfl ?_
    refine r_aald 3 2 (j) hX d_G_bound_13 rfl rfl rfl (by omega) (by decide) rfl ?_
    refine r_get (8 + j) 4 hX d_G_bound_14 (wc_at rfl (by omega)) rfl fi_N (by decide) fl_G_65 rfl rfl ?_
    refine r_goto 21 hX d_G_bound_17 (by decide) ?_
    exact r_iret () hX hF d_G_bound_21 trivial (by rw [hn]) rfl
set_option maxRecDepth 100000 in
set_option maxHeartbeats 4000000 in
theorem c_G_level (r : Int32) (hnn : nn ≤ 60) : CT l D (tyL cI cZ cN) none y_G_level b_G_level 2 (some .int) 1 [.ref (ad 0), .int r] (WC ad cI cN nn qt tl ch rz rf qz qf nf) (fun _ : Unit => True) (fun _ => some (.int (if inR r (nI nn) = true then nf 6 (opN r) else -1))) (fun _ => WC ad cI cN nn qt tl ch rz rf qz qf nf) := by
  refine CT.of (by decide) (Nat.le_of_ble_eq_true rfl) ?_
  intro X A hl hX hF
  refine r_aload_n (i := 0) hX d_G_level_0 rfl rfl ?_
  refine r_iload_n (i := 1) hX d_G_level_1 rfl rfl ?_
  refine r_callVwi (q0 := 0) hX d_G_level_2 cw_G_isNode ml_G_107 (c_G_isNode r) (Or.inl rfl) rfl rfl rfl rfl (by decide) (Nat.le_of_ble_eq_true rfl) (fun _ => rfl) (fun _ _ => ?_)
  refine r_if_eq 20 hX d_G_level_5 (by decide) (fun c5 => ?_) (fun c5 => ?_)
  · have hn : (if inR r (nI nn) = true then nf 6 (opN r) else -1) = -1 := by have := bI_0 c5; simp [this]
    refine r_iconst (v := -1) hX d_G_level_20 (by decide) ?_
    exact r_iret () hX hF d_G_level_21 trivial (by rw [hn]) rfl
  · have hr := bI_1 c5
    obtain ⟨j, hj, rfl⟩ := inR_of hr (by omega)
    have hn : (if inR (nI j) (nI nn) = true then nf 6 (opN (nI j)) else -1) = nf 6 j := by rw [if_pos hr, opN_nI (by omega)]
    refine r_aload_n (i := 0) hX d_G_level_8 rfl rfl ?_
    refine r_get 0 1 hX d_G_level_9 rfl rfl fi_G (by decide) fl_G_18 rfl rfl ?_
    refine r_iload_n (i := 1) hX d_G_level_12 rfl rfl ?_
    refine r_aald 3 2 (j) hX d_G_level_13 rfl rfl rfl (by omega) (by decide) rfl ?_
    refine r_get (8 + j) 6 hX d_G_level_14 (wc_at rfl (by omega)) rfl fi_N (by decide) fl_G_77 rfl rfl ?_
    refine r_goto 21 hX d_G_level_17 (by decide) ?_
    exact r_iret () hX hF d_G_level_21 trivial (by rw [hn]) rfl
set_option maxRecDepth 100000 in
set_option maxHeartbeats 4000000 in
theorem c_G_used (r : Int32) (hnn : nn ≤ 60) : CT l D (tyL cI cZ cN) none y_G_used b_G_used 2 (some .boolean) 1 [.ref (ad 0), .int r] (WC ad cI cN nn qt tl ch rz rf qz qf nf) (fun _ : Unit => True) (fun _ => some (.int (bI (inR r (nI nn) && !decide (nf 7 (opN r) = 0))))) (fun _ => WC ad cI cN nn qt tl ch rz rf qz qf nf) := by
  refine CT.of (by decide) (Nat.le_of_ble_eq_true rfl) ?_
  intro X A hl hX hF
  refine r_aload_n (i := 0) hX d_G_used_0 rfl rfl ?_
  refine r_iload_n (i := 1) hX d_G_used_1 rfl rfl ?_
  refine r_callVwi (q0 := 0) hX d_G_used_2 cw_G_isNode ml_G_107 (c_G_isNode r) (Or.inl rfl) rfl rfl rfl rfl (by decide) (Nat.le_of_ble_eq_true rfl) (fun _ => rfl) (fun _ _ => ?_)
  refine r_if_eq 24 hX d_G_used_5 (by decide) (fun c5 => ?_) (fun c5 => ?_)
  · have hn : (inR r (nI nn) && !decide (nf 7 (opN r) = 0)) = false := by have := bI_0 c5; simp [this]
    refine r_iconst (v := nI 0) hX d_G_used_24 (by decide) ?_
    exact r_zret () hX hF d_G_used_25 rfl trivial (by rw [hn]; rfl) rfl
  · have hr := bI_1 c5
    obtain ⟨j, hj, rfl⟩ := inR_of hr (by omega)
    refine r_aload_n (i := 0) hX d_G_used_8 rfl rfl ?_
    refine r_get 0 1 hX d_G_used_9 rfl rfl fi_G (by decide) fl_G_18 rfl rfl ?_
    refine r_iload_n (i := 1) hX d_G_used_12 rfl rfl ?_
    refine r_aald 3 2 (j) hX d_G_used_13 rfl rfl rfl (by omega) (by decide) rfl ?_
    refine r_get (8 + j) 7 hX d_G_used_14 (wc_at rfl (by omega)) rfl fi_N (by decide) fl_G_110 rfl rfl ?_
    refine r_if_eq 24 hX d_G_used_17 (by decide) (fun c17 => ?_) (fun c17 => ?_)
    · have hn : (inR (nI j) (nI nn) && !decide (nf 7 (opN (nI j)) = 0)) = false := by rw [opN_nI (by omega)]; simp [c17]
      refine r_iconst (v := nI 0) hX d_G_used_24 (by decide) ?_
      exact r_zret () hX hF d_G_used_25 rfl trivial (by rw [hn]; rfl) rfl
    · have hn : (inR (nI j) (nI nn) && !decide (nf 7 (opN (nI j)) = 0)) = true := by rw [opN_nI (by omega), hr]; simp [c17]
      refine r_iconst (v := nI 1) hX d_G_used_20 (by decide) ?_
      refine r_goto 25 hX d_G_used_21 (by decide) ?_
      exact r_zret () hX hF d_G_used_25 rfl trivial (by rw [hn]; rfl) rfl
set_option maxRecDepth 100000 in
set_option maxHeartbeats 4000000 in
theorem c_G_result (r : Int32) (hq : qz ≤ 64) : CT l D (tyL cI cZ cN) none y_G_result b_G_result 2 (some .long) 1 [.ref (ad 0), .int r] (WC ad cI cN nn qt tl ch rz rf qz qf nf) (fun _ : Unit => True) (fun _ => some (.long (if inR r (nI qz) = true then (qf (6 * opN r)).toInt64 else 1000000000000))) (fun _ => WC ad cI cN nn qt tl ch rz rf qz qf nf) := by
  refine CT.of (by decide) (Nat.le_of_ble_eq_true rfl) ?_
  intro X A hl hX hF
  refine r_aload_n (i := 0) hX d_G_result_0 rfl rfl ?_
  refine r_get 0 4 hX d_G_result_1 rfl rfl fi_G (by decide) fl_G_32 rfl rfl ?_
  refine r_iload_n (i := 1) hX d_G_result_4 rfl rfl ?_
  refine r_callVi (q0 := 0) [6, 7] hX d_G_result_5 cw_R_has ml_G_88 (c_R_has r) (Or.inl rfl) rfl rfl rfl rfl (by decide) (Nat.le_of_ble_eq_true rfl) rfl (fun _ => rfl) rfl (fun _ _ => ?_)
  refine r_if_eq 23 hX d_G_result_8 (by decide) (fun c8 => ?_) (fun c8 => ?_)
  · have hn : (if inR r (nI qz) = true then (qf (6 * opN r)).toInt64 else 1000000000000) = 1000000000000 := by have := bI_0 c8; simp [this]
    refine r_ldc2 hX d_G_result_23 kl_G_96 ?_
    exact r_lret () hX hF d_G_result_26 trivial (by rw [hn]) rfl
  · have hr := bI_1 c8
    obtain ⟨j, hj, rfl⟩ := inR_of hr (by omega)
    have hn : (if inR (nI j) (nI qz) = true then (qf (6 * opN (nI j))).toInt64 else 1000000000000) = (qf (6 * j)).toInt64 := by rw [if_pos hr, opN_nI (by omega)]
    refine r_aload_n (i := 0) hX d_G_result_11 rfl rfl ?_
    refine r_get 0 4 hX d_G_result_12 rfl rfl fi_G (by decide) fl_G_32 rfl rfl ?_
    refine r_iload_n (i := 1) hX d_G_result_15 rfl rfl ?_
    refine r_callVi (q0 := 0) [6, 7] hX d_G_result_16 cw_R_intAt ml_G_92 (c_R_intAt j (by omega) (by decide)) (Or.inl rfl) rfl rfl rfl rfl (by decide) (Nat.le_of_ble_eq_true rfl) rfl (fun _ => rfl) rfl (fun _ _ => ?_)
    refine r_i2l hX d_G_result_19 rfl ?_
    refine r_goto 26 hX d_G_result_20 (by decide) ?_
    exact r_lret () hX hF d_G_result_26 trivial (by rw [hn]) rfl
set_option maxRecDepth 100000 in
set_option maxHeartbeats 4000000 in
theorem c_G_place (r : Int32) (hq : qz ≤ 64) : CT l D (tyL cI cZ cN) none y_G_place b_G_place 2 (some .int) 1 [.ref (ad 0), .int r] (WC ad cI cN nn qt tl ch rz rf qz qf nf) (fun _ : Unit => True) (fun _ => some (.int (if inR r (nI qz) = true then qf (6 * opN r + 1) else -1))) (fun _ => WC ad cI cN nn qt tl ch rz rf qz qf nf) := by
  refine CT.of (by decide) (Nat.le_of_ble_eq_true rfl) ?_
  intro X A hl hX hF
  refine r_aload_n (i := 0) hX d_G_place_0 rfl rfl ?_
  refine r_get 0 4 hX d_G_place_1 rfl rfl fi_G (by decide) fl_G_32 rfl rfl ?_
  refine r_iload_n (i := 1) hX d_G_place_4 rfl rfl ?_
  refine r_callVi (q0 := 0) [6, 7] hX d_G_place_5 cw_R_has ml_G_88 (c_R_has r) (Or.inl rfl) rfl rfl rfl rfl (by decide) (Nat.le_of_ble_eq_true rfl) rfl (fun _ => rfl) rfl (fun _ _ => ?_)
  refine r_if_eq 22 hX d_G_place_8 (by decide) (fun c8 => ?_) (fun c8 => ?_)
  · have hn : (if inR r (nI qz) = true then qf (6 * opN r + 1) else -1) = -1 := by have := bI_0 c8; simp [this]
    refine r_iconst (v := -1) hX d_G_place_22 (by decide) ?_
    exact r_iret () hX hF d_G_place_23 trivial (by rw [hn]) rfl
  · have hr := bI_1 c8
    obtain ⟨j, hj, rfl⟩ := inR_of hr (by omega)
    have hn : (if inR (nI j) (nI qz) = true then qf (6 * opN (nI j) + 1) else -1) = qf (6 * j + 1) := by rw [if_pos hr, opN_nI (by omega)]
    refine r_aload_n (i := 0) hX d_G_place_11 rfl rfl ?_
    refine r_get 0 4 hX d_G_place_12 rfl rfl fi_G (by decide) fl_G_32 rfl rfl ?_
    refine r_iload_n (i := 1) hX d_G_place_15 rfl rfl ?_
    refine r_callVi (q0 := 0) [6, 7] hX d_G_place_16 cw_R_placeAt ml_G_98 (c_R_placeAt j (by omega) (by decide)) (Or.inl rfl) rfl rfl rfl rfl (by decide) (Nat.le_of_ble_eq_true rfl) rfl (fun _ => rfl) rfl (fun _ _ => ?_)
    refine r_goto 23 hX d_G_place_19 (by decide) ?_
    exact r_iret () hX hF d_G_place_23 trivial (by rw [hn]) rfl
set_option maxRecDepth 100000 in
set_option maxHeartbeats 4000000 in
theorem c_G_variable (r v : Int32) (hq : qz ≤ 64) : CT l D (tyL cI cZ cN) none y_G_variable b_G_variable 3 (some .long) 1 [.ref (ad 0), .int r, .int v] (WC ad cI cN nn qt tl ch rz rf qz qf nf) (fun _ : Unit => True) (fun _ => some (.long (if inR r (nI qz) = true ∧ inR v (nI 4) = true then (qf (6 * opN r + 2 + opN v)).toInt64 else 1000000000000))) (fun _ => WC ad cI cN nn qt tl ch rz rf qz qf nf) := by
  refine CT.of (by decide) (Nat.le_of_ble_eq_true rfl) ?_
  intro X A hl hX hF
  refine r_aload_n (i := 0) hX d_G_variable_0 rfl rfl ?_
  refine r_get 0 4 hX d_G_variable_1 rfl rfl fi_G (by decide) fl_G_32 rfl rfl ?_
  refine r_iload_n (i := 1) hX d_G_variable_4 rfl rfl ?_
  refine r_callVi (q0 := 0) [6, 7] hX d_G_variable_5 cw_R_has ml_G_88 (c_R_has r) (Or.inl rfl) rfl rfl rfl rfl (by decide) (Nat.le_of_ble_eq_true rfl) rfl (fun _ => rfl) rfl (fun _ _ => ?_)
  refine r_if_eq 31 hX d_G_variable_8 (by decide) (fun c8 => ?_) (fun c8 => ?_)
  · have hn : (if inR r (nI qz) = true ∧ inR v (nI 4) = true then (qf (6 * opN r + 2 + opN v)).toInt64 else 1000000000000) = 1000000000000 := by have := bI_0 c8; simp [this]
    refine r_ldc2 hX d_G_variable_31 kl_G_96 ?_
    exact r_lret () hX hF d_G_variable_34 trivial (by rw [hn]) rfl
  · have hr := bI_1 c8
    refine r_iload_n (i := 2) hX d_G_variable_11 rfl rfl ?_
    refine r_callSi [] hX d_G_variable_12 cw_G_isVariable ml_G_101 (c_G_isVariable v) (Or.inl rfl) rfl rfl (by decide) (Nat.le_of_ble_eq_true rfl) rfl (fun _ => rfl) rfl (fun _ _ => ?_)
    refine r_if_eq 31 hX d_G_variable_15 (by decide) (fun c15 => ?_) (fun c15 => ?_)
    · have hn : (if inR r (nI qz) = true ∧ inR v (nI 4) = true then (qf (6 * opN r + 2 + opN v)).toInt64 else 1000000000000) = 1000000000000 := by have := bI_0 c15; simp [this]
      refine r_ldc2 hX d_G_variable_31 kl_G_96 ?_
      exact r_lret () hX hF d_G_variable_34 trivial (by rw [hn]) rfl
    · have hv := bI_1 c15
      obtain ⟨j, hj, rfl⟩ := inR_of hr (by omega)
      obtain ⟨i, hi, rfl⟩ := inR_of hv (by omega)
      have hn : (if inR (nI j) (nI qz) = true ∧ inR (nI i) (nI 4) = true then (qf (6 * opN (nI j) + 2 + opN (nI i))).toInt64 else 1000000000000) = (qf (6 * j + 2 + i)).toInt64 := by rw [if_pos ⟨hr, hv⟩, opN_nI (by omega), opN_nI (by omega)]
      refine r_aload_n (i := 0) hX d_G_variable_18 rfl rfl ?_
      refine r_get 0 4 hX d_G_variable_19 rfl rfl fi_G (by decide) fl_G_32 rfl rfl ?_
      refine r_iload_n (i := 1) hX d_G_variable_22 rfl rfl ?_
      refine r_iload_n (i := 2) hX d_G_variable_23 rfl rfl ?_
      refine r_callVi (q0 := 0) [6, 7] hX d_G_variable_24 cw_R_variableAt ml_G_104 (c_R_variableAt j i (by omega) (by decide)) (Or.inl rfl) rfl rfl rfl rfl (by decide) (Nat.le_of_ble_eq_true rfl) rfl (fun _ => rfl) rfl (fun _ _ => ?_)
      refine r_i2l hX d_G_variable_27 rfl ?_
      refine r_goto 34 hX d_G_variable_28 (by decide) ?_
      exact r_lret () hX hF d_G_variable_34 trivial (by rw [hn]) rfl
/-- what count answers -/
def cntF (nn tl qz c3 : Nat) (w : Int32) : Int32 := if w = nI 0 then nI nn else if w = nI 1 then nI tl else if w = nI 2 then nI qz else if w = nI 3 then nI c3 else -1
set_option maxRecDepth 100000 in
set_option maxHeartbeats 4000000 in
theorem c_G_count (w : Int32) (hq : qz ≤ 64) : CT l D (tyL cI cZ cN) none y_G_count b_G_count 2 (some .int) 2 [.ref (ad 0), .int w] (WC ad cI cN nn qt tl ch rz rf qz qf nf) (fun _ : Unit => True) (fun _ => some (.int (cntF nn tl qz (cntP qf (nI qt) qz) w))) (fun _ => WC ad cI cN nn qt tl ch rz rf qz qf nf) := by
  refine CT.of (by decide) (Nat.le_of_ble_eq_true rfl) ?_
  intro X A hl hX hF
  refine r_iload_n (i := 1) hX d_G_count_0 rfl rfl ?_
  rcases sw4 w with rfl | rfl | rfl | rfl | ⟨hq4, h0, h1, h2, h3⟩
  · refine r_tableIn (off := 31) 32 hX d_G_count_1 (by decide) (by decide) (by decide) (by decide) ?_
    refine r_aload_n (i := 0) hX d_G_count_32 rfl rfl ?_
    refine r_get 0 2 hX d_G_count_33 rfl rfl fi_G (by decide) fl_G_42 rfl rfl ?_
    exact r_iret () hX hF d_G_count_36 trivial rfl rfl
  · refine r_tableIn (off := 36) 37 hX d_G_count_1 (by decide) (by decide) (by decide) (by decide) ?_
    refine r_aload_n (i := 0) hX d_G_count_37 rfl rfl ?_
    refine r_get 0 0 hX d_G_count_38 rfl rfl fi_G (by decide) fl_G_12 rfl rfl ?_
    refine r_get 1 1 hX d_G_count_41 rfl rfl fi_T (by decide) fl_G_35 rfl rfl ?_
    exact r_iret () hX hF d_G_count_44 trivial rfl rfl
  · refine r_tableIn (off := 44) 45 hX d_G_count_1 (by decide) (by decide) (by decide) (by decide) ?_
    refine r_aload_n (i := 0) hX d_G_count_45 rfl rfl ?_
    refine r_get 0 4 hX d_G_count_46 rfl rfl fi_G (by decide) fl_G_32 rfl rfl ?_
    refine r_get 6 2 hX d_G_count_49 rfl rfl fi_R (by decide) fl_G_114 rfl rfl ?_
    exact r_iret () hX hF d_G_count_52 trivial rfl rfl
  · refine r_tableIn (off := 52) 53 hX d_G_count_1 (by decide) (by decide) (by decide) (by decide) ?_
    refine r_aload_n (i := 0) hX d_G_count_53 rfl rfl ?_
    refine r_get 0 4 hX d_G_count_54 rfl rfl fi_G (by decide) fl_G_32 rfl rfl ?_
    refine r_aload_n (i := 0) hX d_G_count_57 rfl rfl ?_
    refine r_get 0 5 hX d_G_count_58 rfl rfl fi_G (by decide) fl_G_117 rfl rfl ?_
    refine r_callVi (q0 := 0) [6, 7] hX d_G_count_61 cw_R_countAtPlace ml_G_120 (c_R_countAtPlace (nI qt) qz (by omega) (by decide)) (Or.inl rfl) rfl rfl rfl rfl (by decide) (Nat.le_of_ble_eq_true rfl) rfl (fun _ => rfl) rfl (fun _ _ => ?_)
    exact r_iret () hX hF d_G_count_64 trivial rfl rfl
  · refine r_tableOut 65 hX d_G_count_1 hq4 (by decide) ?_
    refine r_iconst (v := -1) hX d_G_count_65 (by decide) ?_
    exact r_iret () hX hF d_G_count_66 trivial (by simp [cntF, h0, h1, h2, h3]) rfl
def typeOk (tl : Nat) (x : Int32) : Bool := decide (¬ x < 0) && decide (¬ nI 255 < x) && decide (tl < 24)
set_option maxRecDepth 100000 in
set_option maxHeartbeats 4000000 in
theorem c_G_type (x : Int32) (ht : tl ≤ 24) : CT l D (tyL cI cZ cN) none y_G_type b_G_type 2 (some .int) 1 [.ref (ad 0), .int x] (WC ad cI cN nn qt tl ch rz rf qz qf nf) (fun _ : Unit => True) (fun _ => some (.int (if typeOk tl x = true then nI (tl + 1) else -1))) (fun _ => WC ad cI cN nn qt (if typeOk tl x = true then tl + 1 else tl) (if typeOk tl x = true then upd ch tl x else ch) rz rf qz qf nf) := by
  refine CT.of (by decide) (Nat.le_of_ble_eq_true rfl) ?_
  intro X A hl hX hF
  refine r_iload_n (i := 1) hX d_G_type_0 rfl rfl ?_
  refine r_if_lt 23 hX d_G_type_1 (by decide) (fun c1 => ?_) (fun c1 => ?_)
  · have hn : typeOk tl x = false := by simp [typeOk, c1]
    refine r_iconst (v := -1) hX d_G_type_23 (by decide) ?_
    exact r_iret () hX hF d_G_type_24 trivial (by rw [hn]; rfl) (by rw [hn]; rfl)
  · refine r_iload_n (i := 1) hX d_G_type_4 rfl rfl ?_
    refine r_sipush (v := nI 255) hX d_G_type_5 (by decide) ?_
    refine r_icmp_gt 23 hX d_G_type_8 (by decide) (fun c8 => ?_) (fun c8 => ?_)
    · have hn : typeOk tl x = false := by simp [typeOk, c8]
      refine r_iconst (v := -1) hX d_G_type_23 (by decide) ?_
      exact r_iret () hX hF d_G_type_24 trivial (by rw [hn]; rfl) (by rw [hn]; rfl)
    · refine r_aload_n (i := 0) hX d_G_type_11 rfl rfl ?_
      refine r_get 0 0 hX d_G_type_12 rfl rfl fi_G (by decide) fl_G_12 rfl rfl ?_
      refine r_get 1 1 hX d_G_type_15 rfl rfl fi_T (by decide) fl_G_35 rfl rfl ?_
      refine r_bipush (v := nI 24) hX d_G_type_18 (by decide) ?_
      refine r_icmp_lt 25 hX d_G_type_20 (by decide) (fun c20 => ?_) (fun c20 => ?_)
      · have ht2 := (nI_ltI (by omega) (by decide)).mp c20
        have hn : typeOk tl x = true := by simp [typeOk, c1, c8, ht2]
        refine r_aload_n (i := 0) hX d_G_type_25 rfl rfl ?_
        refine r_get 0 0 hX d_G_type_26 rfl rfl fi_G (by decide) fl_G_12 rfl rfl ?_
        refine r_iload_n (i := 1) hX d_G_type_29 rfl rfl ?_
        refine r_callVv (q0 := 0) [1, 2] hX d_G_type_30 cw_T_append ml_G_39 (c_T_append x ht2) (Or.inl rfl) rfl rfl rfl rfl (by decide) (Nat.le_of_ble_eq_true rfl) rfl (fun _ => rfl) rfl (fun _ _ => ?_)
        refine r_aload_n (i := 0) hX d_G_type_33 rfl rfl ?_
        refine r_get 0 0 hX d_G_type_34 rfl rfl fi_G (by decide) fl_G_12 rfl rfl ?_
        refine r_get 1 1 hX d_G_type_37 rfl rfl fi_T (by decide) fl_G_35 rfl rfl ?_
        exact r_iret () hX hF d_G_type_40 trivial (by rw [hn]; rfl) (by rw [hn]; rfl)
      · have hn : typeOk tl x = false := by
          have : ¬ tl < 24 := fun h => c20 (nI_lt h (by decide))
          simp [typeOk, this]
        refine r_iconst (v := -1) hX d_G_type_23 (by decide) ?_
        exact r_iret () hX hF d_G_type_24 trivial (by rw [hn]; rfl) (by rw [hn]; rfl)
set_option maxRecDepth 100000 in
set_option maxHeartbeats 4000000 in
theorem c_G_wipe : CT l D (tyL cI cZ cN) none y_G_wipe b_G_wipe 2 (some .int) 0 [.ref (ad 0)] (WC ad cI cN nn qt tl ch rz rf qz qf nf) (fun _ : Unit => True) (fun _ => some (.int (nI tl))) (fun _ => WC ad cI cN nn qt 0 ch rz rf qz qf nf) := by
  refine CT.of (by decide) (Nat.le_of_ble_eq_true rfl) ?_
  intro X A hl hX hF
  refine r_aload_n (i := 0) hX d_G_wipe_0 rfl rfl ?_
  refine r_get 0 0 hX d_G_wipe_1 rfl rfl fi_G (by decide) fl_G_12 rfl rfl ?_
  refine r_get 1 1 hX d_G_wipe_4 rfl rfl fi_T (by decide) fl_G_35 rfl rfl ?_
  refine r_istore_n (i := 1) hX d_G_wipe_7 rfl (by decide) ?_
  refine r_aload_n (i := 0) hX d_G_wipe_8 rfl rfl ?_
  refine r_get 0 0 hX d_G_wipe_9 rfl rfl fi_G (by decide) fl_G_12 rfl rfl ?_
  refine r_iconst (v := nI 0) hX d_G_wipe_12 (by decide) ?_
  refine r_put 1 1 hX d_G_wipe_13 rfl rfl fi_T ft_T_ok fn_T (by decide) fl_G_35 rfl rfl rfl rfl rfl (Nat.le_of_ble_eq_true rfl) ?_
  refine r_iload_n (i := 1) hX d_G_wipe_16 rfl rfl ?_
  exact r_iret () hX hF d_G_wipe_17 trivial rfl rfl
set_option maxRecDepth 100000 in
set_option maxHeartbeats 4000000 in
theorem c_G_clear : CT l D (tyL cI cZ cN) none y_G_clear b_G_clear 2 (some .int) 0 [.ref (ad 0)] (WC ad cI cN nn qt tl ch rz rf qz qf nf) (fun _ : Unit => True) (fun _ => some (.int (nI nn))) (fun _ => WC ad cI cN 0 qt tl ch rz rf qz qf nf) := by
  refine CT.of (by decide) (Nat.le_of_ble_eq_true rfl) ?_
  intro X A hl hX hF
  refine r_aload_n (i := 0) hX d_G_clear_0 rfl rfl ?_
  refine r_get 0 2 hX d_G_clear_1 rfl rfl fi_G (by decide) fl_G_42 rfl rfl ?_
  refine r_istore_n (i := 1) hX d_G_clear_4 rfl (by decide) ?_
  refine r_aload_n (i := 0) hX d_G_clear_5 rfl rfl ?_
  refine r_iconst (v := nI 0) hX d_G_clear_6 (by decide) ?_
  refine r_put 0 2 hX d_G_clear_7 rfl rfl fi_G ft_G_ok fn_G (by decide) fl_G_42 rfl rfl rfl rfl rfl (Nat.le_of_ble_eq_true rfl) ?_
  refine r_iload_n (i := 1) hX d_G_clear_10 rfl rfl ?_
  exact r_iret () hX hF d_G_clear_11 trivial rfl rfl
end ClassA
