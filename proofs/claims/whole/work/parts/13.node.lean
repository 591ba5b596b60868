/-! node: which operands fit, THE BOUND, THE WORK, the LEVEL, and the call itself. -/
theorem m5 {k : Nat} (h : k ≤ 21) : opsN k = 0 ∨ opsN k = 1 ∨ opsN k = 2 ∨ opsN k = 3 ∨ opsN k = 7 := by
  rcases k22 h with rfl | rfl | rfl | rfl | rfl | rfl | rfl | rfl | rfl | rfl | rfl | rfl | rfl | rfl | rfl | rfl | rfl | rfl | rfl | rfl | rfl | rfl <;> decide
/-- the operands that a mask names are free nodes, none named twice -/
def mfit (nn : Nat) (nf : Nat → Nat → Int32) (m : Nat) (a b c : Int32) : Bool :=
  if m = 0 then true else if m = 1 then freeB nn nf a else if m = 2 then freeB nn nf b else if m = 3 then freeB nn nf a && (freeB nn nf b && !decide (a = b)) else freeB nn nf a && (freeB nn nf b && (freeB nn nf c && (!decide (a = b) && (!decide (a = c) && !decide (b = c)))))
def mx (x y : Int32) : Int32 := if x < y then y else x
def lvF (nf : Nat → Nat → Int32) (m : Nat) (a b c : Int32) : Int32 :=
  (if m = 0 then nI 0 else if m = 1 then mx (nI 0) (nf 6 (opN a)) else if m = 2 then mx (nI 0) (nf 6 (opN b)) else if m = 3 then mx (mx (nI 0) (nf 6 (opN a))) (nf 6 (opN b)) else mx (mx (mx (nI 0) (nf 6 (opN a))) (nf 6 (opN b))) (nf 6 (opN c))) + nI 1
def bndF (nf : Nat → Nat → Int32) (k : Nat) (a b c : Int32) : Int32 :=
  if k = 7 then nI 8 else if k = 8 then nf 4 (opN a) else if k = 17 then nf 4 (opN b) else if k = 14 then nI 8 * nf 4 (opN a) * nf 4 (opN b) else if k = 15 then nf 4 (opN a) + nf 4 (opN b) else if k = 18 then (if nf 4 (opN b) < a then nf 4 (opN b) else a) else if k = 19 then mx (nf 4 (opN b)) (nf 4 (opN c)) else if 9 ≤ k ∧ k ≤ 16 then nf 4 (opN a) * nf 4 (opN b) else nI 1
def wkP (nf : Nat → Nat → Int32) (a b : Int32) : Int32 := nI 1 + nf 5 (opN a) + nf 4 (opN a) * nf 5 (opN b)
def wkF (nf : Nat → Nat → Int32) (k : Nat) (a b c : Int32) : Int32 :=
  if k = 7 then nI 8 else if k = 8 ∨ k = 20 ∨ k = 21 then nI 1 + nf 5 (opN a) else if k = 17 ∨ k = 18 then nI 1 + nf 5 (opN b) else if k = 14 then nI 8 * wkP nf a b else if k = 15 then nI 1 + nf 5 (opN a) + nf 5 (opN b) else if k = 19 then nI 1 + nf 5 (opN a) + nf 5 (opN b) + nf 5 (opN c) else if 9 ≤ k ∧ k ≤ 16 then wkP nf a b else nI 1
def namesA (k : Nat) : Prop := 8 ≤ k ∧ k ≠ 17 ∧ k ≠ 18
def namesB (k : Nat) : Prop := 9 ≤ k ∧ k ≤ 19
/-- the operands that the kind names are nodes -/
def okOps (k : Nat) (a b c : Int32) : Prop := (8 ≤ k ∧ k ≠ 17 ∧ k ≠ 18 → ∃ j, j < 60 ∧ a = nI j) ∧ (9 ≤ k ∧ k ≤ 19 → ∃ j, j < 60 ∧ b = nI j) ∧ (k = 19 → ∃ j, j < 60 ∧ c = nI j)
/-- the same by the mask -/
def okM (m : Nat) (a b c : Int32) : Prop := (m = 1 ∨ m = 3 ∨ m = 7 → ∃ j, j < 60 ∧ a = nI j) ∧ (m = 2 ∨ m = 3 ∨ m = 7 → ∃ j, j < 60 ∧ b = nI j) ∧ (m = 7 → ∃ j, j < 60 ∧ c = nI j)
/-- the named operands become used -/
def useN (nf : Nat → Nat → Int32) (m : Nat) (a b c : Int32) : Nat → Nat → Int32 :=
  if m = 0 then nf else if m = 1 then nfU nf 7 (opN a) (nI 1) else if m = 2 then nfU nf 7 (opN b) (nI 1) else if m = 3 then nfU (nfU nf 7 (opN a) (nI 1)) 7 (opN b) (nI 1) else nfU (nfU (nfU nf 7 (opN a) (nI 1)) 7 (opN b) (nI 1)) 7 (opN c) (nI 1)
section ClassB
variable {l : Launch} {D : va_G} {cI cZ cN : ClassId} {ad : Nat → Nat} {nn qt tl rz qz : Nat} {ch rf qf : Nat → Int32} {nf : Nat → Nat → Int32}
set_option maxRecDepth 100000 in
set_option maxHeartbeats 4000000 in
theorem c_G_areNodeOperandsFit (m : Nat) (a b c : Int32) (hm : m = 0 ∨ m = 1 ∨ m = 2 ∨ m = 3 ∨ m = 7) (hnn : nn ≤ 60) : CT l D (tyL cI cZ cN) none y_G_areNodeOperandsFit b_G_areNodeOperandsFit 9 (some .boolean) 2 [.ref (ad 0), .int (nI m), .int a, .int b, .int c] (WC ad cI cN nn qt tl ch rz rf qz qf nf) (fun _ : Unit => True) (fun _ => some (.int (bI (mfit nn nf m a b c)))) (fun _ => (WC ad cI cN nn qt tl ch rz rf qz qf nf)) := by
  refine CT.of (by decide) (Nat.le_of_ble_eq_true rfl) ?_
  intro X A hl hX hF
  have tail : ∀ t : Bool, mfit nn nf m a b c = !t → RR X 9 D A 0 0 (WC ad cI cN nn qt tl ch rz rf qz qf nf) [(8, .int (bI t))] 135 [] := by
    intro t ht
    cases t with
    | false =>
      refine r_iload hX d_G_areNodeOperandsFit_135 rfl ?_
      refine r_if_ne 144 hX d_G_areNodeOperandsFit_137 (by decide) (fun c137 => absurd (by decide) c137) (fun c137 => ?_)
      refine r_iconst (v := nI 1) hX d_G_areNodeOperandsFit_140 (by decide) ?_
      refine r_goto 145 hX d_G_areNodeOperandsFit_141 (by decide) ?_
      exact r_zret () hX hF d_G_areNodeOperandsFit_145 rfl trivial (by rw [ht]; rfl) rfl
    | true =>
      refine r_iload hX d_G_areNodeOperandsFit_135 rfl ?_
      refine r_if_ne 144 hX d_G_areNodeOperandsFit_137 (by decide) (fun c137 => ?_) (fun c137 => absurd c137 (by decide))
      refine r_iconst (v := nI 0) hX d_G_areNodeOperandsFit_144 (by decide) ?_
      exact r_zret () hX hF d_G_areNodeOperandsFit_145 rfl trivial (by rw [ht]; rfl) rfl
  rcases hm with rfl | rfl | rfl | rfl | rfl
  ·
    refine r_iload_n (i := 1) hX d_G_areNodeOperandsFit_0 rfl rfl ?_
    refine r_iconst (v := nI 1) hX d_G_areNodeOperandsFit_1 (by decide) ?_
    refine r_iand hX d_G_areNodeOperandsFit_2 ?_
    refine r_if_eq 10 hX d_G_areNodeOperandsFit_3 (by decide) (fun c3 => ?_) (fun c3 => absurd (by decide) c3)
    refine r_iconst (v := nI 0) hX d_G_areNodeOperandsFit_10 (by decide) ?_
    refine r_istore hX d_G_areNodeOperandsFit_11 (by decide) ?_
    refine r_iload_n (i := 1) hX d_G_areNodeOperandsFit_13 rfl rfl ?_
    refine r_iconst (v := nI 2) hX d_G_areNodeOperandsFit_14 (by decide) ?_
    refine r_iand hX d_G_areNodeOperandsFit_15 ?_
    refine r_if_eq 23 hX d_G_areNodeOperandsFit_16 (by decide) (fun c16 => ?_) (fun c16 => absurd (by decide) c16)
    refine r_iconst (v := nI 0) hX d_G_areNodeOperandsFit_23 (by decide) ?_
    refine r_istore hX d_G_areNodeOperandsFit_24 (by decide) ?_
    refine r_iload_n (i := 1) hX d_G_areNodeOperandsFit_26 rfl rfl ?_
    refine r_iconst (v := nI 4) hX d_G_areNodeOperandsFit_27 (by decide) ?_
    refine r_iand hX d_G_areNodeOperandsFit_28 ?_
    refine r_if_eq 36 hX d_G_areNodeOperandsFit_29 (by decide) (fun c29 => ?_) (fun c29 => absurd (by decide) c29)
    refine r_iconst (v := nI 0) hX d_G_areNodeOperandsFit_36 (by decide) ?_
    refine r_istore hX d_G_areNodeOperandsFit_37 (by decide) ?_
    refine r_iload hX d_G_areNodeOperandsFit_39 rfl ?_
    refine r_if_eq 52 hX d_G_areNodeOperandsFit_41 (by decide) (fun c41 => ?_) (fun c41 => absurd (by decide) c41)
    refine r_iload hX d_G_areNodeOperandsFit_52 rfl ?_
    refine r_if_eq 65 hX d_G_areNodeOperandsFit_54 (by decide) (fun c54 => ?_) (fun c54 => absurd (by decide) c54)
    refine r_iload hX d_G_areNodeOperandsFit_65 rfl ?_
    refine r_if_eq 81 hX d_G_areNodeOperandsFit_67 (by decide) (fun c67 => ?_) (fun c67 => absurd (by decide) c67)
    refine r_iload hX d_G_areNodeOperandsFit_81 rfl ?_
    refine r_if_eq 96 hX d_G_areNodeOperandsFit_83 (by decide) (fun c83 => ?_) (fun c83 => absurd (by decide) c83)
    refine r_iload hX d_G_areNodeOperandsFit_96 rfl ?_
    refine r_if_eq 112 hX d_G_areNodeOperandsFit_98 (by decide) (fun c98 => ?_) (fun c98 => absurd (by decide) c98)
    refine r_iload hX d_G_areNodeOperandsFit_112 rfl ?_
    refine r_if_eq 132 hX d_G_areNodeOperandsFit_114 (by decide) (fun c114 => ?_) (fun c114 => absurd (by decide) c114)
    have hn : mfit nn nf 0 a b c = !false := by simp [mfit]
    refine r_iconst (v := nI 0) hX d_G_areNodeOperandsFit_132 (by decide) ?_
    refine r_istore hX d_G_areNodeOperandsFit_133 (by decide) ?_
    exact r_lv [8] (tail false hn)
  ·
    refine r_iload_n (i := 1) hX d_G_areNodeOperandsFit_0 rfl rfl ?_
    refine r_iconst (v := nI 1) hX d_G_areNodeOperandsFit_1 (by decide) ?_
    refine r_iand hX d_G_areNodeOperandsFit_2 ?_
    refine r_if_eq 10 hX d_G_areNodeOperandsFit_3 (by decide) (fun c3 => absurd c3 (by decide)) (fun c3 => ?_)
    refine r_iconst (v := nI 1) hX d_G_areNodeOperandsFit_6 (by decide) ?_
    refine r_goto 11 hX d_G_areNodeOperandsFit_7 (by decide) ?_
    refine r_istore hX d_G_areNodeOperandsFit_11 (by decide) ?_
    refine r_iload_n (i := 1) hX d_G_areNodeOperandsFit_13 rfl rfl ?_
    refine r_iconst (v := nI 2) hX d_G_areNodeOperandsFit_14 (by decide) ?_
    refine r_iand hX d_G_areNodeOperandsFit_15 ?_
    refine r_if_eq 23 hX d_G_areNodeOperandsFit_16 (by decide) (fun c16 => ?_) (fun c16 => absurd (by decide) c16)
    refine r_iconst (v := nI 0) hX d_G_areNodeOperandsFit_23 (by decide) ?_
    refine r_istore hX d_G_areNodeOperandsFit_24 (by decide) ?_
    refine r_iload_n (i := 1) hX d_G_areNodeOperandsFit_26 rfl rfl ?_
    refine r_iconst (v := nI 4) hX d_G_areNodeOperandsFit_27 (by decide) ?_
    refine r_iand hX d_G_areNodeOperandsFit_28 ?_
    refine r_if_eq 36 hX d_G_areNodeOperandsFit_29 (by decide) (fun c29 => ?_) (fun c29 => absurd (by decide) c29)
    refine r_iconst (v := nI 0) hX d_G_areNodeOperandsFit_36 (by decide) ?_
    refine r_istore hX d_G_areNodeOperandsFit_37 (by decide) ?_
    refine r_iload hX d_G_areNodeOperandsFit_39 rfl ?_
    refine r_if_eq 52 hX d_G_areNodeOperandsFit_41 (by decide) (fun c41 => absurd c41 (by decide)) (fun c41 => ?_)
    refine r_aload_n (i := 0) hX d_G_areNodeOperandsFit_44 rfl rfl ?_
    refine r_iload_n (i := 2) hX d_G_areNodeOperandsFit_45 rfl rfl ?_
    refine r_callVwi (q0 := 0) hX d_G_areNodeOperandsFit_46 cw_G_isFree ml_G_126 (c_G_isFree a hnn) (Or.inl rfl) rfl rfl rfl rfl (by decide) (Nat.le_of_ble_eq_true rfl) (fun _ => rfl) (fun _ _ => ?_)
    refine r_if_eq 79 hX d_G_areNodeOperandsFit_49 (by decide) (fun c49 => ?_) (fun c49 => ?_)
    · have hn : mfit nn nf 1 a b c = false := by have := bI_0 c49; simp [mfit, this]
      refine r_iconst (v := nI 0) hX d_G_areNodeOperandsFit_79 (by decide) ?_
      exact r_zret () hX hF d_G_areNodeOperandsFit_80 rfl trivial (by rw [hn]; rfl) rfl
    · have hfa := bI_1 c49
      refine r_iload hX d_G_areNodeOperandsFit_52 rfl ?_
      refine r_if_eq 65 hX d_G_areNodeOperandsFit_54 (by decide) (fun c54 => ?_) (fun c54 => absurd (by decide) c54)
      refine r_iload hX d_G_areNodeOperandsFit_65 rfl ?_
      refine r_if_eq 81 hX d_G_areNodeOperandsFit_67 (by decide) (fun c67 => ?_) (fun c67 => absurd (by decide) c67)
      refine r_iload hX d_G_areNodeOperandsFit_81 rfl ?_
      refine r_if_eq 96 hX d_G_areNodeOperandsFit_83 (by decide) (fun c83 => absurd c83 (by decide)) (fun c83 => ?_)
      refine r_iload hX d_G_areNodeOperandsFit_86 rfl ?_
      refine r_if_eq 96 hX d_G_areNodeOperandsFit_88 (by decide) (fun c88 => ?_) (fun c88 => absurd (by decide) c88)
      refine r_iload hX d_G_areNodeOperandsFit_96 rfl ?_
      refine r_if_eq 112 hX d_G_areNodeOperandsFit_98 (by decide) (fun c98 => absurd c98 (by decide)) (fun c98 => ?_)
      refine r_iload hX d_G_areNodeOperandsFit_101 rfl ?_
      refine r_if_eq 112 hX d_G_areNodeOperandsFit_103 (by decide) (fun c103 => ?_) (fun c103 => absurd (by decide) c103)
      refine r_iload hX d_G_areNodeOperandsFit_112 rfl ?_
      refine r_if_eq 132 hX d_G_areNodeOperandsFit_114 (by decide) (fun c114 => ?_) (fun c114 => absurd (by decide) c114)
      have hn : mfit nn nf 1 a b c = !false := by simp [mfit, hfa]
      refine r_iconst (v := nI 0) hX d_G_areNodeOperandsFit_132 (by decide) ?_
      refine r_istore hX d_G_areNodeOperandsFit_133 (by decide) ?_
      exact r_lv [8] (tail false hn)
  ·
    refine r_iload_n (i := 1) hX d_G_areNodeOperandsFit_0 rfl rfl ?_
    refine r_iconst (v := nI 1) hX d_G_areNodeOperandsFit_1 (by decide) ?_
    refine r_iand hX d_G_areNodeOperandsFit_2 ?_
    refine r_if_eq 10 hX d_G_areNodeOperandsFit_3 (by decide) (fun c3 => ?_) (fun c3 => absurd (by decide) c3)
    refine r_iconst (v := nI 0) hX d_G_areNodeOperandsFit_10 (by decide) ?_
    refine r_istore hX d_G_areNodeOperandsFit_11 (by decide) ?_
    refine r_iload_n (i := 1) hX d_G_areNodeOperandsFit_13 rfl rfl ?_
    refine r_iconst (v := nI 2) hX d_G_areNodeOperandsFit_14 (by decide) ?_
    refine r_iand hX d_G_areNodeOperandsFit_15 ?_
    refine r_if_eq 23 hX d_G_areNodeOperandsFit_16 (by decide) (fun c16 => absurd c16 (by decide)) (fun c16 => ?_)
    refine r_iconst (v := nI 1) hX d_G_areNodeOperandsFit_19 (by decide) ?_
    refine r_goto 24 hX d_G_areNodeOperandsFit_20 (by decide) ?_
    refine r_istore hX d_G_areNodeOperandsFit_24 (by decide) ?_
    refine r_iload_n (i := 1) hX d_G_areNodeOperandsFit_26 rfl rfl ?_
    refine r_iconst (v := nI 4) hX d_G_areNodeOperandsFit_27 (by decide) ?_
    refine r_iand hX d_G_areNodeOperandsFit_28 ?_
    refine r_if_eq 36 hX d_G_areNodeOperandsFit_29 (by decide) (fun c29 => ?_) (fun c29 => absurd (by decide) c29)
    refine r_iconst (v := nI 0) hX d_G_areNodeOperandsFit_36 (by decide) ?_
    refine r_istore hX d_G_areNodeOperandsFit_37 (by decide) ?_
    refine r_iload hX d_G_areNodeOperandsFit_39 rfl ?_
    refine r_if_eq 52 hX d_G_areNodeOperandsFit_41 (by decide) (fun c41 => ?_) (fun c41 => absurd (by decide) c41)
    refine r_iload hX d_G_areNodeOperandsFit_52 rfl ?_
    refine r_if_eq 65 hX d_G_areNodeOperandsFit_54 (by decide) (fun c54 => absurd c54 (by decide)) (fun c54 => ?_)
    refine r_aload_n (i := 0) hX d_G_areNodeOperandsFit_57 rfl rfl ?_
    refine r_iload_n (i := 3) hX d_G_areNodeOperandsFit_58 rfl rfl ?_
    refine r_callVwi (q0 := 0) hX d_G_areNodeOperandsFit_59 cw_G_isFree ml_G_126 (c_G_isFree b hnn) (Or.inl rfl) rfl rfl rfl rfl (by decide) (Nat.le_of_ble_eq_true rfl) (fun _ => rfl) (fun _ _ => ?_)
    refine r_if_eq 79 hX d_G_areNodeOperandsFit_62 (by decide) (fun c62 => ?_) (fun c62 => ?_)
    · have hn : mfit nn nf 2 a b c = false := by have := bI_0 c62; simp [mfit, this]
      refine r_iconst (v := nI 0) hX d_G_areNodeOperandsFit_79 (by decide) ?_
      exact r_zret () hX hF d_G_areNodeOperandsFit_80 rfl trivial (by rw [hn]; rfl) rfl
    · have hfb := bI_1 c62
      refine r_iload hX d_G_areNodeOperandsFit_65 rfl ?_
      refine r_if_eq 81 hX d_G_areNodeOperandsFit_67 (by decide) (fun c67 => ?_) (fun c67 => absurd (by decide) c67)
      refine r_iload hX d_G_areNodeOperandsFit_81 rfl ?_
      refine r_if_eq 96 hX d_G_areNodeOperandsFit_83 (by decide) (fun c83 => ?_) (fun c83 => absurd (by decide) c83)
      refine r_iload hX d_G_areNodeOperandsFit_96 rfl ?_
      refine r_if_eq 112 hX d_G_areNodeOperandsFit_98 (by decide) (fun c98 => ?_) (fun c98 => absurd (by decide) c98)
      refine r_iload hX d_G_areNodeOperandsFit_112 rfl ?_
      refine r_if_eq 132 hX d_G_areNodeOperandsFit_114 (by decide) (fun c114 => absurd c114 (by decide)) (fun c114 => ?_)
      refine r_iload hX d_G_areNodeOperandsFit_117 rfl ?_
      refine r_if_eq 132 hX d_G_areNodeOperandsFit_119 (by decide) (fun c119 => ?_) (fun c119 => absurd (by decide) c119)
      have hn : mfit nn nf 2 a b c = !false := by simp [mfit, hfb]
      refine r_iconst (v := nI 0) hX d_G_areNodeOperandsFit_132 (by decide) ?_
      refine r_istore hX d_G_areNodeOperandsFit_133 (by decide) ?_
      exact r_lv [8] (tail false hn)
  ·
    refine r_iload_n (i := 1) hX d_G_areNodeOperandsFit_0 rfl rfl ?_
    refine r_iconst (v := nI 1) hX d_G_areNodeOperandsFit_1 (by decide) ?_
    refine r_iand hX d_G_areNodeOperandsFit_2 ?_
    refine r_if_eq 10 hX d_G_areNodeOperandsFit_3 (by decide) (fun c3 => absurd c3 (by decide)) (fun c3 => ?_)
    refine r_iconst (v := nI 1) hX d_G_areNodeOperandsFit_6 (by decide) ?_
    refine r_goto 11 hX d_G_areNodeOperandsFit_7 (by decide) ?_
    refine r_istore hX d_G_areNodeOperandsFit_11 (by decide) ?_
    refine r_iload_n (i := 1) hX d_G_areNodeOperandsFit_13 rfl rfl ?_
    refine r_iconst (v := nI 2) hX d_G_areNodeOperandsFit_14 (by decide) ?_
    refine r_iand hX d_G_areNodeOperandsFit_15 ?_
    refine r_if_eq 23 hX d_G_areNodeOperandsFit_16 (by decide) (fun c16 => absurd c16 (by decide)) (fun c16 => ?_)
    refine r_iconst (v := nI 1) hX d_G_areNodeOperandsFit_19 (by decide) ?_
    refine r_goto 24 hX d_G_areNodeOperandsFit_20 (by decide) ?_
    refine r_istore hX d_G_areNodeOperandsFit_24 (by decide) ?_
    refine r_iload_n (i := 1) hX d_G_areNodeOperandsFit_26 rfl rfl ?_
    refine r_iconst (v := nI 4) hX d_G_areNodeOperandsFit_27 (by decide) ?_
    refine r_iand hX d_G_areNodeOperandsFit_28 ?_
    refine r_if_eq 36 hX d_G_areNodeOperandsFit_29 (by decide) (fun c29 => ?_) (fun c29 => absurd (by decide) c29)
    refine r_iconst (v := nI 0) hX d_G_areNodeOperandsFit_36 (by decide) ?_
    refine r_istore hX d_G_areNodeOperandsFit_37 (by decide) ?_
    refine r_iload hX d_G_areNodeOperandsFit_39 rfl ?_
    refine r_if_eq 52 hX d_G_areNodeOperandsFit_41 (by decide) (fun c41 => absurd c41 (by decide)) (fun c41 => ?_)
    refine r_aload_n (i := 0) hX d_G_areNodeOperandsFit_44 rfl rfl ?_
    refine r_iload_n (i := 2) hX d_G_areNodeOperandsFit_45 rfl rfl ?_
    refine r_callVwi (q0 := 0) hX d_G_areNodeOperandsFit_46 cw_G_isFree ml_G_126 (c_G_isFree a hnn) (Or.inl rfl) rfl rfl rfl rfl (by decide) (Nat.le_of_ble_eq_true rfl) (fun _ => rfl) (fun _ _ => ?_)
    refine r_if_eq 79 hX d_G_areNodeOperandsFit_49 (by decide) (fun c49 => ?_) (fun c49 => ?_)
    · have hn : mfit nn nf 3 a b c = false := by have := bI_0 c49; simp [mfit, this]
      refine r_iconst (v := nI 0) hX d_G_areNodeOperandsFit_79 (by decide) ?_
      exact r_zret () hX hF d_G_areNodeOperandsFit_80 rfl trivial (by rw [hn]; rfl) rfl
    · have hfa := bI_1 c49
      refine r_iload hX d_G_areNodeOperandsFit_52 rfl ?_
      refine r_if_eq 65 hX d_G_areNodeOperandsFit_54 (by decide) (fun c54 => absurd c54 (by decide)) (fun c54 => ?_)
      refine r_aload_n (i := 0) hX d_G_areNodeOperandsFit_57 rfl rfl ?_
      refine r_iload_n (i := 3) hX d_G_areNodeOperandsFit_58 rfl rfl ?_
      refine r_callVwi (q0 := 0) hX d_G_areNodeOperandsFit_59 cw_G_isFree ml_G_126 (c_G_isFree b hnn) (Or.inl rfl) rfl rfl rfl rfl (by decide) (Nat.le_of_ble_eq_true rfl) (fun _ => rfl) (fun _ _ => ?_)
      refine r_if_eq 79 hX d_G_areNodeOperandsFit_62 (by decide) (fun c62 => ?_) (fun c62 => ?_)
      · have hn : mfit nn nf 3 a b c = false := by have := bI_0 c62; simp [mfit, this]
        refine r_iconst (v := nI 0) hX d_G_areNodeOperandsFit_79 (by decide) ?_
        exact r_zret () hX hF d_G_areNodeOperandsFit_80 rfl trivial (by rw [hn]; rfl) rfl
      · have hfb := bI_1 c62
        refine r_iload hX d_G_areNodeOperandsFit_65 rfl ?_
        refine r_if_eq 81 hX d_G_areNodeOperandsFit_67 (by decide) (fun c67 => ?_) (fun c67 => absurd (by decide) c67)
        refine r_iload hX d_G_areNodeOperandsFit_81 rfl ?_
        refine r_if_eq 96 hX d_G_areNodeOperandsFit_83 (by decide) (fun c83 => absurd c83 (by decide)) (fun c83 => ?_)
        refine r_iload hX d_G_areNodeOperandsFit_86 rfl ?_
        refine r_if_eq 96 hX d_G_areNodeOperandsFit_88 (by decide) (fun c88 => absurd c88 (by decide)) (fun c88 => ?_)
        refine r_iload_n (i := 2) hX d_G_areNodeOperandsFit_91 rfl rfl ?_
        refine r_iload_n (i := 3) hX d_G_areNodeOperandsFit_92 rfl rfl ?_
        refine r_icmp_eq 128 hX d_G_areNodeOperandsFit_93 (by decide) (fun c93 => ?_) (fun c93 => ?_)
        · have hn : mfit nn nf 3 a b c = !true := by simp [mfit, c93]
          refine r_iconst (v := nI 1) hX d_G_areNodeOperandsFit_128 (by decide) ?_
          refine r_goto 133 hX d_G_areNodeOperandsFit_129 (by decide) ?_
          refine r_istore hX d_G_areNodeOperandsFit_133 (by decide) ?_
          exact r_lv [8] (tail true hn)
        · refine r_iload hX d_G_areNodeOperandsFit_96 rfl ?_
          refine r_if_eq 112 hX d_G_areNodeOperandsFit_98 (by decide) (fun c98 => absurd c98 (by decide)) (fun c98 => ?_)
          refine r_iload hX d_G_areNodeOperandsFit_101 rfl ?_
          refine r_if_eq 112 hX d_G_areNodeOperandsFit_103 (by decide) (fun c103 => ?_) (fun c103 => absurd (by decide) c103)
          refine r_iload hX d_G_areNodeOperandsFit_112 rfl ?_
          refine r_if_eq 132 hX d_G_areNodeOperandsFit_114 (by decide) (fun c114 => absurd c114 (by decide)) (fun c114 => ?_)
          refine r_iload hX d_G_areNodeOperandsFit_117 rfl ?_
          refine r_if_eq 132 hX d_G_areNodeOperandsFit_119 (by decide) (fun c119 => ?_) (fun c119 => absurd (by decide) c119)
          have hn : mfit nn nf 3 a b c = !false := by simp [mfit, hfa, hfb, c93]
          refine r_iconst (v := nI 0) hX d_G_areNodeOperandsFit_132 (by decide) ?_
          refine r_istore hX d_G_areNodeOperandsFit_133 (by decide) ?_
          exact r_lv [8] (tail false hn)
  ·
    refine r_iload_n (i := 1) hX d_G_areNodeOperandsFit_0 rfl rfl ?_
    refine r_iconst (v := nI 1) hX d_G_areNodeOperandsFit_1 (by decide) ?_
    refine r_iand hX d_G_areNodeOperandsFit_2 ?_
    refine r_if_eq 10 hX d_G_areNodeOperandsFit_3 (by decide) (fun c3 => absurd c3 (by decide)) (fun c3 => ?_)
    refine r_iconst (v := nI 1) hX d_G_areNodeOperandsFit_6 (by decide) ?_
    refine r_goto 11 hX d_G_areNodeOperandsFit_7 (by decide) ?_
    refine r_istore hX d_G_areNodeOperandsFit_11 (by decide) ?_
    refine r_iload_n (i := 1) hX d_G_areNodeOperandsFit_13 rfl rfl ?_
    refine r_iconst (v := nI 2) hX d_G_areNodeOperandsFit_14 (by decide) ?_
    refine r_iand hX d_G_areNodeOperandsFit_15 ?_
    refine r_if_eq 23 hX d_G_areNodeOperandsFit_16 (by decide) (fun c16 => absurd c16 (by decide)) (fun c16 => ?_)
    refine r_iconst (v := nI 1) hX d_G_areNodeOperandsFit_19 (by decide) ?_
    refine r_goto 24 hX d_G_areNodeOperandsFit_20 (by decide) ?_
    refine r_istore hX d_G_areNodeOperandsFit_24 (by decide) ?_
    refine r_iload_n (i := 1) hX d_G_areNodeOperandsFit_26 rfl rfl ?_
    refine r_iconst (v := nI 4) hX d_G_areNodeOperandsFit_27 (by decide) ?_
    refine r_iand hX d_G_areNodeOperandsFit_28 ?_
    refine r_if_eq 36 hX d_G_areNodeOperandsFit_29 (by decide) (fun c29 => absurd c29 (by decide)) (fun c29 => ?_)
    refine r_iconst (v := nI 1) hX d_G_areNodeOperandsFit_32 (by decide) ?_
    refine r_goto 37 hX d_G_areNodeOperandsFit_33 (by decide) ?_
    refine r_istore hX d_G_areNodeOperandsFit_37 (by decide) ?_
    refine r_iload hX d_G_areNodeOperandsFit_39 rfl ?_
    refine r_if_eq 52 hX d_G_areNodeOperandsFit_41 (by decide) (fun c41 => absurd c41 (by decide)) (fun c41 => ?_)
    refine r_aload_n (i := 0) hX d_G_areNodeOperandsFit_44 rfl rfl ?_
    refine r_iload_n (i := 2) hX d_G_areNodeOperandsFit_45 rfl rfl ?_
    refine r_callVwi (q0 := 0) hX d_G_areNodeOperandsFit_46 cw_G_isFree ml_G_126 (c_G_isFree a hnn) (Or.inl rfl) rfl rfl rfl rfl (by decide) (Nat.le_of_ble_eq_true rfl) (fun _ => rfl) (fun _ _ => ?_)
    refine r_if_eq 79 hX d_G_areNodeOperandsFit_49 (by decide) (fun c49 => ?_) (fun c49 => ?_)
    · have hn : mfit nn nf 7 a b c = false := by have := bI_0 c49; simp [mfit, this]
      refine r_iconst (v := nI 0) hX d_G_areNodeOperandsFit_79 (by decide) ?_
      exact r_zret () hX hF d_G_areNodeOperandsFit_80 rfl trivial (by rw [hn]; rfl) rfl
    · have hfa := bI_1 c49
      refine r_iload hX d_G_areNodeOperandsFit_52 rfl ?_
      refine r_if_eq 65 hX d_G_areNodeOperandsFit_54 (by decide) (fun c54 => absurd c54 (by decide)) (fun c54 => ?_)
      refine r_aload_n (i := 0) hX d_G_areNodeOperandsFit_57 rfl rfl ?_
      refine r_iload_n (i := 3) hX d_G_areNodeOperandsFit_58 rfl rfl ?_
      refine r_callVwi (q0 := 0) hX d_G_areNodeOperandsFit_59 cw_G_isFree ml_G_126 (c_G_isFree b hnn) (Or.inl rfl) rfl rfl rfl rfl (by decide) (Nat.le_of_ble_eq_true rfl) (fun _ => rfl) (fun _ _ => ?_)
      refine r_if_eq 79 hX d_G_areNodeOperandsFit_62 (by decide) (fun c62 => ?_) (fun c62 => ?_)
      · have hn : mfit nn nf 7 a b c = false := by have := bI_0 c62; simp [mfit, this]
        refine r_iconst (v := nI 0) hX d_G_areNodeOperandsFit_79 (by decide) ?_
        exact r_zret () hX hF d_G_areNodeOperandsFit_80 rfl trivial (by rw [hn]; rfl) rfl
      · have hfb := bI_1 c62
        refine r_iload hX d_G_areNodeOperandsFit_65 rfl ?_
        refine r_if_eq 81 hX d_G_areNodeOperandsFit_67 (by decide) (fun c67 => absurd c67 (by decide)) (fun c67 => ?_)
        refine r_aload_n (i := 0) hX d_G_areNodeOperandsFit_70 rfl rfl ?_
        refine r_iload hX d_G_areNodeOperandsFit_71 rfl ?_
        refine r_callVwi (q0 := 0) hX d_G_areNodeOperandsFit_73 cw_G_isFree ml_G_126 (c_G_isFree c hnn) (Or.inl rfl) rfl rfl rfl rfl (by decide) (Nat.le_of_ble_eq_true rfl) (fun _ => rfl) (fun _ _ => ?_)
        refine r_if_ne 81 hX d_G_areNodeOperandsFit_76 (by decide) (fun c76 => ?_) (fun c76 => ?_)
        · have hfc := bI_1 c76
          refine r_iload hX d_G_areNodeOperandsFit_81 rfl ?_
          refine r_if_eq 96 hX d_G_areNodeOperandsFit_83 (by decide) (fun c83 => absurd c83 (by decide)) (fun c83 => ?_)
          refine r_iload hX d_G_areNodeOperandsFit_86 rfl ?_
          refine r_if_eq 96 hX d_G_areNodeOperandsFit_88 (by decide) (fun c88 => absurd c88 (by decide)) (fun c88 => ?_)
          refine r_iload_n (i := 2) hX d_G_areNodeOperandsFit_91 rfl rfl ?_
          refine r_iload_n (i := 3) hX d_G_areNodeOperandsFit_92 rfl rfl ?_
          refine r_icmp_eq 128 hX d_G_areNodeOperandsFit_93 (by decide) (fun c93 => ?_) (fun c93 => ?_)
          · have hn : mfit nn nf 7 a b c = !true := by simp [mfit, c93]
            refine r_iconst (v := nI 1) hX d_G_areNodeOperandsFit_128 (by decide) ?_
            refine r_goto 133 hX d_G_areNodeOperandsFit_129 (by decide) ?_
            refine r_istore hX d_G_areNodeOperandsFit_133 (by decide) ?_
            exact r_lv [8] (tail true hn)
          · refine r_iload hX d_G_areNodeOperandsFit_96 rfl ?_
            refine r_if_eq 112 hX d_G_areNodeOperandsFit_98 (by decide) (fun c98 => absurd c98 (by decide)) (fun c98 => ?_)
            refine r_iload hX d_G_areNodeOperandsFit_101 rfl ?_
            refine r_if_eq 112 hX d_G_areNodeOperandsFit_103 (by decide) (fun c103 => absurd c103 (by decide)) (fun c103 => ?_)
            refine r_iload_n (i := 2) hX d_G_areNodeOperandsFit_106 rfl rfl ?_
            refine r_iload hX d_G_areNodeOperandsFit_107 rfl ?_
            refine r_icmp_eq 128 hX d_G_areNodeOperandsFit_109 (by decide) (fun c109 => ?_) (fun c109 => ?_)
            · have hn : mfit nn nf 7 a b c = !true := by simp [mfit, c109]
              refine r_iconst (v := nI 1) hX d_G_areNodeOperandsFit_128 (by decide) ?_
              refine r_goto 133 hX d_G_areNodeOperandsFit_129 (by decide) ?_
              refine r_istore hX d_G_areNodeOperandsFit_133 (by decide) ?_
              exact r_lv [8] (tail true hn)
            · refine r_iload hX d_G_areNodeOperandsFit_112 rfl ?_
              refine r_if_eq 132 hX d_G_areNodeOperandsFit_114 (by decide) (fun c114 => absurd c114 (by decide)) (fun c114 => ?_)
              refine r_iload hX d_G_areNodeOperandsFit_117 rfl ?_
              refine r_if_eq 132 hX d_G_areNodeOperandsFit_119 (by decide) (fun c119 => absurd c119 (by decide)) (fun c119 => ?_)
              refine r_iload_n (i := 3) hX d_G_areNodeOperandsFit_122 rfl rfl ?_
              refine r_iload hX d_G_areNodeOperandsFit_123 rfl ?_
              refine r_icmp_ne 132 hX d_G_areNodeOperandsFit_125 (by decide) (fun c125 => ?_) (fun c125 => ?_)
              · have hn : mfit nn nf 7 a b c = !false := by simp [mfit, hfa, hfb, hfc, c93, c109, c125]
                refine r_iconst (v := nI 0) hX d_G_areNodeOperandsFit_132 (by decide) ?_
                refine r_istore hX d_G_areNodeOperandsFit_133 (by decide) ?_
                exact r_lv [8] (tail false hn)
              · have hn : mfit nn nf 7 a b c = !true := by simp [mfit, c125]
                refine r_iconst (v := nI 1) hX d_G_areNodeOperandsFit_128 (by decide) ?_
                refine r_goto 133 hX d_G_areNodeOperandsFit_129 (by decide) ?_
                refine r_istore hX d_G_areNodeOperandsFit_133 (by decide) ?_
                exact r_lv [8] (tail true hn)
        · have hn : mfit nn nf 7 a b c = false := by have := bI_0 c76; simp [mfit, this]
          refine r_iconst (v := nI 0) hX d_G_areNodeOperandsFit_79 (by decide) ?_
          exact r_zret () hX hF d_G_areNodeOperandsFit_80 rfl trivial (by rw [hn]; rfl) rfl
set_option maxRecDepth 100000 in
set_option maxHeartbeats 4000000 in
theorem c_G_useOperands {t : Nat} (i k m : Nat) (a b c : Int32) (hi60 : i < 60) (hkd : nf 0 i = nI k) (hk : k ≤ 21) (hmk : opsN k = m) (ha : nf 1 i = a) (hb : nf 2 i = b) (hc : nf 3 i = c) (hok : okM m a b c) : CT l D (tyL cI cZ cN) (some t) y_G_useOperands b_G_useOperands 3 none 0 [.ref (ad 0), .ref (ad (8 + i))] (WC ad cI cN nn qt tl ch rz rf qz qf nf) (fun _ : Unit => True) (fun _ => none) (fun _ => WC ad cI cN nn qt tl ch rz rf qz qf (useN nf m a b c)) := by
  refine CT.of (by decide) (Nat.le_of_ble_eq_true rfl) ?_
  intro X A hl hX hF
  have hm := m5 hk
  rw [hmk] at hm
  rcases hm with rfl | rfl | rfl | rfl | rfl
  · skip
    refine r_gets (ref := "") hX d_G_useOperands_0 fl_G_49 ?_
    refine r_aload_n (i := 1) hX d_G_useOperands_3 rfl rfl ?_
    refine r_get (8 + i) 0 hX d_G_useOperands_4 (wc_at rfl hi60) rfl fi_N (by decide) fl_G_129 rfl rfl ?_
    refine r_ti (j := k) hX d_G_useOperands_7 hkd (by omega) ?_
    refine r_top (by rw [hmk]) ?_
    refine r_istore_n (i := 2) hX d_G_useOperands_8 rfl (by decide) ?_
    refine r_iload_n (i := 2) hX d_G_useOperands_9 rfl rfl ?_
    refine r_iconst (v := nI 1) hX d_G_useOperands_10 (by decide) ?_
    refine r_iand hX d_G_useOperands_11 ?_
    refine r_if_eq 28 hX d_G_useOperands_12 (by decide) (fun c12 => ?_) (fun c12 => absurd (by decide) c12)
    refine r_iload_n (i := 2) hX d_G_useOperands_28 rfl rfl ?_
    refine r_iconst (v := nI 2) hX d_G_useOperands_29 (by decide) ?_
    refine r_iand hX d_G_useOperands_30 ?_
    refine r_if_eq 47 hX d_G_useOperands_31 (by decide) (fun c31 => ?_) (fun c31 => absurd (by decide) c31)
    refine r_iload_n (i := 2) hX d_G_useOperands_47 rfl rfl ?_
    refine r_iconst (v := nI 4) hX d_G_useOperands_48 (by decide) ?_
    refine r_iand hX d_G_useOperands_49 ?_
    refine r_if_eq 66 hX d_G_useOperands_50 (by decide) (fun c50 => ?_) (fun c50 => absurd (by decide) c50)
    exact r_vret () hX hF d_G_useOperands_66 trivial rfl (by simp [useN])
  · obtain ⟨ja, hja, rfl⟩ := hok.1 (by decide)
    refine r_gets (ref := "") hX d_G_useOperands_0 fl_G_49 ?_
    refine r_aload_n (i := 1) hX d_G_useOperands_3 rfl rfl ?_
    refine r_get (8 + i) 0 hX d_G_useOperands_4 (wc_at rfl hi60) rfl fi_N (by decide) fl_G_129 rfl rfl ?_
    refine r_ti (j := k) hX d_G_useOperands_7 hkd (by omega) ?_
    refine r_top (by rw [hmk]) ?_
    refine r_istore_n (i := 2) hX d_G_useOperands_8 rfl (by decide) ?_
    refine r_iload_n (i := 2) hX d_G_useOperands_9 rfl rfl ?_
    refine r_iconst (v := nI 1) hX d_G_useOperands_10 (by decide) ?_
    refine r_iand hX d_G_useOperands_11 ?_
    refine r_if_eq 28 hX d_G_useOperands_12 (by decide) (fun c12 => absurd c12 (by decide)) (fun c12 => ?_)
    refine r_aload_n (i := 0) hX d_G_useOperands_15 rfl rfl ?_
    refine r_get 0 1 hX d_G_useOperands_16 rfl rfl fi_G (by decide) fl_G_18 rfl rfl ?_
    refine r_aload_n (i := 1) hX d_G_useOperands_19 rfl rfl ?_
    refine r_get (8 + i) 1 hX d_G_useOperands_20 (wc_at rfl hi60) rfl fi_N (by decide) fl_G_132 rfl rfl ?_
    refine r_aald 3 2 (ja) hX d_G_useOperands_23 rfl rfl ha (by omega) (by decide) rfl ?_
    refine r_iconst (v := nI 1) hX d_G_useOperands_24 (by decide) ?_
    refine r_put (8 + ja) 7 hX d_G_useOperands_25 (wc_at rfl hja) rfl fi_N ft_N_ok fn_N (by decide) fl_G_110 rfl rfl rfl rfl rfl (Nat.le_of_ble_eq_true rfl) ?_
    refine r_ws (wc_put rfl (by decide)) ?_
    refine r_iload_n (i := 2) hX d_G_useOperands_28 rfl rfl ?_
    refine r_iconst (v := nI 2) hX d_G_useOperands_29 (by decide) ?_
    refine r_iand hX d_G_useOperands_30 ?_
    refine r_if_eq 47 hX d_G_useOperands_31 (by decide) (fun c31 => ?_) (fun c31 => absurd (by decide) c31)
    refine r_iload_n (i := 2) hX d_G_useOperands_47 rfl rfl ?_
    refine r_iconst (v := nI 4) hX d_G_useOperands_48 (by decide) ?_
    refine r_iand hX d_G_useOperands_49 ?_
    refine r_if_eq 66 hX d_G_useOperands_50 (by decide) (fun c50 => ?_) (fun c50 => absurd (by decide) c50)
    exact r_vret () hX hF d_G_useOperands_66 trivial rfl (by simp [useN, opN_nI (show ja < 2 ^ 31 by omega)])
  · skip
    obtain ⟨jb, hjb, rfl⟩ := hok.2.1 (by decide)
    refine r_gets (ref := "") hX d_G_useOperands_0 fl_G_49 ?_
    refine r_aload_n (i := 1) hX d_G_useOperands_3 rfl rfl ?_
    refine r_get (8 + i) 0 hX d_G_useOperands_4 (wc_at rfl hi60) rfl fi_N (by decide) fl_G_129 rfl rfl ?_
    refine r_ti (j := k) hX d_G_useOperands_7 hkd (by omega) ?_
    refine r_top (by rw [hmk]) ?_
    refine r_istore_n (i := 2) hX d_G_useOperands_8 rfl (by decide) ?_
    refine r_iload_n (i := 2) hX d_G_useOperands_9 rfl rfl ?_
    refine r_iconst (v := nI 1) hX d_G_useOperands_10 (by decide) ?_
    refine r_iand hX d_G_useOperands_11 ?_
    refine r_if_eq 28 hX d_G_useOperands_12 (by decide) (fun c12 => ?_) (fun c12 => absurd (by decide) c12)
    refine r_iload_n (i := 2) hX d_G_useOperands_28 rfl rfl ?_
    refine r_iconst (v := nI 2) hX d_G_useOperands_29 (by decide) ?_
    refine r_iand hX d_G_useOperands_30 ?_
    refine r_if_eq 47 hX d_G_useOperands_31 (by decide) (fun c31 => absurd c31 (by decide)) (fun c31 => ?_)
    refine r_aload_n (i := 0) hX d_G_useOperands_34 rfl rfl ?_
    refine r_get 0 1 hX d_G_useOperands_35 rfl rfl fi_G (by decide) fl_G_18 rfl rfl ?_
    refine r_aload_n (i := 1) hX d_G_useOperands_38 rfl rfl ?_
    refine r_get (8 + i) 2 hX d_G_useOperands_39 (wc_at rfl hi60) rfl fi_N (by decide) fl_G_135 rfl rfl ?_
    refine r_aald 3 2 (jb) hX d_G_useOperands_42 rfl rfl (hb) (by omega) (by decide) rfl ?_
    refine r_iconst (v := nI 1) hX d_G_useOperands_43 (by decide) ?_
    refine r_put (8 + jb) 7 hX d_G_useOperands_44 (wc_at rfl hjb) rfl fi_N ft_N_ok fn_N (by decide) fl_G_110 rfl rfl rfl rfl rfl (Nat.le_of_ble_eq_true rfl) ?_
    refine r_ws (wc_put rfl (by decide)) ?_
    refine r_iload_n (i := 2) hX d_G_useOperands_47 rfl rfl ?_
    refine r_iconst (v := nI 4) hX d_G_useOperands_48 (by decide) ?_
    refine r_iand hX d_G_useOperands_49 ?_
    refine r_if_eq 66 hX d_G_useOperands_50 (by decide) (fun c50 => ?_) (fun c50 => absurd (by decide) c50)
    exact r_vret () hX hF d_G_useOperands_66 trivial rfl (by simp [useN, opN_nI (show jb < 2 ^ 31 by omega)])
  · obtain ⟨ja, hja, rfl⟩ := hok.1 (by decide)
    obtain ⟨jb, hjb, rfl⟩ := hok.2.1 (by decide)
    refine r_gets (ref := "") hX d_G_useOperands_0 fl_G_49 ?_
    refine r_aload_n (i := 1) hX d_G_useOperands_3 rfl rfl ?_
    refine r_get (8 + i) 0 hX d_G_useOperands_4 (wc_at rfl hi60) rfl fi_N (by decide) fl_G_129 rfl rfl ?_
    refine r_ti (j := k) hX d_G_useOperands_7 hkd (by omega) ?_
    refine r_top (by rw [hmk]) ?_
    refine r_istore_n (i := 2) hX d_G_useOperands_8 rfl (by decide) ?_
    refine r_iload_n (i := 2) hX d_G_useOperands_9 rfl rfl ?_
    refine r_iconst (v := nI 1) hX d_G_useOperands_10 (by decide) ?_
    refine r_iand hX d_G_useOperands_11 ?_
    refine r_if_eq 28 hX d_G_useOperands_12 (by decide) (fun c12 => absurd c12 (by decide)) (fun c12 => ?_)
    refine r_aload_n (i := 0) hX d_G_useOperands_15 rfl rfl ?_
    refine r_get 0 1 hX d_G_useOperands_16 rfl rfl fi_G (by decide) fl_G_18 rfl rfl ?_
    refine r_aload_n (i := 1) hX d_G_useOperands_19 rfl rfl ?_
    refine r_get (8 + i) 1 hX d_G_useOperands_20 (wc_at rfl hi60) rfl fi_N (by decide) fl_G_132 rfl rfl ?_
    refine r_aald 3 2 (ja) hX d_G_useOperands_23 rfl rfl ha (by omega) (by decide) rfl ?_
    refine r_iconst (v := nI 1) hX d_G_useOperands_24 (by decide) ?_
    refine r_put (8 + ja) 7 hX d_G_useOperands_25 (wc_at rfl hja) rfl fi_N ft_N_ok fn_N (by decide) fl_G_110 rfl rfl rfl rfl rfl (Nat.le_of_ble_eq_true rfl) ?_
    refine r_ws (wc_put rfl (by decide)) ?_
    refine r_iload_n (i := 2) hX d_G_useOperands_28 rfl rfl ?_
    refine r_iconst (v := nI 2) hX d_G_useOperands_29 (by decide) ?_
    refine r_iand hX d_G_useOperands_30 ?_
    refine r_if_eq 47 hX d_G_useOperands_31 (by decide) (fun c31 => absurd c31 (by decide)) (fun c31 => ?_)
    refine r_aload_n (i := 0) hX d_G_useOperands_34 rfl rfl ?_
    refine r_get 0 1 hX d_G_useOperands_35 rfl rfl fi_G (by decide) fl_G_18 rfl rfl ?_
    refine r_aload_n (i := 1) hX d_G_useOperands_38 rfl rfl ?_
    refine r_get (8 + i) 2 hX d_G_useOperands_39 (wc_at rfl hi60) rfl fi_N (by decide) fl_G_135 rfl rfl ?_
    refine r_aald 3 2 (jb) hX d_G_useOperands_42 rfl rfl ((nfU_o (by decide)).trans hb) (by omega) (by decide) rfl ?_
    refine r_iconst (v := nI 1) hX d_G_useOperands_43 (by decide) ?_
    refine r_put (8 + jb) 7 hX d_G_useOperands_44 (wc_at rfl hjb) rfl fi_N ft_N_ok fn_N (by decide) fl_G_110 rfl rfl rfl rfl rfl (Nat.le_of_ble_eq_true rfl) ?_
    refine r_ws (wc_put rfl (by decide)) ?_
    refine r_iload_n (i := 2) hX d_G_useOperands_47 rfl rfl ?_
    refine r_iconst (v := nI 4) hX d_G_useOperands_48 (by decide) ?_
    refine r_iand hX d_G_useOperands_49 ?_
    refine r_if_eq 66 hX d_G_useOperands_50 (by decide) (fun c50 => ?_) (fun c50 => absurd (by decide) c50)
    exact r_vret () hX hF d_G_useOperands_66 trivial rfl (by simp [useN, opN_nI (show ja < 2 ^ 31 by omega), opN_nI (show jb < 2 ^ 31 by omega)])
  · obtain ⟨ja, hja, rfl⟩ := hok.1 (by decide)
    obtain ⟨jb, hjb, rfl⟩ := hok.2.1 (by decide)
    obtain ⟨jc, hjc, rfl⟩ := hok.2.2 rfl
    refine r_gets (ref := "") hX d_G_useOperands_0 fl_G_49 ?_
    refine r_aload_n (i := 1) hX d_G_useOperands_3 rfl rfl ?_
    refine r_get (8 + i) 0 hX d_G_useOperands_4 (wc_at rfl hi60) rfl fi_N (by decide) fl_G_129 rfl rfl ?_
    refine r_ti (j := k) hX d_G_useOperands_7 hkd (by omega) ?_
    refine r_top (by rw [hmk]) ?_
    refine r_istore_n (i := 2) hX d_G_useOperands_8 rfl (by decide) ?_
    refine r_iload_n (i := 2) hX d_G_useOperands_9 rfl rfl ?_
    refine r_iconst (v := nI 1) hX d_G_useOperands_10 (by decide) ?_
    refine r_iand hX d_G_useOperands_11 ?_
    refine r_if_eq 28 hX d_G_useOperands_12 (by decide) (fun c12 => absurd c12 (by decide)) (fun c12 => ?_)
    refine r_aload_n (i := 0) hX d_G_useOperands_15 rfl rfl ?_
    refine r_get 0 1 hX d_G_useOperands_16 rfl rfl fi_G (by decide) fl_G_18 rfl rfl ?_
    refine r_aload_n (i := 1) hX d_G_useOperands_19 rfl rfl ?_
    refine r_get (8 + i) 1 hX d_G_useOperands_20 (wc_at rfl hi60) rfl fi_N (by decide) fl_G_132 rfl rfl ?_
    refine r_aald 3 2 (ja) hX d_G_useOperands_23 rfl rfl ha (by omega) (by decide) rfl ?_
    refine r_iconst (v := nI 1) hX d_G_useOperands_24 (by decide) ?_
    refine r_put (8 + ja) 7 hX d_G_useOperands_25 (wc_at rfl hja) rfl fi_N ft_N_ok fn_N (by decide) fl_G_110 rfl rfl rfl rfl rfl (Nat.le_of_ble_eq_true rfl) ?_
    refine r_ws (wc_put rfl (by decide)) ?_
    refine r_iload_n (i := 2) hX d_G_useOperands_28 rfl rfl ?_
    refine r_iconst (v := nI 2) hX d_G_useOperands_29 (by decide) ?_
    refine r_iand hX d_G_useOperands_30 ?_
    refine r_if_eq 47 hX d_G_useOperands_31 (by decide) (fun c31 => absurd c31 (by decide)) (fun c31 => ?_)
    refine r_aload_n (i := 0) hX d_G_useOperands_34 rfl rfl ?_
    refine r_get 0 1 hX d_G_useOperands_35 rfl rfl fi_G (by decide) fl_G_18 rfl rfl ?_
    refine r_aload_n (i := 1) hX d_G_useOperands_38 rfl rfl ?_
    refine r_get (8 + i) 2 hX d_G_useOperands_39 (wc_at rfl hi60) rfl fi_N (by decide) fl_G_135 rfl rfl ?_
    refine r_aald 3 2 (jb) hX d_G_useOperands_42 rfl rfl ((nfU_o (by decide)).trans hb) (by omega) (by decide) rfl ?_
    refine r_iconst (v := nI 1) hX d_G_useOperands_43 (by decide) ?_
    refine r_put (8 + jb) 7 hX d_G_useOperands_44 (wc_at rfl hjb) rfl fi_N ft_N_ok fn_N (by decide) fl_G_110 rfl rfl rfl rfl rfl (Nat.le_of_ble_eq_true rfl) ?_
    refine r_ws (wc_put rfl (by decide)) ?_
    refine r_iload_n (i := 2) hX d_G_useOperands_47 rfl rfl ?_
    refine r_iconst (v := nI 4) hX d_G_useOperands_48 (by decide) ?_
    refine r_iand hX d_G_useOperands_49 ?_
    refine r_if_eq 66 hX d_G_useOperands_50 (by decide) (fun c50 => absurd c50 (by decide)) (fun c50 => ?_)
    refine r_aload_n (i := 0) hX d_G_useOperands_53 rfl rfl ?_
    refine r_get 0 1 hX d_G_useOperands_54 rfl rfl fi_G (by decide) fl_G_18 rfl rfl ?_
    refine r_aload_n (i := 1) hX d_G_useOperands_57 rfl rfl ?_
    refine r_get (8 + i) 3 hX d_G_useOperands_58 (wc_at rfl hi60) rfl fi_N (by decide) fl_G_138 rfl rfl ?_
    refine r_aald 3 2 (jc) hX d_G_useOperands_61 rfl rfl ((nfU_o (by decide)).trans ((nfU_o (by decide)).trans hc)) (by omega) (by decide) rfl ?_
    refine r_iconst (v := nI 1) hX d_G_useOperands_62 (by decide) ?_
    refine r_put (8 + jc) 7 hX d_G_useOperands_63 (wc_at rfl hjc) rfl fi_N ft_N_ok fn_N (by decide) fl_G_110 rfl rfl rfl rfl rfl (Nat.le_of_ble_eq_true rfl) ?_
    refine r_ws (wc_put rfl (by decide)) ?_
    exact r_vret () hX hF d_G_useOperands_66 trivial rfl (by simp [useN, opN_nI (show ja < 2 ^ 31 by omega), opN_nI (show jb < 2 ^ 31 by omega), opN_nI (show jc < 2 ^ 31 by omega)])
set_option maxRecDepth 100000 in
set_option maxHeartbeats 4000000 in
theorem c_G_boundOf (i k : Nat) (a b c : Int32) (hi60 : i < 60) (hkd : nf 0 i = nI k) (hk : k ≤ 21) (ha : nf 1 i = a) (hb : nf 2 i = b) (hc : nf 3 i = c) (hab : okOps k a b c) : CT l D (tyL cI cZ cN) none y_G_boundOf b_G_boundOf 2 (some .int) 1 [.ref (ad 0), .ref (ad (8 + i))] (WC ad cI cN nn qt tl ch rz rf qz qf nf) (fun _ : Unit => True) (fun _ => some (.int (bndF nf k a b c))) (fun _ => (WC ad cI cN nn qt tl ch rz rf qz qf nf)) := by
  refine CT.of (by decide) (Nat.le_of_ble_eq_true rfl) ?_
  intro X A hl hX hF
  refine r_aload_n (i := 1) hX d_G_boundOf_0 rfl rfl ?_
  refine r_get (8 + i) 0 hX d_G_boundOf_1 (wc_at rfl hi60) rfl fi_N (by decide) fl_G_129 rfl rfl ?_
  refine r_top hkd ?_
  rcases k22 hk with rfl | rfl | rfl | rfl | rfl | rfl | rfl | rfl | rfl | rfl | rfl | rfl | rfl | rfl | rfl | rfl | rfl | rfl | rfl | rfl | rfl | rfl
  · refine r_tableOut 230 hX d_G_boundOf_4 (Or.inl (by decide)) (by decide) ?_
    refine r_iconst (v := nI 1) hX d_G_boundOf_230 (by decide) ?_
    exact r_iret () hX hF d_G_boundOf_231 trivial (by simp [bndF]) rfl
  · refine r_tableOut 230 hX d_G_boundOf_4 (Or.inl (by decide)) (by decide) ?_
    refine r_iconst (v := nI 1) hX d_G_boundOf_230 (by decide) ?_
    exact r_iret () hX hF d_G_boundOf_231 trivial (by simp [bndF]) rfl
  · refine r_tableOut 230 hX d_G_boundOf_4 (Or.inl (by decide)) (by decide) ?_
    refine r_iconst (v := nI 1) hX d_G_boundOf_230 (by decide) ?_
    exact r_iret () hX hF d_G_boundOf_231 trivial (by simp [bndF]) rfl
  · refine r_tableOut 230 hX d_G_boundOf_4 (Or.inl (by decide)) (by decide) ?_
    refine r_iconst (v := nI 1) hX d_G_boundOf_230 (by decide) ?_
    exact r_iret () hX hF d_G_boundOf_231 trivial (by simp [bndF]) rfl
  · refine r_tableOut 230 hX d_G_boundOf_4 (Or.inl (by decide)) (by decide) ?_
    refine r_iconst (v := nI 1) hX d_G_boundOf_230 (by decide) ?_
    exact r_iret () hX hF d_G_boundOf_231 trivial (by simp [bndF]) rfl
  · refine r_tableOut 230 hX d_G_boundOf_4 (Or.inl (by decide)) (by decide) ?_
    refine r_iconst (v := nI 1) hX d_G_boundOf_230 (by decide) ?_
    exact r_iret () hX hF d_G_boundOf_231 trivial (by simp [bndF]) rfl
  · refine r_tableOut 230 hX d_G_boundOf_4 (Or.inl (by decide)) (by decide) ?_
    refine r_iconst (v := nI 1) hX d_G_boundOf_230 (by decide) ?_
    exact r_iret () hX hF d_G_boundOf_231 trivial (by simp [bndF]) rfl
  · refine r_tableIn (off := 68) 72 hX d_G_boundOf_4 (by decide) (by decide) (by decide) (by decide) ?_
    refine r_bipush (v := nI 8) hX d_G_boundOf_72 (by decide) ?_
    exact r_iret () hX hF d_G_boundOf_74 trivial (by simp [bndF]) rfl
  · obtain ⟨ja, hja, rfl⟩ := hab.1 (by decide)
    refine r_tableIn (off := 71) 75 hX d_G_boundOf_4 (by decide) (by decide) (by decide) (by decide) ?_
    refine r_aload_n (i := 0) hX d_G_boundOf_75 rfl rfl ?_
    refine r_get 0 1 hX d_G_boundOf_76 rfl rfl fi_G (by decide) fl_G_18 rfl rfl ?_
    refine r_aload_n (i := 1) hX d_G_boundOf_79 rfl rfl ?_
    refine r_get (8 + i) 1 hX d_G_boundOf_80 (wc_at rfl hi60) rfl fi_N (by decide) fl_G_132 rfl rfl ?_
    refine r_aald 3 2 (ja) hX d_G_boundOf_83 rfl rfl ha (by omega) (by decide) rfl ?_
    refine r_get (8 + ja) 4 hX d_G_boundOf_84 (wc_at rfl hja) rfl fi_N (by decide) fl_G_65 rfl rfl ?_
    exact r_iret () hX hF d_G_boundOf_87 trivial (by simp [bndF, opN_nI (show ja < 2 ^ 31 by omega)]) rfl
  · obtain ⟨ja, hja, rfl⟩ := hab.1 (by decide)
    obtain ⟨jb, hjb, rfl⟩ := hab.2.1 (by decide)
    refine r_tableIn (off := 97) 101 hX d_G_boundOf_4 (by decide) (by decide) (by decide) (by decide) ?_
    refine r_aload_n (i := 0) hX d_G_boundOf_101 rfl rfl ?_
    refine r_get 0 1 hX d_G_boundOf_102 rfl rfl fi_G (by decide) fl_G_18 rfl rfl ?_
    refine r_aload_n (i := 1) hX d_G_boundOf_105 rfl rfl ?_
    refine r_get (8 + i) 1 hX d_G_boundOf_106 (wc_at rfl hi60) rfl fi_N (by decide) fl_G_132 rfl rfl ?_
    refine r_aald 3 2 (ja) hX d_G_boundOf_109 rfl rfl ha (by omega) (by decide) rfl ?_
    refine r_get (8 + ja) 4 hX d_G_boundOf_110 (wc_at rfl hja) rfl fi_N (by decide) fl_G_65 rfl rfl ?_
    refine r_aload_n (i := 0) hX d_G_boundOf_113 rfl rfl ?_
    refine r_get 0 1 hX d_G_boundOf_114 rfl rfl fi_G (by decide) fl_G_18 rfl rfl ?_
    refine r_aload_n (i := 1) hX d_G_boundOf_117 rfl rfl ?_
    refine r_get (8 + i) 2 hX d_G_boundOf_118 (wc_at rfl hi60) rfl fi_N (by decide) fl_G_135 rfl rfl ?_
    refine r_aald 3 2 (jb) hX d_G_boundOf_121 rfl rfl hb (by omega) (by decide) rfl ?_
    refine r_get (8 + jb) 4 hX d_G_boundOf_122 (wc_at rfl hjb) rfl fi_N (by decide) fl_G_65 rfl rfl ?_
    refine r_imul hX d_G_boundOf_125 ?_
    exact r_iret () hX hF d_G_boundOf_126 trivial (by simp [bndF, opN_nI (show ja < 2 ^ 31 by omega), opN_nI (show jb < 2 ^ 31 by omega)]) rfl
  · obtain ⟨ja, hja, rfl⟩ := hab.1 (by decide)
    obtain ⟨jb, hjb, rfl⟩ := hab.2.1 (by decide)
    refine r_tableIn (off := 97) 101 hX d_G_boundOf_4 (by decide) (by decide) (by decide) (by decide) ?_
    refine r_aload_n (i := 0) hX d_G_boundOf_101 rfl rfl ?_
    refine r_get 0 1 hX d_G_boundOf_102 rfl rfl fi_G (by decide) fl_G_18 rfl rfl ?_
    refine r_aload_n (i := 1) hX d_G_boundOf_105 rfl rfl ?_
    refine r_get (8 + i) 1 hX d_G_boundOf_106 (wc_at rfl hi60) rfl fi_N (by decide) fl_G_132 rfl rfl ?_
    refine r_aald 3 2 (ja) hX d_G_boundOf_109 rfl rfl ha (by omega) (by decide) rfl ?_
    refine r_get (8 + ja) 4 hX d_G_boundOf_110 (wc_at rfl hja) rfl fi_N (by decide) fl_G_65 rfl rfl ?_
    refine r_aload_n (i := 0) hX d_G_boundOf_113 rfl rfl ?_
    refine r_get 0 1 hX d_G_boundOf_114 rfl rfl fi_G (by decide) fl_G_18 rfl rfl ?_
    refine r_aload_n (i := 1) hX d_G_boundOf_117 rfl rfl ?_
    refine r_get (8 + i) 2 hX d_G_boundOf_118 (wc_at rfl hi60) rfl fi_N (by decide) fl_G_135 rfl rfl ?_
    refine r_aald 3 2 (jb) hX d_G_boundOf_121 rfl rfl hb (by omega) (by decide) rfl ?_
    refine r_get (8 + jb) 4 hX d_G_boundOf_122 (wc_at rfl hjb) rfl fi_N (by decide) fl_G_65 rfl rfl ?_
    refine r_imul hX d_G_boundOf_125 ?_
    exact r_iret () hX hF d_G_boundOf_126 trivial (by simp [bndF, opN_nI (show ja < 2 ^ 31 by omega), opN_nI (show jb < 2 ^ 31 by omega)]) rfl
  · obtain ⟨ja, hja, rfl⟩ := hab.1 (by decide)
    obtain ⟨jb, hjb, rfl⟩ := hab.2.1 (by decide)
    refine r_tableIn (off := 97) 101 hX d_G_boundOf_4 (by decide) (by decide) (by decide) (by decide) ?_
    refine r_aload_n (i := 0) hX d_G_boundOf_101 rfl rfl ?_
    refine r_get 0 1 hX d_G_boundOf_102 rfl rfl fi_G (by decide) fl_G_18 rfl rfl ?_
    refine r_aload_n (i := 1) hX d_G_boundOf_105 rfl rfl ?_
    refine r_get (8 + i) 1 hX d_G_boundOf_106 (wc_at rfl hi60) rfl fi_N (by decide) fl_G_132 rfl rfl ?_
    refine r_aald 3 2 (ja) hX d_G_boundOf_109 rfl rfl ha (by omega) (by decide) rfl ?_
    refine r_get (8 + ja) 4 hX d_G_boundOf_110 (wc_at rfl hja) rfl fi_N (by decide) fl_G_65 rfl rfl ?_
    refine r_aload_n (i := 0) hX d_G_boundOf_113 rfl rfl ?_
    refine r_get 0 1 hX d_G_boundOf_114 rfl rfl fi_G (by decide) fl_G_18 rfl rfl ?_
    refine r_aload_n (i := 1) hX d_G_boundOf_117 rfl rfl ?_
    refine r_get (8 + i) 2 hX d_G_boundOf_118 (wc_at rfl hi60) rfl fi_N (by decide) fl_G_135 rfl rfl ?_
    refine r_aald 3 2 (jb) hX d_G_boundOf_121 rfl rfl hb (by omega) (by decide) rfl ?_
    refine r_get (8 + jb) 4 hX d_G_boundOf_122 (wc_at rfl hjb) rfl fi_N (by decide) fl_G_65 rfl rfl ?_
    refine r_imul hX d_G_boundOf_125 ?_
    exact r_iret () hX hF d_G_boundOf_126 trivial (by simp [bndF, opN_nI (show ja < 2 ^ 31 by omega), opN_nI (show jb < 2 ^ 31 by omega)]) rfl
  · obtain ⟨ja, hja, rfl⟩ := hab.1 (by decide)
    obtain ⟨jb, hjb, rfl⟩ := hab.2.1 (by decide)
    refine r_tableIn (off := 97) 101 hX d_G_boundOf_4 (by decide) (by decide) (by decide) (by decide) ?_
    refine r_aload_n (i := 0) hX d_G_boundOf_101 rfl rfl ?_
    refine r_get 0 1 hX d_G_boundOf_102 rfl rfl fi_G (by decide) fl_G_18 rfl rfl ?_
    refine r_aload_n (i := 1) hX d_G_boundOf_105 rfl rfl ?_
    refine r_get (8 + i) 1 hX d_G_boundOf_106 (wc_at rfl hi60) rfl fi_N (by decide) fl_G_132 rfl rfl ?_
    refine r_aald 3 2 (ja) hX d_G_boundOf_109 rfl rfl ha (by omega) (by decide) rfl ?_
    refine r_get (8 + ja) 4 hX d_G_boundOf_110 (wc_at rfl hja) rfl fi_N (by decide) fl_G_65 rfl rfl ?_
    refine r_aload_n (i := 0) hX d_G_boundOf_113 rfl rfl ?_
    refine r_get 0 1 hX d_G_boundOf_114 rfl rfl fi_G (by decide) fl_G_18 rfl rfl ?_
    refine r_aload_n (i := 1) hX d_G_boundOf_117 rfl rfl ?_
    refine r_get (8 + i) 2 hX d_G_boundOf_118 (wc_at rfl hi60) rfl fi_N (by decide) fl_G_135 rfl rfl ?_
    refine r_aald 3 2 (jb) hX d_G_boundOf_121 rfl rfl hb (by omega) (by decide) rfl ?_
    refine r_get (8 + jb) 4 hX d_G_boundOf_122 (wc_at rfl hjb) rfl fi_N (by decide) fl_G_65 rfl rfl ?_
    refine r_imul hX d_G_boundOf_125 ?_
    exact r_iret () hX hF d_G_boundOf_126 trivial (by simp [bndF, opN_nI (show ja < 2 ^ 31 by omega), opN_nI (show jb < 2 ^ 31 by omega)]) rfl
  · obtain ⟨ja, hja, rfl⟩ := hab.1 (by decide)
    obtain ⟨jb, hjb, rfl⟩ := hab.2.1 (by decide)
    refine r_tableIn (off := 97) 101 hX d_G_boundOf_4 (by decide) (by decide) (by decide) (by decide) ?_
    refine r_aload_n (i := 0) hX d_G_boundOf_101 rfl rfl ?_
    refine r_get 0 1 hX d_G_boundOf_102 rfl rfl fi_G (by decide) fl_G_18 rfl rfl ?_
    refine r_aload_n (i := 1) hX d_G_boundOf_105 rfl rfl ?_
    refine r_get (8 + i) 1 hX d_G_boundOf_106 (wc_at rfl hi60) rfl fi_N (by decide) fl_G_132 rfl rfl ?_
    refine r_aald 3 2 (ja) hX d_G_boundOf_109 rfl rfl ha (by omega) (by decide) rfl ?_
    refine r_get (8 + ja) 4 hX d_G_boundOf_110 (wc_at rfl hja) rfl fi_N (by decide) fl_G_65 rfl rfl ?_
    refine r_aload_n (i := 0) hX d_G_boundOf_113 rfl rfl ?_
    refine r_get 0 1 hX d_G_boundOf_114 rfl rfl fi_G (by decide) fl_G_18 rfl rfl ?_
    refine r_aload_n (i := 1) hX d_G_boundOf_117 rfl rfl ?_
    refine r_get (8 + i) 2 hX d_G_boundOf_118 (wc_at rfl hi60) rfl fi_N (by decide) fl_G_135 rfl rfl ?_
    refine r_aald 3 2 (jb) hX d_G_boundOf_121 rfl rfl hb (by omega) (by decide) rfl ?_
    refine r_get (8 + jb) 4 hX d_G_boundOf_122 (wc_at rfl hjb) rfl fi_N (by decide) fl_G_65 rfl rfl ?_
    refine r_imul hX d_G_boundOf_125 ?_
    exact r_iret () hX hF d_G_boundOf_126 trivial (by simp [bndF, opN_nI (show ja < 2 ^ 31 by omega), opN_nI (show jb < 2 ^ 31 by omega)]) rfl
  · obtain ⟨ja, hja, rfl⟩ := hab.1 (by decide)
    obtain ⟨jb, hjb, rfl⟩ := hab.2.1 (by decide)
    refine r_tableIn (off := 123) 127 hX d_G_boundOf_4 (by decide) (by decide) (by decide) (by decide) ?_
    refine r_bipush (v := nI 8) hX d_G_boundOf_127 (by decide) ?_
    refine r_aload_n (i := 0) hX d_G_boundOf_129 rfl rfl ?_
    refine r_get 0 1 hX d_G_boundOf_130 rfl rfl fi_G (by decide) fl_G_18 rfl rfl ?_
    refine r_aload_n (i := 1) hX d_G_boundOf_133 rfl rfl ?_
    refine r_get (8 + i) 1 hX d_G_boundOf_134 (wc_at rfl hi60) rfl fi_N (by decide) fl_G_132 rfl rfl ?_
    refine r_aald 3 2 (ja) hX d_G_boundOf_137 rfl rfl ha (by omega) (by decide) rfl ?_
    refine r_get (8 + ja) 4 hX d_G_boundOf_138 (wc_at rfl hja) rfl fi_N (by decide) fl_G_65 rfl rfl ?_
    refine r_imul hX d_G_boundOf_141 ?_
    refine r_aload_n (i := 0) hX d_G_boundOf_142 rfl rfl ?_
    refine r_get 0 1 hX d_G_boundOf_143 rfl rfl fi_G (by decide) fl_G_18 rfl rfl ?_
    refine r_aload_n (i := 1) hX d_G_boundOf_146 rfl rfl ?_
    refine r_get (8 + i) 2 hX d_G_boundOf_147 (wc_at rfl hi60) rfl fi_N (by decide) fl_G_135 rfl rfl ?_
    refine r_aald 3 2 (jb) hX d_G_boundOf_150 rfl rfl hb (by omega) (by decide) rfl ?_
    refine r_get (8 + jb) 4 hX d_G_boundOf_151 (wc_at rfl hjb) rfl fi_N (by decide) fl_G_65 rfl rfl ?_
    refine r_imul hX d_G_boundOf_154 ?_
    exact r_iret () hX hF d_G_boundOf_155 trivial (by simp [bndF, opN_nI (show ja < 2 ^ 31 by omega), opN_nI (show jb < 2 ^ 31 by omega)]) rfl
  · obtain ⟨ja, hja, rfl⟩ := hab.1 (by decide)
    obtain ⟨jb, hjb, rfl⟩ := hab.2.1 (by decide)
    refine r_tableIn (off := 152) 156 hX d_G_boundOf_4 (by decide) (by decide) (by decide) (by decide) ?_
    refine r_aload_n (i := 0) hX d_G_boundOf_156 rfl rfl ?_
    refine r_get 0 1 hX d_G_boundOf_157 rfl rfl fi_G (by decide) fl_G_18 rfl rfl ?_
    refine r_aload_n (i := 1) hX d_G_boundOf_160 rfl rfl ?_
    refine r_get (8 + i) 1 hX d_G_boundOf_161 (wc_at rfl hi60) rfl fi_N (by decide) fl_G_132 rfl rfl ?_
    refine r_aald 3 2 (ja) hX d_G_boundOf_164 rfl rfl ha (by omega) (by decide) rfl ?_
    refine r_get (8 + ja) 4 hX d_G_boundOf_165 (wc_at rfl hja) rfl fi_N (by decide) fl_G_65 rfl rfl ?_
    refine r_aload_n (i := 0) hX d_G_boundOf_168 rfl rfl ?_
    refine r_get 0 1 hX d_G_boundOf_169 rfl rfl fi_G (by decide) fl_G_18 rfl rfl ?_
    refine r_aload_n (i := 1) hX d_G_boundOf_172 rfl rfl ?_
    refine r_get (8 + i) 2 hX d_G_boundOf_173 (wc_at rfl hi60) rfl fi_N (by decide) fl_G_135 rfl rfl ?_
    refine r_aald 3 2 (jb) hX d_G_boundOf_176 rfl rfl hb (by omega) (by decide) rfl ?_
    refine r_get (8 + jb) 4 hX d_G_boundOf_177 (wc_at rfl hjb) rfl fi_N (by decide) fl_G_65 rfl rfl ?_
    refine r_iadd hX d_G_boundOf_180 ?_
    exact r_iret () hX hF d_G_boundOf_181 trivial (by simp [bndF, opN_nI (show ja < 2 ^ 31 by omega), opN_nI (show jb < 2 ^ 31 by omega)]) rfl
  · obtain ⟨ja, hja, rfl⟩ := hab.1 (by decide)
    obtain ⟨jb, hjb, rfl⟩ := hab.2.1 (by decide)
    refine r_tableIn (off := 97) 101 hX d_G_boundOf_4 (by decide) (by decide) (by decide) (by decide) ?_
    refine r_aload_n (i := 0) hX d_G_boundOf_101 rfl rfl ?_
    refine r_get 0 1 hX d_G_boundOf_102 rfl rfl fi_G (by decide) fl_G_18 rfl rfl ?_
    refine r_aload_n (i := 1) hX d_G_boundOf_105 rfl rfl ?_
    refine r_get (8 + i) 1 hX d_G_boundOf_106 (wc_at rfl hi60) rfl fi_N (by decide) fl_G_132 rfl rfl ?_
    refine r_aald 3 2 (ja) hX d_G_boundOf_109 rfl rfl ha (by omega) (by decide) rfl ?_
    refine r_get (8 + ja) 4 hX d_G_boundOf_110 (wc_at rfl hja) rfl fi_N (by decide) fl_G_65 rfl rfl ?_
    refine r_aload_n (i := 0) hX d_G_boundOf_113 rfl rfl ?_
    refine r_get 0 1 hX d_G_boundOf_114 rfl rfl fi_G (by decide) fl_G_18 rfl rfl ?_
    refine r_aload_n (i := 1) hX d_G_boundOf_117 rfl rfl ?_
    refine r_get (8 + i) 2 hX d_G_boundOf_118 (wc_at rfl hi60) rfl fi_N (by decide) fl_G_135 rfl rfl ?_
    refine r_aald 3 2 (jb) hX d_G_boundOf_121 rfl rfl hb (by omega) (by decide) rfl ?_
    refine r_get (8 + jb) 4 hX d_G_boundOf_122 (wc_at rfl hjb) rfl fi_N (by decide) fl_G_65 rfl rfl ?_
    refine r_imul hX d_G_boundOf_125 ?_
    exact r_iret () hX hF d_G_boundOf_126 trivial (by simp [bndF, opN_nI (show ja < 2 ^ 31 by omega), opN_nI (show jb < 2 ^ 31 by omega)]) rfl
  · obtain ⟨jb, hjb, rfl⟩ := hab.2.1 (by decide)
    refine r_tableIn (off := 84) 88 hX d_G_boundOf_4 (by decide) (by decide) (by decide) (by decide) ?_
    refine r_aload_n (i := 0) hX d_G_boundOf_88 rfl rfl ?_
    refine r_get 0 1 hX d_G_boundOf_89 rfl rfl fi_G (by decide) fl_G_18 rfl rfl ?_
    refine r_aload_n (i := 1) hX d_G_boundOf_92 rfl rfl ?_
    refine r_get (8 + i) 2 hX d_G_boundOf_93 (wc_at rfl hi60) rfl fi_N (by decide) fl_G_135 rfl rfl ?_
    refine r_aald 3 2 (jb) hX d_G_boundOf_96 rfl rfl hb (by omega) (by decide) rfl ?_
    refine r_get (8 + jb) 4 hX d_G_boundOf_97 (wc_at rfl hjb) rfl fi_N (by decide) fl_G_65 rfl rfl ?_
    exact r_iret () hX hF d_G_boundOf_100 trivial (by simp [bndF, opN_nI (show jb < 2 ^ 31 by omega)]) rfl
  · obtain ⟨jb, hjb, rfl⟩ := hab.2.1 (by decide)
    refine r_tableIn (off := 178) 182 hX d_G_boundOf_4 (by decide) (by decide) (by decide) (by decide) ?_
    refine r_aload_n (i := 1) hX d_G_boundOf_182 rfl rfl ?_
    refine r_get (8 + i) 1 hX d_G_boundOf_183 (wc_at rfl hi60) rfl fi_N (by decide) fl_G_132 rfl rfl ?_
    refine r_top ha ?_
    refine r_aload_n (i := 0) hX d_G_boundOf_186 rfl rfl ?_
    refine r_get 0 1 hX d_G_boundOf_187 rfl rfl fi_G (by decide) fl_G_18 rfl rfl ?_
    refine r_aload_n (i := 1) hX d_G_boundOf_190 rfl rfl ?_
    refine r_get (8 + i) 2 hX d_G_boundOf_191 (wc_at rfl hi60) rfl fi_N (by decide) fl_G_135 rfl rfl ?_
    refine r_aald 3 2 (jb) hX d_G_boundOf_194 rfl rfl hb (by omega) (by decide) rfl ?_
    refine r_get (8 + jb) 4 hX d_G_boundOf_195 (wc_at rfl hjb) rfl fi_N (by decide) fl_G_65 rfl rfl ?_
    refine r_min hX d_G_boundOf_198 ml_G_141 tw_min_s tw_math tw_min_c (by decide) (Nat.le_of_ble_eq_true rfl) ?_
    exact r_iret () hX hF d_G_boundOf_201 trivial (by simp [bndF, opN_nI (show jb < 2 ^ 31 by omega)]) rfl
  · obtain ⟨ja, hja, rfl⟩ := hab.1 (by decide)
    obtain ⟨jb, hjb, rfl⟩ := hab.2.1 (by decide)
    obtain ⟨jc, hjc, rfl⟩ := hab.2.2 rfl
    refine r_tableIn (off := 198) 202 hX d_G_boundOf_4 (by decide) (by decide) (by decide) (by decide) ?_
    refine r_aload_n (i := 0) hX d_G_boundOf_202 rfl rfl ?_
    refine r_get 0 1 hX d_G_boundOf_203 rfl rfl fi_G (by decide) fl_G_18 rfl rfl ?_
    refine r_aload_n (i := 1) hX d_G_boundOf_206 rfl rfl ?_
    refine r_get (8 + i) 2 hX d_G_boundOf_207 (wc_at rfl hi60) rfl fi_N (by decide) fl_G_135 rfl rfl ?_
    refine r_aald 3 2 (jb) hX d_G_boundOf_210 rfl rfl hb (by omega) (by decide) rfl ?_
    refine r_get (8 + jb) 4 hX d_G_boundOf_211 (wc_at rfl hjb) rfl fi_N (by decide) fl_G_65 rfl rfl ?_
    refine r_aload_n (i := 0) hX d_G_boundOf_214 rfl rfl ?_
    refine r_get 0 1 hX d_G_boundOf_215 rfl rfl fi_G (by decide) fl_G_18 rfl rfl ?_
    refine r_aload_n (i := 1) hX d_G_boundOf_218 rfl rfl ?_
    refine r_get (8 + i) 3 hX d_G_boundOf_219 (wc_at rfl hi60) rfl fi_N (by decide) fl_G_138 rfl rfl ?_
    refine r_aald 3 2 (jc) hX d_G_boundOf_222 rfl rfl hc (by omega) (by decide) rfl ?_
    refine r_get (8 + jc) 4 hX d_G_boundOf_223 (wc_at rfl hjc) rfl fi_N (by decide) fl_G_65 rfl rfl ?_
    refine r_max hX d_G_boundOf_226 ml_G_146 tw_max_s tw_math tw_max_c (by decide) (Nat.le_of_ble_eq_true rfl) ?_
    exact r_iret () hX hF d_G_boundOf_229 trivial (by simp [bndF, mx, opN_nI (show jb < 2 ^ 31 by omega), opN_nI (show jc < 2 ^ 31 by omega)]) rfl
  · obtain ⟨ja, hja, rfl⟩ := hab.1 (by decide)
    refine r_tableOut 230 hX d_G_boundOf_4 (Or.inr (by decide)) (by decide) ?_
    refine r_iconst (v := nI 1) hX d_G_boundOf_230 (by decide) ?_
    exact r_iret () hX hF d_G_boundOf_231 trivial (by simp [bndF]) rfl
  · obtain ⟨ja, hja, rfl⟩ := hab.1 (by decide)
    refine r_tableOut 230 hX d_G_boundOf_4 (Or.inr (by decide)) (by decide) ?_
    refine r_iconst (v := nI 1) hX d_G_boundOf_230 (by decide) ?_
    exact r_iret () hX hF d_G_boundOf_231 trivial (by simp [bndF]) rfl
set_option maxRecDepth 100000 in
set_option maxHeartbeats 4000000 in
theorem c_G_workOfPairs (i ja jb : Nat) (hi60 : i < 60) (hja : ja < 60) (hjb : jb < 60) (ha : nf 1 i = nI ja) (hb : nf 2 i = nI jb) : CT l D (tyL cI cZ cN) none y_G_workOfPairs b_G_workOfPairs 2 (some .int) 0 [.ref (ad 0), .ref (ad (8 + i))] (WC ad cI cN nn qt tl ch rz rf qz qf nf) (fun _ : Unit => True) (fun _ => some (.int (wkP nf (nI ja) (nI jb)))) (fun _ => (WC ad cI cN nn qt tl ch rz rf qz qf nf)) := by
  refine CT.of (by decide) (Nat.le_of_ble_eq_true rfl) ?_
  intro X A hl hX hF
  refine r_iconst (v := nI 1) hX d_G_workOfPairs_0 (by decide) ?_
  refine r_aload_n (i := 0) hX d_G_workOfPairs_1 rfl rfl ?_
  refine r_get 0 1 hX d_G_workOfPairs_2 rfl rfl fi_G (by decide) fl_G_18 rfl rfl ?_
  refine r_aload_n (i := 1) hX d_G_workOfPairs_5 rfl rfl ?_
  refine r_get (8 + i) 1 hX d_G_workOfPairs_6 (wc_at rfl hi60) rfl fi_N (by decide) fl_G_132 rfl rfl ?_
  refine r_aald 3 2 (ja) hX d_G_workOfPairs_9 rfl rfl ha (by omega) (by decide) rfl ?_
  refine r_get (8 + ja) 5 hX d_G_workOfPairs_10 (wc_at rfl hja) rfl fi_N (by decide) fl_G_71 rfl rfl ?_
  refine r_iadd hX d_G_workOfPairs_13 ?_
  refine r_aload_n (i := 0) hX d_G_workOfPairs_14 rfl rfl ?_
  refine r_get 0 1 hX d_G_workOfPairs_15 rfl rfl fi_G (by decide) fl_G_18 rfl rfl ?_
  refine r_aload_n (i := 1) hX d_G_workOfPairs_18 rfl rfl ?_
  refine r_get (8 + i) 1 hX d_G_workOfPairs_19 (wc_at rfl hi60) rfl fi_N (by decide) fl_G_132 rfl rfl ?_
  refine r_aald 3 2 (ja) hX d_G_workOfPairs_22 rfl rfl ha (by omega) (by decide) rfl ?_
  refine r_get (8 + ja) 4 hX d_G_workOfPairs_23 (wc_at rfl hja) rfl fi_N (by decide) fl_G_65 rfl rfl ?_
  refine r_aload_n (i := 0) hX d_G_workOfPairs_26 rfl rfl ?_
  refine r_get 0 1 hX d_G_workOfPairs_27 rfl rfl fi_G (by decide) fl_G_18 rfl rfl ?_
  refine r_aload_n (i := 1) hX d_G_workOfPairs_30 rfl rfl ?_
  refine r_get (8 + i) 2 hX d_G_workOfPairs_31 (wc_at rfl hi60) rfl fi_N (by decide) fl_G_135 rfl rfl ?_
  refine r_aald 3 2 (jb) hX d_G_workOfPairs_34 rfl rfl hb (by omega) (by decide) rfl ?_
  refine r_get (8 + jb) 5 hX d_G_workOfPairs_35 (wc_at rfl hjb) rfl fi_N (by decide) fl_G_71 rfl rfl ?_
  refine r_imul hX d_G_workOfPairs_38 ?_
  refine r_iadd hX d_G_workOfPairs_39 ?_
  exact r_iret () hX hF d_G_workOfPairs_40 trivial (by simp [wkP, opN_nI (show ja < 2 ^ 31 by omega), opN_nI (show jb < 2 ^ 31 by omega)]) rfl
set_option maxRecDepth 100000 in
set_option maxHeartbeats 4000000 in
theorem c_G_workOf (i k : Nat) (a b c : Int32) (hi60 : i < 60) (hkd : nf 0 i = nI k) (hk : k ≤ 21) (ha : nf 1 i = a) (hb : nf 2 i = b) (hc : nf 3 i = c) (hab : okOps k a b c) : CT l D (tyL cI cZ cN) none y_G_workOf b_G_workOf 2 (some .int) 1 [.ref (ad 0), .ref (ad (8 + i))] (WC ad cI cN nn qt tl ch rz rf qz qf nf) (fun _ : Unit => True) (fun _ => some (.int (wkF nf k a b c))) (fun _ => (WC ad cI cN nn qt tl ch rz rf qz qf nf)) := by
  refine CT.of (by decide) (Nat.le_of_ble_eq_true rfl) ?_
  intro X A hl hX hF
  refine r_aload_n (i := 1) hX d_G_workOf_0 rfl rfl ?_
  refine r_get (8 + i) 0 hX d_G_workOf_1 (wc_at rfl hi60) rfl fi_N (by decide) fl_G_129 rfl rfl ?_
  refine r_top hkd ?_
  rcases k22 hk with rfl | rfl | rfl | rfl | rfl | rfl | rfl | rfl | rfl | rfl | rfl | rfl | rfl | rfl | rfl | rfl | rfl | rfl | rfl | rfl | rfl | rfl
  · refine r_tableOut 197 hX d_G_workOf_4 (Or.inl (by decide)) (by decide) ?_
    refine r_iconst (v := nI 1) hX d_G_workOf_197 (by decide) ?_
    exact r_iret () hX hF d_G_workOf_198 trivial (by simp [wkF]) rfl
  · refine r_tableOut 197 hX d_G_workOf_4 (Or.inl (by decide)) (by decide) ?_
    refine r_iconst (v := nI 1) hX d_G_workOf_197 (by decide) ?_
    exact r_iret () hX hF d_G_workOf_198 trivial (by simp [wkF]) rfl
  · refine r_tableOut 197 hX d_G_workOf_4 (Or.inl (by decide)) (by decide) ?_
    refine r_iconst (v := nI 1) hX d_G_workOf_197 (by decide) ?_
    exact r_iret () hX hF d_G_workOf_198 trivial (by simp [wkF]) rfl
  · refine r_tableOut 197 hX d_G_workOf_4 (Or.inl (by decide)) (by decide) ?_
    refine r_iconst (v := nI 1) hX d_G_workOf_197 (by decide) ?_
    exact r_iret () hX hF d_G_workOf_198 trivial (by simp [wkF]) rfl
  · refine r_tableOut 197 hX d_G_workOf_4 (Or.inl (by decide)) (by decide) ?_
    refine r_iconst (v := nI 1) hX d_G_workOf_197 (by decide) ?_
    exact r_iret () hX hF d_G_workOf_198 trivial (by simp [wkF]) rfl
  · refine r_tableOut 197 hX d_G_workOf_4 (Or.inl (by decide)) (by decide) ?_
    refine r_iconst (v := nI 1) hX d_G_workOf_197 (by decide) ?_
    exact r_iret () hX hF d_G_workOf_198 trivial (by simp [wkF]) rfl
  · refine r_tableOut 197 hX d_G_workOf_4 (Or.inl (by decide)) (by decide) ?_
    refine r_iconst (v := nI 1) hX d_G_workOf_197 (by decide) ?_
    exact r_iret () hX hF d_G_workOf_198 trivial (by simp [wkF]) rfl
  · refine r_tableIn (off := 76) 80 hX d_G_workOf_4 (by decide) (by decide) (by decide) (by decide) ?_
    refine r_bipush (v := nI 8) hX d_G_workOf_80 (by decide) ?_
    exact r_iret () hX hF d_G_workOf_82 trivial (by simp [wkF]) rfl
  · obtain ⟨ja, hja, rfl⟩ := hab.1 (by decide)
    refine r_tableIn (off := 79) 83 hX d_G_workOf_4 (by decide) (by decide) (by decide) (by decide) ?_
    refine r_iconst (v := nI 1) hX d_G_workOf_83 (by decide) ?_
    refine r_aload_n (i := 0) hX d_G_workOf_84 rfl rfl ?_
    refine r_get 0 1 hX d_G_workOf_85 rfl rfl fi_G (by decide) fl_G_18 rfl rfl ?_
    refine r_aload_n (i := 1) hX d_G_workOf_88 rfl rfl ?_
    refine r_get (8 + i) 1 hX d_G_workOf_89 (wc_at rfl hi60) rfl fi_N (by decide) fl_G_132 rfl rfl ?_
    refine r_aald 3 2 (ja) hX d_G_workOf_92 rfl rfl ha (by omega) (by decide) rfl ?_
    refine r_get (8 + ja) 5 hX d_G_workOf_93 (wc_at rfl hja) rfl fi_N (by decide) fl_G_71 rfl rfl ?_
    refine r_iadd hX d_G_workOf_96 ?_
    exact r_iret () hX hF d_G_workOf_97 trivial (by simp [wkF, opN_nI (show ja < 2 ^ 31 by omega)]) rfl
  · obtain ⟨ja, hja, rfl⟩ := hab.1 (by decide)
    obtain ⟨jb, hjb, rfl⟩ := hab.2.1 (by decide)
    refine r_tableIn (off := 109) 113 hX d_G_workOf_4 (by decide) (by decide) (by decide) (by decide) ?_
    refine r_aload_n (i := 0) hX d_G_workOf_113 rfl rfl ?_
    refine r_aload_n (i := 1) hX d_G_workOf_114 rfl rfl ?_
    refine r_callVwi (q0 := 0) hX d_G_workOf_115 cw_G_workOfPairs ml_G_149 (c_G_workOfPairs i ja jb hi60 hja hjb ha hb) (Or.inl rfl) rfl rfl rfl rfl (by decide) (Nat.le_of_ble_eq_true rfl) (fun _ => rfl) (fun _ _ => ?_)
    exact r_iret () hX hF d_G_workOf_118 trivial (by simp [wkF]) rfl
  · obtain ⟨ja, hja, rfl⟩ := hab.1 (by decide)
    obtain ⟨jb, hjb, rfl⟩ := hab.2.1 (by decide)
    refine r_tableIn (off := 109) 113 hX d_G_workOf_4 (by decide) (by decide) (by decide) (by decide) ?_
    refine r_aload_n (i := 0) hX d_G_workOf_113 rfl rfl ?_
    refine r_aload_n (i := 1) hX d_G_workOf_114 rfl rfl ?_
    refine r_callVwi (q0 := 0) hX d_G_workOf_115 cw_G_workOfPairs ml_G_149 (c_G_workOfPairs i ja jb hi60 hja hjb ha hb) (Or.inl rfl) rfl rfl rfl rfl (by decide) (Nat.le_of_ble_eq_true rfl) (fun _ => rfl) (fun _ _ => ?_)
    exact r_iret () hX hF d_G_workOf_118 trivial (by simp [wkF]) rfl
  · obtain ⟨ja, hja, rfl⟩ := hab.1 (by decide)
    obtain ⟨jb, hjb, rfl⟩ := hab.2.1 (by decide)
    refine r_tableIn (off := 109) 113 hX d_G_workOf_4 (by decide) (by decide) (by decide) (by decide) ?_
    refine r_aload_n (i := 0) hX d_G_workOf_113 rfl rfl ?_
    refine r_aload_n (i := 1) hX d_G_workOf_114 rfl rfl ?_
    refine r_callVwi (q0 := 0) hX d_G_workOf_115 cw_G_workOfPairs ml_G_149 (c_G_workOfPairs i ja jb hi60 hja hjb ha hb) (Or.inl rfl) rfl rfl rfl rfl (by decide) (Nat.le_of_ble_eq_true rfl) (fun _ => rfl) (fun _ _ => ?_)
    exact r_iret () hX hF d_G_workOf_118 trivial (by simp [wkF]) rfl
  · obtain ⟨ja, hja, rfl⟩ := hab.1 (by decide)
    obtain ⟨jb, hjb, rfl⟩ := hab.2.1 (by decide)
    refine r_tableIn (off := 109) 113 hX d_G_workOf_4 (by decide) (by decide) (by decide) (by decide) ?_
    refine r_aload_n (i := 0) hX d_G_workOf_113 rfl rfl ?_
    refine r_aload_n (i := 1) hX d_G_workOf_114 rfl rfl ?_
    refine r_callVwi (q0 := 0) hX d_G_workOf_115 cw_G_workOfPairs ml_G_149 (c_G_workOfPairs i ja jb hi60 hja hjb ha hb) (Or.inl rfl) rfl rfl rfl rfl (by decide) (Nat.le_of_ble_eq_true rfl) (fun _ => rfl) (fun _ _ => ?_)
    exact r_iret () hX hF d_G_workOf_118 trivial (by simp [wkF]) rfl
  · obtain ⟨ja, hja, rfl⟩ := hab.1 (by decide)
    obtain ⟨jb, hjb, rfl⟩ := hab.2.1 (by decide)
    refine r_tableIn (off := 109) 113 hX d_G_workOf_4 (by decide) (by decide) (by decide) (by decide) ?_
    refine r_aload_n (i := 0) hX d_G_workOf_113 rfl rfl ?_
    refine r_aload_n (i := 1) hX d_G_workOf_114 rfl rfl ?_
    refine r_callVwi (q0 := 0) hX d_G_workOf_115 cw_G_workOfPairs ml_G_149 (c_G_workOfPairs i ja jb hi60 hja hjb ha hb) (Or.inl rfl) rfl rfl rfl rfl (by decide) (Nat.le_of_ble_eq_true rfl) (fun _ => rfl) (fun _ _ => ?_)
    exact r_iret () hX hF d_G_workOf_118 trivial (by simp [wkF]) rfl
  · obtain ⟨ja, hja, rfl⟩ := hab.1 (by decide)
    obtain ⟨jb, hjb, rfl⟩ := hab.2.1 (by decide)
    refine r_tableIn (off := 115) 119 hX d_G_workOf_4 (by decide) (by decide) (by decide) (by decide) ?_
    refine r_bipush (v := nI 8) hX d_G_workOf_119 (by decide) ?_
    refine r_aload_n (i := 0) hX d_G_workOf_121 rfl rfl ?_
    refine r_aload_n (i := 1) hX d_G_workOf_122 rfl rfl ?_
    refine r_callVwi (q0 := 0) hX d_G_workOf_123 cw_G_workOfPairs ml_G_149 (c_G_workOfPairs i ja jb hi60 hja hjb ha hb) (Or.inl rfl) rfl rfl rfl rfl (by decide) (Nat.le_of_ble_eq_true rfl) (fun _ => rfl) (fun _ _ => ?_)
    refine r_imul hX d_G_workOf_126 ?_
    exact r_iret () hX hF d_G_workOf_127 trivial (by simp [wkF]) rfl
  · obtain ⟨ja, hja, rfl⟩ := hab.1 (by decide)
    obtain ⟨jb, hjb, rfl⟩ := hab.2.1 (by decide)
    refine r_tableIn (off := 124) 128 hX d_G_workOf_4 (by decide) (by decide) (by decide) (by decide) ?_
    refine r_iconst (v := nI 1) hX d_G_workOf_128 (by decide) ?_
    refine r_aload_n (i := 0) hX d_G_workOf_129 rfl rfl ?_
    refine r_get 0 1 hX d_G_workOf_130 rfl rfl fi_G (by decide) fl_G_18 rfl rfl ?_
    refine r_aload_n (i := 1) hX d_G_workOf_133 rfl rfl ?_
    refine r_get (8 + i) 1 hX d_G_workOf_134 (wc_at rfl hi60) rfl fi_N (by decide) fl_G_132 rfl rfl ?_
    refine r_aald 3 2 (ja) hX d_G_workOf_137 rfl rfl ha (by omega) (by decide) rfl ?_
    refine r_get (8 + ja) 5 hX d_G_workOf_138 (wc_at rfl hja) rfl fi_N (by decide) fl_G_71 rfl rfl ?_
    refine r_iadd hX d_G_workOf_141 ?_
    refine r_aload_n (i := 0) hX d_G_workOf_142 rfl rfl ?_
    refine r_get 0 1 hX d_G_workOf_143 rfl rfl fi_G (by decide) fl_G_18 rfl rfl ?_
    refine r_aload_n (i := 1) hX d_G_workOf_146 rfl rfl ?_
    refine r_get (8 + i) 2 hX d_G_workOf_147 (wc_at rfl hi60) rfl fi_N (by decide) fl_G_135 rfl rfl ?_
    refine r_aald 3 2 (jb) hX d_G_workOf_150 rfl rfl hb (by omega) (by decide) rfl ?_
    refine r_get (8 + jb) 5 hX d_G_workOf_151 (wc_at rfl hjb) rfl fi_N (by decide) fl_G_71 rfl rfl ?_
    refine r_iadd hX d_G_workOf_154 ?_
    exact r_iret () hX hF d_G_workOf_155 trivial (by simp [wkF, opN_nI (show ja < 2 ^ 31 by omega), opN_nI (show jb < 2 ^ 31 by omega)]) rfl
  · obtain ⟨ja, hja, rfl⟩ := hab.1 (by decide)
    obtain ⟨jb, hjb, rfl⟩ := hab.2.1 (by decide)
    refine r_tableIn (off := 109) 113 hX d_G_workOf_4 (by decide) (by decide) (by decide) (by decide) ?_
    refine r_aload_n (i := 0) hX d_G_workOf_113 rfl rfl ?_
    refine r_aload_n (i := 1) hX d_G_workOf_114 rfl rfl ?_
    refine r_callVwi (q0 := 0) hX d_G_workOf_115 cw_G_workOfPairs ml_G_149 (c_G_workOfPairs i ja jb hi60 hja hjb ha hb) (Or.inl rfl) rfl rfl rfl rfl (by decide) (Nat.le_of_ble_eq_true rfl) (fun _ => rfl) (fun _ _ => ?_)
    exact r_iret () hX hF d_G_workOf_118 trivial (by simp [wkF]) rfl
  · obtain ⟨jb, hjb, rfl⟩ := hab.2.1 (by decide)
    refine r_tableIn (off := 94) 98 hX d_G_workOf_4 (by decide) (by decide) (by decide) (by decide) ?_
    refine r_iconst (v := nI 1) hX d_G_workOf_98 (by decide) ?_
    refine r_aload_n (i := 0) hX d_G_workOf_99 rfl rfl ?_
    refine r_get 0 1 hX d_G_workOf_100 rfl rfl fi_G (by decide) fl_G_18 rfl rfl ?_
    refine r_aload_n (i := 1) hX d_G_workOf_103 rfl rfl ?_
    refine r_get (8 + i) 2 hX d_G_workOf_104 (wc_at rfl hi60) rfl fi_N (by decide) fl_G_135 rfl rfl ?_
    refine r_aald 3 2 (jb) hX d_G_workOf_107 rfl rfl hb (by omega) (by decide) rfl ?_
    refine r_get (8 + jb) 5 hX d_G_workOf_108 (wc_at rfl hjb) rfl fi_N (by decide) fl_G_71 rfl rfl ?_
    refine r_iadd hX d_G_workOf_111 ?_
    exact r_iret () hX hF d_G_workOf_112 trivial (by simp [wkF, opN_nI (show jb < 2 ^ 31 by omega)]) rfl
  · obtain ⟨jb, hjb, rfl⟩ := hab.2.1 (by decide)
    refine r_tableIn (off := 94) 98 hX d_G_workOf_4 (by decide) (by decide) (by decide) (by decide) ?_
    refine r_iconst (v := nI 1) hX d_G_workOf_98 (by decide) ?_
    refine r_aload_n (i := 0) hX d_G_workOf_99 rfl rfl ?_
    refine r_get 0 1 hX d_G_workOf_100 rfl rfl fi_G (by decide) fl_G_18 rfl rfl ?_
    refine r_aload_n (i := 1) hX d_G_workOf_103 rfl rfl ?_
    refine r_get (8 + i) 2 hX d_G_workOf_104 (wc_at rfl hi60) rfl fi_N (by decide) fl_G_135 rfl rfl ?_
    refine r_aald 3 2 (jb) hX d_G_workOf_107 rfl rfl hb (by omega) (by decide) rfl ?_
    refine r_get (8 + jb) 5 hX d_G_workOf_108 (wc_at rfl hjb) rfl fi_N (by decide) fl_G_71 rfl rfl ?_
    refine r_iadd hX d_G_workOf_111 ?_
    exact r_iret () hX hF d_G_workOf_112 trivial (by simp [wkF, opN_nI (show jb < 2 ^ 31 by omega)]) rfl
  · obtain ⟨ja, hja, rfl⟩ := hab.1 (by decide)
    obtain ⟨jb, hjb, rfl⟩ := hab.2.1 (by decide)
    obtain ⟨jc, hjc, rfl⟩ := hab.2.2 rfl
    refine r_tableIn (off := 152) 156 hX d_G_workOf_4 (by decide) (by decide) (by decide) (by decide) ?_
    refine r_iconst (v := nI 1) hX d_G_workOf_156 (by decide) ?_
    refine r_aload_n (i := 0) hX d_G_workOf_157 rfl rfl ?_
    refine r_get 0 1 hX d_G_workOf_158 rfl rfl fi_G (by decide) fl_G_18 rfl rfl ?_
    refine r_aload_n (i := 1) hX d_G_workOf_161 rfl rfl ?_
    refine r_get (8 + i) 1 hX d_G_workOf_162 (wc_at rfl hi60) rfl fi_N (by decide) fl_G_132 rfl rfl ?_
    refine r_aald 3 2 (ja) hX d_G_workOf_165 rfl rfl ha (by omega) (by decide) rfl ?_
    refine r_get (8 + ja) 5 hX d_G_workOf_166 (wc_at rfl hja) rfl fi_N (by decide) fl_G_71 rfl rfl ?_
    refine r_iadd hX d_G_workOf_169 ?_
    refine r_aload_n (i := 0) hX d_G_workOf_170 rfl rfl ?_
    refine r_get 0 1 hX d_G_workOf_171 rfl rfl fi_G (by decide) fl_G_18 rfl rfl ?_
    refine r_aload_n (i := 1) hX d_G_workOf_174 rfl rfl ?_
    refine r_get (8 + i) 2 hX d_G_workOf_175 (wc_at rfl hi60) rfl fi_N (by decide) fl_G_135 rfl rfl ?_
    refine r_aald 3 2 (jb) hX d_G_workOf_178 rfl rfl hb (by omega) (by decide) rfl ?_
    refine r_get (8 + jb) 5 hX d_G_workOf_179 (wc_at rfl hjb) rfl fi_N (by decide) fl_G_71 rfl rfl ?_
    refine r_iadd hX d_G_workOf_182 ?_
    refine r_aload_n (i := 0) hX d_G_workOf_183 rfl rfl ?_
    refine r_get 0 1 hX d_G_workOf_184 rfl rfl fi_G (by decide) fl_G_18 rfl rfl ?_
    refine r_aload_n (i := 1) hX d_G_workOf_187 rfl rfl ?_
    refine r_get (8 + i) 3 hX d_G_workOf_188 (wc_at rfl hi60) rfl fi_N (by decide) fl_G_138 rfl rfl ?_
    refine r_aald 3 2 (jc) hX d_G_workOf_191 rfl rfl hc (by omega) (by decide) rfl ?_
    refine r_get (8 + jc) 5 hX d_G_workOf_192 (wc_at rfl hjc) rfl fi_N (by decide) fl_G_71 rfl rfl ?_
    refine r_iadd hX d_G_workOf_195 ?_
    exact r_iret () hX hF d_G_workOf_196 trivial (by simp [wkF, opN_nI (show ja < 2 ^ 31 by omega), opN_nI (show jb < 2 ^ 31 by omega), opN_nI (show jc < 2 ^ 31 by omega)]) rfl
  · obtain ⟨ja, hja, rfl⟩ := hab.1 (by decide)
    refine r_tableIn (off := 79) 83 hX d_G_workOf_4 (by decide) (by decide) (by decide) (by decide) ?_
    refine r_iconst (v := nI 1) hX d_G_workOf_83 (by decide) ?_
    refine r_aload_n (i := 0) hX d_G_workOf_84 rfl rfl ?_
    refine r_get 0 1 hX d_G_workOf_85 rfl rfl fi_G (by decide) fl_G_18 rfl rfl ?_
    refine r_aload_n (i := 1) hX d_G_workOf_88 rfl rfl ?_
    refine r_get (8 + i) 1 hX d_G_workOf_89 (wc_at rfl hi60) rfl fi_N (by decide) fl_G_132 rfl rfl ?_
    refine r_aald 3 2 (ja) hX d_G_workOf_92 rfl rfl ha (by omega) (by decide) rfl ?_
    refine r_get (8 + ja) 5 hX d_G_workOf_93 (wc_at rfl hja) rfl fi_N (by decide) fl_G_71 rfl rfl ?_
    refine r_iadd hX d_G_workOf_96 ?_
    exact r_iret () hX hF d_G_workOf_97 trivial (by simp [wkF, opN_nI (show ja < 2 ^ 31 by omega)]) rfl
  · obtain ⟨ja, hja, rfl⟩ := hab.1 (by decide)
    refine r_tableIn (off := 79) 83 hX d_G_workOf_4 (by decide) (by decide) (by decide) (by decide) ?_
    refine r_iconst (v := nI 1) hX d_G_workOf_83 (by decide) ?_
    refine r_aload_n (i := 0) hX d_G_workOf_84 rfl rfl ?_
    refine r_get 0 1 hX d_G_workOf_85 rfl rfl fi_G (by decide) fl_G_18 rfl rfl ?_
    refine r_aload_n (i := 1) hX d_G_workOf_88 rfl rfl ?_
    refine r_get (8 + i) 1 hX d_G_workOf_89 (wc_at rfl hi60) rfl fi_N (by decide) fl_G_132 rfl rfl ?_
    refine r_aald 3 2 (ja) hX d_G_workOf_92 rfl rfl ha (by omega) (by decide) rfl ?_
    refine r_get (8 + ja) 5 hX d_G_workOf_93 (wc_at rfl hja) rfl fi_N (by decide) fl_G_71 rfl rfl ?_
    refine r_iadd hX d_G_workOf_96 ?_
    exact r_iret () hX hF d_G_workOf_97 trivial (by simp [wkF, opN_nI (show ja < 2 ^ 31 by omega)]) rfl
set_option maxRecDepth 100000 in
set_option maxHeartbeats 4000000 in
theorem c_G_levelOf {t : Nat} (i k m : Nat) (a b c : Int32) (hi60 : i < 60) (hkd : nf 0 i = nI k) (hk : k ≤ 21) (hmk : opsN k = m) (ha : nf 1 i = a) (hb : nf 2 i = b) (hc : nf 3 i = c) (hok : okM m a b c) : CT l D (tyL cI cZ cN) (some t) y_G_levelOf b_G_levelOf 4 (some .int) 1 [.ref (ad 0), .ref (ad (8 + i))] (WC ad cI cN nn qt tl ch rz rf qz qf nf) (fun _ : Unit => True) (fun _ => some (.int (lvF nf m a b c))) (fun _ => (WC ad cI cN nn qt tl ch rz rf qz qf nf)) := by
  refine CT.of (by decide) (Nat.le_of_ble_eq_true rfl) ?_
  intro X A hl hX hF
  have hm := m5 hk
  rw [hmk] at hm
  rcases hm with rfl | rfl | rfl | rfl | rfl
  · skip
    refine r_gets (ref := "") hX d_G_levelOf_0 fl_G_49 ?_
    refine r_aload_n (i := 1) hX d_G_levelOf_3 rfl rfl ?_
    refine r_get (8 + i) 0 hX d_G_levelOf_4 (wc_at rfl hi60) rfl fi_N (by decide) fl_G_129 rfl rfl ?_
    refine r_ti (j := k) hX d_G_levelOf_7 hkd (by omega) ?_
    refine r_top (by rw [hmk]) ?_
    refine r_istore_n (i := 2) hX d_G_levelOf_8 rfl (by decide) ?_
    refine r_iconst (v := nI 0) hX d_G_levelOf_9 (by decide) ?_
    refine r_istore_n (i := 3) hX d_G_levelOf_10 rfl (by decide) ?_
    refine r_iload_n (i := 2) hX d_G_levelOf_11 rfl rfl ?_
    refine r_iconst (v := nI 1) hX d_G_levelOf_12 (by decide) ?_
    refine r_iand hX d_G_levelOf_13 ?_
    refine r_if_eq 34 hX d_G_levelOf_14 (by decide) (fun c14 => ?_) (fun c14 => absurd (by decide) c14)
    refine r_iload_n (i := 2) hX d_G_levelOf_34 rfl rfl ?_
    refine r_iconst (v := nI 2) hX d_G_levelOf_35 (by decide) ?_
    refine r_iand hX d_G_levelOf_36 ?_
    refine r_if_eq 57 hX d_G_levelOf_37 (by decide) (fun c37 => ?_) (fun c37 => absurd (by decide) c37)
    refine r_iload_n (i := 2) hX d_G_levelOf_57 rfl rfl ?_
    refine r_iconst (v := nI 4) hX d_G_levelOf_58 (by decide) ?_
    refine r_iand hX d_G_levelOf_59 ?_
    refine r_if_eq 80 hX d_G_levelOf_60 (by decide) (fun c60 => ?_) (fun c60 => absurd (by decide) c60)
    refine r_iload_n (i := 3) hX d_G_levelOf_80 rfl rfl ?_
    refine r_iconst (v := nI 1) hX d_G_levelOf_81 (by decide) ?_
    refine r_iadd hX d_G_levelOf_82 ?_
    exact r_iret () hX hF d_G_levelOf_83 trivial (by simp [lvF, mx]) rfl
  · obtain ⟨ja, hja, rfl⟩ := hok.1 (by decide)
    refine r_gets (ref := "") hX d_G_levelOf_0 fl_G_49 ?_
    refine r_aload_n (i := 1) hX d_G_levelOf_3 rfl rfl ?_
    refine r_get (8 + i) 0 hX d_G_levelOf_4 (wc_at rfl hi60) rfl fi_N (by decide) fl_G_129 rfl rfl ?_
    refine r_ti (j := k) hX d_G_levelOf_7 hkd (by omega) ?_
    refine r_top (by rw [hmk]) ?_
    refine r_istore_n (i := 2) hX d_G_levelOf_8 rfl (by decide) ?_
    refine r_iconst (v := nI 0) hX d_G_levelOf_9 (by decide) ?_
    refine r_istore_n (i := 3) hX d_G_levelOf_10 rfl (by decide) ?_
    refine r_iload_n (i := 2) hX d_G_levelOf_11 rfl rfl ?_
    refine r_iconst (v := nI 1) hX d_G_levelOf_12 (by decide) ?_
    refine r_iand hX d_G_levelOf_13 ?_
    refine r_if_eq 34 hX d_G_levelOf_14 (by decide) (fun c14 => absurd c14 (by decide)) (fun c14 => ?_)
    refine r_iload_n (i := 3) hX d_G_levelOf_17 rfl rfl ?_
    refine r_aload_n (i := 0) hX d_G_levelOf_18 rfl rfl ?_
    refine r_get 0 1 hX d_G_levelOf_19 rfl rfl fi_G (by decide) fl_G_18 rfl rfl ?_
    refine r_aload_n (i := 1) hX d_G_levelOf_22 rfl rfl ?_
    refine r_get (8 + i) 1 hX d_G_levelOf_23 (wc_at rfl hi60) rfl fi_N (by decide) fl_G_132 rfl rfl ?_
    refine r_aald 3 2 (ja) hX d_G_levelOf_26 rfl rfl ha (by omega) (by decide) rfl ?_
    refine r_get (8 + ja) 6 hX d_G_levelOf_27 (wc_at rfl hja) rfl fi_N (by decide) fl_G_77 rfl rfl ?_
    refine r_max hX d_G_levelOf_30 ml_G_146 tw_max_s tw_math tw_max_c (by decide) (Nat.le_of_ble_eq_true rfl) ?_
    refine r_istore_n (i := 3) hX d_G_levelOf_33 rfl (by decide) ?_
    refine r_iload_n (i := 2) hX d_G_levelOf_34 rfl rfl ?_
    refine r_iconst (v := nI 2) hX d_G_levelOf_35 (by decide) ?_
    refine r_iand hX d_G_levelOf_36 ?_
    refine r_if_eq 57 hX d_G_levelOf_37 (by decide) (fun c37 => ?_) (fun c37 => absurd (by decide) c37)
    refine r_iload_n (i := 2) hX d_G_levelOf_57 rfl rfl ?_
    refine r_iconst (v := nI 4) hX d_G_levelOf_58 (by decide) ?_
    refine r_iand hX d_G_levelOf_59 ?_
    refine r_if_eq 80 hX d_G_levelOf_60 (by decide) (fun c60 => ?_) (fun c60 => absurd (by decide) c60)
    refine r_iload_n (i := 3) hX d_G_levelOf_80 rfl rfl ?_
    refine r_iconst (v := nI 1) hX d_G_levelOf_81 (by decide) ?_
    refine r_iadd hX d_G_levelOf_82 ?_
    exact r_iret () hX hF d_G_levelOf_83 trivial (by simp [lvF, mx, opN_nI (show ja < 2 ^ 31 by omega)]) rfl
  · skip
    obtain ⟨jb, hjb, rfl⟩ := hok.2.1 (by decide)
    refine r_gets (ref := "") hX d_G_levelOf_0 fl_G_49 ?_
    refine r_aload_n (i := 1) hX d_G_levelOf_3 rfl rfl ?_
    refine r_get (8 + i) 0 hX d_G_levelOf_4 (wc_at rfl hi60) rfl fi_N (by decide) fl_G_129 rfl rfl ?_
    refine r_ti (j := k) hX d_G_levelOf_7 hkd (by omega) ?_
    refine r_top (by rw [hmk]) ?_
    refine r_istore_n (i := 2) hX d_G_levelOf_8 rfl (by decide) ?_
    refine r_iconst (v := nI 0) hX d_G_levelOf_9 (by decide) ?_
    refine r_istore_n (i := 3) hX d_G_levelOf_10 rfl (by decide) ?_
    refine r_iload_n (i := 2) hX d_G_levelOf_11 rfl rfl ?_
    refine r_iconst (v := nI 1) hX d_G_levelOf_12 (by decide) ?_
    refine r_iand hX d_G_levelOf_13 ?_
    refine r_if_eq 34 hX d_G_levelOf_14 (by decide) (fun c14 => ?_) (fun c14 => absurd (by decide) c14)
    refine r_iload_n (i := 2) hX d_G_levelOf_34 rfl rfl ?_
    refine r_iconst (v := nI 2) hX d_G_levelOf_35 (by decide) ?_
    refine r_iand hX d_G_levelOf_36 ?_
    refine r_if_eq 57 hX d_G_levelOf_37 (by decide) (fun c37 => absurd c37 (by decide)) (fun c37 => ?_)
    refine r_iload_n (i := 3) hX d_G_levelOf_40 rfl rfl ?_
    refine r_aload_n (i := 0) hX d_G_levelOf_41 rfl rfl ?_
    refine r_get 0 1 hX d_G_levelOf_42 rfl rfl fi_G (by decide) fl_G_18 rfl rfl ?_
    refine r_aload_n (i := 1) hX d_G_levelOf_45 rfl rfl ?_
    refine r_get (8 + i) 2 hX d_G_levelOf_46 (wc_at rfl hi60) rfl fi_N (by decide) fl_G_135 rfl rfl ?_
    refine r_aald 3 2 (jb) hX d_G_levelOf_49 rfl rfl hb (by omega) (by decide) rfl ?_
    refine r_get (8 + jb) 6 hX d_G_levelOf_50 (wc_at rfl hjb) rfl fi_N (by decide) fl_G_77 rfl rfl ?_
    refine r_max hX d_G_levelOf_53 ml_G_146 tw_max_s tw_math tw_max_c (by decide) (Nat.le_of_ble_eq_true rfl) ?_
    refine r_istore_n (i := 3) hX d_G_levelOf_56 rfl (by decide) ?_
    refine r_iload_n (i := 2) hX d_G_levelOf_57 rfl rfl ?_
    refine r_iconst (v := nI 4) hX d_G_levelOf_58 (by decide) ?_
    refine r_iand hX d_G_levelOf_59 ?_
    refine r_if_eq 80 hX d_G_levelOf_60 (by decide) (fun c60 => ?_) (fun c60 => absurd (by decide) c60)
    refine r_iload_n (i := 3) hX d_G_levelOf_80 rfl rfl ?_
    refine r_iconst (v := nI 1) hX d_G_levelOf_81 (by decide) ?_
    refine r_iadd hX d_G_levelOf_82 ?_
    exact r_iret () hX hF d_G_levelOf_83 trivial (by simp [lvF, mx, opN_nI (show jb < 2 ^ 31 by omega)]) rfl
  · obtain ⟨ja, hja, rfl⟩ := hok.1 (by decide)
    obtain ⟨jb, hjb, rfl⟩ := hok.2.1 (by decide)
    refine r_gets (ref := "") hX d_G_levelOf_0 fl_G_49 ?_
    refine r_aload_n (i := 1) hX d_G_levelOf_3 rfl rfl ?_
    refine r_get (8 + i) 0 hX d_G_levelOf_4 (wc_at rfl hi60) rfl fi_N (by decide) fl_G_129 rfl rfl ?_
    refine r_ti (j := k) hX d_G_levelOf_7 hkd (by omega) ?_
    refine r_top (by rw [hmk]) ?_
    refine r_istore_n (i := 2) hX d_G_levelOf_8 rfl (by decide) ?_
    refine r_iconst (v := nI 0) hX d_G_levelOf_9 (by decide) ?_
    refine r_istore_n (i := 3) hX d_G_levelOf_10 rfl (by decide) ?_
    refine r_iload_n (i := 2) hX d_G_levelOf_11 rfl rfl ?_
    refine r_iconst (v := nI 1) hX d_G_levelOf_12 (by decide) ?_
    refine r_iand hX d_G_levelOf_13 ?_
    refine r_if_eq 34 hX d_G_levelOf_14 (by decide) (fun c14 => absurd c14 (by decide)) (fun c14 => ?_)
    refine r_iload_n (i := 3) hX d_G_levelOf_17 rfl rfl ?_
    refine r_aload_n (i := 0) hX d_G_levelOf_18 rfl rfl ?_
    refine r_get 0 1 hX d_G_levelOf_19 rfl rfl fi_G (by decide) fl_G_18 rfl rfl ?_
    refine r_aload_n (i := 1) hX d_G_levelOf_22 rfl rfl ?_
    refine r_get (8 + i) 1 hX d_G_levelOf_23 (wc_at rfl hi60) rfl fi_N (by decide) fl_G_132 rfl rfl ?_
    refine r_aald 3 2 (ja) hX d_G_levelOf_26 rfl rfl ha (by omega) (by decide) rfl ?_
    refine r_get (8 + ja) 6 hX d_G_levelOf_27 (wc_at rfl hja) rfl fi_N (by decide) fl_G_77 rfl rfl ?_
    refine r_max hX d_G_levelOf_30 ml_G_146 tw_max_s tw_math tw_max_c (by decide) (Nat.le_of_ble_eq_true rfl) ?_
    refine r_istore_n (i := 3) hX d_G_levelOf_33 rfl (by decide) ?_
    refine r_iload_n (i := 2) hX d_G_levelOf_34 rfl rfl ?_
    refine r_iconst (v := nI 2) hX d_G_levelOf_35 (by decide) ?_
    refine r_iand hX d_G_levelOf_36 ?_
    refine r_if_eq 57 hX d_G_levelOf_37 (by decide) (fun c37 => absurd c37 (by decide)) (fun c37 => ?_)
    refine r_iload_n (i := 3) hX d_G_levelOf_40 rfl rfl ?_
    refine r_aload_n (i := 0) hX d_G_levelOf_41 rfl rfl ?_
    refine r_get 0 1 hX d_G_levelOf_42 rfl rfl fi_G (by decide) fl_G_18 rfl rfl ?_
    refine r_aload_n (i := 1) hX d_G_levelOf_45 rfl rfl ?_
    refine r_get (8 + i) 2 hX d_G_levelOf_46 (wc_at rfl hi60) rfl fi_N (by decide) fl_G_135 rfl rfl ?_
    refine r_aald 3 2 (jb) hX d_G_levelOf_49 rfl rfl hb (by omega) (by decide) rfl ?_
    refine r_get (8 + jb) 6 hX d_G_levelOf_50 (wc_at rfl hjb) rfl fi_N (by decide) fl_G_77 rfl rfl ?_
    refine r_max hX d_G_levelOf_53 ml_G_146 tw_max_s tw_math tw_max_c (by decide) (Nat.le_of_ble_eq_true rfl) ?_
    refine r_istore_n (i := 3) hX d_G_levelOf_56 rfl (by decide) ?_
    refine r_iload_n (i := 2) hX d_G_levelOf_57 rfl rfl ?_
    refine r_iconst (v := nI 4) hX d_G_levelOf_58 (by decide) ?_
    refine r_iand hX d_G_levelOf_59 ?_
    refine r_if_eq 80 hX d_G_levelOf_60 (by decide) (fun c60 => ?_) (fun c60 => absurd (by decide) c60)
    refine r_iload_n (i := 3) hX d_G_levelOf_80 rfl rfl ?_
    refine r_iconst (v := nI 1) hX d_G_levelOf_81 (by decide) ?_
    refine r_iadd hX d_G_levelOf_82 ?_
    exact r_iret () hX hF d_G_levelOf_83 trivial (by simp [lvF, mx, opN_nI (show ja < 2 ^ 31 by omega), opN_nI (show jb < 2 ^ 31 by omega)]) rfl
  · obtain ⟨ja, hja, rfl⟩ := hok.1 (by decide)
    obtain ⟨jb, hjb, rfl⟩ := hok.2.1 (by decide)
    obtain ⟨jc, hjc, rfl⟩ := hok.2.2 rfl
    refine r_gets (ref := "") hX d_G_levelOf_0 fl_G_49 ?_
    refine r_aload_n (i := 1) hX d_G_levelOf_3 rfl rfl ?_
    refine r_get (8 + i) 0 hX d_G_levelOf_4 (wc_at rfl hi60) rfl fi_N (by decide) fl_G_129 rfl rfl ?_
    refine r_ti (j := k) hX d_G_levelOf_7 hkd (by omega) ?_
    refine r_top (by rw [hmk]) ?_
    refine r_istore_n (i := 2) hX d_G_levelOf_8 rfl (by decide) ?_
    refine r_iconst (v := nI 0) hX d_G_levelOf_9 (by decide) ?_
    refine r_istore_n (i := 3) hX d_G_levelOf_10 rfl (by decide) ?_
    refine r_iload_n (i := 2) hX d_G_levelOf_11 rfl rfl ?_
    refine r_iconst (v := nI 1) hX d_G_levelOf_12 (by decide) ?_
    refine r_iand hX d_G_levelOf_13 ?_
    refine r_if_eq 34 hX d_G_levelOf_14 (by decide) (fun c14 => absurd c14 (by decide)) (fun c14 => ?_)
    refine r_iload_n (i := 3) hX d_G_levelOf_17 rfl rfl ?_
    refine r_aload_n (i := 0) hX d_G_levelOf_18 rfl rfl ?_
    refine r_get 0 1 hX d_G_levelOf_19 rfl rfl fi_G (by decide) fl_G_18 rfl rfl ?_
    refine r_aload_n (i := 1) hX d_G_levelOf_22 rfl rfl ?_
    refine r_get (8 + i) 1 hX d_G_levelOf_23 (wc_at rfl hi60) rfl fi_N (by decide) fl_G_132 rfl rfl ?_
    refine r_aald 3 2 (ja) hX d_G_levelOf_26 rfl rfl ha (by omega) (by decide) rfl ?_
    refine r_get (8 + ja) 6 hX d_G_levelOf_27 (wc_at rfl hja) rfl fi_N (by decide) fl_G_77 rfl rfl ?_
    refine r_max hX d_G_levelOf_30 ml_G_146 tw_max_s tw_math tw_max_c (by decide) (Nat.le_of_ble_eq_true rfl) ?_
    refine r_istore_n (i := 3) hX d_G_levelOf_33 rfl (by decide) ?_
    refine r_iload_n (i := 2) hX d_G_levelOf_34 rfl rfl ?_
    refine r_iconst (v := nI 2) hX d_G_levelOf_35 (by decide) ?_
    refine r_iand hX d_G_levelOf_36 ?_
    refine r_if_eq 57 hX d_G_levelOf_37 (by decide) (fun c37 => absurd c37 (by decide)) (fun c37 => ?_)
    refine r_iload_n (i := 3) hX d_G_levelOf_40 rfl rfl ?_
    refine r_aload_n (i := 0) hX d_G_levelOf_41 rfl rfl ?_
    refine r_get 0 1 hX d_G_levelOf_42 rfl rfl fi_G (by decide) fl_G_18 rfl rfl ?_
    refine r_aload_n (i := 1) hX d_G_levelOf_45 rfl rfl ?_
    refine r_get (8 + i) 2 hX d_G_levelOf_46 (wc_at rfl hi60) rfl fi_N (by decide) fl_G_135 rfl rfl ?_
    refine r_aald 3 2 (jb) hX d_G_levelOf_49 rfl rfl hb (by omega) (by decide) rfl ?_
    refine r_get (8 + jb) 6 hX d_G_levelOf_50 (wc_at rfl hjb) rfl fi_N (by decide) fl_G_77 rfl rfl ?_
    refine r_max hX d_G_levelOf_53 ml_G_146 tw_max_s tw_math tw_max_c (by decide) (Nat.le_of_ble_eq_true rfl) ?_
    refine r_istore_n (i := 3) hX d_G_levelOf_56 rfl (by decide) ?_
    refine r_iload_n (i := 2) hX d_G_levelOf_57 rfl rfl ?_
    refine r_iconst (v := nI 4) hX d_G_levelOf_58 (by decide) ?_
    refine r_iand hX d_G_levelOf_59 ?_
    refine r_if_eq 80 hX d_G_levelOf_60 (by decide) (fun c60 => absurd c60 (by decide)) (fun c60 => ?_)
    refine r_iload_n (i := 3) hX d_G_levelOf_63 rfl rfl ?_
    refine r_aload_n (i := 0) hX d_G_levelOf_64 rfl rfl ?_
    refine r_get 0 1 hX d_G_levelOf_65 rfl rfl fi_G (by decide) fl_G_18 rfl rfl ?_
    refine r_aload_n (i := 1) hX d_G_levelOf_68 rfl rfl ?_
    refine r_get (8 + i) 3 hX d_G_levelOf_69 (wc_at rfl hi60) rfl fi_N (by decide) fl_G_138 rfl rfl ?_
    refine r_aald 3 2 (jc) hX d_G_levelOf_72 rfl rfl hc (by omega) (by decide) rfl ?_
    refine r_get (8 + jc) 6 hX d_G_levelOf_73 (wc_at rfl hjc) rfl fi_N (by decide) fl_G_77 rfl rfl ?_
    refine r_max hX d_G_levelOf_76 ml_G_146 tw_max_s tw_math tw_max_c (by decide) (Nat.le_of_ble_eq_true rfl) ?_
    refine r_istore_n (i := 3) hX d_G_levelOf_79 rfl (by decide) ?_
    refine r_iload_n (i := 3) hX d_G_levelOf_80 rfl rfl ?_
    refine r_iconst (v := nI 1) hX d_G_levelOf_81 (by decide) ?_
    refine r_iadd hX d_G_levelOf_82 ?_
    exact r_iret () hX hF d_G_levelOf_83 trivial (by simp [lvF, mx, opN_nI (show ja < 2 ^ 31 by omega), opN_nI (show jb < 2 ^ 31 by omega), opN_nI (show jc < 2 ^ 31 by omega)]) rfl
end ClassB
