/-! The reference: its cells, its readers, type, wipe, clear, node. -/
abbrev WM (am : Nat → Nat) (cI cZ : ClassId) (tl nn rs ae dp : Nat) (tx : Nat → Int32) (mf : Nat → Nat → Int32) (rw sz nv ph tu sv : Nat → Int32) : va_W :=
  [(am 0, .inr (4, [.int (nI tl), .int (nI nn), .int (nI rs), .int (nI ae), .ref (am 1), .ref (am 2), .ref (am 3), .ref (am 4), .ref (am 5), .ref (am 6), .ref (am 7), .ref (am 8), .ref (am 9), .ref (am 10), .ref (am 11), .int (nI dp), .ref (am 12), .ref (am 13), .ref (am 14), .ref (am 15)])), (am 1, .inl (cI, 24, .inl tx)), (am 2, .inl (cI, 60, .inl (mf 0))), (am 3, .inl (cI, 60, .inl (mf 1))), (am 4, .inl (cI, 60, .inl (mf 2))), (am 5, .inl (cI, 60, .inl (mf 3))), (am 6, .inl (cI, 60, .inl (mf 4))), (am 7, .inl (cI, 60, .inl (mf 6))), (am 8, .inl (cI, 60, .inl (mf 5))), (am 9, .inl (cZ, 60, .inl (mf 7))), (am 10, .inl (cI, 6528, .inl rw)), (am 11, .inl (cI, 17, .inl sz)), (am 12, .inl (cI, 8, .inl nv)), (am 13, .inl (cI, 8, .inl ph)), (am 14, .inl (cI, 8, .inl tu)), (am 15, .inl (cI, 40, .inl sv))]
def fitK (nn : Nat) (mf : Nat → Nat → Int32) (k : Nat) (a b c : Int32) : Bool := plainF k a && mfit nn mf (opsN k) a b c
theorem i32_lt1 {a : Int32} : a ≤ 0 ↔ a < nI 1 := by
  rw [Int32.le_iff_toInt_le, Int32.lt_iff_toInt_lt, Int32.toInt_zero, nI_toInt (by decide)]; omega
theorem i32_succ {a : Int32} {n : Nat} (hn : n + 1 < 2 ^ 31) : nI (n + 1) ≤ a ↔ nI n < a := by
  rw [Int32.le_iff_toInt_le, Int32.lt_iff_toInt_lt, nI_toInt hn, nI_toInt (by omega)]; omega
theorem i32_pred {a : Int32} {n : Nat} (hn : n + 1 < 2 ^ 31) : a < nI (n + 1) ↔ a ≤ nI n := by
  rw [Int32.le_iff_toInt_le, Int32.lt_iff_toInt_lt, nI_toInt hn, nI_toInt (by omega)]; omega
section FitK
variable {nn : Nat} {mf : Nat → Nat → Int32} {a b c : Int32}
theorem fitK_0 : fitK nn mf 0 a b c = true := by simp [fitK, plainF, mfit, show opsN 0 = 0 from rfl]
theorem fitK_1 : fitK nn mf 1 a b c = inR a (nI 4) := by simp [fitK, plainF, mfit, show opsN 1 = 0 from rfl]
theorem fitK_2 : fitK nn mf 2 a b c = true := by simp [fitK, plainF, mfit, show opsN 2 = 0 from rfl]
theorem fitK_3 : fitK nn mf 3 a b c = true := by simp [fitK, plainF, mfit, show opsN 3 = 0 from rfl]
theorem fitK_4 : fitK nn mf 4 a b c = isSrt a := by simp [fitK, plainF, mfit, show opsN 4 = 0 from rfl]
theorem fitK_5 : fitK nn mf 5 a b c = isSrt a := by simp [fitK, plainF, mfit, show opsN 5 = 0 from rfl]
theorem fitK_6 : fitK nn mf 6 a b c = true := by simp [fitK, plainF, mfit, show opsN 6 = 0 from rfl]
theorem fitK_7 : fitK nn mf 7 a b c = isSrt a := by simp [fitK, plainF, mfit, show opsN 7 = 0 from rfl]
theorem fitK_8 : fitK nn mf 8 a b c = freeB nn mf a := by simp [fitK, plainF, mfit, show opsN 8 = 1 from rfl]
theorem fitK_9 : fitK nn mf 9 a b c = (freeB nn mf a && (freeB nn mf b && !decide (a = b))) := by simp [fitK, plainF, mfit, show opsN 9 = 3 from rfl]
theorem fitK_10 : fitK nn mf 10 a b c = (freeB nn mf a && (freeB nn mf b && !decide (a = b))) := by simp [fitK, plainF, mfit, show opsN 10 = 3 from rfl]
theorem fitK_11 : fitK nn mf 11 a b c = (freeB nn mf a && (freeB nn mf b && !decide (a = b))) := by simp [fitK, plainF, mfit, show opsN 11 = 3 from rfl]
theorem fitK_12 : fitK nn mf 12 a b c = (freeB nn mf a && (freeB nn mf b && !decide (a = b))) := by simp [fitK, plainF, mfit, show opsN 12 = 3 from rfl]
theorem fitK_13 : fitK nn mf 13 a b c = (freeB nn mf a && (freeB nn mf b && !decide (a = b))) := by simp [fitK, plainF, mfit, show opsN 13 = 3 from rfl]
theorem fitK_14 : fitK nn mf 14 a b c = (freeB nn mf a && (freeB nn mf b && !decide (a = b))) := by simp [fitK, plainF, mfit, show opsN 14 = 3 from rfl]
theorem fitK_15 : fitK nn mf 15 a b c = (freeB nn mf a && (freeB nn mf b && !decide (a = b))) := by simp [fitK, plainF, mfit, show opsN 15 = 3 from rfl]
theorem fitK_16 : fitK nn mf 16 a b c = (freeB nn mf a && (freeB nn mf b && !decide (a = b))) := by simp [fitK, plainF, mfit, show opsN 16 = 3 from rfl]
theorem fitK_17 : fitK nn mf 17 a b c = (inR a (nI 4) && freeB nn mf b) := by simp [fitK, plainF, mfit, show opsN 17 = 2 from rfl]
theorem fitK_18 : fitK nn mf 18 a b c = (cnt8 a && freeB nn mf b) := by simp [fitK, plainF, mfit, show opsN 18 = 2 from rfl]
theorem fitK_19 : fitK nn mf 19 a b c = (freeB nn mf a && (freeB nn mf b && (freeB nn mf c && (!decide (a = b) && (!decide (a = c) && !decide (b = c)))))) := by simp [fitK, plainF, mfit, show opsN 19 = 7 from rfl]
theorem fitK_20 : fitK nn mf 20 a b c = freeB nn mf a := by simp [fitK, plainF, mfit, show opsN 20 = 1 from rfl]
theorem fitK_21 : fitK nn mf 21 a b c = freeB nn mf a := by simp [fitK, plainF, mfit, show opsN 21 = 1 from rfl]
end FitK
def nmA (k : Nat) : Bool := decide (7 < k) && (!decide (k = 17) && !decide (k = 18))
def nmB (k : Nat) : Bool := decide (8 < k) && decide (k < 20)
section ModelA
variable {l : Launch} {D : va_G} {cI cZ cN : ClassId} {am : Nat → Nat} {tl nn rs ae dp : Nat} {tx rw sz nv ph tu sv : Nat → Int32} {mf : Nat → Nat → Int32}
set_option maxRecDepth 100000 in
set_option maxHeartbeats 4000000 in
theorem c_M_type (x : Int32) (ht : tl ≤ 24) : CT l D (tyL cI cZ cN) none y_M_type b_M_type 2 (some .int) 0 [.ref (am 0), .int x] (WM am cI cZ tl nn rs ae dp tx mf rw sz nv ph tu sv) (fun _ : Unit => True) (fun _ => some (.int (if typeOk tl x = true then nI (tl + 1) else -1))) (fun _ => WM am cI cZ (if typeOk tl x = true then tl + 1 else tl) nn rs ae dp (if typeOk tl x = true then upd tx tl x else tx) mf rw sz nv ph tu sv) := by
  refine CT.of (by decide) (Nat.le_of_ble_eq_true rfl) ?_
  intro X A hl hX hF
  refine r_iload_n (i := 1) hX d_M_type_0 rfl rfl ?_
  refine r_if_lt 20 hX d_M_type_1 (by decide) (fun c1 => ?_) (fun c1 => ?_)
  · have hn : typeOk tl x = false := by simp [typeOk, c1]
    refine r_iconst (v := -1) hX d_M_type_20 (by decide) ?_
    exact r_iret () hX hF d_M_type_21 trivial (by rw [hn]; rfl) (by rw [hn]; rfl)
  · refine r_iload_n (i := 1) hX d_M_type_4 rfl rfl ?_
    refine r_sipush (v := nI 255) hX d_M_type_5 (by decide) ?_
    refine r_icmp_gt 20 hX d_M_type_8 (by decide) (fun c8 => ?_) (fun c8 => ?_)
    · have hn : typeOk tl x = false := by simp [typeOk, c8]
      refine r_iconst (v := -1) hX d_M_type_20 (by decide) ?_
      exact r_iret () hX hF d_M_type_21 trivial (by rw [hn]; rfl) (by rw [hn]; rfl)
    · refine r_aload_n (i := 0) hX d_M_type_11 rfl rfl ?_
      refine r_get 0 0 hX d_M_type_12 rfl rfl fi_M (by decide) fl_M_7 rfl rfl ?_
      refine r_bipush (v := nI 24) hX d_M_type_15 (by decide) ?_
      refine r_icmp_ne 22 hX d_M_type_17 (by decide) (fun c17 => ?_) (fun c17 => ?_)
      · have ht2 : tl < 24 := by
          rcases Nat.lt_or_ge tl 24 with h | h
          · exact h
          · exact absurd (by rw [show tl = 24 by omega]) c17
        have hn : typeOk tl x = true := by simp [typeOk, c1, c8, ht2]
        refine r_aload_n (i := 0) hX d_M_type_22 rfl rfl ?_
        refine r_get 0 4 hX d_M_type_23 rfl rfl fi_M (by decide) fl_M_22 rfl rfl ?_
        refine r_aload_n (i := 0) hX d_M_type_26 rfl rfl ?_
        refine r_get 0 0 hX d_M_type_27 rfl rfl fi_M (by decide) fl_M_7 rfl rfl ?_
        refine r_iload_n (i := 1) hX d_M_type_30 rfl rfl ?_
        refine r_iast 1 0 (tl) hX d_M_type_31 rfl rfl rfl (by omega) (by decide) ?_
        refine r_aload_n (i := 0) hX d_M_type_32 rfl rfl ?_
        refine r_dup hX d_M_type_33 rfl ?_
        refine r_get 0 0 hX d_M_type_34 rfl rfl fi_M (by decide) fl_M_7 rfl rfl ?_
        refine r_iconst (v := nI 1) hX d_M_type_37 (by decide) ?_
        refine r_iadd hX d_M_type_38 ?_
        refine r_top (nI_add _ _) ?_
        refine r_put 0 0 hX d_M_type_39 rfl rfl fi_M ft_M_ok fn_M (by decide) fl_M_7 rfl rfl rfl rfl rfl (Nat.le_of_ble_eq_true rfl) ?_
        refine r_aload_n (i := 0) hX d_M_type_42 rfl rfl ?_
        refine r_get 0 0 hX d_M_type_43 rfl rfl fi_M (by decide) fl_M_7 rfl rfl ?_
        exact r_iret () hX hF d_M_type_46 trivial (by rw [hn]; rfl) (by rw [hn]; rfl)
      · have hn : typeOk tl x = false := by
          have := (nI_eq (by omega) (by decide)).mp c17
          simp [typeOk, this]
        refine r_iconst (v := -1) hX d_M_type_20 (by decide) ?_
        exact r_iret () hX hF d_M_type_21 trivial (by rw [hn]; rfl) (by rw [hn]; rfl)
set_option maxRecDepth 100000 in
set_option maxHeartbeats 4000000 in
theorem c_M_wipe : CT l D (tyL cI cZ cN) none y_M_wipe b_M_wipe 2 (some .int) 0 [.ref (am 0)] (WM am cI cZ tl nn rs ae dp tx mf rw sz nv ph tu sv) (fun _ : Unit => True) (fun _ => some (.int (nI tl))) (fun _ => WM am cI cZ 0 nn rs ae dp tx mf rw sz nv ph tu sv) := by
  refine CT.of (by decide) (Nat.le_of_ble_eq_true rfl) ?_
  intro X A hl hX hF
  refine r_aload_n (i := 0) hX d_M_wipe_0 rfl rfl ?_
  refine r_get 0 0 hX d_M_wipe_1 rfl rfl fi_M (by decide) fl_M_7 rfl rfl ?_
  refine r_istore_n (i := 1) hX d_M_wipe_4 rfl (by decide) ?_
  refine r_aload_n (i := 0) hX d_M_wipe_5 rfl rfl ?_
  refine r_iconst (v := nI 0) hX d_M_wipe_6 (by decide) ?_
  refine r_put 0 0 hX d_M_wipe_7 rfl rfl fi_M ft_M_ok fn_M (by decide) fl_M_7 rfl rfl rfl rfl rfl (Nat.le_of_ble_eq_true rfl) ?_
  refine r_iload_n (i := 1) hX d_M_wipe_10 rfl rfl ?_
  exact r_iret () hX hF d_M_wipe_11 trivial rfl rfl
set_option maxRecDepth 100000 in
set_option maxHeartbeats 4000000 in
theorem c_M_clear : CT l D (tyL cI cZ cN) none y_M_clear b_M_clear 2 (some .int) 0 [.ref (am 0)] (WM am cI cZ tl nn rs ae dp tx mf rw sz nv ph tu sv) (fun _ : Unit => True) (fun _ => some (.int (nI nn))) (fun _ => WM am cI cZ tl 0 rs ae dp tx mf rw sz nv ph tu sv) := by
  refine CT.of (by decide) (Nat.le_of_ble_eq_true rfl) ?_
  intro X A hl hX hF
  refine r_aload_n (i := 0) hX d_M_clear_0 rfl rfl ?_
  refine r_get 0 1 hX d_M_clear_1 rfl rfl fi_M (by decide) fl_M_13 rfl rfl ?_
  refine r_istore_n (i := 1) hX d_M_clear_4 rfl (by decide) ?_
  refine r_aload_n (i := 0) hX d_M_clear_5 rfl rfl ?_
  refine r_iconst (v := nI 0) hX d_M_clear_6 (by decide) ?_
  refine r_put 0 1 hX d_M_clear_7 rfl rfl fi_M ft_M_ok fn_M (by decide) fl_M_13 rfl rfl rfl rfl rfl (Nat.le_of_ble_eq_true rfl) ?_
  refine r_iload_n (i := 1) hX d_M_clear_10 rfl rfl ?_
  exact r_iret () hX hF d_M_clear_11 trivial rfl rfl
set_option maxRecDepth 100000 in
set_option maxHeartbeats 4000000 in
theorem c_M_sort (a : Int32) : CT l D (tyL cI cZ cN) none y_M_sort b_M_sort 2 (some .boolean) 0 [.ref (am 0), .int a] (WM am cI cZ tl nn rs ae dp tx mf rw sz nv ph tu sv) (fun _ : Unit => True) (fun _ => some (.int (bI (isSrt a)))) (fun _ => (WM am cI cZ tl nn rs ae dp tx mf rw sz nv ph tu sv)) := by
  refine CT.of (by decide) (Nat.le_of_ble_eq_true rfl) ?_
  intro X A hl hX hF
  refine r_iload_n (i := 1) hX d_M_sort_0 rfl rfl ?_
  refine r_if_lt 9 hX d_M_sort_1 (by decide) (fun c1 => ?_) (fun c1 => ?_)
  · have h4 : (decide (¬ a < 0) && decide (a ≤ nI 4)) = false := by simp [c1]
    refine r_iload_n (i := 1) hX d_M_sort_9 rfl rfl ?_
    refine r_sipush (v := nI 256) hX d_M_sort_10 (by decide) ?_
    refine r_icmp_lt 27 hX d_M_sort_13 (by decide) (fun c13 => ?_) (fun c13 => ?_)
    · have hn : isSrt a = false := by rw [isSrt, h4]; simp [c13]
      refine r_iconst (v := nI 0) hX d_M_sort_27 (by decide) ?_
      exact r_zret () hX hF d_M_sort_28 rfl trivial (by rw [hn]; rfl) rfl
    · refine r_iload_n (i := 1) hX d_M_sort_16 rfl rfl ?_
      refine r_sipush (v := nI 512) hX d_M_sort_17 (by decide) ?_
      refine r_icmp_ge 27 hX d_M_sort_20 (by decide) (fun c20 => ?_) (fun c20 => ?_)
      · have hn : isSrt a = false := by
          have := (i32_succ (n := 511) (by decide)).mp c20
          rw [isSrt, h4]; simp [this]
        refine r_iconst (v := nI 0) hX d_M_sort_27 (by decide) ?_
        exact r_zret () hX hF d_M_sort_28 rfl trivial (by rw [hn]; rfl) rfl
      · have hn : isSrt a = true := by
          have : ¬ nI 511 < a := fun h => c20 ((i32_succ (n := 511) (by decide)).mpr h)
          rw [isSrt, h4]; simp [c13, this]
        refine r_iconst (v := nI 1) hX d_M_sort_23 (by decide) ?_
        refine r_goto 28 hX d_M_sort_24 (by decide) ?_
        exact r_zret () hX hF d_M_sort_28 rfl trivial (by rw [hn]; rfl) rfl
  · refine r_iload_n (i := 1) hX d_M_sort_4 rfl rfl ?_
    refine r_iconst (v := nI 5) hX d_M_sort_5 (by decide) ?_
    refine r_icmp_lt 23 hX d_M_sort_6 (by decide) (fun c6 => ?_) (fun c6 => ?_)
    · have hn : isSrt a = true := by
        have := (i32_pred (n := 4) (by decide)).mp c6
        simp [isSrt, c1, this]
      refine r_iconst (v := nI 1) hX d_M_sort_23 (by decide) ?_
      refine r_goto 28 hX d_M_sort_24 (by decide) ?_
      exact r_zret () hX hF d_M_sort_28 rfl trivial (by rw [hn]; rfl) rfl
    · have h4 : (decide (¬ a < 0) && decide (a ≤ nI 4)) = false := by
        have : ¬ a ≤ nI 4 := fun h => c6 ((i32_pred (n := 4) (by decide)).mpr h)
        simp [this]
      refine r_iload_n (i := 1) hX d_M_sort_9 rfl rfl ?_
      refine r_sipush (v := nI 256) hX d_M_sort_10 (by decide) ?_
      refine r_icmp_lt 27 hX d_M_sort_13 (by decide) (fun c13 => ?_) (fun c13 => ?_)
      · have hn : isSrt a = false := by rw [isSrt, h4]; simp [c13]
        refine r_iconst (v := nI 0) hX d_M_sort_27 (by decide) ?_
        exact r_zret () hX hF d_M_sort_28 rfl trivial (by rw [hn]; rfl) rfl
      · refine r_iload_n (i := 1) hX d_M_sort_16 rfl rfl ?_
        refine r_sipush (v := nI 512) hX d_M_sort_17 (by decide) ?_
        refine r_icmp_ge 27 hX d_M_sort_20 (by decide) (fun c20 => ?_) (fun c20 => ?_)
        · have hn : isSrt a = false := by
            have := (i32_succ (n := 511) (by decide)).mp c20
            rw [isSrt, h4]; simp [this]
          refine r_iconst (v := nI 0) hX d_M_sort_27 (by decide) ?_
          exact r_zret () hX hF d_M_sort_28 rfl trivial (by rw [hn]; rfl) rfl
        · have hn : isSrt a = true := by
            have : ¬ nI 511 < a := fun h => c20 ((i32_succ (n := 511) (by decide)).mpr h)
            rw [isSrt, h4]; simp [c13, this]
          refine r_iconst (v := nI 1) hX d_M_sort_23 (by decide) ?_
          refine r_goto 28 hX d_M_sort_24 (by decide) ?_
          exact r_zret () hX hF d_M_sort_28 rfl trivial (by rw [hn]; rfl) rfl
set_option maxRecDepth 100000 in
set_option maxHeartbeats 4000000 in
theorem c_M_free (r : Int32) (hnn : nn ≤ 60) : CT l D (tyL cI cZ cN) none y_M_free b_M_free 2 (some .boolean) 0 [.ref (am 0), .int r] (WM am cI cZ tl nn rs ae dp tx mf rw sz nv ph tu sv) (fun _ : Unit => True) (fun _ => some (.int (bI (freeB nn mf r)))) (fun _ => (WM am cI cZ tl nn rs ae dp tx mf rw sz nv ph tu sv)) := by
  refine CT.of (by decide) (Nat.le_of_ble_eq_true rfl) ?_
  intro X A hl hX hF
  refine r_iload_n (i := 1) hX d_M_free_0 rfl rfl ?_
  refine r_if_lt 25 hX d_M_free_1 (by decide) (fun c1 => ?_) (fun c1 => ?_)
  · have hn : freeB nn mf r = false := by simp [freeB, inR, c1]
    refine r_iconst (v := nI 0) hX d_M_free_25 (by decide) ?_
    exact r_zret () hX hF d_M_free_26 rfl trivial (by rw [hn]; rfl) rfl
  · refine r_iload_n (i := 1) hX d_M_free_4 rfl rfl ?_
    refine r_aload_n (i := 0) hX d_M_free_5 rfl rfl ?_
    refine r_get 0 1 hX d_M_free_6 rfl rfl fi_M (by decide) fl_M_13 rfl rfl ?_
    refine r_icmp_ge 25 hX d_M_free_9 (by decide) (fun c9 => ?_) (fun c9 => ?_)
    · have hn : freeB nn mf r = false := by simp [freeB, inR, c9]
      refine r_iconst (v := nI 0) hX d_M_free_25 (by decide) ?_
      exact r_zret () hX hF d_M_free_26 rfl trivial (by rw [hn]; rfl) rfl
    · have hr : inR r (nI nn) = true := by simp [inR, c1, c9]
      obtain ⟨j, hj, rfl⟩ := inR_of hr (by omega)
      refine r_aload_n (i := 0) hX d_M_free_12 rfl rfl ?_
      refine r_get 0 12 hX d_M_free_13 rfl rfl fi_M (by decide) fl_M_47 rfl rfl ?_
      refine r_iload_n (i := 1) hX d_M_free_16 rfl rfl ?_
      refine r_zald 9 1 (j) hX d_M_free_17 rfl rfl rfl (by omega) (by decide) ?_
      refine r_if_ne 25 hX d_M_free_18 (by decide) (fun c18 => ?_) (fun c18 => ?_)
      · have hn : freeB nn mf (nI j) = false := by rw [freeB, opN_nI (by omega)]; simp [c18]
        refine r_iconst (v := nI 0) hX d_M_free_25 (by decide) ?_
        exact r_zret () hX hF d_M_free_26 rfl trivial (by rw [hn]; rfl) rfl
      · have hn : freeB nn mf (nI j) = true := by rw [freeB, opN_nI (by omega), hr]; simp [c18]
        refine r_iconst (v := nI 1) hX d_M_free_21 (by decide) ?_
        refine r_goto 26 hX d_M_free_22 (by decide) ?_
        exact r_zret () hX hF d_M_free_26 rfl trivial (by rw [hn]; rfl) rfl
set_option maxRecDepth 100000 in
set_option maxHeartbeats 4000000 in
theorem c_M_fits (k : Nat) (a b c : Int32) (hk : k ≤ 21) (hnn : nn ≤ 60) : CT l D (tyL cI cZ cN) none y_M_fits b_M_fits 5 (some .boolean) 1 [.ref (am 0), .int (nI k), .int a, .int b, .int c] (WM am cI cZ tl nn rs ae dp tx mf rw sz nv ph tu sv) (fun _ : Unit => True) (fun _ => some (.int (bI (fitK nn mf k a b c)))) (fun _ => (WM am cI cZ tl nn rs ae dp tx mf rw sz nv ph tu sv)) := by
  refine CT.of (by decide) (Nat.le_of_ble_eq_true rfl) ?_
  intro X A hl hX hF
  rcases k22 hk with rfl | rfl | rfl | rfl | rfl | rfl | rfl | rfl | rfl | rfl | rfl | rfl | rfl | rfl | rfl | rfl | rfl | rfl | rfl | rfl | rfl | rfl
  · rw [fitK_0] at hF
    refine r_iload_n (i := 1) hX d_M_fits_0 rfl rfl ?_
    refine r_if_eq 20 hX d_M_fits_1 (by decide) (fun c1 => ?_) (fun c1 => absurd c1 (by decide))
    refine r_iconst (v := nI 1) hX d_M_fits_20 (by decide) ?_
    exact r_zret () hX hF d_M_fits_21 rfl trivial rfl rfl
  · rw [fitK_1] at hF
    refine r_iload_n (i := 1) hX d_M_fits_0 rfl rfl ?_
    refine r_if_eq 20 hX d_M_fits_1 (by decide) (fun c1 => absurd c1 (by decide)) (fun c1 => ?_)
    refine r_iload_n (i := 1) hX d_M_fits_4 rfl rfl ?_
    refine r_iconst (v := nI 2) hX d_M_fits_5 (by decide) ?_
    refine r_icmp_eq 20 hX d_M_fits_6 (by decide) (fun c6 => absurd c6 (by decide)) (fun c6 => ?_)
    refine r_iload_n (i := 1) hX d_M_fits_9 rfl rfl ?_
    refine r_iconst (v := nI 3) hX d_M_fits_10 (by decide) ?_
    refine r_icmp_eq 20 hX d_M_fits_11 (by decide) (fun c11 => absurd c11 (by decide)) (fun c11 => ?_)
    refine r_iload_n (i := 1) hX d_M_fits_14 rfl rfl ?_
    refine r_bipush (v := nI 6) hX d_M_fits_15 (by decide) ?_
    refine r_icmp_ne 22 hX d_M_fits_17 (by decide) (fun c17 => ?_) (fun c17 => absurd c17 (by decide))
    refine r_iload_n (i := 1) hX d_M_fits_22 rfl rfl ?_
    refine r_iconst (v := nI 1) hX d_M_fits_23 (by decide) ?_
    refine r_icmp_ne 42 hX d_M_fits_24 (by decide) (fun c24 => absurd c24 (by decide)) (fun c24 => ?_)
    refine r_iload_n (i := 2) hX d_M_fits_27 rfl rfl ?_
    refine r_if_lt 40 hX d_M_fits_28 (by decide) (fun c28 => ?_) (fun c28 => ?_)
    · have hn : inR a (nI 4) = false := by simp [inR, c28]
      refine r_iconst (v := nI 0) hX d_M_fits_40 (by decide) ?_
      exact r_zret () hX hF d_M_fits_41 rfl trivial (by rw [hn]; rfl) rfl
    · refine r_iload_n (i := 2) hX d_M_fits_31 rfl rfl ?_
      refine r_iconst (v := nI 4) hX d_M_fits_32 (by decide) ?_
      refine r_icmp_ge 40 hX d_M_fits_33 (by decide) (fun c33 => ?_) (fun c33 => ?_)
      · have hn : inR a (nI 4) = false := by simp [inR, c33]
        refine r_iconst (v := nI 0) hX d_M_fits_40 (by decide) ?_
        exact r_zret () hX hF d_M_fits_41 rfl trivial (by rw [hn]; rfl) rfl
      · have hn : inR a (nI 4) = true := by simp [inR, c28, c33]
        refine r_iconst (v := nI 1) hX d_M_fits_36 (by decide) ?_
        refine r_goto 41 hX d_M_fits_37 (by decide) ?_
        exact r_zret () hX hF d_M_fits_41 rfl trivial (by rw [hn]; rfl) rfl
  · rw [fitK_2] at hF
    refine r_iload_n (i := 1) hX d_M_fits_0 rfl rfl ?_
    refine r_if_eq 20 hX d_M_fits_1 (by decide) (fun c1 => absurd c1 (by decide)) (fun c1 => ?_)
    refine r_iload_n (i := 1) hX d_M_fits_4 rfl rfl ?_
    refine r_iconst (v := nI 2) hX d_M_fits_5 (by decide) ?_
    refine r_icmp_eq 20 hX d_M_fits_6 (by decide) (fun c6 => ?_) (fun c6 => absurd c6 (by decide))
    refine r_iconst (v := nI 1) hX d_M_fits_20 (by decide) ?_
    exact r_zret () hX hF d_M_fits_21 rfl trivial rfl rfl
  · rw [fitK_3] at hF
    refine r_iload_n (i := 1) hX d_M_fits_0 rfl rfl ?_
    refine r_if_eq 20 hX d_M_fits_1 (by decide) (fun c1 => absurd c1 (by decide)) (fun c1 => ?_)
    refine r_iload_n (i := 1) hX d_M_fits_4 rfl rfl ?_
    refine r_iconst (v := nI 2) hX d_M_fits_5 (by decide) ?_
    refine r_icmp_eq 20 hX d_M_fits_6 (by decide) (fun c6 => absurd c6 (by decide)) (fun c6 => ?_)
    refine r_iload_n (i := 1) hX d_M_fits_9 rfl rfl ?_
    refine r_iconst (v := nI 3) hX d_M_fits_10 (by decide) ?_
    refine r_icmp_eq 20 hX d_M_fits_11 (by decide) (fun c11 => ?_) (fun c11 => absurd c11 (by decide))
    refine r_iconst (v := nI 1) hX d_M_fits_20 (by decide) ?_
    exact r_zret () hX hF d_M_fits_21 rfl trivial rfl rfl
  · rw [fitK_4] at hF
    refine r_iload_n (i := 1) hX d_M_fits_0 rfl rfl ?_
    refine r_if_eq 20 hX d_M_fits_1 (by decide) (fun c1 => absurd c1 (by decide)) (fun c1 => ?_)
    refine r_iload_n (i := 1) hX d_M_fits_4 rfl rfl ?_
    refine r_iconst (v := nI 2) hX d_M_fits_5 (by decide) ?_
    refine r_icmp_eq 20 hX d_M_fits_6 (by decide) (fun c6 => absurd c6 (by decide)) (fun c6 => ?_)
    refine r_iload_n (i := 1) hX d_M_fits_9 rfl rfl ?_
    refine r_iconst (v := nI 3) hX d_M_fits_10 (by decide) ?_
    refine r_icmp_eq 20 hX d_M_fits_11 (by decide) (fun c11 => absurd c11 (by decide)) (fun c11 => ?_)
    refine r_iload_n (i := 1) hX d_M_fits_14 rfl rfl ?_
    refine r_bipush (v := nI 6) hX d_M_fits_15 (by decide) ?_
    refine r_icmp_ne 22 hX d_M_fits_17 (by decide) (fun c17 => ?_) (fun c17 => absurd c17 (by decide))
    refine r_iload_n (i := 1) hX d_M_fits_22 rfl rfl ?_
    refine r_iconst (v := nI 1) hX d_M_fits_23 (by decide) ?_
    refine r_icmp_ne 42 hX d_M_fits_24 (by decide) (fun c24 => ?_) (fun c24 => absurd c24 (by decide))
    refine r_iload_n (i := 1) hX d_M_fits_42 rfl rfl ?_
    refine r_iconst (v := nI 4) hX d_M_fits_43 (by decide) ?_
    refine r_icmp_eq 58 hX d_M_fits_44 (by decide) (fun c44 => ?_) (fun c44 => absurd c44 (by decide))
    refine r_aload_n (i := 0) hX d_M_fits_58 rfl rfl ?_
    refine r_iload_n (i := 2) hX d_M_fits_59 rfl rfl ?_
    refine r_callVwi (q0 := 0) hX d_M_fits_60 cw_M_sort ml_M_72 (c_M_sort a) (Or.inl rfl) rfl rfl rfl rfl (by decide) (Nat.le_of_ble_eq_true rfl) (fun _ => rfl) (fun _ _ => ?_)
    exact r_zret () hX hF d_M_fits_63 (bI_nar _) trivial rfl rfl
  · rw [fitK_5] at hF
    refine r_iload_n (i := 1) hX d_M_fits_0 rfl rfl ?_
    refine r_if_eq 20 hX d_M_fits_1 (by decide) (fun c1 => absurd c1 (by decide)) (fun c1 => ?_)
    refine r_iload_n (i := 1) hX d_M_fits_4 rfl rfl ?_
    refine r_iconst (v := nI 2) hX d_M_fits_5 (by decide) ?_
    refine r_icmp_eq 20 hX d_M_fits_6 (by decide) (fun c6 => absurd c6 (by decide)) (fun c6 => ?_)
    refine r_iload_n (i := 1) hX d_M_fits_9 rfl rfl ?_
    refine r_iconst (v := nI 3) hX d_M_fits_10 (by decide) ?_
    refine r_icmp_eq 20 hX d_M_fits_11 (by decide) (fun c11 => absurd c11 (by decide)) (fun c11 => ?_)
    refine r_iload_n (i := 1) hX d_M_fits_14 rfl rfl ?_
    refine r_bipush (v := nI 6) hX d_M_fits_15 (by decide) ?_
    refine r_icmp_ne 22 hX d_M_fits_17 (by decide) (fun c17 => ?_) (fun c17 => absurd c17 (by decide))
    refine r_iload_n (i := 1) hX d_M_fits_22 rfl rfl ?_
    refine r_iconst (v := nI 1) hX d_M_fits_23 (by decide) ?_
    refine r_icmp_ne 42 hX d_M_fits_24 (by decide) (fun c24 => ?_) (fun c24 => absurd c24 (by decide))
    refine r_iload_n (i := 1) hX d_M_fits_42 rfl rfl ?_
    refine r_iconst (v := nI 4) hX d_M_fits_43 (by decide) ?_
    refine r_icmp_eq 58 hX d_M_fits_44 (by decide) (fun c44 => absurd c44 (by decide)) (fun c44 => ?_)
    refine r_iload_n (i := 1) hX d_M_fits_47 rfl rfl ?_
    refine r_iconst (v := nI 5) hX d_M_fits_48 (by decide) ?_
    refine r_icmp_eq 58 hX d_M_fits_49 (by decide) (fun c49 => ?_) (fun c49 => absurd c49 (by decide))
    refine r_aload_n (i := 0) hX d_M_fits_58 rfl rfl ?_
    refine r_iload_n (i := 2) hX d_M_fits_59 rfl rfl ?_
    refine r_callVwi (q0 := 0) hX d_M_fits_60 cw_M_sort ml_M_72 (c_M_sort a) (Or.inl rfl) rfl rfl rfl rfl (by decide) (Nat.le_of_ble_eq_true rfl) (fun _ => rfl) (fun _ _ => ?_)
    exact r_zret () hX hF d_M_fits_63 (bI_nar _) trivial rfl rfl
  · rw [fitK_6] at hF
    refine r_iload_n (i := 1) hX d_M_fits_0 rfl rfl ?_
    refine r_if_eq 20 hX d_M_fits_1 (by decide) (fun c1 => absurd c1 (by decide)) (fun c1 => ?_)
    refine r_iload_n (i := 1) hX d_M_fits_4 rfl rfl ?_
    refine r_iconst (v := nI 2) hX d_M_fits_5 (by decide) ?_
    refine r_icmp_eq 20 hX d_M_fits_6 (by decide) (fun c6 => absurd c6 (by decide)) (fun c6 => ?_)
    refine r_iload_n (i := 1) hX d_M_fits_9 rfl rfl ?_
    refine r_iconst (v := nI 3) hX d_M_fits_10 (by decide) ?_
    refine r_icmp_eq 20 hX d_M_fits_11 (by decide) (fun c11 => absurd c11 (by decide)) (fun c11 => ?_)
    refine r_iload_n (i := 1) hX d_M_fits_14 rfl rfl ?_
    refine r_bipush (v := nI 6) hX d_M_fits_15 (by decide) ?_
    refine r_icmp_ne 22 hX d_M_fits_17 (by decide) (fun c17 => absurd c17 (by decide)) (fun c17 => ?_)
    refine r_iconst (v := nI 1) hX d_M_fits_20 (by decide) ?_
    exact r_zret () hX hF d_M_fits_21 rfl trivial rfl rfl
  · rw [fitK_7] at hF
    refine r_iload_n (i := 1) hX d_M_fits_0 rfl rfl ?_
    refine r_if_eq 20 hX d_M_fits_1 (by decide) (fun c1 => absurd c1 (by decide)) (fun c1 => ?_)
    refine r_iload_n (i := 1) hX d_M_fits_4 rfl rfl ?_
    refine r_iconst (v := nI 2) hX d_M_fits_5 (by decide) ?_
    refine r_icmp_eq 20 hX d_M_fits_6 (by decide) (fun c6 => absurd c6 (by decide)) (fun c6 => ?_)
    refine r_iload_n (i := 1) hX d_M_fits_9 rfl rfl ?_
    refine r_iconst (v := nI 3) hX d_M_fits_10 (by decide) ?_
    refine r_icmp_eq 20 hX d_M_fits_11 (by decide) (fun c11 => absurd c11 (by decide)) (fun c11 => ?_)
    refine r_iload_n (i := 1) hX d_M_fits_14 rfl rfl ?_
    refine r_bipush (v := nI 6) hX d_M_fits_15 (by decide) ?_
    refine r_icmp_ne 22 hX d_M_fits_17 (by decide) (fun c17 => ?_) (fun c17 => absurd c17 (by decide))
    refine r_iload_n (i := 1) hX d_M_fits_22 rfl rfl ?_
    refine r_iconst (v := nI 1) hX d_M_fits_23 (by decide) ?_
    refine r_icmp_ne 42 hX d_M_fits_24 (by decide) (fun c24 => ?_) (fun c24 => absurd c24 (by decide))
    refine r_iload_n (i := 1) hX d_M_fits_42 rfl rfl ?_
    refine r_iconst (v := nI 4) hX d_M_fits_43 (by decide) ?_
    refine r_icmp_eq 58 hX d_M_fits_44 (by decide) (fun c44 => absurd c44 (by decide)) (fun c44 => ?_)
    refine r_iload_n (i := 1) hX d_M_fits_47 rfl rfl ?_
    refine r_iconst (v := nI 5) hX d_M_fits_48 (by decide) ?_
    refine r_icmp_eq 58 hX d_M_fits_49 (by decide) (fun c49 => absurd c49 (by decide)) (fun c49 => ?_)
    refine r_iload_n (i := 1) hX d_M_fits_52 rfl rfl ?_
    refine r_bipush (v := nI 7) hX d_M_fits_53 (by decide) ?_
    refine r_icmp_ne 64 hX d_M_fits_55 (by decide) (fun c55 => absurd c55 (by decide)) (fun c55 => ?_)
    refine r_aload_n (i := 0) hX d_M_fits_58 rfl rfl ?_
    refine r_iload_n (i := 2) hX d_M_fits_59 rfl rfl ?_
    refine r_callVwi (q0 := 0) hX d_M_fits_60 cw_M_sort ml_M_72 (c_M_sort a) (Or.inl rfl) rfl rfl rfl rfl (by decide) (Nat.le_of_ble_eq_true rfl) (fun _ => rfl) (fun _ _ => ?_)
    exact r_zret () hX hF d_M_fits_63 (bI_nar _) trivial rfl rfl
  · rw [fitK_8] at hF
    refine r_iload_n (i := 1) hX d_M_fits_0 rfl rfl ?_
    refine r_if_eq 20 hX d_M_fits_1 (by decide) (fun c1 => absurd c1 (by decide)) (fun c1 => ?_)
    refine r_iload_n (i := 1) hX d_M_fits_4 rfl rfl ?_
    refine r_iconst (v := nI 2) hX d_M_fits_5 (by decide) ?_
    refine r_icmp_eq 20 hX d_M_fits_6 (by decide) (fun c6 => absurd c6 (by decide)) (fun c6 => ?_)
    refine r_iload_n (i := 1) hX d_M_fits_9 rfl rfl ?_
    refine r_iconst (v := nI 3) hX d_M_fits_10 (by decide) ?_
    refine r_icmp_eq 20 hX d_M_fits_11 (by decide) (fun c11 => absurd c11 (by decide)) (fun c11 => ?_)
    refine r_iload_n (i := 1) hX d_M_fits_14 rfl rfl ?_
    refine r_bipush (v := nI 6) hX d_M_fits_15 (by decide) ?_
    refine r_icmp_ne 22 hX d_M_fits_17 (by decide) (fun c17 => ?_) (fun c17 => absurd c17 (by decide))
    refine r_iload_n (i := 1) hX d_M_fits_22 rfl rfl ?_
    refine r_iconst (v := nI 1) hX d_M_fits_23 (by decide) ?_
    refine r_icmp_ne 42 hX d_M_fits_24 (by decide) (fun c24 => ?_) (fun c24 => absurd c24 (by decide))
    refine r_iload_n (i := 1) hX d_M_fits_42 rfl rfl ?_
    refine r_iconst (v := nI 4) hX d_M_fits_43 (by decide) ?_
    refine r_icmp_eq 58 hX d_M_fits_44 (by decide) (fun c44 => absurd c44 (by decide)) (fun c44 => ?_)
    refine r_iload_n (i := 1) hX d_M_fits_47 rfl rfl ?_
    refine r_iconst (v := nI 5) hX d_M_fits_48 (by decide) ?_
    refine r_icmp_eq 58 hX d_M_fits_49 (by decide) (fun c49 => absurd c49 (by decide)) (fun c49 => ?_)
    refine r_iload_n (i := 1) hX d_M_fits_52 rfl rfl ?_
    refine r_bipush (v := nI 7) hX d_M_fits_53 (by decide) ?_
    refine r_icmp_ne 64 hX d_M_fits_55 (by decide) (fun c55 => ?_) (fun c55 => absurd c55 (by decide))
    refine r_iload_n (i := 1) hX d_M_fits_64 rfl rfl ?_
    refine r_bipush (v := nI 8) hX d_M_fits_65 (by decide) ?_
    refine r_icmp_eq 82 hX d_M_fits_67 (by decide) (fun c67 => ?_) (fun c67 => absurd c67 (by decide))
    refine r_aload_n (i := 0) hX d_M_fits_82 rfl rfl ?_
    refine r_iload_n (i := 2) hX d_M_fits_83 rfl rfl ?_
    refine r_callVwi (q0 := 0) hX d_M_fits_84 cw_M_free ml_M_76 (c_M_free a hnn) (Or.inl rfl) rfl rfl rfl rfl (by decide) (Nat.le_of_ble_eq_true rfl) (fun _ => rfl) (fun _ _ => ?_)
    exact r_zret () hX hF d_M_fits_87 (bI_nar _) trivial rfl rfl
  · rw [fitK_9] at hF
    refine r_iload_n (i := 1) hX d_M_fits_0 rfl rfl ?_
    refine r_if_eq 20 hX d_M_fits_1 (by decide) (fun c1 => absurd c1 (by decide)) (fun c1 => ?_)
    refine r_iload_n (i := 1) hX d_M_fits_4 rfl rfl ?_
    refine r_iconst (v := nI 2) hX d_M_fits_5 (by decide) ?_
    refine r_icmp_eq 20 hX d_M_fits_6 (by decide) (fun c6 => absurd c6 (by decide)) (fun c6 => ?_)
    refine r_iload_n (i := 1) hX d_M_fits_9 rfl rfl ?_
    refine r_iconst (v := nI 3) hX d_M_fits_10 (by decide) ?_
    refine r_icmp_eq 20 hX d_M_fits_11 (by decide) (fun c11 => absurd c11 (by decide)) (fun c11 => ?_)
    refine r_iload_n (i := 1) hX d_M_fits_14 rfl rfl ?_
    refine r_bipush (v := nI 6) hX d_M_fits_15 (by decide) ?_
    refine r_icmp_ne 22 hX d_M_fits_17 (by decide) (fun c17 => ?_) (fun c17 => absurd c17 (by decide))
    refine r_iload_n (i := 1) hX d_M_fits_22 rfl rfl ?_
    refine r_iconst (v := nI 1) hX d_M_fits_23 (by decide) ?_
    refine r_icmp_ne 42 hX d_M_fits_24 (by decide) (fun c24 => ?_) (fun c24 => absurd c24 (by decide))
    refine r_iload_n (i := 1) hX d_M_fits_42 rfl rfl ?_
    refine r_iconst (v := nI 4) hX d_M_fits_43 (by decide) ?_
    refine r_icmp_eq 58 hX d_M_fits_44 (by decide) (fun c44 => absurd c44 (by decide)) (fun c44 => ?_)
    refine r_iload_n (i := 1) hX d_M_fits_47 rfl rfl ?_
    refine r_iconst (v := nI 5) hX d_M_fits_48 (by decide) ?_
    refine r_icmp_eq 58 hX d_M_fits_49 (by decide) (fun c49 => absurd c49 (by decide)) (fun c49 => ?_)
    refine r_iload_n (i := 1) hX d_M_fits_52 rfl rfl ?_
    refine r_bipush (v := nI 7) hX d_M_fits_53 (by decide) ?_
    refine r_icmp_ne 64 hX d_M_fits_55 (by decide) (fun c55 => ?_) (fun c55 => absurd c55 (by decide))
    refine r_iload_n (i := 1) hX d_M_fits_64 rfl rfl ?_
    refine r_bipush (v := nI 8) hX d_M_fits_65 (by decide) ?_
    refine r_icmp_eq 82 hX d_M_fits_67 (by decide) (fun c67 => absurd c67 (by decide)) (fun c67 => ?_)
    refine r_iload_n (i := 1) hX d_M_fits_70 rfl rfl ?_
    refine r_bipush (v := nI 20) hX d_M_fits_71 (by decide) ?_
    refine r_icmp_eq 82 hX d_M_fits_73 (by decide) (fun c73 => absurd c73 (by decide)) (fun c73 => ?_)
    refine r_iload_n (i := 1) hX d_M_fits_76 rfl rfl ?_
    refine r_bipush (v := nI 21) hX d_M_fits_77 (by decide) ?_
    refine r_icmp_ne 88 hX d_M_fits_79 (by decide) (fun c79 => ?_) (fun c79 => absurd c79 (by decide))
    refine r_iload_n (i := 1) hX d_M_fits_88 rfl rfl ?_
    refine r_bipush (v := nI 17) hX d_M_fits_89 (by decide) ?_
    refine r_icmp_ne 117 hX d_M_fits_91 (by decide) (fun c91 => ?_) (fun c91 => absurd c91 (by decide))
    refine r_iload_n (i := 1) hX d_M_fits_117 rfl rfl ?_
    refine r_bipush (v := nI 18) hX d_M_fits_118 (by decide) ?_
    refine r_icmp_ne 147 hX d_M_fits_120 (by decide) (fun c120 => ?_) (fun c120 => absurd c120 (by decide))
    refine r_iload_n (i := 1) hX d_M_fits_147 rfl rfl ?_
    refine r_bipush (v := nI 19) hX d_M_fits_148 (by decide) ?_
    refine r_icmp_ne 201 hX d_M_fits_150 (by decide) (fun c150 => ?_) (fun c150 => absurd c150 (by decide))
    refine r_iload_n (i := 1) hX d_M_fits_201 rfl rfl ?_
    refine r_bipush (v := nI 8) hX d_M_fits_202 (by decide) ?_
    refine r_icmp_le 238 hX d_M_fits_204 (by decide) (fun c204 => absurd c204 (by decide)) (fun c204 => ?_)
    refine r_iload_n (i := 1) hX d_M_fits_207 rfl rfl ?_
    refine r_bipush (v := nI 17) hX d_M_fits_208 (by decide) ?_
    refine r_icmp_ge 238 hX d_M_fits_210 (by decide) (fun c210 => absurd c210 (by decide)) (fun c210 => ?_)
    refine r_aload_n (i := 0) hX d_M_fits_213 rfl rfl ?_
    refine r_iload_n (i := 2) hX d_M_fits_214 rfl rfl ?_
    refine r_callVwi (q0 := 0) hX d_M_fits_215 cw_M_free ml_M_76 (c_M_free a hnn) (Or.inl rfl) rfl rfl rfl rfl (by decide) (Nat.le_of_ble_eq_true rfl) (fun _ => rfl) (fun _ _ => ?_)
    refine r_if_eq 238 hX d_M_fits_218 (by decide) (fun c218 => ?_) (fun c218 => ?_)
    · have hn : (freeB nn mf a && (freeB nn mf b && !decide (a = b))) = false := by have := bI_0 c218; simp [this]
      refine r_iconst (v := nI 0) hX d_M_fits_238 (by decide) ?_
      exact r_zret () hX hF d_M_fits_239 rfl trivial (by rw [hn]; rfl) rfl
    · refine r_aload_n (i := 0) hX d_M_fits_221 rfl rfl ?_
      refine r_iload_n (i := 3) hX d_M_fits_222 rfl rfl ?_
      refine r_callVwi (q0 := 0) hX d_M_fits_223 cw_M_free ml_M_76 (c_M_free b hnn) (Or.inl rfl) rfl rfl rfl rfl (by decide) (Nat.le_of_ble_eq_true rfl) (fun _ => rfl) (fun _ _ => ?_)
      refine r_if_eq 238 hX d_M_fits_226 (by decide) (fun c226 => ?_) (fun c226 => ?_)
      · have hn : (freeB nn mf a && (freeB nn mf b && !decide (a = b))) = false := by have := bI_0 c226; simp [this]
        refine r_iconst (v := nI 0) hX d_M_fits_238 (by decide) ?_
        exact r_zret () hX hF d_M_fits_239 rfl trivial (by rw [hn]; rfl) rfl
      · refine r_iload_n (i := 2) hX d_M_fits_229 rfl rfl ?_
        refine r_iload_n (i := 3) hX d_M_fits_230 rfl rfl ?_
        refine r_icmp_eq 238 hX d_M_fits_231 (by decide) (fun c231 => ?_) (fun c231 => ?_)
        · have hn : (freeB nn mf a && (freeB nn mf b && !decide (a = b))) = false := by simp [c231]
          refine r_iconst (v := nI 0) hX d_M_fits_238 (by decide) ?_
          exact r_zret () hX hF d_M_fits_239 rfl trivial (by rw [hn]; rfl) rfl
        · have hn : (freeB nn mf a && (freeB nn mf b && !decide (a = b))) = true := by have h1 := bI_1 c218; have h2 := bI_1 c226; simp [h1, h2, c231]
          refine r_iconst (v := nI 1) hX d_M_fits_234 (by decide) ?_
          refine r_goto 239 hX d_M_fits_235 (by decide) ?_
          exact r_zret () hX hF d_M_fits_239 rfl trivial (by rw [hn]; rfl) rfl
  · rw [fitK_10] at hF
    refine r_iload_n (i := 1) hX d_M_fits_0 rfl rfl ?_
    refine r_if_eq 20 hX d_M_fits_1 (by decide) (fun c1 => absurd c1 (by decide)) (fun c1 => ?_)
    refine r_iload_n (i := 1) hX d_M_fits_4 rfl rfl ?_
    refine r_iconst (v := nI 2) hX d_M_fits_5 (by decide) ?_
    refine r_icmp_eq 20 hX d_M_fits_6 (by decide) (fun c6 => absurd c6 (by decide)) (fun c6 => ?_)
    refine r_iload_n (i := 1) hX d_M_fits_9 rfl rfl ?_
    refine r_iconst (v := nI 3) hX d_M_fits_10 (by decide) ?_
    refine r_icmp_eq 20 hX d_M_fits_11 (by decide) (fun c11 => absurd c11 (by decide)) (fun c11 => ?_)
    refine r_iload_n (i := 1) hX d_M_fits_14 rfl rfl ?_
    refine r_bipush (v := nI 6) hX d_M_fits_15 (by decide) ?_
    refine r_icmp_ne 22 hX d_M_fits_17 (by decide) (fun c17 => ?_) (fun c17 => absurd c17 (by decide))
    refine r_iload_n (i := 1) hX d_M_fits_22 rfl rfl ?_
    refine r_iconst (v := nI 1) hX d_M_fits_23 (by decide) ?_
    refine r_icmp_ne 42 hX d_M_fits_24 (by decide) (fun c24 => ?_) (fun c24 => absurd c24 (by decide))
    refine r_iload_n (i := 1) hX d_M_fits_42 rfl rfl ?_
    refine r_iconst (v := nI 4) hX d_M_fits_43 (by decide) ?_
    refine r_icmp_eq 58 hX d_M_fits_44 (by decide) (fun c44 => absurd c44 (by decide)) (fun c44 => ?_)
    refine r_iload_n (i := 1) hX d_M_fits_47 rfl rfl ?_
    refine r_iconst (v := nI 5) hX d_M_fits_48 (by decide) ?_
    refine r_icmp_eq 58 hX d_M_fits_49 (by decide) (fun c49 => absurd c49 (by decide)) (fun c49 => ?_)
    refine r_iload_n (i := 1) hX d_M_fits_52 rfl rfl ?_
    refine r_bipush (v := nI 7) hX d_M_fits_53 (by decide) ?_
    refine r_icmp_ne 64 hX d_M_fits_55 (by decide) (fun c55 => ?_) (fun c55 => absurd c55 (by decide))
    refine r_iload_n (i := 1) hX d_M_fits_64 rfl rfl ?_
    refine r_bipush (v := nI 8) hX d_M_fits_65 (by decide) ?_
    refine r_icmp_eq 82 hX d_M_fits_67 (by decide) (fun c67 => absurd c67 (by decide)) (fun c67 => ?_)
    refine r_iload_n (i := 1) hX d_M_fits_70 rfl rfl ?_
    refine r_bipush (v := nI 20) hX d_M_fits_71 (by decide) ?_
    refine r_icmp_eq 82 hX d_M_fits_73 (by decide) (fun c73 => absurd c73 (by decide)) (fun c73 => ?_)
    refine r_iload_n (i := 1) hX d_M_fits_76 rfl rfl ?_
    refine r_bipush (v := nI 21) hX d_M_fits_77 (by decide) ?_
    refine r_icmp_ne 88 hX d_M_fits_79 (by decide) (fun c79 => ?_) (fun c79 => absurd c79 (by decide))
    refine r_iload_n (i := 1) hX d_M_fits_88 rfl rfl ?_
    refine r_bipush (v := nI 17) hX d_M_fits_89 (by decide) ?_
    refine r_icmp_ne 117 hX d_M_fits_91 (by decide) (fun c91 => ?_) (fun c91 => absurd c91 (by decide))
    refine r_iload_n (i := 1) hX d_M_fits_117 rfl rfl ?_
    refine r_bipush (v := nI 18) hX d_M_fits_118 (by decide) ?_
    refine r_icmp_ne 147 hX d_M_fits_120 (by decide) (fun c120 => ?_) (fun c120 => absurd c120 (by decide))
    refine r_iload_n (i := 1) hX d_M_fits_147 rfl rfl ?_
    refine r_bipush (v := nI 19) hX d_M_fits_148 (by decide) ?_
    refine r_icmp_ne 201 hX d_M_fits_150 (by decide) (fun c150 => ?_) (fun c150 => absurd c150 (by decide))
    refine r_iload_n (i := 1) hX d_M_fits_201 rfl rfl ?_
    refine r_bipush (v := nI 8) hX d_M_fits_202 (by decide) ?_
    refine r_icmp_le 238 hX d_M_fits_204 (by decide) (fun c204 => absurd c204 (by decide)) (fun c204 => ?_)
    refine r_iload_n (i := 1) hX d_M_fits_207 rfl rfl ?_
    refine r_bipush (v := nI 17) hX d_M_fits_208 (by decide) ?_
    refine r_icmp_ge 238 hX d_M_fits_210 (by decide) (fun c210 => absurd c210 (by decide)) (fun c210 => ?_)
    refine r_aload_n (i := 0) hX d_M_fits_213 rfl rfl ?_
    refine r_iload_n (i := 2) hX d_M_fits_214 rfl rfl ?_
    refine r_callVwi (q0 := 0) hX d_M_fits_215 cw_M_free ml_M_76 (c_M_free a hnn) (Or.inl rfl) rfl rfl rfl rfl (by decide) (Nat.le_of_ble_eq_true rfl) (fun _ => rfl) (fun _ _ => ?_)
    refine r_if_eq 238 hX d_M_fits_218 (by decide) (fun c218 => ?_) (fun c218 => ?_)
    · have hn : (freeB nn mf a && (freeB nn mf b && !decide (a = b))) = false := by have := bI_0 c218; simp [this]
      refine r_iconst (v := nI 0) hX d_M_fits_238 (by decide) ?_
      exact r_zret () hX hF d_M_fits_239 rfl trivial (by rw [hn]; rfl) rfl
    · refine r_aload_n (i := 0) hX d_M_fits_221 rfl rfl ?_
      refine r_iload_n (i := 3) hX d_M_fits_222 rfl rfl ?_
      refine r_callVwi (q0 := 0) hX d_M_fits_223 cw_M_free ml_M_76 (c_M_free b hnn) (Or.inl rfl) rfl rfl rfl rfl (by decide) (Nat.le_of_ble_eq_true rfl) (fun _ => rfl) (fun _ _ => ?_)
      refine r_if_eq 238 hX d_M_fits_226 (by decide) (fun c226 => ?_) (fun c226 => ?_)
      · have hn : (freeB nn mf a && (freeB nn mf b && !decide (a = b))) = false := by have := bI_0 c226; simp [this]
        refine r_iconst (v := nI 0) hX d_M_fits_238 (by decide) ?_
        exact r_zret () hX hF d_M_fits_239 rfl trivial (by rw [hn]; rfl) rfl
      · refine r_iload_n (i := 2) hX d_M_fits_229 rfl rfl ?_
        refine r_iload_n (i := 3) hX d_M_fits_230 rfl rfl ?_
        refine r_icmp_eq 238 hX d_M_fits_231 (by decide) (fun c231 => ?_) (fun c231 => ?_)
        · have hn : (freeB nn mf a && (freeB nn mf b && !decide (a = b))) = false := by simp [c231]
          refine r_iconst (v := nI 0) hX d_M_fits_238 (by decide) ?_
          exact r_zret () hX hF d_M_fits_239 rfl trivial (by rw [hn]; rfl) rfl
        · have hn : (freeB nn mf a && (freeB nn mf b && !decide (a = b))) = true := by have h1 := bI_1 c218; have h2 := bI_1 c226; simp [h1, h2, c231]
          refine r_iconst (v := nI 1) hX d_M_fits_234 (by decide) ?_
          refine r_goto 239 hX d_M_fits_235 (by decide) ?_
          exact r_zret () hX hF d_M_fits_239 rfl trivial (by rw [hn]; rfl) rfl
  · rw [fitK_11] at hF
    refine r_iload_n (i := 1) hX d_M_fits_0 rfl rfl ?_
    refine r_if_eq 20 hX d_M_fits_1 (by decide) (fun c1 => absurd c1 (by decide)) (fun c1 => ?_)
    refine r_iload_n (i := 1) hX d_M_fits_4 rfl rfl ?_
    refine r_iconst (v := nI 2) hX d_M_fits_5 (by decide) ?_
    refine r_icmp_eq 20 hX d_M_fits_6 (by decide) (fun c6 => absurd c6 (by decide)) (fun c6 => ?_)
    refine r_iload_n (i := 1) hX d_M_fits_9 rfl rfl ?_
    refine r_iconst (v := nI 3) hX d_M_fits_10 (by decide) ?_
    refine r_icmp_eq 20 hX d_M_fits_11 (by decide) (fun c11 => absurd c11 (by decide)) (fun c11 => ?_)
    refine r_iload_n (i := 1) hX d_M_fits_14 rfl rfl ?_
    refine r_bipush (v := nI 6) hX d_M_fits_15 (by decide) ?_
    refine r_icmp_ne 22 hX d_M_fits_17 (by decide) (fun c17 => ?_) (fun c17 => absurd c17 (by decide))
    refine r_iload_n (i := 1) hX d_M_fits_22 rfl rfl ?_
    refine r_iconst (v := nI 1) hX d_M_fits_23 (by decide) ?_
    refine r_icmp_ne 42 hX d_M_fits_24 (by decide) (fun c24 => ?_) (fun c24 => absurd c24 (by decide))
    refine r_iload_n (i := 1) hX d_M_fits_42 rfl rfl ?_
    refine r_iconst (v := nI 4) hX d_M_fits_43 (by decide) ?_
    refine r_icmp_eq 58 hX d_M_fits_44 (by decide) (fun c44 => absurd c44 (by decide)) (fun c44 => ?_)
    refine r_iload_n (i := 1) hX d_M_fits_47 rfl rfl ?_
    refine r_iconst (v := nI 5) hX d_M_fits_48 (by decide) ?_
    refine r_icmp_eq 58 hX d_M_fits_49 (by decide) (fun c49 => absurd c49 (by decide)) (fun c49 => ?_)
    refine r_iload_n (i := 1) hX d_M_fits_52 rfl rfl ?_
    refine r_bipush (v := nI 7) hX d_M_fits_53 (by decide) ?_
    refine r_icmp_ne 64 hX d_M_fits_55 (by decide) (fun c55 => ?_) (fun c55 => absurd c55 (by decide))
    refine r_iload_n (i := 1) hX d_M_fits_64 rfl rfl ?_
    refine r_bipush (v := nI 8) hX d_M_fits_65 (by decide) ?_
    refine r_icmp_eq 82 hX d_M_fits_67 (by decide) (fun c67 => absurd c67 (by decide)) (fun c67 => ?_)
    refine r_iload_n (i := 1) hX d_M_fits_70 rfl rfl ?_
    refine r_bipush (v := nI 20) hX d_M_fits_71 (by decide) ?_
    refine r_icmp_eq 82 hX d_M_fits_73 (by decide) (fun c73 => absurd c73 (by decide)) (fun c73 => ?_)
    refine r_iload_n (i := 1) hX d_M_fits_76 rfl rfl ?_
    refine r_bipush (v := nI 21) hX d_M_fits_77 (by decide) ?_
    refine r_icmp_ne 88 hX d_M_fits_79 (by decide) (fun c79 => ?_) (fun c79 => absurd c79 (by decide))
    refine r_iload_n (i := 1) hX d_M_fits_88 rfl rfl ?_
    refine r_bipush (v := nI 17) hX d_M_fits_89 (by decide) ?_
    refine r_icmp_ne 117 hX d_M_fits_91 (by decide) (fun c91 => ?_) (fun c91 => absurd c91 (by decide))
    refine r_iload_n (i := 1) hX d_M_fits_117 rfl rfl ?_
    refine r_bipush (v := nI 18) hX d_M_fits_118 (by decide) ?_
    refine r_icmp_ne 147 hX d_M_fits_120 (by decide) (fun c120 => ?_) (fun c120 => absurd c120 (by decide))
    refine r_iload_n (i := 1) hX d_M_fits_147 rfl rfl ?_
    refine r_bipush (v := nI 19) hX d_M_fits_148 (by decide) ?_
    refine r_icmp_ne 201 hX d_M_fits_150 (by decide) (fun c150 => ?_) (fun c150 => absurd c150 (by decide))
    refine r_iload_n (i := 1) hX d_M_fits_201 rfl rfl ?_
    refine r_bipush (v := nI 8) hX d_M_fits_202 (by decide) ?_
    refine r_icmp_le 238 hX d_M_fits_204 (by decide) (fun c204 => absurd c204 (by decide)) (fun c204 => ?_)
    refine r_iload_n (i := 1) hX d_M_fits_207 rfl rfl ?_
    refine r_bipush (v := nI 17) hX d_M_fits_208 (by decide) ?_
    refine r_icmp_ge 238 hX d_M_fits_210 (by decide) (fun c210 => absurd c210 (by decide)) (fun c210 => ?_)
    refine r_aload_n (i := 0) hX d_M_fits_213 rfl rfl ?_
    refine r_iload_n (i := 2) hX d_M_fits_214 rfl rfl ?_
    refine r_callVwi (q0 := 0) hX d_M_fits_215 cw_M_free ml_M_76 (c_M_free a hnn) (Or.inl rfl) rfl rfl rfl rfl (by decide) (Nat.le_of_ble_eq_true rfl) (fun _ => rfl) (fun _ _ => ?_)
    refine r_if_eq 238 hX d_M_fits_218 (by decide) (fun c218 => ?_) (fun c218 => ?_)
    · have hn : (freeB nn mf a && (freeB nn mf b && !decide (a = b))) = false := by have := bI_0 c218; simp [this]
      refine r_iconst (v := nI 0) hX d_M_fits_238 (by decide) ?_
      exact r_zret () hX hF d_M_fits_239 rfl trivial (by rw [hn]; rfl) rfl
    · refine r_aload_n (i := 0) hX d_M_fits_221 rfl rfl ?_
      refine r_iload_n (i := 3) hX d_M_fits_222 rfl rfl ?_
      refine r_callVwi (q0 := 0) hX d_M_fits_223 cw_M_free ml_M_76 (c_M_free b hnn) (Or.inl rfl) rfl rfl rfl rfl (by decide) (Nat.le_of_ble_eq_true rfl) (fun _ => rfl) (fun _ _ => ?_)
      refine r_if_eq 238 hX d_M_fits_226 (by decide) (fun c226 => ?_) (fun c226 => ?_)
      · have hn : (freeB nn mf a && (freeB nn mf b && !decide (a = b))) = false := by have := bI_0 c226; simp [this]
        refine r_iconst (v := nI 0) hX d_M_fits_238 (by decide) ?_
        exact r_zret () hX hF d_M_fits_239 rfl trivial (by rw [hn]; rfl) rfl
      · refine r_iload_n (i := 2) hX d_M_fits_229 rfl rfl ?_
        refine r_iload_n (i := 3) hX d_M_fits_230 rfl rfl ?_
        refine r_icmp_eq 238 hX d_M_fits_231 (by decide) (fun c231 => ?_) (fun c231 => ?_)
        · have hn : (freeB nn mf a && (freeB nn mf b && !decide (a = b))) = false := by simp [c231]
          refine r_iconst (v := nI 0) hX d_M_fits_238 (by decide) ?_
          exact r_zret () hX hF d_M_fits_239 rfl trivial (by rw [hn]; rfl) rfl
        · have hn : (freeB nn mf a && (freeB nn mf b && !decide (a = b))) = true := by have h1 := bI_1 c218; have h2 := bI_1 c226; simp [h1, h2, c231]
          refine r_iconst (v := nI 1) hX d_M_fits_234 (by decide) ?_
          refine r_goto 239 hX d_M_fits_235 (by decide) ?_
          exact r_zret () hX hF d_M_fits_239 rfl trivial (by rw [hn]; rfl) rfl
  · rw [fitK_12] at hF
    refine r_iload_n (i := 1) hX d_M_fits_0 rfl rfl ?_
    refine r_if_eq 20 hX d_M_fits_1 (by decide) (fun c1 => absurd c1 (by decide)) (fun c1 => ?_)
    refine r_iload_n (i := 1) hX d_M_fits_4 rfl rfl ?_
    refine r_iconst (v := nI 2) hX d_M_fits_5 (by decide) ?_
    refine r_icmp_eq 20 hX d_M_fits_6 (by decide) (fun c6 => absurd c6 (by decide)) (fun c6 => ?_)
    refine r_iload_n (i := 1) hX d_M_fits_9 rfl rfl ?_
    refine r_iconst (v := nI 3) hX d_M_fits_10 (by decide) ?_
    refine r_icmp_eq 20 hX d_M_fits_11 (by decide) (fun c11 => absurd c11 (by decide)) (fun c11 => ?_)
    refine r_iload_n (i := 1) hX d_M_fits_14 rfl rfl ?_
    refine r_bipush (v := nI 6) hX d_M_fits_15 (by decide) ?_
    refine r_icmp_ne 22 hX d_M_fits_17 (by decide) (fun c17 => ?_) (fun c17 => absurd c17 (by decide))
    refine r_iload_n (i := 1) hX d_M_fits_22 rfl rfl ?_
    refine r_iconst (v := nI 1) hX d_M_fits_23 (by decide) ?_
    refine r_icmp_ne 42 hX d_M_fits_24 (by decide) (fun c24 => ?_) (fun c24 => absurd c24 (by decide))
    refine r_iload_n (i := 1) hX d_M_fits_42 rfl rfl ?_
    refine r_iconst (v := nI 4) hX d_M_fits_43 (by decide) ?_
    refine r_icmp_eq 58 hX d_M_fits_44 (by decide) (fun c44 => absurd c44 (by decide)) (fun c44 => ?_)
    refine r_iload_n (i := 1) hX d_M_fits_47 rfl rfl ?_
    refine r_iconst (v := nI 5) hX d_M_fits_48 (by decide) ?_
    refine r_icmp_eq 58 hX d_M_fits_49 (by decide) (fun c49 => absurd c49 (by decide)) (fun c49 => ?_)
    refine r_iload_n (i := 1) hX d_M_fits_52 rfl rfl ?_
    refine r_bipush (v := nI 7) hX d_M_fits_53 (by decide) ?_
    refine r_icmp_ne 64 hX d_M_fits_55 (by decide) (fun c55 => ?_) (fun c55 => absurd c55 (by decide))
    refine r_iload_n (i := 1) hX d_M_fits_64 rfl rfl ?_
    refine r_bipush (v := nI 8) hX d_M_fits_65 (by decide) ?_
    refine r_icmp_eq 82 hX d_M_fits_67 (by decide) (fun c67 => absurd c67 (by decide)) (fun c67 => ?_)
    refine r_iload_n (i := 1) hX d_M_fits_70 rfl rfl ?_
    refine r_bipush (v := nI 20) hX d_M_fits_71 (by decide) ?_
    refine r_icmp_eq 82 hX d_M_fits_73 (by decide) (fun c73 => absurd c73 (by decide)) (fun c73 => ?_)
    refine r_iload_n (i := 1) hX d_M_fits_76 rfl rfl ?_
    refine r_bipush (v := nI 21) hX d_M_fits_77 (by decide) ?_
    refine r_icmp_ne 88 hX d_M_fits_79 (by decide) (fun c79 => ?_) (fun c79 => absurd c79 (by decide))
    refine r_iload_n (i := 1) hX d_M_fits_88 rfl rfl ?_
    refine r_bipush (v := nI 17) hX d_M_fits_89 (by decide) ?_
    refine r_icmp_ne 117 hX d_M_fits_91 (by decide) (fun c91 => ?_) (fun c91 => absurd c91 (by decide))
    refine r_iload_n (i := 1) hX d_M_fits_117 rfl rfl ?_
    refine r_bipush (v := nI 18) hX d_M_fits_118 (by decide) ?_
    refine r_icmp_ne 147 hX d_M_fits_120 (by decide) (fun c120 => ?_) (fun c120 => absurd c120 (by decide))
    refine r_iload_n (i := 1) hX d_M_fits_147 rfl rfl ?_
    refine r_bipush (v := nI 19) hX d_M_fits_148 (by decide) ?_
    refine r_icmp_ne 201 hX d_M_fits_150 (by decide) (fun c150 => ?_) (fun c150 => absurd c150 (by decide))
    refine r_iload_n (i := 1) hX d_M_fits_201 rfl rfl ?_
    refine r_bipush (v := nI 8) hX d_M_fits_202 (by decide) ?_
    refine r_icmp_le 238 hX d_M_fits_204 (by decide) (fun c204 => absurd c204 (by decide)) (fun c204 => ?_)
    refine r_iload_n (i := 1) hX d_M_fits_207 rfl rfl ?_
    refine r_bipush (v := nI 17) hX d_M_fits_208 (by decide) ?_
    refine r_icmp_ge 238 hX d_M_fits_210 (by decide) (fun c210 => absurd c210 (by decide)) (fun c210 => ?_)
    refine r_aload_n (i := 0) hX d_M_fits_213 rfl rfl ?_
    refine r_iload_n (i := 2) hX d_M_fits_214 rfl rfl ?_
    refine r_callVwi (q0 := 0) hX d_M_fits_215 cw_M_free ml_M_76 (c_M_free a hnn) (Or.inl rfl) rfl rfl rfl rfl (by decide) (Nat.le_of_ble_eq_true rfl) (fun _ => rfl) (fun _ _ => ?_)
    refine r_if_eq 238 hX d_M_fits_218 (by decide) (fun c218 => ?_) (fun c218 => ?_)
    · have hn : (freeB nn mf a && (freeB nn mf b && !decide (a = b))) = false := by have := bI_0 c218; simp [this]
      refine r_iconst (v := nI 0) hX d_M_fits_238 (by decide) ?_
      exact r_zret () hX hF d_M_fits_239 rfl trivial (by rw [hn]; rfl) rfl
    · refine r_aload_n (i := 0) hX d_M_fits_221 rfl rfl ?_
      refine r_iload_n (i := 3) hX d_M_fits_222 rfl rfl ?_
      refine r_callVwi (q0 := 0) hX d_M_fits_223 cw_M_free ml_M_76 (c_M_free b hnn) (Or.inl rfl) rfl rfl rfl rfl (by decide) (Nat.le_of_ble_eq_true rfl) (fun _ => rfl) (fun _ _ => ?_)
      refine r_if_eq 238 hX d_M_fits_226 (by decide) (fun c226 => ?_) (fun c226 => ?_)
      · have hn : (freeB nn mf a && (freeB nn mf b && !decide (a = b))) = false := by have := bI_0 c226; simp [this]
        refine r_iconst (v := nI 0) hX d_M_fits_238 (by decide) ?_
        exact r_zret () hX hF d_M_fits_239 rfl trivial (by rw [hn]; rfl) rfl
      · refine r_iload_n (i := 2) hX d_M_fits_229 rfl rfl ?_
        refine r_iload_n (i := 3) hX d_M_fits_230 rfl rfl ?_
        refine r_icmp_eq 238 hX d_M_fits_231 (by decide) (fun c231 => ?_) (fun c231 => ?_)
        · have hn : (freeB nn mf a && (freeB nn mf b && !decide (a = b))) = false := by simp [c231]
          refine r_iconst (v := nI 0) hX d_M_fits_238 (by decide) ?_
          exact r_zret () hX hF d_M_fits_239 rfl trivial (by rw [hn]; rfl) rfl
        · have hn : (freeB nn mf a && (freeB nn mf b && !decide (a = b))) = true := by have h1 := bI_1 c218; have h2 := bI_1 c226; simp [h1, h2, c231]
          refine r_iconst (v := nI 1) hX d_M_fits_234 (by decide) ?_
          refine r_goto 239 hX d_M_fits_235 (by decide) ?_
          exact r_zret () hX hF d_M_fits_239 rfl trivial (by rw [hn]; rfl) rfl
  · rw [fitK_13] at hF
    refine r_iload_n (i := 1) hX d_M_fits_0 rfl rfl ?_
    refine r_if_eq 20 hX d_M_fits_1 (by decide) (fun c1 => absurd c1 (by decide)) (fun c1 => ?_)
    refine r_iload_n (i := 1) hX d_M_fits_4 rfl rfl ?_
    refine r_iconst (v := nI 2) hX d_M_fits_5 (by decide) ?_
    refine r_icmp_eq 20 hX d_M_fits_6 (by decide) (fun c6 => absurd c6 (by decide)) (fun c6 => ?_)
    refine r_iload_n (i := 1) hX d_M_fits_9 rfl rfl ?_
    refine r_iconst (v := nI 3) hX d_M_fits_10 (by decide) ?_
    refine r_icmp_eq 20 hX d_M_fits_11 (by decide) (fun c11 => absurd c11 (by decide)) (fun c11 => ?_)
    refine r_iload_n (i := 1) hX d_M_fits_14 rfl rfl ?_
    refine r_bipush (v := nI 6) hX d_M_fits_15 (by decide) ?_
    refine r_icmp_ne 22 hX d_M_fits_17 (by decide) (fun c17 => ?_) (fun c17 => absurd c17 (by decide))
    refine r_iload_n (i := 1) hX d_M_fits_22 rfl rfl ?_
    refine r_iconst (v := nI 1) hX d_M_fits_23 (by decide) ?_
    refine r_icmp_ne 42 hX d_M_fits_24 (by decide) (fun c24 => ?_) (fun c24 => absurd c24 (by decide))
    refine r_iload_n (i := 1) hX d_M_fits_42 rfl rfl ?_
    refine r_iconst (v := nI 4) hX d_M_fits_43 (by decide) ?_
    refine r_icmp_eq 58 hX d_M_fits_44 (by decide) (fun c44 => absurd c44 (by decide)) (fun c44 => ?_)
    refine r_iload_n (i := 1) hX d_M_fits_47 rfl rfl ?_
    refine r_iconst (v := nI 5) hX d_M_fits_48 (by decide) ?_
    refine r_icmp_eq 58 hX d_M_fits_49 (by decide) (fun c49 => absurd c49 (by decide)) (fun c49 => ?_)
    refine r_iload_n (i := 1) hX d_M_fits_52 rfl rfl ?_
    refine r_bipush (v := nI 7) hX d_M_fits_53 (by decide) ?_
    refine r_icmp_ne 64 hX d_M_fits_55 (by decide) (fun c55 => ?_) (fun c55 => absurd c55 (by decide))
    refine r_iload_n (i := 1) hX d_M_fits_64 rfl rfl ?_
    refine r_bipush (v := nI 8) hX d_M_fits_65 (by decide) ?_
    refine r_icmp_eq 82 hX d_M_fits_67 (by decide) (fun c67 => absurd c67 (by decide)) (fun c67 => ?_)
    refine r_iload_n (i := 1) hX d_M_fits_70 rfl rfl ?_
    refine r_bipush (v := nI 20) hX d_M_fits_71 (by decide) ?_
    refine r_icmp_eq 82 hX d_M_fits_73 (by decide) (fun c73 => absurd c73 (by decide)) (fun c73 => ?_)
    refine r_iload_n (i := 1) hX d_M_fits_76 rfl rfl ?_
    refine r_bipush (v := nI 21) hX d_M_fits_77 (by decide) ?_
    refine r_icmp_ne 88 hX d_M_fits_79 (by decide) (fun c79 => ?_) (fun c79 => absurd c79 (by decide))
    refine r_iload_n (i := 1) hX d_M_fits_88 rfl rfl ?_
    refine r_bipush (v := nI 17) hX d_M_fits_89 (by decide) ?_
    refine r_icmp_ne 117 hX d_M_fits_91 (by decide) (fun c91 => ?_) (fun c91 => absurd c91 (by decide))
    refine r_iload_n (i := 1) hX d_M_fits_117 rfl rfl ?_
    refine r_bipush (v := nI 18) hX d_M_fits_118 (by decide) ?_
    refine r_icmp_ne 147 hX d_M_fits_120 (by decide) (fun c120 => ?_) (fun c120 => absurd c120 (by decide))
    refine r_iload_n (i := 1) hX d_M_fits_147 rfl rfl ?_
    refine r_bipush (v := nI 19) hX d_M_fits_148 (by decide) ?_
    refine r_icmp_ne 201 hX d_M_fits_150 (by decide) (fun c150 => ?_) (fun c150 => absurd c150 (by decide))
    refine r_iload_n (i := 1) hX d_M_fits_201 rfl rfl ?_
    refine r_bipush (v := nI 8) hX d_M_fits_202 (by decide) ?_
    refine r_icmp_le 238 hX d_M_fits_204 (by decide) (fun c204 => absurd c204 (by decide)) (fun c204 => ?_)
    refine r_iload_n (i := 1) hX d_M_fits_207 rfl rfl ?_
    refine r_bipush (v := nI 17) hX d_M_fits_208 (by decide) ?_
    refine r_icmp_ge 238 hX d_M_fits_210 (by decide) (fun c210 => absurd c210 (by decide)) (fun c210 => ?_)
    refine r_aload_n (i := 0) hX d_M_fits_213 rfl rfl ?_
    refine r_iload_n (i := 2) hX d_M_fits_214 rfl rfl ?_
    refine r_callVwi (q0 := 0) hX d_M_fits_215 cw_M_free ml_M_76 (c_M_free a hnn) (Or.inl rfl) rfl rfl rfl rfl (by decide) (Nat.le_of_ble_eq_true rfl) (fun _ => rfl) (fun _ _ => ?_)
    refine r_if_eq 238 hX d_M_fits_218 (by decide) (fun c218 => ?_) (fun c218 => ?_)
    · have hn : (freeB nn mf a && (freeB nn mf b && !decide (a = b))) = false := by have := bI_0 c218; simp [this]
      refine r_iconst (v := nI 0) hX d_M_fits_238 (by decide) ?_
      exact r_zret () hX hF d_M_fits_239 rfl trivial (by rw [hn]; rfl) rfl
    · refine r_aload_n (i := 0) hX d_M_fits_221 rfl rfl ?_
      refine r_iload_n (i := 3) hX d_M_fits_222 rfl rfl ?_
      refine r_callVwi (q0 := 0) hX d_M_fits_223 cw_M_free ml_M_76 (c_M_free b hnn) (Or.inl rfl) rfl rfl rfl rfl (by decide) (Nat.le_of_ble_eq_true rfl) (fun _ => rfl) (fun _ _ => ?_)
      refine r_if_eq 238 hX d_M_fits_226 (by decide) (fun c226 => ?_) (fun c226 => ?_)
      · have hn : (freeB nn mf a && (freeB nn mf b && !decide (a = b))) = false := by have := bI_0 c226; simp [this]
        refine r_iconst (v := nI 0) hX d_M_fits_238 (by decide) ?_
        exact r_zret () hX hF d_M_fits_239 rfl trivial (by rw [hn]; rfl) rfl
      · refine r_iload_n (i := 2) hX d_M_fits_229 rfl rfl ?_
        refine r_iload_n (i := 3) hX d_M_fits_230 rfl rfl ?_
        refine r_icmp_eq 238 hX d_M_fits_231 (by decide) (fun c231 => ?_) (fun c231 => ?_)
        · have hn : (freeB nn mf a && (freeB nn mf b && !decide (a = b))) = false := by simp [c231]
          refine r_iconst (v := nI 0) hX d_M_fits_238 (by decide) ?_
          exact r_zret () hX hF d_M_fits_239 rfl trivial (by rw [hn]; rfl) rfl
        · have hn : (freeB nn mf a && (freeB nn mf b && !decide (a = b))) = true := by have h1 := bI_1 c218; have h2 := bI_1 c226; simp [h1, h2, c231]
          refine r_iconst (v := nI 1) hX d_M_fits_234 (by decide) ?_
          refine r_goto 239 hX d_M_fits_235 (by decide) ?_
          exact r_zret () hX hF d_M_fits_239 rfl trivial (by rw [hn]; rfl) rfl
  · rw [fitK_14] at hF
    refine r_iload_n (i := 1) hX d_M_fits_0 rfl rfl ?_
    refine r_if_eq 20 hX d_M_fits_1 (by decide) (fun c1 => absurd c1 (by decide)) (fun c1 => ?_)
    refine r_iload_n (i := 1) hX d_M_fits_4 rfl rfl ?_
    refine r_iconst (v := nI 2) hX d_M_fits_5 (by decide) ?_
    refine r_icmp_eq 20 hX d_M_fits_6 (by decide) (fun c6 => absurd c6 (by decide)) (fun c6 => ?_)
    refine r_iload_n (i := 1) hX d_M_fits_9 rfl rfl ?_
    refine r_iconst (v := nI 3) hX d_M_fits_10 (by decide) ?_
    refine r_icmp_eq 20 hX d_M_fits_11 (by decide) (fun c11 => absurd c11 (by decide)) (fun c11 => ?_)
    refine r_iload_n (i := 1) hX d_M_fits_14 rfl rfl ?_
    refine r_bipush (v := nI 6) hX d_M_fits_15 (by decide) ?_
    refine r_icmp_ne 22 hX d_M_fits_17 (by decide) (fun c17 => ?_) (fun c17 => absurd c17 (by decide))
    refine r_iload_n (i := 1) hX d_M_fits_22 rfl rfl ?_
    refine r_iconst (v := nI 1) hX d_M_fits_23 (by decide) ?_
    refine r_icmp_ne 42 hX d_M_fits_24 (by decide) (fun c24 => ?_) (fun c24 => absurd c24 (by decide))
    refine r_iload_n (i := 1) hX d_M_fits_42 rfl rfl ?_
    refine r_iconst (v := nI 4) hX d_M_fits_43 (by decide) ?_
    refine r_icmp_eq 58 hX d_M_fits_44 (by decide) (fun c44 => absurd c44 (by decide)) (fun c44 => ?_)
    refine r_iload_n (i := 1) hX d_M_fits_47 rfl rfl ?_
    refine r_iconst (v := nI 5) hX d_M_fits_48 (by decide) ?_
    refine r_icmp_eq 58 hX d_M_fits_49 (by decide) (fun c49 => absurd c49 (by decide)) (fun c49 => ?_)
    refine r_iload_n (i := 1) hX d_M_fits_52 rfl rfl ?_
    refine r_bipush (v := nI 7) hX d_M_fits_53 (by decide) ?_
    refine r_icmp_ne 64 hX d_M_fits_55 (by decide) (fun c55 => ?_) (fun c55 => absurd c55 (by decide))
    refine r_iload_n (i := 1) hX d_M_fits_64 rfl rfl ?_
    refine r_bipush (v := nI 8) hX d_M_fits_65 (by decide) ?_
    refine r_icmp_eq 82 hX d_M_fits_67 (by decide) (fun c67 => absurd c67 (by decide)) (fun c67 => ?_)
    refine r_iload_n (i := 1) hX d_M_fits_70 rfl rfl ?_
    refine r_bipush (v := nI 20) hX d_M_fits_71 (by decide) ?_
    refine r_icmp_eq 82 hX d_M_fits_73 (by decide) (fun c73 => absurd c73 (by decide)) (fun c73 => ?_)
    refine r_iload_n (i := 1) hX d_M_fits_76 rfl rfl ?_
    refine r_bipush (v := nI 21) hX d_M_fits_77 (by decide) ?_
    refine r_icmp_ne 88 hX d_M_fits_79 (by decide) (fun c79 => ?_) (fun c79 => absurd c79 (by decide))
    refine r_iload_n (i := 1) hX d_M_fits_88 rfl rfl ?_
    refine r_bipush (v := nI 17) hX d_M_fits_89 (by decide) ?_
    refine r_icmp_ne 117 hX d_M_fits_91 (by decide) (fun c91 => ?_) (fun c91 => absurd c91 (by decide))
    refine r_iload_n (i := 1) hX d_M_fits_117 rfl rfl ?_
    refine r_bipush (v := nI 18) hX d_M_fits_118 (by decide) ?_
    refine r_icmp_ne 147 hX d_M_fits_120 (by decide) (fun c120 => ?_) (fun c120 => absurd c120 (by decide))
    refine r_iload_n (i := 1) hX d_M_fits_147 rfl rfl ?_
    refine r_bipush (v := nI 19) hX d_M_fits_148 (by decide) ?_
    refine r_icmp_ne 201 hX d_M_fits_150 (by decide) (fun c150 => ?_) (fun c150 => absurd c150 (by decide))
    refine r_iload_n (i := 1) hX d_M_fits_201 rfl rfl ?_
    refine r_bipush (v := nI 8) hX d_M_fits_202 (by decide) ?_
    refine r_icmp_le 238 hX d_M_fits_204 (by decide) (fun c204 => absurd c204 (by decide)) (fun c204 => ?_)
    refine r_iload_n (i := 1) hX d_M_fits_207 rfl rfl ?_
    refine r_bipush (v := nI 17) hX d_M_fits_208 (by decide) ?_
    refine r_icmp_ge 238 hX d_M_fits_210 (by decide) (fun c210 => absurd c210 (by decide)) (fun c210 => ?_)
    refine r_aload_n (i := 0) hX d_M_fits_213 rfl rfl ?_
    refine r_iload_n (i := 2) hX d_M_fits_214 rfl rfl ?_
    refine r_callVwi (q0 := 0) hX d_M_fits_215 cw_M_free ml_M_76 (c_M_free a hnn) (Or.inl rfl) rfl rfl rfl rfl (by decide) (Nat.le_of_ble_eq_true rfl) (fun _ => rfl) (fun _ _ => ?_)
    refine r_if_eq 238 hX d_M_fits_218 (by decide) (fun c218 => ?_) (fun c218 => ?_)
    · have hn : (freeB nn mf a && (freeB nn mf b && !decide (a = b))) = false := by have := bI_0 c218; simp [this]
      refine r_iconst (v := nI 0) hX d_M_fits_238 (by decide) ?_
      exact r_zret () hX hF d_M_fits_239 rfl trivial (by rw [hn]; rfl) rfl
    · refine r_aload_n (i := 0) hX d_M_fits_221 rfl rfl ?_
      refine r_iload_n (i := 3) hX d_M_fits_222 rfl rfl ?_
      refine r_callVwi (q0 := 0) hX d_M_fits_223 cw_M_free ml_M_76 (c_M_free b hnn) (Or.inl rfl) rfl rfl rfl rfl (by decide) (Nat.le_of_ble_eq_true rfl) (fun _ => rfl) (fun _ _ => ?_)
      refine r_if_eq 238 hX d_M_fits_226 (by decide) (fun c226 => ?_) (fun c226 => ?_)
      · have hn : (freeB nn mf a && (freeB nn mf b && !decide (a = b))) = false := by have := bI_0 c226; simp [this]
        refine r_iconst (v := nI 0) hX d_M_fits_238 (by decide) ?_
        exact r_zret () hX hF d_M_fits_239 rfl trivial (by rw [hn]; rfl) rfl
      · refine r_iload_n (i := 2) hX d_M_fits_229 rfl rfl ?_
        refine r_iload_n (i := 3) hX d_M_fits_230 rfl rfl ?_
        refine r_icmp_eq 238 hX d_M_fits_231 (by decide) (fun c231 => ?_) (fun c231 => ?_)
        · have hn : (freeB nn mf a && (freeB nn mf b && !decide (a = b))) = false := by simp [c231]
          refine r_iconst (v := nI 0) hX d_M_fits_238 (by decide) ?_
          exact r_zret () hX hF d_M_fits_239 rfl trivial (by rw [hn]; rfl) rfl
        · have hn : (freeB nn mf a && (freeB nn mf b && !decide (a = b))) = true := by have h1 := bI_1 c218; have h2 := bI_1 c226; simp [h1, h2, c231]
          refine r_iconst (v := nI 1) hX d_M_fits_234 (by decide) ?_
          refine r_goto 239 hX d_M_fits_235 (by decide) ?_
          exact r_zret () hX hF d_M_fits_239 rfl trivial (by rw [hn]; rfl) rfl
  · rw [fitK_15] at hF
    refine r_iload_n (i := 1) hX d_M_fits_0 rfl rfl ?_
    refine r_if_eq 20 hX d_M_fits_1 (by decide) (fun c1 => absurd c1 (by decide)) (fun c1 => ?_)
    refine r_iload_n (i := 1) hX d_M_fits_4 rfl rfl ?_
    refine r_iconst (v := nI 2) hX d_M_fits_5 (by decide) ?_
    refine r_icmp_eq 20 hX d_M_fits_6 (by decide) (fun c6 => absurd c6 (by decide)) (fun c6 => ?_)
    refine r_iload_n (i := 1) hX d_M_fits_9 rfl rfl ?_
    refine r_iconst (v := nI 3) hX d_M_fits_10 (by decide) ?_
    refine r_icmp_eq 20 hX d_M_fits_11 (by decide) (fun c11 => absurd c11 (by decide)) (fun c11 => ?_)
    refine r_iload_n (i := 1) hX d_M_fits_14 rfl rfl ?_
    refine r_bipush (v := nI 6) hX d_M_fits_15 (by decide) ?_
    refine r_icmp_ne 22 hX d_M_fits_17 (by decide) (fun c17 => ?_) (fun c17 => absurd c17 (by decide))
    refine r_iload_n (i := 1) hX d_M_fits_22 rfl rfl ?_
    refine r_iconst (v := nI 1) hX d_M_fits_23 (by decide) ?_
    refine r_icmp_ne 42 hX d_M_fits_24 (by decide) (fun c24 => ?_) (fun c24 => absurd c24 (by decide))
    refine r_iload_n (i := 1) hX d_M_fits_42 rfl rfl ?_
    refine r_iconst (v := nI 4) hX d_M_fits_43 (by decide) ?_
    refine r_icmp_eq 58 hX d_M_fits_44 (by decide) (fun c44 => absurd c44 (by decide)) (fun c44 => ?_)
    refine r_iload_n (i := 1) hX d_M_fits_47 rfl rfl ?_
    refine r_iconst (v := nI 5) hX d_M_fits_48 (by decide) ?_
    refine r_icmp_eq 58 hX d_M_fits_49 (by decide) (fun c49 => absurd c49 (by decide)) (fun c49 => ?_)
    refine r_iload_n (i := 1) hX d_M_fits_52 rfl rfl ?_
    refine r_bipush (v := nI 7) hX d_M_fits_53 (by decide) ?_
    refine r_icmp_ne 64 hX d_M_fits_55 (by decide) (fun c55 => ?_) (fun c55 => absurd c55 (by decide))
    refine r_iload_n (i := 1) hX d_M_fits_64 rfl rfl ?_
    refine r_bipush (v := nI 8) hX d_M_fits_65 (by decide) ?_
    refine r_icmp_eq 82 hX d_M_fits_67 (by decide) (fun c67 => absurd c67 (by decide)) (fun c67 => ?_)
    refine r_iload_n (i := 1) hX d_M_fits_70 rfl rfl ?_
    refine r_bipush (v := nI 20) hX d_M_fits_71 (by decide) ?_
    refine r_icmp_eq 82 hX d_M_fits_73 (by decide) (fun c73 => absurd c73 (by decide)) (fun c73 => ?_)
    refine r_iload_n (i := 1) hX d_M_fits_76 rfl rfl ?_
    refine r_bipush (v := nI 21) hX d_M_fits_77 (by decide) ?_
    refine r_icmp_ne 88 hX d_M_fits_79 (by decide) (fun c79 => ?_) (fun c79 => absurd c79 (by decide))
    refine r_iload_n (i := 1) hX d_M_fits_88 rfl rfl ?_
    refine r_bipush (v := nI 17) hX d_M_fits_89 (by decide) ?_
    refine r_icmp_ne 117 hX d_M_fits_91 (by decide) (fun c91 => ?_) (fun c91 => absurd c91 (by decide))
    refine r_iload_n (i := 1) hX d_M_fits_117 rfl rfl ?_
    refine r_bipush (v := nI 18) hX d_M_fits_118 (by decide) ?_
    refine r_icmp_ne 147 hX d_M_fits_120 (by decide) (fun c120 => ?_) (fun c120 => absurd c120 (by decide))
    refine r_iload_n (i := 1) hX d_M_fits_147 rfl rfl ?_
    refine r_bipush (v := nI 19) hX d_M_fits_148 (by decide) ?_
    refine r_icmp_ne 201 hX d_M_fits_150 (by decide) (fun c150 => ?_) (fun c150 => absurd c150 (by decide))
    refine r_iload_n (i := 1) hX d_M_fits_201 rfl rfl ?_
    refine r_bipush (v := nI 8) hX d_M_fits_202 (by decide) ?_
    refine r_icmp_le 238 hX d_M_fits_204 (by decide) (fun c204 => absurd c204 (by decide)) (fun c204 => ?_)
    refine r_iload_n (i := 1) hX d_M_fits_207 rfl rfl ?_
    refine r_bipush (v := nI 17) hX d_M_fits_208 (by decide) ?_
    refine r_icmp_ge 238 hX d_M_fits_210 (by decide) (fun c210 => absurd c210 (by decide)) (fun c210 => ?_)
    refine r_aload_n (i := 0) hX d_M_fits_213 rfl rfl ?_
    refine r_iload_n (i := 2) hX d_M_fits_214 rfl rfl ?_
    refine r_callVwi (q0 := 0) hX d_M_fits_215 cw_M_free ml_M_76 (c_M_free a hnn) (Or.inl rfl) rfl rfl rfl rfl (by decide) (Nat.le_of_ble_eq_true rfl) (fun _ => rfl) (fun _ _ => ?_)
    refine r_if_eq 238 hX d_M_fits_218 (by decide) (fun c218 => ?_) (fun c218 => ?_)
    · have hn : (freeB nn mf a && (freeB nn mf b && !decide (a = b))) = false := by have := bI_0 c218; simp [this]
      refine r_iconst (v := nI 0) hX d_M_fits_238 (by decide) ?_
      exact r_zret () hX hF d_M_fits_239 rfl trivial (by rw [hn]; rfl) rfl
    · refine r_aload_n (i := 0) hX d_M_fits_221 rfl rfl ?_
      refine r_iload_n (i := 3) hX d_M_fits_222 rfl rfl ?_
      refine r_callVwi (q0 := 0) hX d_M_fits_223 cw_M_free ml_M_76 (c_M_free b hnn) (Or.inl rfl) rfl rfl rfl rfl (by decide) (Nat.le_of_ble_eq_true rfl) (fun _ => rfl) (fun _ _ => ?_)
      refine r_if_eq 238 hX d_M_fits_226 (by decide) (fun c226 => ?_) (fun c226 => ?_)
      · have hn : (freeB nn mf a && (freeB nn mf b && !decide (a = b))) = false := by have := bI_0 c226; simp [this]
        refine r_iconst (v := nI 0) hX d_M_fits_238 (by decide) ?_
        exact r_zret () hX hF d_M_fits_239 rfl trivial (by rw [hn]; rfl) rfl
      · refine r_iload_n (i := 2) hX d_M_fits_229 rfl rfl ?_
        refine r_iload_n (i := 3) hX d_M_fits_230 rfl rfl ?_
        refine r_icmp_eq 238 hX d_M_fits_231 (by decide) (fun c231 => ?_) (fun c231 => ?_)
        · have hn : (freeB nn mf a && (freeB nn mf b && !decide (a = b))) = false := by simp [c231]
          refine r_iconst (v := nI 0) hX d_M_fits_238 (by decide) ?_
          exact r_zret () hX hF d_M_fits_239 rfl trivial (by rw [hn]; rfl) rfl
        · have hn : (freeB nn mf a && (freeB nn mf b && !decide (a = b))) = true := by have h1 := bI_1 c218; have h2 := bI_1 c226; simp [h1, h2, c231]
          refine r_iconst (v := nI 1) hX d_M_fits_234 (by decide) ?_
          refine r_goto 239 hX d_M_fits_235 (by decide) ?_
          exact r_zret () hX hF d_M_fits_239 rfl trivial (by rw [hn]; rfl) rfl
  · rw [fitK_16] at hF
    refine r_iload_n (i := 1) hX d_M_fits_0 rfl rfl ?_
    refine r_if_eq 20 hX d_M_fits_1 (by decide) (fun c1 => absurd c1 (by decide)) (fun c1 => ?_)
    refine r_iload_n (i := 1) hX d_M_fits_4 rfl rfl ?_
    refine r_iconst (v := nI 2) hX d_M_fits_5 (by decide) ?_
    refine r_icmp_eq 20 hX d_M_fits_6 (by decide) (fun c6 => absurd c6 (by decide)) (fun c6 => ?_)
    refine r_iload_n (i := 1) hX d_M_fits_9 rfl rfl ?_
    refine r_iconst (v := nI 3) hX d_M_fits_10 (by decide) ?_
    refine r_icmp_eq 20 hX d_M_fits_11 (by decide) (fun c11 => absurd c11 (by decide)) (fun c11 => ?_)
    refine r_iload_n (i := 1) hX d_M_fits_14 rfl rfl ?_
    refine r_bipush (v := nI 6) hX d_M_fits_15 (by decide) ?_
    refine r_icmp_ne 22 hX d_M_fits_17 (by decide) (fun c17 => ?_) (fun c17 => absurd c17 (by decide))
    refine r_iload_n (i := 1) hX d_M_fits_22 rfl rfl ?_
    refine r_iconst (v := nI 1) hX d_M_fits_23 (by decide) ?_
    refine r_icmp_ne 42 hX d_M_fits_24 (by decide) (fun c24 => ?_) (fun c24 => absurd c24 (by decide))
    refine r_iload_n (i := 1) hX d_M_fits_42 rfl rfl ?_
    refine r_iconst (v := nI 4) hX d_M_fits_43 (by decide) ?_
    refine r_icmp_eq 58 hX d_M_fits_44 (by decide) (fun c44 => absurd c44 (by decide)) (fun c44 => ?_)
    refine r_iload_n (i := 1) hX d_M_fits_47 rfl rfl ?_
    refine r_iconst (v := nI 5) hX d_M_fits_48 (by decide) ?_
    refine r_icmp_eq 58 hX d_M_fits_49 (by decide) (fun c49 => absurd c49 (by decide)) (fun c49 => ?_)
    refine r_iload_n (i := 1) hX d_M_fits_52 rfl rfl ?_
    refine r_bipush (v := nI 7) hX d_M_fits_53 (by decide) ?_
    refine r_icmp_ne 64 hX d_M_fits_55 (by decide) (fun c55 => ?_) (fun c55 => absurd c55 (by decide))
    refine r_iload_n (i := 1) hX d_M_fits_64 rfl rfl ?_
    refine r_bipush (v := nI 8) hX d_M_fits_65 (by decide) ?_
    refine r_icmp_eq 82 hX d_M_fits_67 (by decide) (fun c67 => absurd c67 (by decide)) (fun c67 => ?_)
    refine r_iload_n (i := 1) hX d_M_fits_70 rfl rfl ?_
    refine r_bipush (v := nI 20) hX d_M_fits_71 (by decide) ?_
    refine r_icmp_eq 82 hX d_M_fits_73 (by decide) (fun c73 => absurd c73 (by decide)) (fun c73 => ?_)
    refine r_iload_n (i := 1) hX d_M_fits_76 rfl rfl ?_
    refine r_bipush (v := nI 21) hX d_M_fits_77 (by decide) ?_
    refine r_icmp_ne 88 hX d_M_fits_79 (by decide) (fun c79 => ?_) (fun c79 => absurd c79 (by decide))
    refine r_iload_n (i := 1) hX d_M_fits_88 rfl rfl ?_
    refine r_bipush (v := nI 17) hX d_M_fits_89 (by decide) ?_
    refine r_icmp_ne 117 hX d_M_fits_91 (by decide) (fun c91 => ?_) (fun c91 => absurd c91 (by decide))
    refine r_iload_n (i := 1) hX d_M_fits_117 rfl rfl ?_
    refine r_bipush (v := nI 18) hX d_M_fits_118 (by decide) ?_
    refine r_icmp_ne 147 hX d_M_fits_120 (by decide) (fun c120 => ?_) (fun c120 => absurd c120 (by decide))
    refine r_iload_n (i := 1) hX d_M_fits_147 rfl rfl ?_
    refine r_bipush (v := nI 19) hX d_M_fits_148 (by decide) ?_
    refine r_icmp_ne 201 hX d_M_fits_150 (by decide) (fun c150 => ?_) (fun c150 => absurd c150 (by decide))
    refine r_iload_n (i := 1) hX d_M_fits_201 rfl rfl ?_
    refine r_bipush (v := nI 8) hX d_M_fits_202 (by decide) ?_
    refine r_icmp_le 238 hX d_M_fits_204 (by decide) (fun c204 => absurd c204 (by decide)) (fun c204 => ?_)
    refine r_iload_n (i := 1) hX d_M_fits_207 rfl rfl ?_
    refine r_bipush (v := nI 17) hX d_M_fits_208 (by decide) ?_
    refine r_icmp_ge 238 hX d_M_fits_210 (by decide) (fun c210 => absurd c210 (by decide)) (fun c210 => ?_)
    refine r_aload_n (i := 0) hX d_M_fits_213 rfl rfl ?_
    refine r_iload_n (i := 2) hX d_M_fits_214 rfl rfl ?_
    refine r_callVwi (q0 := 0) hX d_M_fits_215 cw_M_free ml_M_76 (c_M_free a hnn) (Or.inl rfl) rfl rfl rfl rfl (by decide) (Nat.le_of_ble_eq_true rfl) (fun _ => rfl) (fun _ _ => ?_)
    refine r_if_eq 238 hX d_M_fits_218 (by decide) (fun c218 => ?_) (fun c218 => ?_)
    · have hn : (freeB nn mf a && (freeB nn mf b && !decide (a = b))) = false := by have := bI_0 c218; simp [this]
      refine r_iconst (v := nI 0) hX d_M_fits_238 (by decide) ?_
      exact r_zret () hX hF d_M_fits_239 rfl trivial (by rw [hn]; rfl) rfl
    · refine r_aload_n (i := 0) hX d_M_fits_221 rfl rfl ?_
      refine r_iload_n (i := 3) hX d_M_fits_222 rfl rfl ?_
      refine r_callVwi (q0 := 0) hX d_M_fits_223 cw_M_free ml_M_76 (c_M_free b hnn) (Or.inl rfl) rfl rfl rfl rfl (by decide) (Nat.le_of_ble_eq_true rfl) (fun _ => rfl) (fun _ _ => ?_)
      refine r_if_eq 238 hX d_M_fits_226 (by decide) (fun c226 => ?_) (fun c226 => ?_)
      · have hn : (freeB nn mf a && (freeB nn mf b && !decide (a = b))) = false := by have := bI_0 c226; simp [this]
        refine r_iconst (v := nI 0) hX d_M_fits_238 (by decide) ?_
        exact r_zret () hX hF d_M_fits_239 rfl trivial (by rw [hn]; rfl) rfl
      · refine r_iload_n (i := 2) hX d_M_fits_229 rfl rfl ?_
        refine r_iload_n (i := 3) hX d_M_fits_230 rfl rfl ?_
        refine r_icmp_eq 238 hX d_M_fits_231 (by decide) (fun c231 => ?_) (fun c231 => ?_)
        · have hn : (freeB nn mf a && (freeB nn mf b && !decide (a = b))) = false := by simp [c231]
          refine r_iconst (v := nI 0) hX d_M_fits_238 (by decide) ?_
          exact r_zret () hX hF d_M_fits_239 rfl trivial (by rw [hn]; rfl) rfl
        · have hn : (freeB nn mf a && (freeB nn mf b && !decide (a = b))) = true := by have h1 := bI_1 c218; have h2 := bI_1 c226; simp [h1, h2, c231]
          refine r_iconst (v := nI 1) hX d_M_fits_234 (by decide) ?_
          refine r_goto 239 hX d_M_fits_235 (by decide) ?_
          exact r_zret () hX hF d_M_fits_239 rfl trivial (by rw [hn]; rfl) rfl
  · rw [fitK_17] at hF
    refine r_iload_n (i := 1) hX d_M_fits_0 rfl rfl ?_
    refine r_if_eq 20 hX d_M_fits_1 (by decide) (fun c1 => absurd c1 (by decide)) (fun c1 => ?_)
    refine r_iload_n (i := 1) hX d_M_fits_4 rfl rfl ?_
    refine r_iconst (v := nI 2) hX d_M_fits_5 (by decide) ?_
    refine r_icmp_eq 20 hX d_M_fits_6 (by decide) (fun c6 => absurd c6 (by decide)) (fun c6 => ?_)
    refine r_iload_n (i := 1) hX d_M_fits_9 rfl rfl ?_
    refine r_iconst (v := nI 3) hX d_M_fits_10 (by decide) ?_
    refine r_icmp_eq 20 hX d_M_fits_11 (by decide) (fun c11 => absurd c11 (by decide)) (fun c11 => ?_)
    refine r_iload_n (i := 1) hX d_M_fits_14 rfl rfl ?_
    refine r_bipush (v := nI 6) hX d_M_fits_15 (by decide) ?_
    refine r_icmp_ne 22 hX d_M_fits_17 (by decide) (fun c17 => ?_) (fun c17 => absurd c17 (by decide))
    refine r_iload_n (i := 1) hX d_M_fits_22 rfl rfl ?_
    refine r_iconst (v := nI 1) hX d_M_fits_23 (by decide) ?_
    refine r_icmp_ne 42 hX d_M_fits_24 (by decide) (fun c24 => ?_) (fun c24 => absurd c24 (by decide))
    refine r_iload_n (i := 1) hX d_M_fits_42 rfl rfl ?_
    refine r_iconst (v := nI 4) hX d_M_fits_43 (by decide) ?_
    refine r_icmp_eq 58 hX d_M_fits_44 (by decide) (fun c44 => absurd c44 (by decide)) (fun c44 => ?_)
    refine r_iload_n (i := 1) hX d_M_fits_47 rfl rfl ?_
    refine r_iconst (v := nI 5) hX d_M_fits_48 (by decide) ?_
    refine r_icmp_eq 58 hX d_M_fits_49 (by decide) (fun c49 => absurd c49 (by decide)) (fun c49 => ?_)
    refine r_iload_n (i := 1) hX d_M_fits_52 rfl rfl ?_
    refine r_bipush (v := nI 7) hX d_M_fits_53 (by decide) ?_
    refine r_icmp_ne 64 hX d_M_fits_55 (by decide) (fun c55 => ?_) (fun c55 => absurd c55 (by decide))
    refine r_iload_n (i := 1) hX d_M_fits_64 rfl rfl ?_
    refine r_bipush (v := nI 8) hX d_M_fits_65 (by decide) ?_
    refine r_icmp_eq 82 hX d_M_fits_67 (by decide) (fun c67 => absurd c67 (by decide)) (fun c67 => ?_)
    refine r_iload_n (i := 1) hX d_M_fits_70 rfl rfl ?_
    refine r_bipush (v := nI 20) hX d_M_fits_71 (by decide) ?_
    refine r_icmp_eq 82 hX d_M_fits_73 (by decide) (fun c73 => absurd c73 (by decide)) (fun c73 => ?_)
    refine r_iload_n (i := 1) hX d_M_fits_76 rfl rfl ?_
    refine r_bipush (v := nI 21) hX d_M_fits_77 (by decide) ?_
    refine r_icmp_ne 88 hX d_M_fits_79 (by decide) (fun c79 => ?_) (fun c79 => absurd c79 (by decide))
    refine r_iload_n (i := 1) hX d_M_fits_88 rfl rfl ?_
    refine r_bipush (v := nI 17) hX d_M_fits_89 (by decide) ?_
    refine r_icmp_ne 117 hX d_M_fits_91 (by decide) (fun c91 => absurd c91 (by decide)) (fun c91 => ?_)
    refine r_iload_n (i := 2) hX d_M_fits_94 rfl rfl ?_
    refine r_if_lt 115 hX d_M_fits_95 (by decide) (fun c95 => ?_) (fun c95 => ?_)
    · have hn : (inR a (nI 4) && freeB nn mf b) = false := by simp [inR, c95]
      refine r_iconst (v := nI 0) hX d_M_fits_115 (by decide) ?_
      exact r_zret () hX hF d_M_fits_116 rfl trivial (by rw [hn]; rfl) rfl
    · refine r_iload_n (i := 2) hX d_M_fits_98 rfl rfl ?_
      refine r_iconst (v := nI 4) hX d_M_fits_99 (by decide) ?_
      refine r_icmp_ge 115 hX d_M_fits_100 (by decide) (fun c100 => ?_) (fun c100 => ?_)
      · have hn : (inR a (nI 4) && freeB nn mf b) = false := by simp [inR, c100]
        refine r_iconst (v := nI 0) hX d_M_fits_115 (by decide) ?_
        exact r_zret () hX hF d_M_fits_116 rfl trivial (by rw [hn]; rfl) rfl
      · refine r_aload_n (i := 0) hX d_M_fits_103 rfl rfl ?_
        refine r_iload_n (i := 3) hX d_M_fits_104 rfl rfl ?_
        refine r_callVwi (q0 := 0) hX d_M_fits_105 cw_M_free ml_M_76 (c_M_free b hnn) (Or.inl rfl) rfl rfl rfl rfl (by decide) (Nat.le_of_ble_eq_true rfl) (fun _ => rfl) (fun _ _ => ?_)
        refine r_if_eq 115 hX d_M_fits_108 (by decide) (fun c108 => ?_) (fun c108 => ?_)
        · have hn : (inR a (nI 4) && freeB nn mf b) = false := by have := bI_0 c108; simp [this]
          refine r_iconst (v := nI 0) hX d_M_fits_115 (by decide) ?_
          exact r_zret () hX hF d_M_fits_116 rfl trivial (by rw [hn]; rfl) rfl
        · have hn : (inR a (nI 4) && freeB nn mf b) = true := by have := bI_1 c108; simp [inR, c95, c100, this]
          refine r_iconst (v := nI 1) hX d_M_fits_111 (by decide) ?_
          refine r_goto 116 hX d_M_fits_112 (by decide) ?_
          exact r_zret () hX hF d_M_fits_116 rfl trivial (by rw [hn]; rfl) rfl
  · rw [fitK_18] at hF
    refine r_iload_n (i := 1) hX d_M_fits_0 rfl rfl ?_
    refine r_if_eq 20 hX d_M_fits_1 (by decide) (fun c1 => absurd c1 (by decide)) (fun c1 => ?_)
    refine r_iload_n (i := 1) hX d_M_fits_4 rfl rfl ?_
    refine r_iconst (v := nI 2) hX d_M_fits_5 (by decide) ?_
    refine r_icmp_eq 20 hX d_M_fits_6 (by decide) (fun c6 => absurd c6 (by decide)) (fun c6 => ?_)
    refine r_iload_n (i := 1) hX d_M_fits_9 rfl rfl ?_
    refine r_iconst (v := nI 3) hX d_M_fits_10 (by decide) ?_
    refine r_icmp_eq 20 hX d_M_fits_11 (by decide) (fun c11 => absurd c11 (by decide)) (fun c11 => ?_)
    refine r_iload_n (i := 1) hX d_M_fits_14 rfl rfl ?_
    refine r_bipush (v := nI 6) hX d_M_fits_15 (by decide) ?_
    refine r_icmp_ne 22 hX d_M_fits_17 (by decide) (fun c17 => ?_) (fun c17 => absurd c17 (by decide))
    refine r_iload_n (i := 1) hX d_M_fits_22 rfl rfl ?_
    refine r_iconst (v := nI 1) hX d_M_fits_23 (by decide) ?_
    refine r_icmp_ne 42 hX d_M_fits_24 (by decide) (fun c24 => ?_) (fun c24 => absurd c24 (by decide))
    refine r_iload_n (i := 1) hX d_M_fits_42 rfl rfl ?_
    refine r_iconst (v := nI 4) hX d_M_fits_43 (by decide) ?_
    refine r_icmp_eq 58 hX d_M_fits_44 (by decide) (fun c44 => absurd c44 (by decide)) (fun c44 => ?_)
    refine r_iload_n (i := 1) hX d_M_fits_47 rfl rfl ?_
    refine r_iconst (v := nI 5) hX d_M_fits_48 (by decide) ?_
    refine r_icmp_eq 58 hX d_M_fits_49 (by decide) (fun c49 => absurd c49 (by decide)) (fun c49 => ?_)
    refine r_iload_n (i := 1) hX d_M_fits_52 rfl rfl ?_
    refine r_bipush (v := nI 7) hX d_M_fits_53 (by decide) ?_
    refine r_icmp_ne 64 hX d_M_fits_55 (by decide) (fun c55 => ?_) (fun c55 => absurd c55 (by decide))
    refine r_iload_n (i := 1) hX d_M_fits_64 rfl rfl ?_
    refine r_bipush (v := nI 8) hX d_M_fits_65 (by decide) ?_
    refine r_icmp_eq 82 hX d_M_fits_67 (by decide) (fun c67 => absurd c67 (by decide)) (fun c67 => ?_)
    refine r_iload_n (i := 1) hX d_M_fits_70 rfl rfl ?_
    refine r_bipush (v := nI 20) hX d_M_fits_71 (by decide) ?_
    refine r_icmp_eq 82 hX d_M_fits_73 (by decide) (fun c73 => absurd c73 (by decide)) (fun c73 => ?_)
    refine r_iload_n (i := 1) hX d_M_fits_76 rfl rfl ?_
    refine r_bipush (v := nI 21) hX d_M_fits_77 (by decide) ?_
    refine r_icmp_ne 88 hX d_M_fits_79 (by decide) (fun c79 => ?_) (fun c79 => absurd c79 (by decide))
    refine r_iload_n (i := 1) hX d_M_fits_88 rfl rfl ?_
    refine r_bipush (v := nI 17) hX d_M_fits_89 (by decide) ?_
    refine r_icmp_ne 117 hX d_M_fits_91 (by decide) (fun c91 => ?_) (fun c91 => absurd c91 (by decide))
    refine r_iload_n (i := 1) hX d_M_fits_117 rfl rfl ?_
    refine r_bipush (v := nI 18) hX d_M_fits_118 (by decide) ?_
    refine r_icmp_ne 147 hX d_M_fits_120 (by decide) (fun c120 => absurd c120 (by decide)) (fun c120 => ?_)
    refine r_iload_n (i := 2) hX d_M_fits_123 rfl rfl ?_
    refine r_if_le 145 hX d_M_fits_124 (by decide) (fun c124 => ?_) (fun c124 => ?_)
    · have hn : (cnt8 a && freeB nn mf b) = false := by have := i32_lt1.mp c124; simp [cnt8, this]
      refine r_iconst (v := nI 0) hX d_M_fits_145 (by decide) ?_
      exact r_zret () hX hF d_M_fits_146 rfl trivial (by rw [hn]; rfl) rfl
    · refine r_iload_n (i := 2) hX d_M_fits_127 rfl rfl ?_
      refine r_bipush (v := nI 9) hX d_M_fits_128 (by decide) ?_
      refine r_icmp_ge 145 hX d_M_fits_130 (by decide) (fun c130 => ?_) (fun c130 => ?_)
      · have hn : (cnt8 a && freeB nn mf b) = false := by have := (i32_succ (n := 8) (by decide)).mp c130; simp [cnt8, this]
        refine r_iconst (v := nI 0) hX d_M_fits_145 (by decide) ?_
        exact r_zret () hX hF d_M_fits_146 rfl trivial (by rw [hn]; rfl) rfl
      · refine r_aload_n (i := 0) hX d_M_fits_133 rfl rfl ?_
        refine r_iload_n (i := 3) hX d_M_fits_134 rfl rfl ?_
        refine r_callVwi (q0 := 0) hX d_M_fits_135 cw_M_free ml_M_76 (c_M_free b hnn) (Or.inl rfl) rfl rfl rfl rfl (by decide) (Nat.le_of_ble_eq_true rfl) (fun _ => rfl) (fun _ _ => ?_)
        refine r_if_eq 145 hX d_M_fits_138 (by decide) (fun c138 => ?_) (fun c138 => ?_)
        · have hn : (cnt8 a && freeB nn mf b) = false := by have := bI_0 c138; simp [this]
          refine r_iconst (v := nI 0) hX d_M_fits_145 (by decide) ?_
          exact r_zret () hX hF d_M_fits_146 rfl trivial (by rw [hn]; rfl) rfl
        · have hn : (cnt8 a && freeB nn mf b) = true := by
            have h1 := bI_1 c138
            have h2 : ¬ a < nI 1 := fun h => c124 (i32_lt1.mpr h)
            have h3 : ¬ nI 8 < a := fun h => c130 ((i32_succ (n := 8) (by decide)).mpr h)
            simp [cnt8, h1, h2, h3]
          refine r_iconst (v := nI 1) hX d_M_fits_141 (by decide) ?_
          refine r_goto 146 hX d_M_fits_142 (by decide) ?_
          exact r_zret () hX hF d_M_fits_146 rfl trivial (by rw [hn]; rfl) rfl
  · rw [fitK_19] at hF
    refine r_iload_n (i := 1) hX d_M_fits_0 rfl rfl ?_
    refine r_if_eq 20 hX d_M_fits_1 (by decide) (fun c1 => absurd c1 (by decide)) (fun c1 => ?_)
    refine r_iload_n (i := 1) hX d_M_fits_4 rfl rfl ?_
    refine r_iconst (v := nI 2) hX d_M_fits_5 (by decide) ?_
    refine r_icmp_eq 20 hX d_M_fits_6 (by decide) (fun c6 => absurd c6 (by decide)) (fun c6 => ?_)
    refine r_iload_n (i := 1) hX d_M_fits_9 rfl rfl ?_
    refine r_iconst (v := nI 3) hX d_M_fits_10 (by decide) ?_
    refine r_icmp_eq 20 hX d_M_fits_11 (by decide) (fun c11 => absurd c11 (by decide)) (fun c11 => ?_)
    refine r_iload_n (i := 1) hX d_M_fits_14 rfl rfl ?_
    refine r_bipush (v := nI 6) hX d_M_fits_15 (by decide) ?_
    refine r_icmp_ne 22 hX d_M_fits_17 (by decide) (fun c17 => ?_) (fun c17 => absurd c17 (by decide))
    refine r_iload_n (i := 1) hX d_M_fits_22 rfl rfl ?_
    refine r_iconst (v := nI 1) hX d_M_fits_23 (by decide) ?_
    refine r_icmp_ne 42 hX d_M_fits_24 (by decide) (fun c24 => ?_) (fun c24 => absurd c24 (by decide))
    refine r_iload_n (i := 1) hX d_M_fits_42 rfl rfl ?_
    refine r_iconst (v := nI 4) hX d_M_fits_43 (by decide) ?_
    refine r_icmp_eq 58 hX d_M_fits_44 (by decide) (fun c44 => absurd c44 (by decide)) (fun c44 => ?_)
    refine r_iload_n (i := 1) hX d_M_fits_47 rfl rfl ?_
    refine r_iconst (v := nI 5) hX d_M_fits_48 (by decide) ?_
    refine r_icmp_eq 58 hX d_M_fits_49 (by decide) (fun c49 => absurd c49 (by decide)) (fun c49 => ?_)
    refine r_iload_n (i := 1) hX d_M_fits_52 rfl rfl ?_
    refine r_bipush (v := nI 7) hX d_M_fits_53 (by decide) ?_
    refine r_icmp_ne 64 hX d_M_fits_55 (by decide) (fun c55 => ?_) (fun c55 => absurd c55 (by decide))
    refine r_iload_n (i := 1) hX d_M_fits_64 rfl rfl ?_
    refine r_bipush (v := nI 8) hX d_M_fits_65 (by decide) ?_
    refine r_icmp_eq 82 hX d_M_fits_67 (by decide) (fun c67 => absurd c67 (by decide)) (fun c67 => ?_)
    refine r_iload_n (i := 1) hX d_M_fits_70 rfl rfl ?_
    refine r_bipush (v := nI 20) hX d_M_fits_71 (by decide) ?_
    refine r_icmp_eq 82 hX d_M_fits_73 (by decide) (fun c73 => absurd c73 (by decide)) (fun c73 => ?_)
    refine r_iload_n (i := 1) hX d_M_fits_76 rfl rfl ?_
    refine r_bipush (v := nI 21) hX d_M_fits_77 (by decide) ?_
    refine r_icmp_ne 88 hX d_M_fits_79 (by decide) (fun c79 => ?_) (fun c79 => absurd c79 (by decide))
    refine r_iload_n (i := 1) hX d_M_fits_88 rfl rfl ?_
    refine r_bipush (v := nI 17) hX d_M_fits_89 (by decide) ?_
    refine r_icmp_ne 117 hX d_M_fits_91 (by decide) (fun c91 => ?_) (fun c91 => absurd c91 (by decide))
    refine r_iload_n (i := 1) hX d_M_fits_117 rfl rfl ?_
    refine r_bipush (v := nI 18) hX d_M_fits_118 (by decide) ?_
    refine r_icmp_ne 147 hX d_M_fits_120 (by decide) (fun c120 => ?_) (fun c120 => absurd c120 (by decide))
    refine r_iload_n (i := 1) hX d_M_fits_147 rfl rfl ?_
    refine r_bipush (v := nI 19) hX d_M_fits_148 (by decide) ?_
    refine r_icmp_ne 201 hX d_M_fits_150 (by decide) (fun c150 => absurd c150 (by decide)) (fun c150 => ?_)
    refine r_aload_n (i := 0) hX d_M_fits_153 rfl rfl ?_
    refine r_iload_n (i := 2) hX d_M_fits_154 rfl rfl ?_
    refine r_callVwi (q0 := 0) hX d_M_fits_155 cw_M_free ml_M_76 (c_M_free a hnn) (Or.inl rfl) rfl rfl rfl rfl (by decide) (Nat.le_of_ble_eq_true rfl) (fun _ => rfl) (fun _ _ => ?_)
    refine r_if_eq 199 hX d_M_fits_158 (by decide) (fun c158 => ?_) (fun c158 => ?_)
    · have hn : (freeB nn mf a && (freeB nn mf b && (freeB nn mf c && (!decide (a = b) && (!decide (a = c) && !decide (b = c)))))) = false := by have := bI_0 c158; simp [this]
      refine r_iconst (v := nI 0) hX d_M_fits_199 (by decide) ?_
      exact r_zret () hX hF d_M_fits_200 rfl trivial (by rw [hn]; rfl) rfl
    · refine r_aload_n (i := 0) hX d_M_fits_161 rfl rfl ?_
      refine r_iload_n (i := 3) hX d_M_fits_162 rfl rfl ?_
      refine r_callVwi (q0 := 0) hX d_M_fits_163 cw_M_free ml_M_76 (c_M_free b hnn) (Or.inl rfl) rfl rfl rfl rfl (by decide) (Nat.le_of_ble_eq_true rfl) (fun _ => rfl) (fun _ _ => ?_)
      refine r_if_eq 199 hX d_M_fits_166 (by decide) (fun c166 => ?_) (fun c166 => ?_)
      · have hn : (freeB nn mf a && (freeB nn mf b && (freeB nn mf c && (!decide (a = b) && (!decide (a = c) && !decide (b = c)))))) = false := by have := bI_0 c166; simp [this]
        refine r_iconst (v := nI 0) hX d_M_fits_199 (by decide) ?_
        exact r_zret () hX hF d_M_fits_200 rfl trivial (by rw [hn]; rfl) rfl
      · refine r_aload_n (i := 0) hX d_M_fits_169 rfl rfl ?_
        refine r_iload hX d_M_fits_170 rfl ?_
        refine r_callVwi (q0 := 0) hX d_M_fits_172 cw_M_free ml_M_76 (c_M_free c hnn) (Or.inl rfl) rfl rfl rfl rfl (by decide) (Nat.le_of_ble_eq_true rfl) (fun _ => rfl) (fun _ _ => ?_)
        refine r_if_eq 199 hX d_M_fits_175 (by decide) (fun c175 => ?_) (fun c175 => ?_)
        · have hn : (freeB nn mf a && (freeB nn mf b && (freeB nn mf c && (!decide (a = b) && (!decide (a = c) && !decide (b = c)))))) = false := by have := bI_0 c175; simp [this]
          refine r_iconst (v := nI 0) hX d_M_fits_199 (by decide) ?_
          exact r_zret () hX hF d_M_fits_200 rfl trivial (by rw [hn]; rfl) rfl
        · refine r_iload_n (i := 2) hX d_M_fits_178 rfl rfl ?_
          refine r_iload_n (i := 3) hX d_M_fits_179 rfl rfl ?_
          refine r_icmp_eq 199 hX d_M_fits_180 (by decide) (fun c180 => ?_) (fun c180 => ?_)
          · have hn : (freeB nn mf a && (freeB nn mf b && (freeB nn mf c && (!decide (a = b) && (!decide (a = c) && !decide (b = c)))))) = false := by simp [c180]
            refine r_iconst (v := nI 0) hX d_M_fits_199 (by decide) ?_
            exact r_zret () hX hF d_M_fits_200 rfl trivial (by rw [hn]; rfl) rfl
          · refine r_iload_n (i := 2) hX d_M_fits_183 rfl rfl ?_
            refine r_iload hX d_M_fits_184 rfl ?_
            refine r_icmp_eq 199 hX d_M_fits_186 (by decide) (fun c186 => ?_) (fun c186 => ?_)
            · have hn : (freeB nn mf a && (freeB nn mf b && (freeB nn mf c && (!decide (a = b) && (!decide (a = c) && !decide (b = c)))))) = false := by simp [c186]
              refine r_iconst (v := nI 0) hX d_M_fits_199 (by decide) ?_
              exact r_zret () hX hF d_M_fits_200 rfl trivial (by rw [hn]; rfl) rfl
            · refine r_iload_n (i := 3) hX d_M_fits_189 rfl rfl ?_
              refine r_iload hX d_M_fits_190 rfl ?_
              refine r_icmp_eq 199 hX d_M_fits_192 (by decide) (fun c192 => ?_) (fun c192 => ?_)
              · have hn : (freeB nn mf a && (freeB nn mf b && (freeB nn mf c && (!decide (a = b) && (!decide (a = c) && !decide (b = c)))))) = false := by simp [c192]
                refine r_iconst (v := nI 0) hX d_M_fits_199 (by decide) ?_
                exact r_zret () hX hF d_M_fits_200 rfl trivial (by rw [hn]; rfl) rfl
              · have hn : (freeB nn mf a && (freeB nn mf b && (freeB nn mf c && (!decide (a = b) && (!decide (a = c) && !decide (b = c)))))) = true := by have h1 := bI_1 c158; have h2 := bI_1 c166; have h3 := bI_1 c175; simp [h1, h2, h3, c180, c186, c192]
                refine r_iconst (v := nI 1) hX d_M_fits_195 (by decide) ?_
                refine r_goto 200 hX d_M_fits_196 (by decide) ?_
                exact r_zret () hX hF d_M_fits_200 rfl trivial (by rw [hn]; rfl) rfl
  · rw [fitK_20] at hF
    refine r_iload_n (i := 1) hX d_M_fits_0 rfl rfl ?_
    refine r_if_eq 20 hX d_M_fits_1 (by decide) (fun c1 => absurd c1 (by decide)) (fun c1 => ?_)
    refine r_iload_n (i := 1) hX d_M_fits_4 rfl rfl ?_
    refine r_iconst (v := nI 2) hX d_M_fits_5 (by decide) ?_
    refine r_icmp_eq 20 hX d_M_fits_6 (by decide) (fun c6 => absurd c6 (by decide)) (fun c6 => ?_)
    refine r_iload_n (i := 1) hX d_M_fits_9 rfl rfl ?_
    refine r_iconst (v := nI 3) hX d_M_fits_10 (by decide) ?_
    refine r_icmp_eq 20 hX d_M_fits_11 (by decide) (fun c11 => absurd c11 (by decide)) (fun c11 => ?_)
    refine r_iload_n (i := 1) hX d_M_fits_14 rfl rfl ?_
    refine r_bipush (v := nI 6) hX d_M_fits_15 (by decide) ?_
    refine r_icmp_ne 22 hX d_M_fits_17 (by decide) (fun c17 => ?_) (fun c17 => absurd c17 (by decide))
    refine r_iload_n (i := 1) hX d_M_fits_22 rfl rfl ?_
    refine r_iconst (v := nI 1) hX d_M_fits_23 (by decide) ?_
    refine r_icmp_ne 42 hX d_M_fits_24 (by decide) (fun c24 => ?_) (fun c24 => absurd c24 (by decide))
    refine r_iload_n (i := 1) hX d_M_fits_42 rfl rfl ?_
    refine r_iconst (v := nI 4) hX d_M_fits_43 (by decide) ?_
    refine r_icmp_eq 58 hX d_M_fits_44 (by decide) (fun c44 => absurd c44 (by decide)) (fun c44 => ?_)
    refine r_iload_n (i := 1) hX d_M_fits_47 rfl rfl ?_
    refine r_iconst (v := nI 5) hX d_M_fits_48 (by decide) ?_
    refine r_icmp_eq 58 hX d_M_fits_49 (by decide) (fun c49 => absurd c49 (by decide)) (fun c49 => ?_)
    refine r_iload_n (i := 1) hX d_M_fits_52 rfl rfl ?_
    refine r_bipush (v := nI 7) hX d_M_fits_53 (by decide) ?_
    refine r_icmp_ne 64 hX d_M_fits_55 (by decide) (fun c55 => ?_) (fun c55 => absurd c55 (by decide))
    refine r_iload_n (i := 1) hX d_M_fits_64 rfl rfl ?_
    refine r_bipush (v := nI 8) hX d_M_fits_65 (by decide) ?_
    refine r_icmp_eq 82 hX d_M_fits_67 (by decide) (fun c67 => absurd c67 (by decide)) (fun c67 => ?_)
    refine r_iload_n (i := 1) hX d_M_fits_70 rfl rfl ?_
    refine r_bipush (v := nI 20) hX d_M_fits_71 (by decide) ?_
    refine r_icmp_eq 82 hX d_M_fits_73 (by decide) (fun c73 => ?_) (fun c73 => absurd c73 (by decide))
    refine r_aload_n (i := 0) hX d_M_fits_82 rfl rfl ?_
    refine r_iload_n (i := 2) hX d_M_fits_83 rfl rfl ?_
    refine r_callVwi (q0 := 0) hX d_M_fits_84 cw_M_free ml_M_76 (c_M_free a hnn) (Or.inl rfl) rfl rfl rfl rfl (by decide) (Nat.le_of_ble_eq_true rfl) (fun _ => rfl) (fun _ _ => ?_)
    exact r_zret () hX hF d_M_fits_87 (bI_nar _) trivial rfl rfl
  · rw [fitK_21] at hF
    refine r_iload_n (i := 1) hX d_M_fits_0 rfl rfl ?_
    refine r_if_eq 20 hX d_M_fits_1 (by decide) (fun c1 => absurd c1 (by decide)) (fun c1 => ?_)
    refine r_iload_n (i := 1) hX d_M_fits_4 rfl rfl ?_
    refine r_iconst (v := nI 2) hX d_M_fits_5 (by decide) ?_
    refine r_icmp_eq 20 hX d_M_fits_6 (by decide) (fun c6 => absurd c6 (by decide)) (fun c6 => ?_)
    refine r_iload_n (i := 1) hX d_M_fits_9 rfl rfl ?_
    refine r_iconst (v := nI 3) hX d_M_fits_10 (by decide) ?_
    refine r_icmp_eq 20 hX d_M_fits_11 (by decide) (fun c11 => absurd c11 (by decide)) (fun c11 => ?_)
    refine r_iload_n (i := 1) hX d_M_fits_14 rfl rfl ?_
    refine r_bipush (v := nI 6) hX d_M_fits_15 (by decide) ?_
    refine r_icmp_ne 22 hX d_M_fits_17 (by decide) (fun c17 => ?_) (fun c17 => absurd c17 (by decide))
    refine r_iload_n (i := 1) hX d_M_fits_22 rfl rfl ?_
    refine r_iconst (v := nI 1) hX d_M_fits_23 (by decide) ?_
    refine r_icmp_ne 42 hX d_M_fits_24 (by decide) (fun c24 => ?_) (fun c24 => absurd c24 (by decide))
    refine r_iload_n (i := 1) hX d_M_fits_42 rfl rfl ?_
    refine r_iconst (v := nI 4) hX d_M_fits_43 (by decide) ?_
    refine r_icmp_eq 58 hX d_M_fits_44 (by decide) (fun c44 => absurd c44 (by decide)) (fun c44 => ?_)
    refine r_iload_n (i := 1) hX d_M_fits_47 rfl rfl ?_
    refine r_iconst (v := nI 5) hX d_M_fits_48 (by decide) ?_
    refine r_icmp_eq 58 hX d_M_fits_49 (by decide) (fun c49 => absurd c49 (by decide)) (fun c49 => ?_)
    refine r_iload_n (i := 1) hX d_M_fits_52 rfl rfl ?_
    refine r_bipush (v := nI 7) hX d_M_fits_53 (by decide) ?_
    refine r_icmp_ne 64 hX d_M_fits_55 (by decide) (fun c55 => ?_) (fun c55 => absurd c55 (by decide))
    refine r_iload_n (i := 1) hX d_M_fits_64 rfl rfl ?_
    refine r_bipush (v := nI 8) hX d_M_fits_65 (by decide) ?_
    refine r_icmp_eq 82 hX d_M_fits_67 (by decide) (fun c67 => absurd c67 (by decide)) (fun c67 => ?_)
    refine r_iload_n (i := 1) hX d_M_fits_70 rfl rfl ?_
    refine r_bipush (v := nI 20) hX d_M_fits_71 (by decide) ?_
    refine r_icmp_eq 82 hX d_M_fits_73 (by decide) (fun c73 => absurd c73 (by decide)) (fun c73 => ?_)
    refine r_iload_n (i := 1) hX d_M_fits_76 rfl rfl ?_
    refine r_bipush (v := nI 21) hX d_M_fits_77 (by decide) ?_
    refine r_icmp_ne 88 hX d_M_fits_79 (by decide) (fun c79 => absurd c79 (by decide)) (fun c79 => ?_)
    refine r_aload_n (i := 0) hX d_M_fits_82 rfl rfl ?_
    refine r_iload_n (i := 2) hX d_M_fits_83 rfl rfl ?_
    refine r_callVwi (q0 := 0) hX d_M_fits_84 cw_M_free ml_M_76 (c_M_free a hnn) (Or.inl rfl) rfl rfl rfl rfl (by decide) (Nat.le_of_ble_eq_true rfl) (fun _ => rfl) (fun _ _ => ?_)
    exact r_zret () hX hF d_M_fits_87 (bI_nar _) trivial rfl rfl
set_option maxRecDepth 100000 in
set_option maxHeartbeats 4000000 in
theorem c_M_namesA (k : Nat) (hk : k ≤ 21) : CT l D (tyL cI cZ cN) none y_M_namesA b_M_namesA 2 (some .boolean) 0 [.ref (am 0), .int (nI k)] (WM am cI cZ tl nn rs ae dp tx mf rw sz nv ph tu sv) (fun _ : Unit => True) (fun _ => some (.int (bI (nmA k)))) (fun _ => (WM am cI cZ tl nn rs ae dp tx mf rw sz nv ph tu sv)) := by
  refine CT.of (by decide) (Nat.le_of_ble_eq_true rfl) ?_
  intro X A hl hX hF
  rcases k22 hk with rfl | rfl | rfl | rfl | rfl | rfl | rfl | rfl | rfl | rfl | rfl | rfl | rfl | rfl | rfl | rfl | rfl | rfl | rfl | rfl | rfl | rfl
  ·
    refine r_iload_n (i := 1) hX d_M_namesA_0 rfl rfl ?_
    refine r_bipush (v := nI 7) hX d_M_namesA_1 (by decide) ?_
    refine r_icmp_le 22 hX d_M_namesA_3 (by decide) (fun c3 => ?_) (fun c3 => absurd c3 (by decide))
    refine r_iconst (v := nI 0) hX d_M_namesA_22 (by decide) ?_
    exact r_zret () hX hF d_M_namesA_23 rfl trivial rfl rfl
  ·
    refine r_iload_n (i := 1) hX d_M_namesA_0 rfl rfl ?_
    refine r_bipush (v := nI 7) hX d_M_namesA_1 (by decide) ?_
    refine r_icmp_le 22 hX d_M_namesA_3 (by decide) (fun c3 => ?_) (fun c3 => absurd c3 (by decide))
    refine r_iconst (v := nI 0) hX d_M_namesA_22 (by decide) ?_
    exact r_zret () hX hF d_M_namesA_23 rfl trivial rfl rfl
  ·
    refine r_iload_n (i := 1) hX d_M_namesA_0 rfl rfl ?_
    refine r_bipush (v := nI 7) hX d_M_namesA_1 (by decide) ?_
    refine r_icmp_le 22 hX d_M_namesA_3 (by decide) (fun c3 => ?_) (fun c3 => absurd c3 (by decide))
    refine r_iconst (v := nI 0) hX d_M_namesA_22 (by decide) ?_
    exact r_zret () hX hF d_M_namesA_23 rfl trivial rfl rfl
  ·
    refine r_iload_n (i := 1) hX d_M_namesA_0 rfl rfl ?_
    refine r_bipush (v := nI 7) hX d_M_namesA_1 (by decide) ?_
    refine r_icmp_le 22 hX d_M_namesA_3 (by decide) (fun c3 => ?_) (fun c3 => absurd c3 (by decide))
    refine r_iconst (v := nI 0) hX d_M_namesA_22 (by decide) ?_
    exact r_zret () hX hF d_M_namesA_23 rfl trivial rfl rfl
  ·
    refine r_iload_n (i := 1) hX d_M_namesA_0 rfl rfl ?_
    refine r_bipush (v := nI 7) hX d_M_namesA_1 (by decide) ?_
    refine r_icmp_le 22 hX d_M_namesA_3 (by decide) (fun c3 => ?_) (fun c3 => absurd c3 (by decide))
    refine r_iconst (v := nI 0) hX d_M_namesA_22 (by decide) ?_
    exact r_zret () hX hF d_M_namesA_23 rfl trivial rfl rfl
  ·
    refine r_iload_n (i := 1) hX d_M_namesA_0 rfl rfl ?_
    refine r_bipush (v := nI 7) hX d_M_namesA_1 (by decide) ?_
    refine r_icmp_le 22 hX d_M_namesA_3 (by decide) (fun c3 => ?_) (fun c3 => absurd c3 (by decide))
    refine r_iconst (v := nI 0) hX d_M_namesA_22 (by decide) ?_
    exact r_zret () hX hF d_M_namesA_23 rfl trivial rfl rfl
  ·
    refine r_iload_n (i := 1) hX d_M_namesA_0 rfl rfl ?_
    refine r_bipush (v := nI 7) hX d_M_namesA_1 (by decide) ?_
    refine r_icmp_le 22 hX d_M_namesA_3 (by decide) (fun c3 => ?_) (fun c3 => absurd c3 (by decide))
    refine r_iconst (v := nI 0) hX d_M_namesA_22 (by decide) ?_
    exact r_zret () hX hF d_M_namesA_23 rfl trivial rfl rfl
  ·
    refine r_iload_n (i := 1) hX d_M_namesA_0 rfl rfl ?_
    refine r_bipush (v := nI 7) hX d_M_namesA_1 (by decide) ?_
    refine r_icmp_le 22 hX d_M_namesA_3 (by decide) (fun c3 => ?_) (fun c3 => absurd c3 (by decide))
    refine r_iconst (v := nI 0) hX d_M_namesA_22 (by decide) ?_
    exact r_zret () hX hF d_M_namesA_23 rfl trivial rfl rfl
  ·
    refine r_iload_n (i := 1) hX d_M_namesA_0 rfl rfl ?_
    refine r_bipush (v := nI 7) hX d_M_namesA_1 (by decide) ?_
    refine r_icmp_le 22 hX d_M_namesA_3 (by decide) (fun c3 => absurd c3 (by decide)) (fun c3 => ?_)
    refine r_iload_n (i := 1) hX d_M_namesA_6 rfl rfl ?_
    refine r_bipush (v := nI 17) hX d_M_namesA_7 (by decide) ?_
    refine r_icmp_eq 22 hX d_M_namesA_9 (by decide) (fun c9 => absurd c9 (by decide)) (fun c9 => ?_)
    refine r_iload_n (i := 1) hX d_M_namesA_12 rfl rfl ?_
    refine r_bipush (v := nI 18) hX d_M_namesA_13 (by decide) ?_
    refine r_icmp_eq 22 hX d_M_namesA_15 (by decide) (fun c15 => absurd c15 (by decide)) (fun c15 => ?_)
    refine r_iconst (v := nI 1) hX d_M_namesA_18 (by decide) ?_
    refine r_goto 23 hX d_M_namesA_19 (by decide) ?_
    exact r_zret () hX hF d_M_namesA_23 rfl trivial rfl rfl
  ·
    refine r_iload_n (i := 1) hX d_M_namesA_0 rfl rfl ?_
    refine r_bipush (v := nI 7) hX d_M_namesA_1 (by decide) ?_
    refine r_icmp_le 22 hX d_M_namesA_3 (by decide) (fun c3 => absurd c3 (by decide)) (fun c3 => ?_)
    refine r_iload_n (i := 1) hX d_M_namesA_6 rfl rfl ?_
    refine r_bipush (v := nI 17) hX d_M_namesA_7 (by decide) ?_
    refine r_icmp_eq 22 hX d_M_namesA_9 (by decide) (fun c9 => absurd c9 (by decide)) (fun c9 => ?_)
    refine r_iload_n (i := 1) hX d_M_namesA_12 rfl rfl ?_
    refine r_bipush (v := nI 18) hX d_M_namesA_13 (by decide) ?_
    refine r_icmp_eq 22 hX d_M_namesA_15 (by decide) (fun c15 => absurd c15 (by decide)) (fun c15 => ?_)
    refine r_iconst (v := nI 1) hX d_M_namesA_18 (by decide) ?_
    refine r_goto 23 hX d_M_namesA_19 (by decide) ?_
    exact r_zret () hX hF d_M_namesA_23 rfl trivial rfl rfl
  ·
    refine r_iload_n (i := 1) hX d_M_namesA_0 rfl rfl ?_
    refine r_bipush (v := nI 7) hX d_M_namesA_1 (by decide) ?_
    refine r_icmp_le 22 hX d_M_namesA_3 (by decide) (fun c3 => absurd c3 (by decide)) (fun c3 => ?_)
    refine r_iload_n (i := 1) hX d_M_namesA_6 rfl rfl ?_
    refine r_bipush (v := nI 17) hX d_M_namesA_7 (by decide) ?_
    refine r_icmp_eq 22 hX d_M_namesA_9 (by decide) (fun c9 => absurd c9 (by decide)) (fun c9 => ?_)
    refine r_iload_n (i := 1) hX d_M_namesA_12 rfl rfl ?_
    refine r_bipush (v := nI 18) hX d_M_namesA_13 (by decide) ?_
    refine r_icmp_eq 22 hX d_M_namesA_15 (by decide) (fun c15 => absurd c15 (by decide)) (fun c15 => ?_)
    refine r_iconst (v := nI 1) hX d_M_namesA_18 (by decide) ?_
    refine r_goto 23 hX d_M_namesA_19 (by decide) ?_
    exact r_zret () hX hF d_M_namesA_23 rfl trivial rfl rfl
  ·
    refine r_iload_n (i := 1) hX d_M_namesA_0 rfl rfl ?_
    refine r_bipush (v := nI 7) hX d_M_namesA_1 (by decide) ?_
    refine r_icmp_le 22 hX d_M_namesA_3 (by decide) (fun c3 => absurd c3 (by decide)) (fun c3 => ?_)
    refine r_iload_n (i := 1) hX d_M_namesA_6 rfl rfl ?_
    refine r_bipush (v := nI 17) hX d_M_namesA_7 (by decide) ?_
    refine r_icmp_eq 22 hX d_M_namesA_9 (by decide) (fun c9 => absurd c9 (by decide)) (fun c9 => ?_)
    refine r_iload_n (i := 1) hX d_M_namesA_12 rfl rfl ?_
    refine r_bipush (v := nI 18) hX d_M_namesA_13 (by decide) ?_
    refine r_icmp_eq 22 hX d_M_namesA_15 (by decide) (fun c15 => absurd c15 (by decide)) (fun c15 => ?_)
    refine r_iconst (v := nI 1) hX d_M_namesA_18 (by decide) ?_
    refine r_goto 23 hX d_M_namesA_19 (by decide) ?_
    exact r_zret () hX hF d_M_namesA_23 rfl trivial rfl rfl
  ·
    refine r_iload_n (i := 1) hX d_M_namesA_0 rfl rfl ?_
    refine r_bipush (v := nI 7) hX d_M_namesA_1 (by decide) ?_
    refine r_icmp_le 22 hX d_M_namesA_3 (by decide) (fun c3 => absurd c3 (by decide)) (fun c3 => ?_)
    refine r_iload_n (i := 1) hX d_M_namesA_6 rfl rfl ?_
    refine r_bipush (v := nI 17) hX d_M_namesA_7 (by decide) ?_
    refine r_icmp_eq 22 hX d_M_namesA_9 (by decide) (fun c9 => absurd c9 (by decide)) (fun c9 => ?_)
    refine r_iload_n (i := 1) hX d_M_namesA_12 rfl rfl ?_
    refine r_bipush (v := nI 18) hX d_M_namesA_13 (by decide) ?_
    refine r_icmp_eq 22 hX d_M_namesA_15 (by decide) (fun c15 => absurd c15 (by decide)) (fun c15 => ?_)
    refine r_iconst (v := nI 1) hX d_M_namesA_18 (by decide) ?_
    refine r_goto 23 hX d_M_namesA_19 (by decide) ?_
    exact r_zret () hX hF d_M_namesA_23 rfl trivial rfl rfl
  ·
    refine r_iload_n (i := 1) hX d_M_namesA_0 rfl rfl ?_
    refine r_bipush (v := nI 7) hX d_M_namesA_1 (by decide) ?_
    refine r_icmp_le 22 hX d_M_namesA_3 (by decide) (fun c3 => absurd c3 (by decide)) (fun c3 => ?_)
    refine r_iload_n (i := 1) hX d_M_namesA_6 rfl rfl ?_
    refine r_bipush (v := nI 17) hX d_M_namesA_7 (by decide) ?_
    refine r_icmp_eq 22 hX d_M_namesA_9 (by decide) (fun c9 => absurd c9 (by decide)) (fun c9 => ?_)
    refine r_iload_n (i := 1) hX d_M_namesA_12 rfl rfl ?_
    refine r_bipush (v := nI 18) hX d_M_namesA_13 (by decide) ?_
    refine r_icmp_eq 22 hX d_M_namesA_15 (by decide) (fun c15 => absurd c15 (by decide)) (fun c15 => ?_)
    refine r_iconst (v := nI 1) hX d_M_namesA_18 (by decide) ?_
    refine r_goto 23 hX d_M_namesA_19 (by decide) ?_
    exact r_zret () hX hF d_M_namesA_23 rfl trivial rfl rfl
  ·
    refine r_iload_n (i := 1) hX d_M_namesA_0 rfl rfl ?_
    refine r_bipush (v := nI 7) hX d_M_namesA_1 (by decide) ?_
    refine r_icmp_le 22 hX d_M_namesA_3 (by decide) (fun c3 => absurd c3 (by decide)) (fun c3 => ?_)
    refine r_iload_n (i := 1) hX d_M_namesA_6 rfl rfl ?_
    refine r_bipush (v := nI 17) hX d_M_namesA_7 (by decide) ?_
    refine r_icmp_eq 22 hX d_M_namesA_9 (by decide) (fun c9 => absurd c9 (by decide)) (fun c9 => ?_)
    refine r_iload_n (i := 1) hX d_M_namesA_12 rfl rfl ?_
    refine r_bipush (v := nI 18) hX d_M_namesA_13 (by decide) ?_
    refine r_icmp_eq 22 hX d_M_namesA_15 (by decide) (fun c15 => absurd c15 (by decide)) (fun c15 => ?_)
    refine r_iconst (v := nI 1) hX d_M_namesA_18 (by decide) ?_
    refine r_goto 23 hX d_M_namesA_19 (by decide) ?_
    exact r_zret () hX hF d_M_namesA_23 rfl trivial rfl rfl
  ·
    refine r_iload_n (i := 1) hX d_M_namesA_0 rfl rfl ?_
    refine r_bipush (v := nI 7) hX d_M_namesA_1 (by decide) ?_
    refine r_icmp_le 22 hX d_M_namesA_3 (by decide) (fun c3 => absurd c3 (by decide)) (fun c3 => ?_)
    refine r_iload_n (i := 1) hX d_M_namesA_6 rfl rfl ?_
    refine r_bipush (v := nI 17) hX d_M_namesA_7 (by decide) ?_
    refine r_icmp_eq 22 hX d_M_namesA_9 (by decide) (fun c9 => absurd c9 (by decide)) (fun c9 => ?_)
    refine r_iload_n (i := 1) hX d_M_namesA_12 rfl rfl ?_
    refine r_bipush (v := nI 18) hX d_M_namesA_13 (by decide) ?_
    refine r_icmp_eq 22 hX d_M_namesA_15 (by decide) (fun c15 => absurd c15 (by decide)) (fun c15 => ?_)
    refine r_iconst (v := nI 1) hX d_M_namesA_18 (by decide) ?_
    refine r_goto 23 hX d_M_namesA_19 (by decide) ?_
    exact r_zret () hX hF d_M_namesA_23 rfl trivial rfl rfl
  ·
    refine r_iload_n (i := 1) hX d_M_namesA_0 rfl rfl ?_
    refine r_bipush (v := nI 7) hX d_M_namesA_1 (by decide) ?_
    refine r_icmp_le 22 hX d_M_namesA_3 (by decide) (fun c3 => absurd c3 (by decide)) (fun c3 => ?_)
    refine r_iload_n (i := 1) hX d_M_namesA_6 rfl rfl ?_
    refine r_bipush (v := nI 17) hX d_M_namesA_7 (by decide) ?_
    refine r_icmp_eq 22 hX d_M_namesA_9 (by decide) (fun c9 => absurd c9 (by decide)) (fun c9 => ?_)
    refine r_iload_n (i := 1) hX d_M_namesA_12 rfl rfl ?_
    refine r_bipush (v := nI 18) hX d_M_namesA_13 (by decide) ?_
    refine r_icmp_eq 22 hX d_M_namesA_15 (by decide) (fun c15 => absurd c15 (by decide)) (fun c15 => ?_)
    refine r_iconst (v := nI 1) hX d_M_namesA_18 (by decide) ?_
    refine r_goto 23 hX d_M_namesA_19 (by decide) ?_
    exact r_zret () hX hF d_M_namesA_23 rfl trivial rfl rfl
  ·
    refine r_iload_n (i := 1) hX d_M_namesA_0 rfl rfl ?_
    refine r_bipush (v := nI 7) hX d_M_namesA_1 (by decide) ?_
    refine r_icmp_le 22 hX d_M_namesA_3 (by decide) (fun c3 => absurd c3 (by decide)) (fun c3 => ?_)
    refine r_iload_n (i := 1) hX d_M_namesA_6 rfl rfl ?_
    refine r_bipush (v := nI 17) hX d_M_namesA_7 (by decide) ?_
    refine r_icmp_eq 22 hX d_M_namesA_9 (by decide) (fun c9 => ?_) (fun c9 => absurd c9 (by decide))
    refine r_iconst (v := nI 0) hX d_M_namesA_22 (by decide) ?_
    exact r_zret () hX hF d_M_namesA_23 rfl trivial rfl rfl
  ·
    refine r_iload_n (i := 1) hX d_M_namesA_0 rfl rfl ?_
    refine r_bipush (v := nI 7) hX d_M_namesA_1 (by decide) ?_
    refine r_icmp_le 22 hX d_M_namesA_3 (by decide) (fun c3 => absurd c3 (by decide)) (fun c3 => ?_)
    refine r_iload_n (i := 1) hX d_M_namesA_6 rfl rfl ?_
    refine r_bipush (v := nI 17) hX d_M_namesA_7 (by decide) ?_
    refine r_icmp_eq 22 hX d_M_namesA_9 (by decide) (fun c9 => absurd c9 (by decide)) (fun c9 => ?_)
    refine r_iload_n (i := 1) hX d_M_namesA_12 rfl rfl ?_
    refine r_bipush (v := nI 18) hX d_M_namesA_13 (by decide) ?_
    refine r_icmp_eq 22 hX d_M_namesA_15 (by decide) (fun c15 => ?_) (fun c15 => absurd c15 (by decide))
    refine r_iconst (v := nI 0) hX d_M_namesA_22 (by decide) ?_
    exact r_zret () hX hF d_M_namesA_23 rfl trivial rfl rfl
  ·
    refine r_iload_n (i := 1) hX d_M_namesA_0 rfl rfl ?_
    refine r_bipush (v := nI 7) hX d_M_namesA_1 (by decide) ?_
    refine r_icmp_le 22 hX d_M_namesA_3 (by decide) (fun c3 => absurd c3 (by decide)) (fun c3 => ?_)
    refine r_iload_n (i := 1) hX d_M_namesA_6 rfl rfl ?_
    refine r_bipush (v := nI 17) hX d_M_namesA_7 (by decide) ?_
    refine r_icmp_eq 22 hX d_M_namesA_9 (by decide) (fun c9 => absurd c9 (by decide)) (fun c9 => ?_)
    refine r_iload_n (i := 1) hX d_M_namesA_12 rfl rfl ?_
    refine r_bipush (v := nI 18) hX d_M_namesA_13 (by decide) ?_
    refine r_icmp_eq 22 hX d_M_namesA_15 (by decide) (fun c15 => absurd c15 (by decide)) (fun c15 => ?_)
    refine r_iconst (v := nI 1) hX d_M_namesA_18 (by decide) ?_
    refine r_goto 23 hX d_M_namesA_19 (by decide) ?_
    exact r_zret () hX hF d_M_namesA_23 rfl trivial rfl rfl
  ·
    refine r_iload_n (i := 1) hX d_M_namesA_0 rfl rfl ?_
    refine r_bipush (v := nI 7) hX d_M_namesA_1 (by decide) ?_
    refine r_icmp_le 22 hX d_M_namesA_3 (by decide) (fun c3 => absurd c3 (by decide)) (fun c3 => ?_)
    refine r_iload_n (i := 1) hX d_M_namesA_6 rfl rfl ?_
    refine r_bipush (v := nI 17) hX d_M_namesA_7 (by decide) ?_
    refine r_icmp_eq 22 hX d_M_namesA_9 (by decide) (fun c9 => absurd c9 (by decide)) (fun c9 => ?_)
    refine r_iload_n (i := 1) hX d_M_namesA_12 rfl rfl ?_
    refine r_bipush (v := nI 18) hX d_M_namesA_13 (by decide) ?_
    refine r_icmp_eq 22 hX d_M_namesA_15 (by decide) (fun c15 => absurd c15 (by decide)) (fun c15 => ?_)
    refine r_iconst (v := nI 1) hX d_M_namesA_18 (by decide) ?_
    refine r_goto 23 hX d_M_namesA_19 (by decide) ?_
    exact r_zret () hX hF d_M_namesA_23 rfl trivial rfl rfl
  ·
    refine r_iload_n (i := 1) hX d_M_namesA_0 rfl rfl ?_
    refine r_bipush (v := nI 7) hX d_M_namesA_1 (by decide) ?_
    refine r_icmp_le 22 hX d_M_namesA_3 (by decide) (fun c3 => absurd c3 (by decide)) (fun c3 => ?_)
    refine r_iload_n (i := 1) hX d_M_namesA_6 rfl rfl ?_
    refine r_bipush (v := nI 17) hX d_M_namesA_7 (by decide) ?_
    refine r_icmp_eq 22 hX d_M_namesA_9 (by decide) (fun c9 => absurd c9 (by decide)) (fun c9 => ?_)
    refine r_iload_n (i := 1) hX d_M_namesA_12 rfl rfl ?_
    refine r_bipush (v := nI 18) hX d_M_namesA_13 (by decide) ?_
    refine r_icmp_eq 22 hX d_M_namesA_15 (by decide) (fun c15 => absurd c15 (by decide)) (fun c15 => ?_)
    refine r_iconst (v := nI 1) hX d_M_namesA_18 (by decide) ?_
    refine r_goto 23 hX d_M_namesA_19 (by decide) ?_
    exact r_zret () hX hF d_M_namesA_23 rfl trivial rfl rfl
set_option maxRecDepth 100000 in
set_option maxHeartbeats 4000000 in
theorem c_M_namesB (k : Nat) (hk : k ≤ 21) : CT l D (tyL cI cZ cN) none y_M_namesB b_M_namesB 2 (some .boolean) 0 [.ref (am 0), .int (nI k)] (WM am cI cZ tl nn rs ae dp tx mf rw sz nv ph tu sv) (fun _ : Unit => True) (fun _ => some (.int (bI (nmB k)))) (fun _ => (WM am cI cZ tl nn rs ae dp tx mf rw sz nv ph tu sv)) := by
  refine CT.of (by decide) (Nat.le_of_ble_eq_true rfl) ?_
  intro X A hl hX hF
  rcases k22 hk with rfl | rfl | rfl | rfl | rfl | rfl | rfl | rfl | rfl | rfl | rfl | rfl | rfl | rfl | rfl | rfl | rfl | rfl | rfl | rfl | rfl | rfl
  ·
    refine r_iload_n (i := 1) hX d_M_namesB_0 rfl rfl ?_
    refine r_bipush (v := nI 8) hX d_M_namesB_1 (by decide) ?_
    refine r_icmp_le 16 hX d_M_namesB_3 (by decide) (fun c3 => ?_) (fun c3 => absurd c3 (by decide))
    refine r_iconst (v := nI 0) hX d_M_namesB_16 (by decide) ?_
    exact r_zret () hX hF d_M_namesB_17 rfl trivial rfl rfl
  ·
    refine r_iload_n (i := 1) hX d_M_namesB_0 rfl rfl ?_
    refine r_bipush (v := nI 8) hX d_M_namesB_1 (by decide) ?_
    refine r_icmp_le 16 hX d_M_namesB_3 (by decide) (fun c3 => ?_) (fun c3 => absurd c3 (by decide))
    refine r_iconst (v := nI 0) hX d_M_namesB_16 (by decide) ?_
    exact r_zret () hX hF d_M_namesB_17 rfl trivial rfl rfl
  ·
    refine r_iload_n (i := 1) hX d_M_namesB_0 rfl rfl ?_
    refine r_bipush (v := nI 8) hX d_M_namesB_1 (by decide) ?_
    refine r_icmp_le 16 hX d_M_namesB_3 (by decide) (fun c3 => ?_) (fun c3 => absurd c3 (by decide))
    refine r_iconst (v := nI 0) hX d_M_namesB_16 (by decide) ?_
    exact r_zret () hX hF d_M_namesB_17 rfl trivial rfl rfl
  ·
    refine r_iload_n (i := 1) hX d_M_namesB_0 rfl rfl ?_
    refine r_bipush (v := nI 8) hX d_M_namesB_1 (by decide) ?_
    refine r_icmp_le 16 hX d_M_namesB_3 (by decide) (fun c3 => ?_) (fun c3 => absurd c3 (by decide))
    refine r_iconst (v := nI 0) hX d_M_namesB_16 (by decide) ?_
    exact r_zret () hX hF d_M_namesB_17 rfl trivial rfl rfl
  ·
    refine r_iload_n (i := 1) hX d_M_namesB_0 rfl rfl ?_
    refine r_bipush (v := nI 8) hX d_M_namesB_1 (by decide) ?_
    refine r_icmp_le 16 hX d_M_namesB_3 (by decide) (fun c3 => ?_) (fun c3 => absurd c3 (by decide))
    refine r_iconst (v := nI 0) hX d_M_namesB_16 (by decide) ?_
    exact r_zret () hX hF d_M_namesB_17 rfl trivial rfl rfl
  ·
    refine r_iload_n (i := 1) hX d_M_namesB_0 rfl rfl ?_
    refine r_bipush (v := nI 8) hX d_M_namesB_1 (by decide) ?_
    refine r_icmp_le 16 hX d_M_namesB_3 (by decide) (fun c3 => ?_) (fun c3 => absurd c3 (by decide))
    refine r_iconst (v := nI 0) hX d_M_namesB_16 (by decide) ?_
    exact r_zret () hX hF d_M_namesB_17 rfl trivial rfl rfl
  ·
    refine r_iload_n (i := 1) hX d_M_namesB_0 rfl rfl ?_
    refine r_bipush (v := nI 8) hX d_M_namesB_1 (by decide) ?_
    refine r_icmp_le 16 hX d_M_namesB_3 (by decide) (fun c3 => ?_) (fun c3 => absurd c3 (by decide))
    refine r_iconst (v := nI 0) hX d_M_namesB_16 (by decide) ?_
    exact r_zret () hX hF d_M_namesB_17 rfl trivial rfl rfl
  ·
    refine r_iload_n (i := 1) hX d_M_namesB_0 rfl rfl ?_
    refine r_bipush (v := nI 8) hX d_M_namesB_1 (by decide) ?_
    refine r_icmp_le 16 hX d_M_namesB_3 (by decide) (fun c3 => ?_) (fun c3 => absurd c3 (by decide))
    refine r_iconst (v := nI 0) hX d_M_namesB_16 (by decide) ?_
    exact r_zret () hX hF d_M_namesB_17 rfl trivial rfl rfl
  ·
    refine r_iload_n (i := 1) hX d_M_namesB_0 rfl rfl ?_
    refine r_bipush (v := nI 8) hX d_M_namesB_1 (by decide) ?_
    refine r_icmp_le 16 hX d_M_namesB_3 (by decide) (fun c3 => ?_) (fun c3 => absurd c3 (by decide))
    refine r_iconst (v := nI 0) hX d_M_namesB_16 (by decide) ?_
    exact r_zret () hX hF d_M_namesB_17 rfl trivial rfl rfl
  ·
    refine r_iload_n (i := 1) hX d_M_namesB_0 rfl rfl ?_
    refine r_bipush (v := nI 8) hX d_M_namesB_1 (by decide) ?_
    refine r_icmp_le 16 hX d_M_namesB_3 (by decide) (fun c3 => absurd c3 (by decide)) (fun c3 => ?_)
    refine r_iload_n (i := 1) hX d_M_namesB_6 rfl rfl ?_
    refine r_bipush (v := nI 20) hX d_M_namesB_7 (by decide) ?_
    refine r_icmp_ge 16 hX d_M_namesB_9 (by decide) (fun c9 => absurd c9 (by decide)) (fun c9 => ?_)
    refine r_iconst (v := nI 1) hX d_M_namesB_12 (by decide) ?_
    refine r_goto 17 hX d_M_namesB_13 (by decide) ?_
    exact r_zret () hX hF d_M_namesB_17 rfl trivial rfl rfl
  ·
    refine r_iload_n (i := 1) hX d_M_namesB_0 rfl rfl ?_
    refine r_bipush (v := nI 8) hX d_M_namesB_1 (by decide) ?_
    refine r_icmp_le 16 hX d_M_namesB_3 (by decide) (fun c3 => absurd c3 (by decide)) (fun c3 => ?_)
    refine r_iload_n (i := 1) hX d_M_namesB_6 rfl rfl ?_
    refine r_bipush (v := nI 20) hX d_M_namesB_7 (by decide) ?_
    refine r_icmp_ge 16 hX d_M_namesB_9 (by decide) (fun c9 => absurd c9 (by decide)) (fun c9 => ?_)
    refine r_iconst (v := nI 1) hX d_M_namesB_12 (by decide) ?_
    refine r_goto 17 hX d_M_namesB_13 (by decide) ?_
    exact r_zret () hX hF d_M_namesB_17 rfl trivial rfl rfl
  ·
    refine r_iload_n (i := 1) hX d_M_namesB_0 rfl rfl ?_
    refine r_bipush (v := nI 8) hX d_M_namesB_1 (by decide) ?_
    refine r_icmp_le 16 hX d_M_namesB_3 (by decide) (fun c3 => absurd c3 (by decide)) (fun c3 => ?_)
    refine r_iload_n (i := 1) hX d_M_namesB_6 rfl rfl ?_
    refine r_bipush (v := nI 20) hX d_M_namesB_7 (by decide) ?_
    refine r_icmp_ge 16 hX d_M_namesB_9 (by decide) (fun c9 => absurd c9 (by decide)) (fun c9 => ?_)
    refine r_iconst (v := nI 1) hX d_M_namesB_12 (by decide) ?_
    refine r_goto 17 hX d_M_namesB_13 (by decide) ?_
    exact r_zret () hX hF d_M_namesB_17 rfl trivial rfl rfl
  ·
    refine r_iload_n (i := 1) hX d_M_namesB_0 rfl rfl ?_
    refine r_bipush (v := nI 8) hX d_M_namesB_1 (by decide) ?_
    refine r_icmp_le 16 hX d_M_namesB_3 (by decide) (fun c3 => absurd c3 (by decide)) (fun c3 => ?_)
    refine r_iload_n (i := 1) hX d_M_namesB_6 rfl rfl ?_
    refine r_bipush (v := nI 20) hX d_M_namesB_7 (by decide) ?_
    refine r_icmp_ge 16 hX d_M_namesB_9 (by decide) (fun c9 => absurd c9 (by decide)) (fun c9 => ?_)
    refine r_iconst (v := nI 1) hX d_M_namesB_12 (by decide) ?_
    refine r_goto 17 hX d_M_namesB_13 (by decide) ?_
    exact r_zret () hX hF d_M_namesB_17 rfl trivial rfl rfl
  ·
    refine r_iload_n (i := 1) hX d_M_namesB_0 rfl rfl ?_
    refine r_bipush (v := nI 8) hX d_M_namesB_1 (by decide) ?_
    refine r_icmp_le 16 hX d_M_namesB_3 (by decide) (fun c3 => absurd c3 (by decide)) (fun c3 => ?_)
    refine r_iload_n (i := 1) hX d_M_namesB_6 rfl rfl ?_
    refine r_bipush (v := nI 20) hX d_M_namesB_7 (by decide) ?_
    refine r_icmp_ge 16 hX d_M_namesB_9 (by decide) (fun c9 => absurd c9 (by decide)) (fun c9 => ?_)
    refine r_iconst (v := nI 1) hX d_M_namesB_12 (by decide) ?_
    refine r_goto 17 hX d_M_namesB_13 (by decide) ?_
    exact r_zret () hX hF d_M_namesB_17 rfl trivial rfl rfl
  ·
    refine r_iload_n (i := 1) hX d_M_namesB_0 rfl rfl ?_
    refine r_bipush (v := nI 8) hX d_M_namesB_1 (by decide) ?_
    refine r_icmp_le 16 hX d_M_namesB_3 (by decide) (fun c3 => absurd c3 (by decide)) (fun c3 => ?_)
    refine r_iload_n (i := 1) hX d_M_namesB_6 rfl rfl ?_
    refine r_bipush (v := nI 20) hX d_M_namesB_7 (by decide) ?_
    refine r_icmp_ge 16 hX d_M_namesB_9 (by decide) (fun c9 => absurd c9 (by decide)) (fun c9 => ?_)
    refine r_iconst (v := nI 1) hX d_M_namesB_12 (by decide) ?_
    refine r_goto 17 hX d_M_namesB_13 (by decide) ?_
    exact r_zret () hX hF d_M_namesB_17 rfl trivial rfl rfl
  ·
    refine r_iload_n (i := 1) hX d_M_namesB_0 rfl rfl ?_
    refine r_bipush (v := nI 8) hX d_M_namesB_1 (by decide) ?_
    refine r_icmp_le 16 hX d_M_namesB_3 (by decide) (fun c3 => absurd c3 (by decide)) (fun c3 => ?_)
    refine r_iload_n (i := 1) hX d_M_namesB_6 rfl rfl ?_
    refine r_bipush (v := nI 20) hX d_M_namesB_7 (by decide) ?_
    refine r_icmp_ge 16 hX d_M_namesB_9 (by decide) (fun c9 => absurd c9 (by decide)) (fun c9 => ?_)
    refine r_iconst (v := nI 1) hX d_M_namesB_12 (by decide) ?_
    refine r_goto 17 hX d_M_namesB_13 (by decide) ?_
    exact r_zret () hX hF d_M_namesB_17 rfl trivial rfl rfl
  ·
    refine r_iload_n (i := 1) hX d_M_namesB_0 rfl rfl ?_
    refine r_bipush (v := nI 8) hX d_M_namesB_1 (by decide) ?_
    refine r_icmp_le 16 hX d_M_namesB_3 (by decide) (fun c3 => absurd c3 (by decide)) (fun c3 => ?_)
    refine r_iload_n (i := 1) hX d_M_namesB_6 rfl rfl ?_
    refine r_bipush (v := nI 20) hX d_M_namesB_7 (by decide) ?_
    refine r_icmp_ge 16 hX d_M_namesB_9 (by decide) (fun c9 => absurd c9 (by decide)) (fun c9 => ?_)
    refine r_iconst (v := nI 1) hX d_M_namesB_12 (by decide) ?_
    refine r_goto 17 hX d_M_namesB_13 (by decide) ?_
    exact r_zret () hX hF d_M_namesB_17 rfl trivial rfl rfl
  ·
    refine r_iload_n (i := 1) hX d_M_namesB_0 rfl rfl ?_
    refine r_bipush (v := nI 8) hX d_M_namesB_1 (by decide) ?_
    refine r_icmp_le 16 hX d_M_namesB_3 (by decide) (fun c3 => absurd c3 (by decide)) (fun c3 => ?_)
    refine r_iload_n (i := 1) hX d_M_namesB_6 rfl rfl ?_
    refine r_bipush (v := nI 20) hX d_M_namesB_7 (by decide) ?_
    refine r_icmp_ge 16 hX d_M_namesB_9 (by decide) (fun c9 => absurd c9 (by decide)) (fun c9 => ?_)
    refine r_iconst (v := nI 1) hX d_M_namesB_12 (by decide) ?_
    refine r_goto 17 hX d_M_namesB_13 (by decide) ?_
    exact r_zret () hX hF d_M_namesB_17 rfl trivial rfl rfl
  ·
    refine r_iload_n (i := 1) hX d_M_namesB_0 rfl rfl ?_
    refine r_bipush (v := nI 8) hX d_M_namesB_1 (by decide) ?_
    refine r_icmp_le 16 hX d_M_namesB_3 (by decide) (fun c3 => absurd c3 (by decide)) (fun c3 => ?_)
    refine r_iload_n (i := 1) hX d_M_namesB_6 rfl rfl ?_
    refine r_bipush (v := nI 20) hX d_M_namesB_7 (by decide) ?_
    refine r_icmp_ge 16 hX d_M_namesB_9 (by decide) (fun c9 => absurd c9 (by decide)) (fun c9 => ?_)
    refine r_iconst (v := nI 1) hX d_M_namesB_12 (by decide) ?_
    refine r_goto 17 hX d_M_namesB_13 (by decide) ?_
    exact r_zret () hX hF d_M_namesB_17 rfl trivial rfl rfl
  ·
    refine r_iload_n (i := 1) hX d_M_namesB_0 rfl rfl ?_
    refine r_bipush (v := nI 8) hX d_M_namesB_1 (by decide) ?_
    refine r_icmp_le 16 hX d_M_namesB_3 (by decide) (fun c3 => absurd c3 (by decide)) (fun c3 => ?_)
    refine r_iload_n (i := 1) hX d_M_namesB_6 rfl rfl ?_
    refine r_bipush (v := nI 20) hX d_M_namesB_7 (by decide) ?_
    refine r_icmp_ge 16 hX d_M_namesB_9 (by decide) (fun c9 => absurd c9 (by decide)) (fun c9 => ?_)
    refine r_iconst (v := nI 1) hX d_M_namesB_12 (by decide) ?_
    refine r_goto 17 hX d_M_namesB_13 (by decide) ?_
    exact r_zret () hX hF d_M_namesB_17 rfl trivial rfl rfl
  ·
    refine r_iload_n (i := 1) hX d_M_namesB_0 rfl rfl ?_
    refine r_bipush (v := nI 8) hX d_M_namesB_1 (by decide) ?_
    refine r_icmp_le 16 hX d_M_namesB_3 (by decide) (fun c3 => absurd c3 (by decide)) (fun c3 => ?_)
    refine r_iload_n (i := 1) hX d_M_namesB_6 rfl rfl ?_
    refine r_bipush (v := nI 20) hX d_M_namesB_7 (by decide) ?_
    refine r_icmp_ge 16 hX d_M_namesB_9 (by decide) (fun c9 => ?_) (fun c9 => absurd c9 (by decide))
    refine r_iconst (v := nI 0) hX d_M_namesB_16 (by decide) ?_
    exact r_zret () hX hF d_M_namesB_17 rfl trivial rfl rfl
  ·
    refine r_iload_n (i := 1) hX d_M_namesB_0 rfl rfl ?_
    refine r_bipush (v := nI 8) hX d_M_namesB_1 (by decide) ?_
    refine r_icmp_le 16 hX d_M_namesB_3 (by decide) (fun c3 => absurd c3 (by decide)) (fun c3 => ?_)
    refine r_iload_n (i := 1) hX d_M_namesB_6 rfl rfl ?_
    refine r_bipush (v := nI 20) hX d_M_namesB_7 (by decide) ?_
    refine r_icmp_ge 16 hX d_M_namesB_9 (by decide) (fun c9 => ?_) (fun c9 => absurd c9 (by decide))
    refine r_iconst (v := nI 0) hX d_M_namesB_16 (by decide) ?_
    exact r_zret () hX hF d_M_namesB_17 rfl trivial rfl rfl
set_option maxRecDepth 100000 in
set_option maxHeartbeats 4000000 in
theorem c_M_boundOf (k : Nat) (a b c : Int32) (hk : k ≤ 21) (hab : okOps k a b c) : CT l D (tyL cI cZ cN) none y_M_boundOf b_M_boundOf 5 (some .int) 0 [.ref (am 0), .int (nI k), .int a, .int b, .int c] (WM am cI cZ tl nn rs ae dp tx mf rw sz nv ph tu sv) (fun _ : Unit => True) (fun _ => some (.int (bndF mf k a b c))) (fun _ => (WM am cI cZ tl nn rs ae dp tx mf rw sz nv ph tu sv)) := by
  refine CT.of (by decide) (Nat.le_of_ble_eq_true rfl) ?_
  intro X A hl hX hF
  rcases k22 hk with rfl | rfl | rfl | rfl | rfl | rfl | rfl | rfl | rfl | rfl | rfl | rfl | rfl | rfl | rfl | rfl | rfl | rfl | rfl | rfl | rfl | rfl
  · skip
    refine r_iload_n (i := 1) hX d_M_boundOf_0 rfl rfl ?_
    refine r_bipush (v := nI 7) hX d_M_boundOf_1 (by decide) ?_
    refine r_icmp_lt 12 hX d_M_boundOf_3 (by decide) (fun c3 => ?_) (fun c3 => absurd c3 (by decide))
    refine r_iconst (v := nI 1) hX d_M_boundOf_12 (by decide) ?_
    exact r_iret () hX hF d_M_boundOf_13 trivial (by simp [bndF]) rfl
  · skip
    refine r_iload_n (i := 1) hX d_M_boundOf_0 rfl rfl ?_
    refine r_bipush (v := nI 7) hX d_M_boundOf_1 (by decide) ?_
    refine r_icmp_lt 12 hX d_M_boundOf_3 (by decide) (fun c3 => ?_) (fun c3 => absurd c3 (by decide))
    refine r_iconst (v := nI 1) hX d_M_boundOf_12 (by decide) ?_
    exact r_iret () hX hF d_M_boundOf_13 trivial (by simp [bndF]) rfl
  · skip
    refine r_iload_n (i := 1) hX d_M_boundOf_0 rfl rfl ?_
    refine r_bipush (v := nI 7) hX d_M_boundOf_1 (by decide) ?_
    refine r_icmp_lt 12 hX d_M_boundOf_3 (by decide) (fun c3 => ?_) (fun c3 => absurd c3 (by decide))
    refine r_iconst (v := nI 1) hX d_M_boundOf_12 (by decide) ?_
    exact r_iret () hX hF d_M_boundOf_13 trivial (by simp [bndF]) rfl
  · skip
    refine r_iload_n (i := 1) hX d_M_boundOf_0 rfl rfl ?_
    refine r_bipush (v := nI 7) hX d_M_boundOf_1 (by decide) ?_
    refine r_icmp_lt 12 hX d_M_boundOf_3 (by decide) (fun c3 => ?_) (fun c3 => absurd c3 (by decide))
    refine r_iconst (v := nI 1) hX d_M_boundOf_12 (by decide) ?_
    exact r_iret () hX hF d_M_boundOf_13 trivial (by simp [bndF]) rfl
  · skip
    refine r_iload_n (i := 1) hX d_M_boundOf_0 rfl rfl ?_
    refine r_bipush (v := nI 7) hX d_M_boundOf_1 (by decide) ?_
    refine r_icmp_lt 12 hX d_M_boundOf_3 (by decide) (fun c3 => ?_) (fun c3 => absurd c3 (by decide))
    refine r_iconst (v := nI 1) hX d_M_boundOf_12 (by decide) ?_
    exact r_iret () hX hF d_M_boundOf_13 trivial (by simp [bndF]) rfl
  · skip
    refine r_iload_n (i := 1) hX d_M_boundOf_0 rfl rfl ?_
    refine r_bipush (v := nI 7) hX d_M_boundOf_1 (by decide) ?_
    refine r_icmp_lt 12 hX d_M_boundOf_3 (by decide) (fun c3 => ?_) (fun c3 => absurd c3 (by decide))
    refine r_iconst (v := nI 1) hX d_M_boundOf_12 (by decide) ?_
    exact r_iret () hX hF d_M_boundOf_13 trivial (by simp [bndF]) rfl
  · skip
    refine r_iload_n (i := 1) hX d_M_boundOf_0 rfl rfl ?_
    refine r_bipush (v := nI 7) hX d_M_boundOf_1 (by decide) ?_
    refine r_icmp_lt 12 hX d_M_boundOf_3 (by decide) (fun c3 => ?_) (fun c3 => absurd c3 (by decide))
    refine r_iconst (v := nI 1) hX d_M_boundOf_12 (by decide) ?_
    exact r_iret () hX hF d_M_boundOf_13 trivial (by simp [bndF]) rfl
  · skip
    refine r_iload_n (i := 1) hX d_M_boundOf_0 rfl rfl ?_
    refine r_bipush (v := nI 7) hX d_M_boundOf_1 (by decide) ?_
    refine r_icmp_lt 12 hX d_M_boundOf_3 (by decide) (fun c3 => absurd c3 (by decide)) (fun c3 => ?_)
    refine r_iload_n (i := 1) hX d_M_boundOf_6 rfl rfl ?_
    refine r_bipush (v := nI 19) hX d_M_boundOf_7 (by decide) ?_
    refine r_icmp_le 14 hX d_M_boundOf_9 (by decide) (fun c9 => ?_) (fun c9 => absurd c9 (by decide))
    refine r_iload_n (i := 1) hX d_M_boundOf_14 rfl rfl ?_
    refine r_bipush (v := nI 7) hX d_M_boundOf_15 (by decide) ?_
    refine r_icmp_ne 23 hX d_M_boundOf_17 (by decide) (fun c17 => absurd c17 (by decide)) (fun c17 => ?_)
    refine r_bipush (v := nI 8) hX d_M_boundOf_20 (by decide) ?_
    exact r_iret () hX hF d_M_boundOf_22 trivial (by simp [bndF]) rfl
  · obtain ⟨ja, hja, rfl⟩ := hab.1 (by decide)
    refine r_iload_n (i := 1) hX d_M_boundOf_0 rfl rfl ?_
    refine r_bipush (v := nI 7) hX d_M_boundOf_1 (by decide) ?_
    refine r_icmp_lt 12 hX d_M_boundOf_3 (by decide) (fun c3 => absurd c3 (by decide)) (fun c3 => ?_)
    refine r_iload_n (i := 1) hX d_M_boundOf_6 rfl rfl ?_
    refine r_bipush (v := nI 19) hX d_M_boundOf_7 (by decide) ?_
    refine r_icmp_le 14 hX d_M_boundOf_9 (by decide) (fun c9 => ?_) (fun c9 => absurd c9 (by decide))
    refine r_iload_n (i := 1) hX d_M_boundOf_14 rfl rfl ?_
    refine r_bipush (v := nI 7) hX d_M_boundOf_15 (by decide) ?_
    refine r_icmp_ne 23 hX d_M_boundOf_17 (by decide) (fun c17 => ?_) (fun c17 => absurd c17 (by decide))
    refine r_iload_n (i := 1) hX d_M_boundOf_23 rfl rfl ?_
    refine r_bipush (v := nI 8) hX d_M_boundOf_24 (by decide) ?_
    refine r_icmp_ne 36 hX d_M_boundOf_26 (by decide) (fun c26 => absurd c26 (by decide)) (fun c26 => ?_)
    refine r_aload_n (i := 0) hX d_M_boundOf_29 rfl rfl ?_
    refine r_get 0 9 hX d_M_boundOf_30 rfl rfl fi_M (by decide) fl_M_38 rfl rfl ?_
    refine r_iload_n (i := 2) hX d_M_boundOf_33 rfl rfl ?_
    refine r_iald 6 0 (ja) hX d_M_boundOf_34 rfl rfl rfl (by omega) (by decide) ?_
    exact r_iret () hX hF d_M_boundOf_35 trivial (by simp [bndF, opN_nI (show ja < 2 ^ 31 by omega)]) rfl
  · obtain ⟨ja, hja, rfl⟩ := hab.1 (by decide)
    obtain ⟨jb, hjb, rfl⟩ := hab.2.1 (by decide)
    refine r_iload_n (i := 1) hX d_M_boundOf_0 rfl rfl ?_
    refine r_bipush (v := nI 7) hX d_M_boundOf_1 (by decide) ?_
    refine r_icmp_lt 12 hX d_M_boundOf_3 (by decide) (fun c3 => absurd c3 (by decide)) (fun c3 => ?_)
    refine r_iload_n (i := 1) hX d_M_boundOf_6 rfl rfl ?_
    refine r_bipush (v := nI 19) hX d_M_boundOf_7 (by decide) ?_
    refine r_icmp_le 14 hX d_M_boundOf_9 (by decide) (fun c9 => ?_) (fun c9 => absurd c9 (by decide))
    refine r_iload_n (i := 1) hX d_M_boundOf_14 rfl rfl ?_
    refine r_bipush (v := nI 7) hX d_M_boundOf_15 (by decide) ?_
    refine r_icmp_ne 23 hX d_M_boundOf_17 (by decide) (fun c17 => ?_) (fun c17 => absurd c17 (by decide))
    refine r_iload_n (i := 1) hX d_M_boundOf_23 rfl rfl ?_
    refine r_bipush (v := nI 8) hX d_M_boundOf_24 (by decide) ?_
    refine r_icmp_ne 36 hX d_M_boundOf_26 (by decide) (fun c26 => ?_) (fun c26 => absurd c26 (by decide))
    refine r_iload_n (i := 1) hX d_M_boundOf_36 rfl rfl ?_
    refine r_bipush (v := nI 17) hX d_M_boundOf_37 (by decide) ?_
    refine r_icmp_ne 49 hX d_M_boundOf_39 (by decide) (fun c39 => ?_) (fun c39 => absurd c39 (by decide))
    refine r_iload_n (i := 1) hX d_M_boundOf_49 rfl rfl ?_
    refine r_bipush (v := nI 18) hX d_M_boundOf_50 (by decide) ?_
    refine r_icmp_ne 76 hX d_M_boundOf_52 (by decide) (fun c52 => ?_) (fun c52 => absurd c52 (by decide))
    refine r_iload_n (i := 1) hX d_M_boundOf_76 rfl rfl ?_
    refine r_bipush (v := nI 19) hX d_M_boundOf_77 (by decide) ?_
    refine r_icmp_ne 115 hX d_M_boundOf_79 (by decide) (fun c79 => ?_) (fun c79 => absurd c79 (by decide))
    refine r_iload_n (i := 1) hX d_M_boundOf_115 rfl rfl ?_
    refine r_bipush (v := nI 15) hX d_M_boundOf_116 (by decide) ?_
    refine r_icmp_ne 135 hX d_M_boundOf_118 (by decide) (fun c118 => ?_) (fun c118 => absurd c118 (by decide))
    refine r_aload_n (i := 0) hX d_M_boundOf_135 rfl rfl ?_
    refine r_get 0 9 hX d_M_boundOf_136 rfl rfl fi_M (by decide) fl_M_38 rfl rfl ?_
    refine r_iload_n (i := 2) hX d_M_boundOf_139 rfl rfl ?_
    refine r_iald 6 0 (ja) hX d_M_boundOf_140 rfl rfl rfl (by omega) (by decide) ?_
    refine r_aload_n (i := 0) hX d_M_boundOf_141 rfl rfl ?_
    refine r_get 0 9 hX d_M_boundOf_142 rfl rfl fi_M (by decide) fl_M_38 rfl rfl ?_
    refine r_iload_n (i := 3) hX d_M_boundOf_145 rfl rfl ?_
    refine r_iald 6 0 (jb) hX d_M_boundOf_146 rfl rfl rfl (by omega) (by decide) ?_
    refine r_imul hX d_M_boundOf_147 ?_
    skip
    refine r_iload_n (i := 1) hX d_M_boundOf_148 rfl rfl ?_
    refine r_bipush (v := nI 14) hX d_M_boundOf_149 (by decide) ?_
    refine r_icmp_ne 159 hX d_M_boundOf_151 (by decide) (fun c151 => ?_) (fun c151 => absurd c151 (by decide))
    refine r_iconst (v := nI 1) hX d_M_boundOf_159 (by decide) ?_
    refine r_imul hX d_M_boundOf_160 ?_
    exact r_iret () hX hF d_M_boundOf_161 trivial (by simp [bndF, opN_nI (show ja < 2 ^ 31 by omega), opN_nI (show jb < 2 ^ 31 by omega)]; rw [show nI 1 = 1 from rfl, Int32.mul_one]) rfl
  · obtain ⟨ja, hja, rfl⟩ := hab.1 (by decide)
    obtain ⟨jb, hjb, rfl⟩ := hab.2.1 (by decide)
    refine r_iload_n (i := 1) hX d_M_boundOf_0 rfl rfl ?_
    refine r_bipush (v := nI 7) hX d_M_boundOf_1 (by decide) ?_
    refine r_icmp_lt 12 hX d_M_boundOf_3 (by decide) (fun c3 => absurd c3 (by decide)) (fun c3 => ?_)
    refine r_iload_n (i := 1) hX d_M_boundOf_6 rfl rfl ?_
    refine r_bipush (v := nI 19) hX d_M_boundOf_7 (by decide) ?_
    refine r_icmp_le 14 hX d_M_boundOf_9 (by decide) (fun c9 => ?_) (fun c9 => absurd c9 (by decide))
    refine r_iload_n (i := 1) hX d_M_boundOf_14 rfl rfl ?_
    refine r_bipush (v := nI 7) hX d_M_boundOf_15 (by decide) ?_
    refine r_icmp_ne 23 hX d_M_boundOf_17 (by decide) (fun c17 => ?_) (fun c17 => absurd c17 (by decide))
    refine r_iload_n (i := 1) hX d_M_boundOf_23 rfl rfl ?_
    refine r_bipush (v := nI 8) hX d_M_boundOf_24 (by decide) ?_
    refine r_icmp_ne 36 hX d_M_boundOf_26 (by decide) (fun c26 => ?_) (fun c26 => absurd c26 (by decide))
    refine r_iload_n (i := 1) hX d_M_boundOf_36 rfl rfl ?_
    refine r_bipush (v := nI 17) hX d_M_boundOf_37 (by decide) ?_
    refine r_icmp_ne 49 hX d_M_boundOf_39 (by decide) (fun c39 => ?_) (fun c39 => absurd c39 (by decide))
    refine r_iload_n (i := 1) hX d_M_boundOf_49 rfl rfl ?_
    refine r_bipush (v := nI 18) hX d_M_boundOf_50 (by decide) ?_
    refine r_icmp_ne 76 hX d_M_boundOf_52 (by decide) (fun c52 => ?_) (fun c52 => absurd c52 (by decide))
    refine r_iload_n (i := 1) hX d_M_boundOf_76 rfl rfl ?_
    refine r_bipush (v := nI 19) hX d_M_boundOf_77 (by decide) ?_
    refine r_icmp_ne 115 hX d_M_boundOf_79 (by decide) (fun c79 => ?_) (fun c79 => absurd c79 (by decide))
    refine r_iload_n (i := 1) hX d_M_boundOf_115 rfl rfl ?_
    refine r_bipush (v := nI 15) hX d_M_boundOf_116 (by decide) ?_
    refine r_icmp_ne 135 hX d_M_boundOf_118 (by decide) (fun c118 => ?_) (fun c118 => absurd c118 (by decide))
    refine r_aload_n (i := 0) hX d_M_boundOf_135 rfl rfl ?_
    refine r_get 0 9 hX d_M_boundOf_136 rfl rfl fi_M (by decide) fl_M_38 rfl rfl ?_
    refine r_iload_n (i := 2) hX d_M_boundOf_139 rfl rfl ?_
    refine r_iald 6 0 (ja) hX d_M_boundOf_140 rfl rfl rfl (by omega) (by decide) ?_
    refine r_aload_n (i := 0) hX d_M_boundOf_141 rfl rfl ?_
    refine r_get 0 9 hX d_M_boundOf_142 rfl rfl fi_M (by decide) fl_M_38 rfl rfl ?_
    refine r_iload_n (i := 3) hX d_M_boundOf_145 rfl rfl ?_
    refine r_iald 6 0 (jb) hX d_M_boundOf_146 rfl rfl rfl (by omega) (by decide) ?_
    refine r_imul hX d_M_boundOf_147 ?_
    skip
    refine r_iload_n (i := 1) hX d_M_boundOf_148 rfl rfl ?_
    refine r_bipush (v := nI 14) hX d_M_boundOf_149 (by decide) ?_
    refine r_icmp_ne 159 hX d_M_boundOf_151 (by decide) (fun c151 => ?_) (fun c151 => absurd c151 (by decide))
    refine r_iconst (v := nI 1) hX d_M_boundOf_159 (by decide) ?_
    refine r_imul hX d_M_boundOf_160 ?_
    exact r_iret () hX hF d_M_boundOf_161 trivial (by simp [bndF, opN_nI (show ja < 2 ^ 31 by omega), opN_nI (show jb < 2 ^ 31 by omega)]; rw [show nI 1 = 1 from rfl, Int32.mul_one]) rfl
  · obtain ⟨ja, hja, rfl⟩ := hab.1 (by decide)
    obtain ⟨jb, hjb, rfl⟩ := hab.2.1 (by decide)
    refine r_iload_n (i := 1) hX d_M_boundOf_0 rfl rfl ?_
    refine r_bipush (v := nI 7) hX d_M_boundOf_1 (by decide) ?_
    refine r_icmp_lt 12 hX d_M_boundOf_3 (by decide) (fun c3 => absurd c3 (by decide)) (fun c3 => ?_)
    refine r_iload_n (i := 1) hX d_M_boundOf_6 rfl rfl ?_
    refine r_bipush (v := nI 19) hX d_M_boundOf_7 (by decide) ?_
    refine r_icmp_le 14 hX d_M_boundOf_9 (by decide) (fun c9 => ?_) (fun c9 => absurd c9 (by decide))
    refine r_iload_n (i := 1) hX d_M_boundOf_14 rfl rfl ?_
    refine r_bipush (v := nI 7) hX d_M_boundOf_15 (by decide) ?_
    refine r_icmp_ne 23 hX d_M_boundOf_17 (by decide) (fun c17 => ?_) (fun c17 => absurd c17 (by decide))
    refine r_iload_n (i := 1) hX d_M_boundOf_23 rfl rfl ?_
    refine r_bipush (v := nI 8) hX d_M_boundOf_24 (by decide) ?_
    refine r_icmp_ne 36 hX d_M_boundOf_26 (by decide) (fun c26 => ?_) (fun c26 => absurd c26 (by decide))
    refine r_iload_n (i := 1) hX d_M_boundOf_36 rfl rfl ?_
    refine r_bipush (v := nI 17) hX d_M_boundOf_37 (by decide) ?_
    refine r_icmp_ne 49 hX d_M_boundOf_39 (by decide) (fun c39 => ?_) (fun c39 => absurd c39 (by decide))
    refine r_iload_n (i := 1) hX d_M_boundOf_49 rfl rfl ?_
    refine r_bipush (v := nI 18) hX d_M_boundOf_50 (by decide) ?_
    refine r_icmp_ne 76 hX d_M_boundOf_52 (by decide) (fun c52 => ?_) (fun c52 => absurd c52 (by decide))
    refine r_iload_n (i := 1) hX d_M_boundOf_76 rfl rfl ?_
    refine r_bipush (v := nI 19) hX d_M_boundOf_77 (by decide) ?_
    refine r_icmp_ne 115 hX d_M_boundOf_79 (by decide) (fun c79 => ?_) (fun c79 => absurd c79 (by decide))
    refine r_iload_n (i := 1) hX d_M_boundOf_115 rfl rfl ?_
    refine r_bipush (v := nI 15) hX d_M_boundOf_116 (by decide) ?_
    refine r_icmp_ne 135 hX d_M_boundOf_118 (by decide) (fun c118 => ?_) (fun c118 => absurd c118 (by decide))
    refine r_aload_n (i := 0) hX d_M_boundOf_135 rfl rfl ?_
    refine r_get 0 9 hX d_M_boundOf_136 rfl rfl fi_M (by decide) fl_M_38 rfl rfl ?_
    refine r_iload_n (i := 2) hX d_M_boundOf_139 rfl rfl ?_
    refine r_iald 6 0 (ja) hX d_M_boundOf_140 rfl rfl rfl (by omega) (by decide) ?_
    refine r_aload_n (i := 0) hX d_M_boundOf_141 rfl rfl ?_
    refine r_get 0 9 hX d_M_boundOf_142 rfl rfl fi_M (by decide) fl_M_38 rfl rfl ?_
    refine r_iload_n (i := 3) hX d_M_boundOf_145 rfl rfl ?_
    refine r_iald 6 0 (jb) hX d_M_boundOf_146 rfl rfl rfl (by omega) (by decide) ?_
    refine r_imul hX d_M_boundOf_147 ?_
    skip
    refine r_iload_n (i := 1) hX d_M_boundOf_148 rfl rfl ?_
    refine r_bipush (v := nI 14) hX d_M_boundOf_149 (by decide) ?_
    refine r_icmp_ne 159 hX d_M_boundOf_151 (by decide) (fun c151 => ?_) (fun c151 => absurd c151 (by decide))
    refine r_iconst (v := nI 1) hX d_M_boundOf_159 (by decide) ?_
    refine r_imul hX d_M_boundOf_160 ?_
    exact r_iret () hX hF d_M_boundOf_161 trivial (by simp [bndF, opN_nI (show ja < 2 ^ 31 by omega), opN_nI (show jb < 2 ^ 31 by omega)]; rw [show nI 1 = 1 from rfl, Int32.mul_one]) rfl
  · obtain ⟨ja, hja, rfl⟩ := hab.1 (by decide)
    obtain ⟨jb, hjb, rfl⟩ := hab.2.1 (by decide)
    refine r_iload_n (i := 1) hX d_M_boundOf_0 rfl rfl ?_
    refine r_bipush (v := nI 7) hX d_M_boundOf_1 (by decide) ?_
    refine r_icmp_lt 12 hX d_M_boundOf_3 (by decide) (fun c3 => absurd c3 (by decide)) (fun c3 => ?_)
    refine r_iload_n (i := 1) hX d_M_boundOf_6 rfl rfl ?_
    refine r_bipush (v := nI 19) hX d_M_boundOf_7 (by decide) ?_
    refine r_icmp_le 14 hX d_M_boundOf_9 (by decide) (fun c9 => ?_) (fun c9 => absurd c9 (by decide))
    refine r_iload_n (i := 1) hX d_M_boundOf_14 rfl rfl ?_
    refine r_bipush (v := nI 7) hX d_M_boundOf_15 (by decide) ?_
    refine r_icmp_ne 23 hX d_M_boundOf_17 (by decide) (fun c17 => ?_) (fun c17 => absurd c17 (by decide))
    refine r_iload_n (i := 1) hX d_M_boundOf_23 rfl rfl ?_
    refine r_bipush (v := nI 8) hX d_M_boundOf_24 (by decide) ?_
    refine r_icmp_ne 36 hX d_M_boundOf_26 (by decide) (fun c26 => ?_) (fun c26 => absurd c26 (by decide))
    refine r_iload_n (i := 1) hX d_M_boundOf_36 rfl rfl ?_
    refine r_bipush (v := nI 17) hX d_M_boundOf_37 (by decide) ?_
    refine r_icmp_ne 49 hX d_M_boundOf_39 (by decide) (fun c39 => ?_) (fun c39 => absurd c39 (by decide))
    refine r_iload_n (i := 1) hX d_M_boundOf_49 rfl rfl ?_
    refine r_bipush (v := nI 18) hX d_M_boundOf_50 (by decide) ?_
    refine r_icmp_ne 76 hX d_M_boundOf_52 (by decide) (fun c52 => ?_) (fun c52 => absurd c52 (by decide))
    refine r_iload_n (i := 1) hX d_M_boundOf_76 rfl rfl ?_
    refine r_bipush (v := nI 19) hX d_M_boundOf_77 (by decide) ?_
    refine r_icmp_ne 115 hX d_M_boundOf_79 (by decide) (fun c79 => ?_) (fun c79 => absurd c79 (by decide))
    refine r_iload_n (i := 1) hX d_M_boundOf_115 rfl rfl ?_
    refine r_bipush (v := nI 15) hX d_M_boundOf_116 (by decide) ?_
    refine r_icmp_ne 135 hX d_M_boundOf_118 (by decide) (fun c118 => ?_) (fun c118 => absurd c118 (by decide))
    refine r_aload_n (i := 0) hX d_M_boundOf_135 rfl rfl ?_
    refine r_get 0 9 hX d_M_boundOf_136 rfl rfl fi_M (by decide) fl_M_38 rfl rfl ?_
    refine r_iload_n (i := 2) hX d_M_boundOf_139 rfl rfl ?_
    refine r_iald 6 0 (ja) hX d_M_boundOf_140 rfl rfl rfl (by omega) (by decide) ?_
    refine r_aload_n (i := 0) hX d_M_boundOf_141 rfl rfl ?_
    refine r_get 0 9 hX d_M_boundOf_142 rfl rfl fi_M (by decide) fl_M_38 rfl rfl ?_
    refine r_iload_n (i := 3) hX d_M_boundOf_145 rfl rfl ?_
    refine r_iald 6 0 (jb) hX d_M_boundOf_146 rfl rfl rfl (by omega) (by decide) ?_
    refine r_imul hX d_M_boundOf_147 ?_
    skip
    refine r_iload_n (i := 1) hX d_M_boundOf_148 rfl rfl ?_
    refine r_bipush (v := nI 14) hX d_M_boundOf_149 (by decide) ?_
    refine r_icmp_ne 159 hX d_M_boundOf_151 (by decide) (fun c151 => ?_) (fun c151 => absurd c151 (by decide))
    refine r_iconst (v := nI 1) hX d_M_boundOf_159 (by decide) ?_
    refine r_imul hX d_M_boundOf_160 ?_
    exact r_iret () hX hF d_M_boundOf_161 trivial (by simp [bndF, opN_nI (show ja < 2 ^ 31 by omega), opN_nI (show jb < 2 ^ 31 by omega)]; rw [show nI 1 = 1 from rfl, Int32.mul_one]) rfl
  · obtain ⟨ja, hja, rfl⟩ := hab.1 (by decide)
    obtain ⟨jb, hjb, rfl⟩ := hab.2.1 (by decide)
    refine r_iload_n (i := 1) hX d_M_boundOf_0 rfl rfl ?_
    refine r_bipush (v := nI 7) hX d_M_boundOf_1 (by decide) ?_
    refine r_icmp_lt 12 hX d_M_boundOf_3 (by decide) (fun c3 => absurd c3 (by decide)) (fun c3 => ?_)
    refine r_iload_n (i := 1) hX d_M_boundOf_6 rfl rfl ?_
    refine r_bipush (v := nI 19) hX d_M_boundOf_7 (by decide) ?_
    refine r_icmp_le 14 hX d_M_boundOf_9 (by decide) (fun c9 => ?_) (fun c9 => absurd c9 (by decide))
    refine r_iload_n (i := 1) hX d_M_boundOf_14 rfl rfl ?_
    refine r_bipush (v := nI 7) hX d_M_boundOf_15 (by decide) ?_
    refine r_icmp_ne 23 hX d_M_boundOf_17 (by decide) (fun c17 => ?_) (fun c17 => absurd c17 (by decide))
    refine r_iload_n (i := 1) hX d_M_boundOf_23 rfl rfl ?_
    refine r_bipush (v := nI 8) hX d_M_boundOf_24 (by decide) ?_
    refine r_icmp_ne 36 hX d_M_boundOf_26 (by decide) (fun c26 => ?_) (fun c26 => absurd c26 (by decide))
    refine r_iload_n (i := 1) hX d_M_boundOf_36 rfl rfl ?_
    refine r_bipush (v := nI 17) hX d_M_boundOf_37 (by decide) ?_
    refine r_icmp_ne 49 hX d_M_boundOf_39 (by decide) (fun c39 => ?_) (fun c39 => absurd c39 (by decide))
    refine r_iload_n (i := 1) hX d_M_boundOf_49 rfl rfl ?_
    refine r_bipush (v := nI 18) hX d_M_boundOf_50 (by decide) ?_
    refine r_icmp_ne 76 hX d_M_boundOf_52 (by decide) (fun c52 => ?_) (fun c52 => absurd c52 (by decide))
    refine r_iload_n (i := 1) hX d_M_boundOf_76 rfl rfl ?_
    refine r_bipush (v := nI 19) hX d_M_boundOf_77 (by decide) ?_
    refine r_icmp_ne 115 hX d_M_boundOf_79 (by decide) (fun c79 => ?_) (fun c79 => absurd c79 (by decide))
    refine r_iload_n (i := 1) hX d_M_boundOf_115 rfl rfl ?_
    refine r_bipush (v := nI 15) hX d_M_boundOf_116 (by decide) ?_
    refine r_icmp_ne 135 hX d_M_boundOf_118 (by decide) (fun c118 => ?_) (fun c118 => absurd c118 (by decide))
    refine r_aload_n (i := 0) hX d_M_boundOf_135 rfl rfl ?_
    refine r_get 0 9 hX d_M_boundOf_136 rfl rfl fi_M (by decide) fl_M_38 rfl rfl ?_
    refine r_iload_n (i := 2) hX d_M_boundOf_139 rfl rfl ?_
    refine r_iald 6 0 (ja) hX d_M_boundOf_140 rfl rfl rfl (by omega) (by decide) ?_
    refine r_aload_n (i := 0) hX d_M_boundOf_141 rfl rfl ?_
    refine r_get 0 9 hX d_M_boundOf_142 rfl rfl fi_M (by decide) fl_M_38 rfl rfl ?_
    refine r_iload_n (i := 3) hX d_M_boundOf_145 rfl rfl ?_
    refine r_iald 6 0 (jb) hX d_M_boundOf_146 rfl rfl rfl (by omega) (by decide) ?_
    refine r_imul hX d_M_boundOf_147 ?_
    skip
    refine r_iload_n (i := 1) hX d_M_boundOf_148 rfl rfl ?_
    refine r_bipush (v := nI 14) hX d_M_boundOf_149 (by decide) ?_
    refine r_icmp_ne 159 hX d_M_boundOf_151 (by decide) (fun c151 => ?_) (fun c151 => absurd c151 (by decide))
    refine r_iconst (v := nI 1) hX d_M_boundOf_159 (by decide) ?_
    refine r_imul hX d_M_boundOf_160 ?_
    exact r_iret () hX hF d_M_boundOf_161 trivial (by simp [bndF, opN_nI (show ja < 2 ^ 31 by omega), opN_nI (show jb < 2 ^ 31 by omega)]; rw [show nI 1 = 1 from rfl, Int32.mul_one]) rfl
  · obtain ⟨ja, hja, rfl⟩ := hab.1 (by decide)
    obtain ⟨jb, hjb, rfl⟩ := hab.2.1 (by decide)
    refine r_iload_n (i := 1) hX d_M_boundOf_0 rfl rfl ?_
    refine r_bipush (v := nI 7) hX d_M_boundOf_1 (by decide) ?_
    refine r_icmp_lt 12 hX d_M_boundOf_3 (by decide) (fun c3 => absurd c3 (by decide)) (fun c3 => ?_)
    refine r_iload_n (i := 1) hX d_M_boundOf_6 rfl rfl ?_
    refine r_bipush (v := nI 19) hX d_M_boundOf_7 (by decide) ?_
    refine r_icmp_le 14 hX d_M_boundOf_9 (by decide) (fun c9 => ?_) (fun c9 => absurd c9 (by decide))
    refine r_iload_n (i := 1) hX d_M_boundOf_14 rfl rfl ?_
    refine r_bipush (v := nI 7) hX d_M_boundOf_15 (by decide) ?_
    refine r_icmp_ne 23 hX d_M_boundOf_17 (by decide) (fun c17 => ?_) (fun c17 => absurd c17 (by decide))
    refine r_iload_n (i := 1) hX d_M_boundOf_23 rfl rfl ?_
    refine r_bipush (v := nI 8) hX d_M_boundOf_24 (by decide) ?_
    refine r_icmp_ne 36 hX d_M_boundOf_26 (by decide) (fun c26 => ?_) (fun c26 => absurd c26 (by decide))
    refine r_iload_n (i := 1) hX d_M_boundOf_36 rfl rfl ?_
    refine r_bipush (v := nI 17) hX d_M_boundOf_37 (by decide) ?_
    refine r_icmp_ne 49 hX d_M_boundOf_39 (by decide) (fun c39 => ?_) (fun c39 => absurd c39 (by decide))
    refine r_iload_n (i := 1) hX d_M_boundOf_49 rfl rfl ?_
    refine r_bipush (v := nI 18) hX d_M_boundOf_50 (by decide) ?_
    refine r_icmp_ne 76 hX d_M_boundOf_52 (by decide) (fun c52 => ?_) (fun c52 => absurd c52 (by decide))
    refine r_iload_n (i := 1) hX d_M_boundOf_76 rfl rfl ?_
    refine r_bipush (v := nI 19) hX d_M_boundOf_77 (by decide) ?_
    refine r_icmp_ne 115 hX d_M_boundOf_79 (by decide) (fun c79 => ?_) (fun c79 => absurd c79 (by decide))
    refine r_iload_n (i := 1) hX d_M_boundOf_115 rfl rfl ?_
    refine r_bipush (v := nI 15) hX d_M_boundOf_116 (by decide) ?_
    refine r_icmp_ne 135 hX d_M_boundOf_118 (by decide) (fun c118 => ?_) (fun c118 => absurd c118 (by decide))
    refine r_aload_n (i := 0) hX d_M_boundOf_135 rfl rfl ?_
    refine r_get 0 9 hX d_M_boundOf_136 rfl rfl fi_M (by decide) fl_M_38 rfl rfl ?_
    refine r_iload_n (i := 2) hX d_M_boundOf_139 rfl rfl ?_
    refine r_iald 6 0 (ja) hX d_M_boundOf_140 rfl rfl rfl (by omega) (by decide) ?_
    refine r_aload_n (i := 0) hX d_M_boundOf_141 rfl rfl ?_
    refine r_get 0 9 hX d_M_boundOf_142 rfl rfl fi_M (by decide) fl_M_38 rfl rfl ?_
    refine r_iload_n (i := 3) hX d_M_boundOf_145 rfl rfl ?_
    refine r_iald 6 0 (jb) hX d_M_boundOf_146 rfl rfl rfl (by omega) (by decide) ?_
    refine r_imul hX d_M_boundOf_147 ?_
    skip
    refine r_iload_n (i := 1) hX d_M_boundOf_148 rfl rfl ?_
    refine r_bipush (v := nI 14) hX d_M_boundOf_149 (by decide) ?_
    refine r_icmp_ne 159 hX d_M_boundOf_151 (by decide) (fun c151 => absurd c151 (by decide)) (fun c151 => ?_)
    refine r_bipush (v := nI 8) hX d_M_boundOf_154 (by decide) ?_
    refine r_goto 160 hX d_M_boundOf_156 (by decide) ?_
    refine r_imul hX d_M_boundOf_160 ?_
    exact r_iret () hX hF d_M_boundOf_161 trivial (by simp [bndF, opN_nI (show ja < 2 ^ 31 by omega), opN_nI (show jb < 2 ^ 31 by omega)]; rw [Int32.mul_comm _ (nI 8), Int32.mul_assoc]) rfl
  · obtain ⟨ja, hja, rfl⟩ := hab.1 (by decide)
    obtain ⟨jb, hjb, rfl⟩ := hab.2.1 (by decide)
    refine r_iload_n (i := 1) hX d_M_boundOf_0 rfl rfl ?_
    refine r_bipush (v := nI 7) hX d_M_boundOf_1 (by decide) ?_
    refine r_icmp_lt 12 hX d_M_boundOf_3 (by decide) (fun c3 => absurd c3 (by decide)) (fun c3 => ?_)
    refine r_iload_n (i := 1) hX d_M_boundOf_6 rfl rfl ?_
    refine r_bipush (v := nI 19) hX d_M_boundOf_7 (by decide) ?_
    refine r_icmp_le 14 hX d_M_boundOf_9 (by decide) (fun c9 => ?_) (fun c9 => absurd c9 (by decide))
    refine r_iload_n (i := 1) hX d_M_boundOf_14 rfl rfl ?_
    refine r_bipush (v := nI 7) hX d_M_boundOf_15 (by decide) ?_
    refine r_icmp_ne 23 hX d_M_boundOf_17 (by decide) (fun c17 => ?_) (fun c17 => absurd c17 (by decide))
    refine r_iload_n (i := 1) hX d_M_boundOf_23 rfl rfl ?_
    refine r_bipush (v := nI 8) hX d_M_boundOf_24 (by decide) ?_
    refine r_icmp_ne 36 hX d_M_boundOf_26 (by decide) (fun c26 => ?_) (fun c26 => absurd c26 (by decide))
    refine r_iload_n (i := 1) hX d_M_boundOf_36 rfl rfl ?_
    refine r_bipush (v := nI 17) hX d_M_boundOf_37 (by decide) ?_
    refine r_icmp_ne 49 hX d_M_boundOf_39 (by decide) (fun c39 => ?_) (fun c39 => absurd c39 (by decide))
    refine r_iload_n (i := 1) hX d_M_boundOf_49 rfl rfl ?_
    refine r_bipush (v := nI 18) hX d_M_boundOf_50 (by decide) ?_
    refine r_icmp_ne 76 hX d_M_boundOf_52 (by decide) (fun c52 => ?_) (fun c52 => absurd c52 (by decide))
    refine r_iload_n (i := 1) hX d_M_boundOf_76 rfl rfl ?_
    refine r_bipush (v := nI 19) hX d_M_boundOf_77 (by decide) ?_
    refine r_icmp_ne 115 hX d_M_boundOf_79 (by decide) (fun c79 => ?_) (fun c79 => absurd c79 (by decide))
    refine r_iload_n (i := 1) hX d_M_boundOf_115 rfl rfl ?_
    refine r_bipush (v := nI 15) hX d_M_boundOf_116 (by decide) ?_
    refine r_icmp_ne 135 hX d_M_boundOf_118 (by decide) (fun c118 => absurd c118 (by decide)) (fun c118 => ?_)
    refine r_aload_n (i := 0) hX d_M_boundOf_121 rfl rfl ?_
    refine r_get 0 9 hX d_M_boundOf_122 rfl rfl fi_M (by decide) fl_M_38 rfl rfl ?_
    refine r_iload_n (i := 2) hX d_M_boundOf_125 rfl rfl ?_
    refine r_iald 6 0 (ja) hX d_M_boundOf_126 rfl rfl rfl (by omega) (by decide) ?_
    refine r_aload_n (i := 0) hX d_M_boundOf_127 rfl rfl ?_
    refine r_get 0 9 hX d_M_boundOf_128 rfl rfl fi_M (by decide) fl_M_38 rfl rfl ?_
    refine r_iload_n (i := 3) hX d_M_boundOf_131 rfl rfl ?_
    refine r_iald 6 0 (jb) hX d_M_boundOf_132 rfl rfl rfl (by omega) (by decide) ?_
    refine r_iadd hX d_M_boundOf_133 ?_
    exact r_iret () hX hF d_M_boundOf_134 trivial (by simp [bndF, opN_nI (show ja < 2 ^ 31 by omega), opN_nI (show jb < 2 ^ 31 by omega)]) rfl
  · obtain ⟨ja, hja, rfl⟩ := hab.1 (by decide)
    obtain ⟨jb, hjb, rfl⟩ := hab.2.1 (by decide)
    refine r_iload_n (i := 1) hX d_M_boundOf_0 rfl rfl ?_
    refine r_bipush (v := nI 7) hX d_M_boundOf_1 (by decide) ?_
    refine r_icmp_lt 12 hX d_M_boundOf_3 (by decide) (fun c3 => absurd c3 (by decide)) (fun c3 => ?_)
    refine r_iload_n (i := 1) hX d_M_boundOf_6 rfl rfl ?_
    refine r_bipush (v := nI 19) hX d_M_boundOf_7 (by decide) ?_
    refine r_icmp_le 14 hX d_M_boundOf_9 (by decide) (fun c9 => ?_) (fun c9 => absurd c9 (by decide))
    refine r_iload_n (i := 1) hX d_M_boundOf_14 rfl rfl ?_
    refine r_bipush (v := nI 7) hX d_M_boundOf_15 (by decide) ?_
    refine r_icmp_ne 23 hX d_M_boundOf_17 (by decide) (fun c17 => ?_) (fun c17 => absurd c17 (by decide))
    refine r_iload_n (i := 1) hX d_M_boundOf_23 rfl rfl ?_
    refine r_bipush (v := nI 8) hX d_M_boundOf_24 (by decide) ?_
    refine r_icmp_ne 36 hX d_M_boundOf_26 (by decide) (fun c26 => ?_) (fun c26 => absurd c26 (by decide))
    refine r_iload_n (i := 1) hX d_M_boundOf_36 rfl rfl ?_
    refine r_bipush (v := nI 17) hX d_M_boundOf_37 (by decide) ?_
    refine r_icmp_ne 49 hX d_M_boundOf_39 (by decide) (fun c39 => ?_) (fun c39 => absurd c39 (by decide))
    refine r_iload_n (i := 1) hX d_M_boundOf_49 rfl rfl ?_
    refine r_bipush (v := nI 18) hX d_M_boundOf_50 (by decide) ?_
    refine r_icmp_ne 76 hX d_M_boundOf_52 (by decide) (fun c52 => ?_) (fun c52 => absurd c52 (by decide))
    refine r_iload_n (i := 1) hX d_M_boundOf_76 rfl rfl ?_
    refine r_bipush (v := nI 19) hX d_M_boundOf_77 (by decide) ?_
    refine r_icmp_ne 115 hX d_M_boundOf_79 (by decide) (fun c79 => ?_) (fun c79 => absurd c79 (by decide))
    refine r_iload_n (i := 1) hX d_M_boundOf_115 rfl rfl ?_
    refine r_bipush (v := nI 15) hX d_M_boundOf_116 (by decide) ?_
    refine r_icmp_ne 135 hX d_M_boundOf_118 (by decide) (fun c118 => ?_) (fun c118 => absurd c118 (by decide))
    refine r_aload_n (i := 0) hX d_M_boundOf_135 rfl rfl ?_
    refine r_get 0 9 hX d_M_boundOf_136 rfl rfl fi_M (by decide) fl_M_38 rfl rfl ?_
    refine r_iload_n (i := 2) hX d_M_boundOf_139 rfl rfl ?_
    refine r_iald 6 0 (ja) hX d_M_boundOf_140 rfl rfl rfl (by omega) (by decide) ?_
    refine r_aload_n (i := 0) hX d_M_boundOf_141 rfl rfl ?_
    refine r_get 0 9 hX d_M_boundOf_142 rfl rfl fi_M (by decide) fl_M_38 rfl rfl ?_
    refine r_iload_n (i := 3) hX d_M_boundOf_145 rfl rfl ?_
    refine r_iald 6 0 (jb) hX d_M_boundOf_146 rfl rfl rfl (by omega) (by decide) ?_
    refine r_imul hX d_M_boundOf_147 ?_
    skip
    refine r_iload_n (i := 1) hX d_M_boundOf_148 rfl rfl ?_
    refine r_bipush (v := nI 14) hX d_M_boundOf_149 (by decide) ?_
    refine r_icmp_ne 159 hX d_M_boundOf_151 (by decide) (fun c151 => ?_) (fun c151 => absurd c151 (by decide))
    refine r_iconst (v := nI 1) hX d_M_boundOf_159 (by decide) ?_
    refine r_imul hX d_M_boundOf_160 ?_
    exact r_iret () hX hF d_M_boundOf_161 trivial (by simp [bndF, opN_nI (show ja < 2 ^ 31 by omega), opN_nI (show jb < 2 ^ 31 by omega)]; rw [show nI 1 = 1 from rfl, Int32.mul_one]) rfl
  · obtain ⟨jb, hjb, rfl⟩ := hab.2.1 (by decide)
    refine r_iload_n (i := 1) hX d_M_boundOf_0 rfl rfl ?_
    refine r_bipush (v := nI 7) hX d_M_boundOf_1 (by decide) ?_
    refine r_icmp_lt 12 hX d_M_boundOf_3 (by decide) (fun c3 => absurd c3 (by decide)) (fun c3 => ?_)
    refine r_iload_n (i := 1) hX d_M_boundOf_6 rfl rfl ?_
    refine r_bipush (v := nI 19) hX d_M_boundOf_7 (by decide) ?_
    refine r_icmp_le 14 hX d_M_boundOf_9 (by decide) (fun c9 => ?_) (fun c9 => absurd c9 (by decide))
    refine r_iload_n (i := 1) hX d_M_boundOf_14 rfl rfl ?_
    refine r_bipush (v := nI 7) hX d_M_boundOf_15 (by decide) ?_
    refine r_icmp_ne 23 hX d_M_boundOf_17 (by decide) (fun c17 => ?_) (fun c17 => absurd c17 (by decide))
    refine r_iload_n (i := 1) hX d_M_boundOf_23 rfl rfl ?_
    refine r_bipush (v := nI 8) hX d_M_boundOf_24 (by decide) ?_
    refine r_icmp_ne 36 hX d_M_boundOf_26 (by decide) (fun c26 => ?_) (fun c26 => absurd c26 (by decide))
    refine r_iload_n (i := 1) hX d_M_boundOf_36 rfl rfl ?_
    refine r_bipush (v := nI 17) hX d_M_boundOf_37 (by decide) ?_
    refine r_icmp_ne 49 hX d_M_boundOf_39 (by decide) (fun c39 => absurd c39 (by decide)) (fun c39 => ?_)
    refine r_aload_n (i := 0) hX d_M_boundOf_42 rfl rfl ?_
    refine r_get 0 9 hX d_M_boundOf_43 rfl rfl fi_M (by decide) fl_M_38 rfl rfl ?_
    refine r_iload_n (i := 3) hX d_M_boundOf_46 rfl rfl ?_
    refine r_iald 6 0 (jb) hX d_M_boundOf_47 rfl rfl rfl (by omega) (by decide) ?_
    exact r_iret () hX hF d_M_boundOf_48 trivial (by simp [bndF, opN_nI (show jb < 2 ^ 31 by omega)]) rfl
  · obtain ⟨jb, hjb, rfl⟩ := hab.2.1 (by decide)
    refine r_iload_n (i := 1) hX d_M_boundOf_0 rfl rfl ?_
    refine r_bipush (v := nI 7) hX d_M_boundOf_1 (by decide) ?_
    refine r_icmp_lt 12 hX d_M_boundOf_3 (by decide) (fun c3 => absurd c3 (by decide)) (fun c3 => ?_)
    refine r_iload_n (i := 1) hX d_M_boundOf_6 rfl rfl ?_
    refine r_bipush (v := nI 19) hX d_M_boundOf_7 (by decide) ?_
    refine r_icmp_le 14 hX d_M_boundOf_9 (by decide) (fun c9 => ?_) (fun c9 => absurd c9 (by decide))
    refine r_iload_n (i := 1) hX d_M_boundOf_14 rfl rfl ?_
    refine r_bipush (v := nI 7) hX d_M_boundOf_15 (by decide) ?_
    refine r_icmp_ne 23 hX d_M_boundOf_17 (by decide) (fun c17 => ?_) (fun c17 => absurd c17 (by decide))
    refine r_iload_n (i := 1) hX d_M_boundOf_23 rfl rfl ?_
    refine r_bipush (v := nI 8) hX d_M_boundOf_24 (by decide) ?_
    refine r_icmp_ne 36 hX d_M_boundOf_26 (by decide) (fun c26 => ?_) (fun c26 => absurd c26 (by decide))
    refine r_iload_n (i := 1) hX d_M_boundOf_36 rfl rfl ?_
    refine r_bipush (v := nI 17) hX d_M_boundOf_37 (by decide) ?_
    refine r_icmp_ne 49 hX d_M_boundOf_39 (by decide) (fun c39 => ?_) (fun c39 => absurd c39 (by decide))
    refine r_iload_n (i := 1) hX d_M_boundOf_49 rfl rfl ?_
    refine r_bipush (v := nI 18) hX d_M_boundOf_50 (by decide) ?_
    refine r_icmp_ne 76 hX d_M_boundOf_52 (by decide) (fun c52 => absurd c52 (by decide)) (fun c52 => ?_)
    refine r_iload_n (i := 2) hX d_M_boundOf_55 rfl rfl ?_
    refine r_aload_n (i := 0) hX d_M_boundOf_56 rfl rfl ?_
    refine r_get 0 9 hX d_M_boundOf_57 rfl rfl fi_M (by decide) fl_M_38 rfl rfl ?_
    refine r_iload_n (i := 3) hX d_M_boundOf_60 rfl rfl ?_
    refine r_iald 6 0 (jb) hX d_M_boundOf_61 rfl rfl rfl (by omega) (by decide) ?_
    refine r_icmp_ge 69 hX d_M_boundOf_62 (by decide) (fun c62 => ?_) (fun c62 => ?_)
    · have hn : bndF mf 18 a (nI jb) c = mf 4 jb := by
        simp only [bndF, opN_nI (show jb < 2 ^ 31 by omega)]
        by_cases hq : mf 4 jb < a
        · simp [hq]
        · simp [hq]; exact Int32.le_antisymm (Int32.not_lt.mp hq) c62
      refine r_aload_n (i := 0) hX d_M_boundOf_69 rfl rfl ?_
      refine r_get 0 9 hX d_M_boundOf_70 rfl rfl fi_M (by decide) fl_M_38 rfl rfl ?_
      refine r_iload_n (i := 3) hX d_M_boundOf_73 rfl rfl ?_
      refine r_iald 6 0 (jb) hX d_M_boundOf_74 rfl rfl rfl (by omega) (by decide) ?_
      exact r_iret () hX hF d_M_boundOf_75 trivial (by rw [hn]) rfl
    · have hn : bndF mf 18 a (nI jb) c = a := by
        have h1 : ¬ mf 4 jb < a := fun hq => c62 (Int32.le_of_lt hq)
        simp [bndF, opN_nI (show jb < 2 ^ 31 by omega), h1]
      refine r_iload_n (i := 2) hX d_M_boundOf_65 rfl rfl ?_
      refine r_goto 75 hX d_M_boundOf_66 (by decide) ?_
      exact r_iret () hX hF d_M_boundOf_75 trivial (by rw [hn]) rfl
  · obtain ⟨ja, hja, rfl⟩ := hab.1 (by decide)
    obtain ⟨jb, hjb, rfl⟩ := hab.2.1 (by decide)
    obtain ⟨jc, hjc, rfl⟩ := hab.2.2 rfl
    refine r_iload_n (i := 1) hX d_M_boundOf_0 rfl rfl ?_
    refine r_bipush (v := nI 7) hX d_M_boundOf_1 (by decide) ?_
    refine r_icmp_lt 12 hX d_M_boundOf_3 (by decide) (fun c3 => absurd c3 (by decide)) (fun c3 => ?_)
    refine r_iload_n (i := 1) hX d_M_boundOf_6 rfl rfl ?_
    refine r_bipush (v := nI 19) hX d_M_boundOf_7 (by decide) ?_
    refine r_icmp_le 14 hX d_M_boundOf_9 (by decide) (fun c9 => ?_) (fun c9 => absurd c9 (by decide))
    refine r_iload_n (i := 1) hX d_M_boundOf_14 rfl rfl ?_
    refine r_bipush (v := nI 7) hX d_M_boundOf_15 (by decide) ?_
    refine r_icmp_ne 23 hX d_M_boundOf_17 (by decide) (fun c17 => ?_) (fun c17 => absurd c17 (by decide))
    refine r_iload_n (i := 1) hX d_M_boundOf_23 rfl rfl ?_
    refine r_bipush (v := nI 8) hX d_M_boundOf_24 (by decide) ?_
    refine r_icmp_ne 36 hX d_M_boundOf_26 (by decide) (fun c26 => ?_) (fun c26 => absurd c26 (by decide))
    refine r_iload_n (i := 1) hX d_M_boundOf_36 rfl rfl ?_
    refine r_bipush (v := nI 17) hX d_M_boundOf_37 (by decide) ?_
    refine r_icmp_ne 49 hX d_M_boundOf_39 (by decide) (fun c39 => ?_) (fun c39 => absurd c39 (by decide))
    refine r_iload_n (i := 1) hX d_M_boundOf_49 rfl rfl ?_
    refine r_bipush (v := nI 18) hX d_M_boundOf_50 (by decide) ?_
    refine r_icmp_ne 76 hX d_M_boundOf_52 (by decide) (fun c52 => ?_) (fun c52 => absurd c52 (by decide))
    refine r_iload_n (i := 1) hX d_M_boundOf_76 rfl rfl ?_
    refine r_bipush (v := nI 19) hX d_M_boundOf_77 (by decide) ?_
    refine r_icmp_ne 115 hX d_M_boundOf_79 (by decide) (fun c79 => absurd c79 (by decide)) (fun c79 => ?_)
    refine r_aload_n (i := 0) hX d_M_boundOf_82 rfl rfl ?_
    refine r_get 0 9 hX d_M_boundOf_83 rfl rfl fi_M (by decide) fl_M_38 rfl rfl ?_
    refine r_iload_n (i := 3) hX d_M_boundOf_86 rfl rfl ?_
    refine r_iald 6 0 (jb) hX d_M_boundOf_87 rfl rfl rfl (by omega) (by decide) ?_
    refine r_aload_n (i := 0) hX d_M_boundOf_88 rfl rfl ?_
    refine r_get 0 9 hX d_M_boundOf_89 rfl rfl fi_M (by decide) fl_M_38 rfl rfl ?_
    refine r_iload hX d_M_boundOf_92 rfl ?_
    refine r_iald 6 0 (jc) hX d_M_boundOf_94 rfl rfl rfl (by omega) (by decide) ?_
    refine r_icmp_le 107 hX d_M_boundOf_95 (by decide) (fun c95 => ?_) (fun c95 => ?_)
    · have hn : bndF mf 19 (nI ja) (nI jb) (nI jc) = mf 4 jc := by
        simp only [bndF, mx, opN_nI (show jb < 2 ^ 31 by omega), opN_nI (show jc < 2 ^ 31 by omega)]
        by_cases hq : mf 4 jb < mf 4 jc
        · simp [hq]
        · simp [hq]; exact Int32.le_antisymm c95 (Int32.not_lt.mp hq)
      refine r_aload_n (i := 0) hX d_M_boundOf_107 rfl rfl ?_
      refine r_get 0 9 hX d_M_boundOf_108 rfl rfl fi_M (by decide) fl_M_38 rfl rfl ?_
      refine r_iload hX d_M_boundOf_111 rfl ?_
      refine r_iald 6 0 (jc) hX d_M_boundOf_113 rfl rfl rfl (by omega) (by decide) ?_
      exact r_iret () hX hF d_M_boundOf_114 trivial (by rw [hn]) rfl
    · have hn : bndF mf 19 (nI ja) (nI jb) (nI jc) = mf 4 jb := by
        have h1 : ¬ mf 4 jb < mf 4 jc := fun hq => c95 (Int32.le_of_lt hq)
        simp [bndF, mx, opN_nI (show jb < 2 ^ 31 by omega), opN_nI (show jc < 2 ^ 31 by omega), h1]
      refine r_aload_n (i := 0) hX d_M_boundOf_98 rfl rfl ?_
      refine r_get 0 9 hX d_M_boundOf_99 rfl rfl fi_M (by decide) fl_M_38 rfl rfl ?_
      refine r_iload_n (i := 3) hX d_M_boundOf_102 rfl rfl ?_
      refine r_iald 6 0 (jb) hX d_M_boundOf_103 rfl rfl rfl (by omega) (by decide) ?_
      refine r_goto 114 hX d_M_boundOf_104 (by decide) ?_
      exact r_iret () hX hF d_M_boundOf_114 trivial (by rw [hn]) rfl
  · obtain ⟨ja, hja, rfl⟩ := hab.1 (by decide)
    refine r_iload_n (i := 1) hX d_M_boundOf_0 rfl rfl ?_
    refine r_bipush (v := nI 7) hX d_M_boundOf_1 (by decide) ?_
    refine r_icmp_lt 12 hX d_M_boundOf_3 (by decide) (fun c3 => absurd c3 (by decide)) (fun c3 => ?_)
    refine r_iload_n (i := 1) hX d_M_boundOf_6 rfl rfl ?_
    refine r_bipush (v := nI 19) hX d_M_boundOf_7 (by decide) ?_
    refine r_icmp_le 14 hX d_M_boundOf_9 (by decide) (fun c9 => absurd c9 (by decide)) (fun c9 => ?_)
    refine r_iconst (v := nI 1) hX d_M_boundOf_12 (by decide) ?_
    exact r_iret () hX hF d_M_boundOf_13 trivial (by simp [bndF, opN_nI (show ja < 2 ^ 31 by omega)]) rfl
  · obtain ⟨ja, hja, rfl⟩ := hab.1 (by decide)
    refine r_iload_n (i := 1) hX d_M_boundOf_0 rfl rfl ?_
    refine r_bipush (v := nI 7) hX d_M_boundOf_1 (by decide) ?_
    refine r_icmp_lt 12 hX d_M_boundOf_3 (by decide) (fun c3 => absurd c3 (by decide)) (fun c3 => ?_)
    refine r_iload_n (i := 1) hX d_M_boundOf_6 rfl rfl ?_
    refine r_bipush (v := nI 19) hX d_M_boundOf_7 (by decide) ?_
    refine r_icmp_le 14 hX d_M_boundOf_9 (by decide) (fun c9 => absurd c9 (by decide)) (fun c9 => ?_)
    refine r_iconst (v := nI 1) hX d_M_boundOf_12 (by decide) ?_
    exact r_iret () hX hF d_M_boundOf_13 trivial (by simp [bndF, opN_nI (show ja < 2 ^ 31 by omega)]) rfl
set_option maxRecDepth 100000 in
set_option maxHeartbeats 4000000 in
theorem c_M_workOf (k : Nat) (a b c : Int32) (hk : k ≤ 21) (hab : okOps k a b c) : CT l D (tyL cI cZ cN) none y_M_workOf b_M_workOf 7 (some .int) 1 [.ref (am 0), .int (nI k), .int a, .int b, .int c] (WM am cI cZ tl nn rs ae dp tx mf rw sz nv ph tu sv) (fun _ : Unit => True) (fun _ => some (.int (wkF mf k a b c))) (fun _ => (WM am cI cZ tl nn rs ae dp tx mf rw sz nv ph tu sv)) := by
  refine CT.of (by decide) (Nat.le_of_ble_eq_true rfl) ?_
  intro X A hl hX hF
  rcases k22 hk with rfl | rfl | rfl | rfl | rfl | rfl | rfl | rfl | rfl | rfl | rfl | rfl | rfl | rfl | rfl | rfl | rfl | rfl | rfl | rfl | rfl | rfl
  · skip
    refine r_iload_n (i := 1) hX d_M_workOf_0 rfl rfl ?_
    refine r_bipush (v := nI 7) hX d_M_workOf_1 (by decide) ?_
    refine r_icmp_ne 9 hX d_M_workOf_3 (by decide) (fun c3 => ?_) (fun c3 => absurd c3 (by decide))
    refine r_iload_n (i := 1) hX d_M_workOf_9 rfl rfl ?_
    refine r_bipush (v := nI 8) hX d_M_workOf_10 (by decide) ?_
    refine r_icmp_le 31 hX d_M_workOf_12 (by decide) (fun c12 => ?_) (fun c12 => absurd c12 (by decide))
    refine r_iconst (v := nI 0) hX d_M_workOf_31 (by decide) ?_
    refine r_istore hX d_M_workOf_32 (by decide) ?_
    refine r_iconst (v := nI 1) hX d_M_workOf_34 (by decide) ?_
    refine r_istore hX d_M_workOf_35 (by decide) ?_
    refine r_aload_n (i := 0) hX d_M_workOf_37 rfl rfl ?_
    refine r_iload_n (i := 1) hX d_M_workOf_38 rfl rfl ?_
    refine r_callVwi (q0 := 0) hX d_M_workOf_39 cw_M_namesA ml_M_79 (c_M_namesA 0 (by decide)) (Or.inl rfl) rfl rfl rfl rfl (by decide) (Nat.le_of_ble_eq_true rfl) (fun _ => rfl) (fun _ _ => ?_)
    refine r_if_eq 56 hX d_M_workOf_42 (by decide) (fun c42 => ?_) (fun c42 => absurd c42 (by decide))
    refine r_aload_n (i := 0) hX d_M_workOf_56 rfl rfl ?_
    refine r_iload_n (i := 1) hX d_M_workOf_57 rfl rfl ?_
    refine r_callVwi (q0 := 0) hX d_M_workOf_58 cw_M_namesB ml_M_82 (c_M_namesB 0 (by decide)) (Or.inl rfl) rfl rfl rfl rfl (by decide) (Nat.le_of_ble_eq_true rfl) (fun _ => rfl) (fun _ _ => ?_)
    refine r_if_eq 91 hX d_M_workOf_61 (by decide) (fun c61 => ?_) (fun c61 => absurd c61 (by decide))
    refine r_iload_n (i := 1) hX d_M_workOf_91 rfl rfl ?_
    refine r_bipush (v := nI 19) hX d_M_workOf_92 (by decide) ?_
    refine r_icmp_ne 109 hX d_M_workOf_94 (by decide) (fun c94 => ?_) (fun c94 => absurd c94 (by decide))
    refine r_iload_n (i := 1) hX d_M_workOf_109 rfl rfl ?_
    refine r_bipush (v := nI 14) hX d_M_workOf_110 (by decide) ?_
    refine r_icmp_ne 123 hX d_M_workOf_112 (by decide) (fun c112 => ?_) (fun c112 => absurd c112 (by decide))
    refine r_iload hX d_M_workOf_123 rfl ?_
    exact r_iret () hX hF d_M_workOf_125 trivial (by simp [wkF, wkP]) rfl
  · skip
    refine r_iload_n (i := 1) hX d_M_workOf_0 rfl rfl ?_
    refine r_bipush (v := nI 7) hX d_M_workOf_1 (by decide) ?_
    refine r_icmp_ne 9 hX d_M_workOf_3 (by decide) (fun c3 => ?_) (fun c3 => absurd c3 (by decide))
    refine r_iload_n (i := 1) hX d_M_workOf_9 rfl rfl ?_
    refine r_bipush (v := nI 8) hX d_M_workOf_10 (by decide) ?_
    refine r_icmp_le 31 hX d_M_workOf_12 (by decide) (fun c12 => ?_) (fun c12 => absurd c12 (by decide))
    refine r_iconst (v := nI 0) hX d_M_workOf_31 (by decide) ?_
    refine r_istore hX d_M_workOf_32 (by decide) ?_
    refine r_iconst (v := nI 1) hX d_M_workOf_34 (by decide) ?_
    refine r_istore hX d_M_workOf_35 (by decide) ?_
    refine r_aload_n (i := 0) hX d_M_workOf_37 rfl rfl ?_
    refine r_iload_n (i := 1) hX d_M_workOf_38 rfl rfl ?_
    refine r_callVwi (q0 := 0) hX d_M_workOf_39 cw_M_namesA ml_M_79 (c_M_namesA 1 (by decide)) (Or.inl rfl) rfl rfl rfl rfl (by decide) (Nat.le_of_ble_eq_true rfl) (fun _ => rfl) (fun _ _ => ?_)
    refine r_if_eq 56 hX d_M_workOf_42 (by decide) (fun c42 => ?_) (fun c42 => absurd c42 (by decide))
    refine r_aload_n (i := 0) hX d_M_workOf_56 rfl rfl ?_
    refine r_iload_n (i := 1) hX d_M_workOf_57 rfl rfl ?_
    refine r_callVwi (q0 := 0) hX d_M_workOf_58 cw_M_namesB ml_M_82 (c_M_namesB 1 (by decide)) (Or.inl rfl) rfl rfl rfl rfl (by decide) (Nat.le_of_ble_eq_true rfl) (fun _ => rfl) (fun _ _ => ?_)
    refine r_if_eq 91 hX d_M_workOf_61 (by decide) (fun c61 => ?_) (fun c61 => absurd c61 (by decide))
    refine r_iload_n (i := 1) hX d_M_workOf_91 rfl rfl ?_
    refine r_bipush (v := nI 19) hX d_M_workOf_92 (by decide) ?_
    refine r_icmp_ne 109 hX d_M_workOf_94 (by decide) (fun c94 => ?_) (fun c94 => absurd c94 (by decide))
    refine r_iload_n (i := 1) hX d_M_workOf_109 rfl rfl ?_
    refine r_bipush (v := nI 14) hX d_M_workOf_110 (by decide) ?_
    refine r_icmp_ne 123 hX d_M_workOf_112 (by decide) (fun c112 => ?_) (fun c112 => absurd c112 (by decide))
    refine r_iload hX d_M_workOf_123 rfl ?_
    exact r_iret () hX hF d_M_workOf_125 trivial (by simp [wkF, wkP]) rfl
  · skip
    refine r_iload_n (i := 1) hX d_M_workOf_0 rfl rfl ?_
    refine r_bipush (v := nI 7) hX d_M_workOf_1 (by decide) ?_
    refine r_icmp_ne 9 hX d_M_workOf_3 (by decide) (fun c3 => ?_) (fun c3 => absurd c3 (by decide))
    refine r_iload_n (i := 1) hX d_M_workOf_9 rfl rfl ?_
    refine r_bipush (v := nI 8) hX d_M_workOf_10 (by decide) ?_
    refine r_icmp_le 31 hX d_M_workOf_12 (by decide) (fun c12 => ?_) (fun c12 => absurd c12 (by decide))
    refine r_iconst (v := nI 0) hX d_M_workOf_31 (by decide) ?_
    refine r_istore hX d_M_workOf_32 (by decide) ?_
    refine r_iconst (v := nI 1) hX d_M_workOf_34 (by decide) ?_
    refine r_istore hX d_M_workOf_35 (by decide) ?_
    refine r_aload_n (i := 0) hX d_M_workOf_37 rfl rfl ?_
    refine r_iload_n (i := 1) hX d_M_workOf_38 rfl rfl ?_
    refine r_callVwi (q0 := 0) hX d_M_workOf_39 cw_M_namesA ml_M_79 (c_M_namesA 2 (by decide)) (Or.inl rfl) rfl rfl rfl rfl (by decide) (Nat.le_of_ble_eq_true rfl) (fun _ => rfl) (fun _ _ => ?_)
    refine r_if_eq 56 hX d_M_workOf_42 (by decide) (fun c42 => ?_) (fun c42 => absurd c42 (by decide))
    refine r_aload_n (i := 0) hX d_M_workOf_56 rfl rfl ?_
    refine r_iload_n (i := 1) hX d_M_workOf_57 rfl rfl ?_
    refine r_callVwi (q0 := 0) hX d_M_workOf_58 cw_M_namesB ml_M_82 (c_M_namesB 2 (by decide)) (Or.inl rfl) rfl rfl rfl rfl (by decide) (Nat.le_of_ble_eq_true rfl) (fun _ => rfl) (fun _ _ => ?_)
    refine r_if_eq 91 hX d_M_workOf_61 (by decide) (fun c61 => ?_) (fun c61 => absurd c61 (by decide))
    refine r_iload_n (i := 1) hX d_M_workOf_91 rfl rfl ?_
    refine r_bipush (v := nI 19) hX d_M_workOf_92 (by decide) ?_
    refine r_icmp_ne 109 hX d_M_workOf_94 (by decide) (fun c94 => ?_) (fun c94 => absurd c94 (by decide))
    refine r_iload_n (i := 1) hX d_M_workOf_109 rfl rfl ?_
    refine r_bipush (v := nI 14) hX d_M_workOf_110 (by decide) ?_
    refine r_icmp_ne 123 hX d_M_workOf_112 (by decide) (fun c112 => ?_) (fun c112 => absurd c112 (by decide))
    refine r_iload hX d_M_workOf_123 rfl ?_
    exact r_iret () hX hF d_M_workOf_125 trivial (by simp [wkF, wkP]) rfl
  · skip
    refine r_iload_n (i := 1) hX d_M_workOf_0 rfl rfl ?_
    refine r_bipush (v := nI 7) hX d_M_workOf_1 (by decide) ?_
    refine r_icmp_ne 9 hX d_M_workOf_3 (by decide) (fun c3 => ?_) (fun c3 => absurd c3 (by decide))
    refine r_iload_n (i := 1) hX d_M_workOf_9 rfl rfl ?_
    refine r_bipush (v := nI 8) hX d_M_workOf_10 (by decide) ?_
    refine r_icmp_le 31 hX d_M_workOf_12 (by decide) (fun c12 => ?_) (fun c12 => absurd c12 (by decide))
    refine r_iconst (v := nI 0) hX d_M_workOf_31 (by decide) ?_
    refine r_istore hX d_M_workOf_32 (by decide) ?_
    refine r_iconst (v := nI 1) hX d_M_workOf_34 (by decide) ?_
    refine r_istore hX d_M_workOf_35 (by decide) ?_
    refine r_aload_n (i := 0) hX d_M_workOf_37 rfl rfl ?_
    refine r_iload_n (i := 1) hX d_M_workOf_38 rfl rfl ?_
    refine r_callVwi (q0 := 0) hX d_M_workOf_39 cw_M_namesA ml_M_79 (c_M_namesA 3 (by decide)) (Or.inl rfl) rfl rfl rfl rfl (by decide) (Nat.le_of_ble_eq_true rfl) (fun _ => rfl) (fun _ _ => ?_)
    refine r_if_eq 56 hX d_M_workOf_42 (by decide) (fun c42 => ?_) (fun c42 => absurd c42 (by decide))
    refine r_aload_n (i := 0) hX d_M_workOf_56 rfl rfl ?_
    refine r_iload_n (i := 1) hX d_M_workOf_57 rfl rfl ?_
    refine r_callVwi (q0 := 0) hX d_M_workOf_58 cw_M_namesB ml_M_82 (c_M_namesB 3 (by decide)) (Or.inl rfl) rfl rfl rfl rfl (by decide) (Nat.le_of_ble_eq_true rfl) (fun _ => rfl) (fun _ _ => ?_)
    refine r_if_eq 91 hX d_M_workOf_61 (by decide) (fun c61 => ?_) (fun c61 => absurd c61 (by decide))
    refine r_iload_n (i := 1) hX d_M_workOf_91 rfl rfl ?_
    refine r_bipush (v := nI 19) hX d_M_workOf_92 (by decide) ?_
    refine r_icmp_ne 109 hX d_M_workOf_94 (by decide) (fun c94 => ?_) (fun c94 => absurd c94 (by decide))
    refine r_iload_n (i := 1) hX d_M_workOf_109 rfl rfl ?_
    refine r_bipush (v := nI 14) hX d_M_workOf_110 (by decide) ?_
    refine r_icmp_ne 123 hX d_M_workOf_112 (by decide) (fun c112 => ?_) (fun c112 => absurd c112 (by decide))
    refine r_iload hX d_M_workOf_123 rfl ?_
    exact r_iret () hX hF d_M_workOf_125 trivial (by simp [wkF, wkP]) rfl
  · skip
    refine r_iload_n (i := 1) hX d_M_workOf_0 rfl rfl ?_
    refine r_bipush (v := nI 7) hX d_M_workOf_1 (by decide) ?_
    refine r_icmp_ne 9 hX d_M_workOf_3 (by decide) (fun c3 => ?_) (fun c3 => absurd c3 (by decide))
    refine r_iload_n (i := 1) hX d_M_workOf_9 rfl rfl ?_
    refine r_bipush (v := nI 8) hX d_M_workOf_10 (by decide) ?_
    refine r_icmp_le 31 hX d_M_workOf_12 (by decide) (fun c12 => ?_) (fun c12 => absurd c12 (by decide))
    refine r_iconst (v := nI 0) hX d_M_workOf_31 (by decide) ?_
    refine r_istore hX d_M_workOf_32 (by decide) ?_
    refine r_iconst (v := nI 1) hX d_M_workOf_34 (by decide) ?_
    refine r_istore hX d_M_workOf_35 (by decide) ?_
    refine r_aload_n (i := 0) hX d_M_workOf_37 rfl rfl ?_
    refine r_iload_n (i := 1) hX d_M_workOf_38 rfl rfl ?_
    refine r_callVwi (q0 := 0) hX d_M_workOf_39 cw_M_namesA ml_M_79 (c_M_namesA 4 (by decide)) (Or.inl rfl) rfl rfl rfl rfl (by decide) (Nat.le_of_ble_eq_true rfl) (fun _ => rfl) (fun _ _ => ?_)
    refine r_if_eq 56 hX d_M_workOf_42 (by decide) (fun c42 => ?_) (fun c42 => absurd c42 (by decide))
    refine r_aload_n (i := 0) hX d_M_workOf_56 rfl rfl ?_
    refine r_iload_n (i := 1) hX d_M_workOf_57 rfl rfl ?_
    refine r_callVwi (q0 := 0) hX d_M_workOf_58 cw_M_namesB ml_M_82 (c_M_namesB 4 (by decide)) (Or.inl rfl) rfl rfl rfl rfl (by decide) (Nat.le_of_ble_eq_true rfl) (fun _ => rfl) (fun _ _ => ?_)
    refine r_if_eq 91 hX d_M_workOf_61 (by decide) (fun c61 => ?_) (fun c61 => absurd c61 (by decide))
    refine r_iload_n (i := 1) hX d_M_workOf_91 rfl rfl ?_
    refine r_bipush (v := nI 19) hX d_M_workOf_92 (by decide) ?_
    refine r_icmp_ne 109 hX d_M_workOf_94 (by decide) (fun c94 => ?_) (fun c94 => absurd c94 (by decide))
    refine r_iload_n (i := 1) hX d_M_workOf_109 rfl rfl ?_
    refine r_bipush (v := nI 14) hX d_M_workOf_110 (by decide) ?_
    refine r_icmp_ne 123 hX d_M_workOf_112 (by decide) (fun c112 => ?_) (fun c112 => absurd c112 (by decide))
    refine r_iload hX d_M_workOf_123 rfl ?_
    exact r_iret () hX hF d_M_workOf_125 trivial (by simp [wkF, wkP]) rfl
  · skip
    refine r_iload_n (i := 1) hX d_M_workOf_0 rfl rfl ?_
    refine r_bipush (v := nI 7) hX d_M_workOf_1 (by decide) ?_
    refine r_icmp_ne 9 hX d_M_workOf_3 (by decide) (fun c3 => ?_) (fun c3 => absurd c3 (by decide))
    refine r_iload_n (i := 1) hX d_M_workOf_9 rfl rfl ?_
    refine r_bipush (v := nI 8) hX d_M_workOf_10 (by decide) ?_
    refine r_icmp_le 31 hX d_M_workOf_12 (by decide) (fun c12 => ?_) (fun c12 => absurd c12 (by decide))
    refine r_iconst (v := nI 0) hX d_M_workOf_31 (by decide) ?_
    refine r_istore hX d_M_workOf_32 (by decide) ?_
    refine r_iconst (v := nI 1) hX d_M_workOf_34 (by decide) ?_
    refine r_istore hX d_M_workOf_35 (by decide) ?_
    refine r_aload_n (i := 0) hX d_M_workOf_37 rfl rfl ?_
    refine r_iload_n (i := 1) hX d_M_workOf_38 rfl rfl ?_
    refine r_callVwi (q0 := 0) hX d_M_workOf_39 cw_M_namesA ml_M_79 (c_M_namesA 5 (by decide)) (Or.inl rfl) rfl rfl rfl rfl (by decide) (Nat.le_of_ble_eq_true rfl) (fun _ => rfl) (fun _ _ => ?_)
    refine r_if_eq 56 hX d_M_workOf_42 (by decide) (fun c42 => ?_) (fun c42 => absurd c42 (by decide))
    refine r_aload_n (i := 0) hX d_M_workOf_56 rfl rfl ?_
    refine r_iload_n (i := 1) hX d_M_workOf_57 rfl rfl ?_
    refine r_callVwi (q0 := 0) hX d_M_workOf_58 cw_M_namesB ml_M_82 (c_M_namesB 5 (by decide)) (Or.inl rfl) rfl rfl rfl rfl (by decide) (Nat.le_of_ble_eq_true rfl) (fun _ => rfl) (fun _ _ => ?_)
    refine r_if_eq 91 hX d_M_workOf_61 (by decide) (fun c61 => ?_) (fun c61 => absurd c61 (by decide))
    refine r_iload_n (i := 1) hX d_M_workOf_91 rfl rfl ?_
    refine r_bipush (v := nI 19) hX d_M_workOf_92 (by decide) ?_
    refine r_icmp_ne 109 hX d_M_workOf_94 (by decide) (fun c94 => ?_) (fun c94 => absurd c94 (by decide))
    refine r_iload_n (i := 1) hX d_M_workOf_109 rfl rfl ?_
    refine r_bipush (v := nI 14) hX d_M_workOf_110 (by decide) ?_
    refine r_icmp_ne 123 hX d_M_workOf_112 (by decide) (fun c112 => ?_) (fun c112 => absurd c112 (by decide))
    refine r_iload hX d_M_workOf_123 rfl ?_
    exact r_iret () hX hF d_M_workOf_125 trivial (by simp [wkF, wkP]) rfl
  · skip
    refine r_iload_n (i := 1) hX d_M_workOf_0 rfl rfl ?_
    refine r_bipush (v := nI 7) hX d_M_workOf_1 (by decide) ?_
    refine r_icmp_ne 9 hX d_M_workOf_3 (by decide) (fun c3 => ?_) (fun c3 => absurd c3 (by decide))
    refine r_iload_n (i := 1) hX d_M_workOf_9 rfl rfl ?_
    refine r_bipush (v := nI 8) hX d_M_workOf_10 (by decide) ?_
    refine r_icmp_le 31 hX d_M_workOf_12 (by decide) (fun c12 => ?_) (fun c12 => absurd c12 (by decide))
    refine r_iconst (v := nI 0) hX d_M_workOf_31 (by decide) ?_
    refine r_istore hX d_M_workOf_32 (by decide) ?_
    refine r_iconst (v := nI 1) hX d_M_workOf_34 (by decide) ?_
    refine r_istore hX d_M_workOf_35 (by decide) ?_
    refine r_aload_n (i := 0) hX d_M_workOf_37 rfl rfl ?_
    refine r_iload_n (i := 1) hX d_M_workOf_38 rfl rfl ?_
    refine r_callVwi (q0 := 0) hX d_M_workOf_39 cw_M_namesA ml_M_79 (c_M_namesA 6 (by decide)) (Or.inl rfl) rfl rfl rfl rfl (by decide) (Nat.le_of_ble_eq_true rfl) (fun _ => rfl) (fun _ _ => ?_)
    refine r_if_eq 56 hX d_M_workOf_42 (by decide) (fun c42 => ?_) (fun c42 => absurd c42 (by decide))
    refine r_aload_n (i := 0) hX d_M_workOf_56 rfl rfl ?_
    refine r_iload_n (i := 1) hX d_M_workOf_57 rfl rfl ?_
    refine r_callVwi (q0 := 0) hX d_M_workOf_58 cw_M_namesB ml_M_82 (c_M_namesB 6 (by decide)) (Or.inl rfl) rfl rfl rfl rfl (by decide) (Nat.le_of_ble_eq_true rfl) (fun _ => rfl) (fun _ _ => ?_)
    refine r_if_eq 91 hX d_M_workOf_61 (by decide) (fun c61 => ?_) (fun c61 => absurd c61 (by decide))
    refine r_iload_n (i := 1) hX d_M_workOf_91 rfl rfl ?_
    refine r_bipush (v := nI 19) hX d_M_workOf_92 (by decide) ?_
    refine r_icmp_ne 109 hX d_M_workOf_94 (by decide) (fun c94 => ?_) (fun c94 => absurd c94 (by decide))
    refine r_iload_n (i := 1) hX d_M_workOf_109 rfl rfl ?_
    refine r_bipush (v := nI 14) hX d_M_workOf_110 (by decide) ?_
    refine r_icmp_ne 123 hX d_M_workOf_112 (by decide) (fun c112 => ?_) (fun c112 => absurd c112 (by decide))
    refine r_iload hX d_M_workOf_123 rfl ?_
    exact r_iret () hX hF d_M_workOf_125 trivial (by simp [wkF, wkP]) rfl
  · skip
    refine r_iload_n (i := 1) hX d_M_workOf_0 rfl rfl ?_
    refine r_bipush (v := nI 7) hX d_M_workOf_1 (by decide) ?_
    refine r_icmp_ne 9 hX d_M_workOf_3 (by decide) (fun c3 => absurd c3 (by decide)) (fun c3 => ?_)
    refine r_bipush (v := nI 8) hX d_M_workOf_6 (by decide) ?_
    exact r_iret () hX hF d_M_workOf_8 trivial (by simp [wkF]) rfl
  · obtain ⟨ja, hja, rfl⟩ := hab.1 (by decide)
    refine r_iload_n (i := 1) hX d_M_workOf_0 rfl rfl ?_
    refine r_bipush (v := nI 7) hX d_M_workOf_1 (by decide) ?_
    refine r_icmp_ne 9 hX d_M_workOf_3 (by decide) (fun c3 => ?_) (fun c3 => absurd c3 (by decide))
    refine r_iload_n (i := 1) hX d_M_workOf_9 rfl rfl ?_
    refine r_bipush (v := nI 8) hX d_M_workOf_10 (by decide) ?_
    refine r_icmp_le 31 hX d_M_workOf_12 (by decide) (fun c12 => ?_) (fun c12 => absurd c12 (by decide))
    refine r_iconst (v := nI 0) hX d_M_workOf_31 (by decide) ?_
    refine r_istore hX d_M_workOf_32 (by decide) ?_
    refine r_iconst (v := nI 1) hX d_M_workOf_34 (by decide) ?_
    refine r_istore hX d_M_workOf_35 (by decide) ?_
    refine r_aload_n (i := 0) hX d_M_workOf_37 rfl rfl ?_
    refine r_iload_n (i := 1) hX d_M_workOf_38 rfl rfl ?_
    refine r_callVwi (q0 := 0) hX d_M_workOf_39 cw_M_namesA ml_M_79 (c_M_namesA 8 (by decide)) (Or.inl rfl) rfl rfl rfl rfl (by decide) (Nat.le_of_ble_eq_true rfl) (fun _ => rfl) (fun _ _ => ?_)
    refine r_if_eq 56 hX d_M_workOf_42 (by decide) (fun c42 => absurd c42 (by decide)) (fun c42 => ?_)
    refine r_iload hX d_M_workOf_45 rfl ?_
    refine r_aload_n (i := 0) hX d_M_workOf_47 rfl rfl ?_
    refine r_get 0 11 hX d_M_workOf_48 rfl rfl fi_M (by decide) fl_M_44 rfl rfl ?_
    refine r_iload_n (i := 2) hX d_M_workOf_51 rfl rfl ?_
    refine r_iald 8 0 (ja) hX d_M_workOf_52 rfl rfl rfl (by omega) (by decide) ?_
    refine r_iadd hX d_M_workOf_53 ?_
    refine r_istore hX d_M_workOf_54 (by decide) ?_
    refine r_aload_n (i := 0) hX d_M_workOf_56 rfl rfl ?_
    refine r_iload_n (i := 1) hX d_M_workOf_57 rfl rfl ?_
    refine r_callVwi (q0 := 0) hX d_M_workOf_58 cw_M_namesB ml_M_82 (c_M_namesB 8 (by decide)) (Or.inl rfl) rfl rfl rfl rfl (by decide) (Nat.le_of_ble_eq_true rfl) (fun _ => rfl) (fun _ _ => ?_)
    refine r_if_eq 91 hX d_M_workOf_61 (by decide) (fun c61 => ?_) (fun c61 => absurd c61 (by decide))
    refine r_iload_n (i := 1) hX d_M_workOf_91 rfl rfl ?_
    refine r_bipush (v := nI 19) hX d_M_workOf_92 (by decide) ?_
    refine r_icmp_ne 109 hX d_M_workOf_94 (by decide) (fun c94 => ?_) (fun c94 => absurd c94 (by decide))
    refine r_iload_n (i := 1) hX d_M_workOf_109 rfl rfl ?_
    refine r_bipush (v := nI 14) hX d_M_workOf_110 (by decide) ?_
    refine r_icmp_ne 123 hX d_M_workOf_112 (by decide) (fun c112 => ?_) (fun c112 => absurd c112 (by decide))
    refine r_iload hX d_M_workOf_123 rfl ?_
    exact r_iret () hX hF d_M_workOf_125 trivial (by simp [wkF, wkP, opN_nI (show ja < 2 ^ 31 by omega)]) rfl
  · obtain ⟨ja, hja, rfl⟩ := hab.1 (by decide)
    obtain ⟨jb, hjb, rfl⟩ := hab.2.1 (by decide)
    refine r_iload_n (i := 1) hX d_M_workOf_0 rfl rfl ?_
    refine r_bipush (v := nI 7) hX d_M_workOf_1 (by decide) ?_
    refine r_icmp_ne 9 hX d_M_workOf_3 (by decide) (fun c3 => ?_) (fun c3 => absurd c3 (by decide))
    refine r_iload_n (i := 1) hX d_M_workOf_9 rfl rfl ?_
    refine r_bipush (v := nI 8) hX d_M_workOf_10 (by decide) ?_
    refine r_icmp_le 31 hX d_M_workOf_12 (by decide) (fun c12 => absurd c12 (by decide)) (fun c12 => ?_)
    refine r_iload_n (i := 1) hX d_M_workOf_15 rfl rfl ?_
    refine r_bipush (v := nI 17) hX d_M_workOf_16 (by decide) ?_
    refine r_icmp_ge 31 hX d_M_workOf_18 (by decide) (fun c18 => absurd c18 (by decide)) (fun c18 => ?_)
    refine r_iload_n (i := 1) hX d_M_workOf_21 rfl rfl ?_
    refine r_bipush (v := nI 15) hX d_M_workOf_22 (by decide) ?_
    refine r_icmp_eq 31 hX d_M_workOf_24 (by decide) (fun c24 => absurd c24 (by decide)) (fun c24 => ?_)
    refine r_iconst (v := nI 1) hX d_M_workOf_27 (by decide) ?_
    refine r_goto 32 hX d_M_workOf_28 (by decide) ?_
    refine r_istore hX d_M_workOf_32 (by decide) ?_
    refine r_iconst (v := nI 1) hX d_M_workOf_34 (by decide) ?_
    refine r_istore hX d_M_workOf_35 (by decide) ?_
    refine r_aload_n (i := 0) hX d_M_workOf_37 rfl rfl ?_
    refine r_iload_n (i := 1) hX d_M_workOf_38 rfl rfl ?_
    refine r_callVwi (q0 := 0) hX d_M_workOf_39 cw_M_namesA ml_M_79 (c_M_namesA 9 (by decide)) (Or.inl rfl) rfl rfl rfl rfl (by decide) (Nat.le_of_ble_eq_true rfl) (fun _ => rfl) (fun _ _ => ?_)
    refine r_if_eq 56 hX d_M_workOf_42 (by decide) (fun c42 => absurd c42 (by decide)) (fun c42 => ?_)
    refine r_iload hX d_M_workOf_45 rfl ?_
    refine r_aload_n (i := 0) hX d_M_workOf_47 rfl rfl ?_
    refine r_get 0 11 hX d_M_workOf_48 rfl rfl fi_M (by decide) fl_M_44 rfl rfl ?_
    refine r_iload_n (i := 2) hX d_M_workOf_51 rfl rfl ?_
    refine r_iald 8 0 (ja) hX d_M_workOf_52 rfl rfl rfl (by omega) (by decide) ?_
    refine r_iadd hX d_M_workOf_53 ?_
    refine r_istore hX d_M_workOf_54 (by decide) ?_
    refine r_aload_n (i := 0) hX d_M_workOf_56 rfl rfl ?_
    refine r_iload_n (i := 1) hX d_M_workOf_57 rfl rfl ?_
    refine r_callVwi (q0 := 0) hX d_M_workOf_58 cw_M_namesB ml_M_82 (c_M_namesB 9 (by decide)) (Or.inl rfl) rfl rfl rfl rfl (by decide) (Nat.le_of_ble_eq_true rfl) (fun _ => rfl) (fun _ _ => ?_)
    refine r_if_eq 91 hX d_M_workOf_61 (by decide) (fun c61 => absurd c61 (by decide)) (fun c61 => ?_)
    refine r_iload hX d_M_workOf_64 rfl ?_
    refine r_aload_n (i := 0) hX d_M_workOf_66 rfl rfl ?_
    refine r_get 0 11 hX d_M_workOf_67 rfl rfl fi_M (by decide) fl_M_44 rfl rfl ?_
    refine r_iload_n (i := 3) hX d_M_workOf_70 rfl rfl ?_
    refine r_iald 8 0 (jb) hX d_M_workOf_71 rfl rfl rfl (by omega) (by decide) ?_
    refine r_iload hX d_M_workOf_72 rfl ?_
    refine r_if_eq 86 hX d_M_workOf_74 (by decide) (fun c74 => absurd c74 (by decide)) (fun c74 => ?_)
    refine r_aload_n (i := 0) hX d_M_workOf_77 rfl rfl ?_
    refine r_get 0 9 hX d_M_workOf_78 rfl rfl fi_M (by decide) fl_M_38 rfl rfl ?_
    refine r_iload_n (i := 2) hX d_M_workOf_81 rfl rfl ?_
    refine r_iald 6 0 (ja) hX d_M_workOf_82 rfl rfl rfl (by omega) (by decide) ?_
    refine r_goto 87 hX d_M_workOf_83 (by decide) ?_
    refine r_imul hX d_M_workOf_87 ?_
    refine r_iadd hX d_M_workOf_88 ?_
    refine r_istore hX d_M_workOf_89 (by decide) ?_
    refine r_iload_n (i := 1) hX d_M_workOf_91 rfl rfl ?_
    refine r_bipush (v := nI 19) hX d_M_workOf_92 (by decide) ?_
    refine r_icmp_ne 109 hX d_M_workOf_94 (by decide) (fun c94 => ?_) (fun c94 => absurd c94 (by decide))
    refine r_iload_n (i := 1) hX d_M_workOf_109 rfl rfl ?_
    refine r_bipush (v := nI 14) hX d_M_workOf_110 (by decide) ?_
    refine r_icmp_ne 123 hX d_M_workOf_112 (by decide) (fun c112 => ?_) (fun c112 => absurd c112 (by decide))
    refine r_iload hX d_M_workOf_123 rfl ?_
    exact r_iret () hX hF d_M_workOf_125 trivial (by simp [wkF, wkP, opN_nI (show ja < 2 ^ 31 by omega), opN_nI (show jb < 2 ^ 31 by omega)]; rw [Int32.mul_comm]) rfl
  · obtain ⟨ja, hja, rfl⟩ := hab.1 (by decide)
    obtain ⟨jb, hjb, rfl⟩ := hab.2.1 (by decide)
    refine r_iload_n (i := 1) hX d_M_workOf_0 rfl rfl ?_
    refine r_bipush (v := nI 7) hX d_M_workOf_1 (by decide) ?_
    refine r_icmp_ne 9 hX d_M_workOf_3 (by decide) (fun c3 => ?_) (fun c3 => absurd c3 (by decide))
    refine r_iload_n (i := 1) hX d_M_workOf_9 rfl rfl ?_
    refine r_bipush (v := nI 8) hX d_M_workOf_10 (by decide) ?_
    refine r_icmp_le 31 hX d_M_workOf_12 (by decide) (fun c12 => absurd c12 (by decide)) (fun c12 => ?_)
    refine r_iload_n (i := 1) hX d_M_workOf_15 rfl rfl ?_
    refine r_bipush (v := nI 17) hX d_M_workOf_16 (by decide) ?_
    refine r_icmp_ge 31 hX d_M_workOf_18 (by decide) (fun c18 => absurd c18 (by decide)) (fun c18 => ?_)
    refine r_iload_n (i := 1) hX d_M_workOf_21 rfl rfl ?_
    refine r_bipush (v := nI 15) hX d_M_workOf_22 (by decide) ?_
    refine r_icmp_eq 31 hX d_M_workOf_24 (by decide) (fun c24 => absurd c24 (by decide)) (fun c24 => ?_)
    refine r_iconst (v := nI 1) hX d_M_workOf_27 (by decide) ?_
    refine r_goto 32 hX d_M_workOf_28 (by decide) ?_
    refine r_istore hX d_M_workOf_32 (by decide) ?_
    refine r_iconst (v := nI 1) hX d_M_workOf_34 (by decide) ?_
    refine r_istore hX d_M_workOf_35 (by decide) ?_
    refine r_aload_n (i := 0) hX d_M_workOf_37 rfl rfl ?_
    refine r_iload_n (i := 1) hX d_M_workOf_38 rfl rfl ?_
    refine r_callVwi (q0 := 0) hX d_M_workOf_39 cw_M_namesA ml_M_79 (c_M_namesA 10 (by decide)) (Or.inl rfl) rfl rfl rfl rfl (by decide) (Nat.le_of_ble_eq_true rfl) (fun _ => rfl) (fun _ _ => ?_)
    refine r_if_eq 56 hX d_M_workOf_42 (by decide) (fun c42 => absurd c42 (by decide)) (fun c42 => ?_)
    refine r_iload hX d_M_workOf_45 rfl ?_
    refine r_aload_n (i := 0) hX d_M_workOf_47 rfl rfl ?_
    refine r_get 0 11 hX d_M_workOf_48 rfl rfl fi_M (by decide) fl_M_44 rfl rfl ?_
    refine r_iload_n (i := 2) hX d_M_workOf_51 rfl rfl ?_
    refine r_iald 8 0 (ja) hX d_M_workOf_52 rfl rfl rfl (by omega) (by decide) ?_
    refine r_iadd hX d_M_workOf_53 ?_
    refine r_istore hX d_M_workOf_54 (by decide) ?_
    refine r_aload_n (i := 0) hX d_M_workOf_56 rfl rfl ?_
    refine r_iload_n (i := 1) hX d_M_workOf_57 rfl rfl ?_
    refine r_callVwi (q0 := 0) hX d_M_workOf_58 cw_M_namesB ml_M_82 (c_M_namesB 10 (by decide)) (Or.inl rfl) rfl rfl rfl rfl (by decide) (Nat.le_of_ble_eq_true rfl) (fun _ => rfl) (fun _ _ => ?_)
    refine r_if_eq 91 hX d_M_workOf_61 (by decide) (fun c61 => absurd c61 (by decide)) (fun c61 => ?_)
    refine r_iload hX d_M_workOf_64 rfl ?_
    refine r_aload_n (i := 0) hX d_M_workOf_66 rfl rfl ?_
    refine r_get 0 11 hX d_M_workOf_67 rfl rfl fi_M (by decide) fl_M_44 rfl rfl ?_
    refine r_iload_n (i := 3) hX d_M_workOf_70 rfl rfl ?_
    refine r_iald 8 0 (jb) hX d_M_workOf_71 rfl rfl rfl (by omega) (by decide) ?_
    refine r_iload hX d_M_workOf_72 rfl ?_
    refine r_if_eq 86 hX d_M_workOf_74 (by decide) (fun c74 => absurd c74 (by decide)) (fun c74 => ?_)
    refine r_aload_n (i := 0) hX d_M_workOf_77 rfl rfl ?_
    refine r_get 0 9 hX d_M_workOf_78 rfl rfl fi_M (by decide) fl_M_38 rfl rfl ?_
    refine r_iload_n (i := 2) hX d_M_workOf_81 rfl rfl ?_
    refine r_iald 6 0 (ja) hX d_M_workOf_82 rfl rfl rfl (by omega) (by decide) ?_
    refine r_goto 87 hX d_M_workOf_83 (by decide) ?_
    refine r_imul hX d_M_workOf_87 ?_
    refine r_iadd hX d_M_workOf_88 ?_
    refine r_istore hX d_M_workOf_89 (by decide) ?_
    refine r_iload_n (i := 1) hX d_M_workOf_91 rfl rfl ?_
    refine r_bipush (v := nI 19) hX d_M_workOf_92 (by decide) ?_
    refine r_icmp_ne 109 hX d_M_workOf_94 (by decide) (fun c94 => ?_) (fun c94 => absurd c94 (by decide))
    refine r_iload_n (i := 1) hX d_M_workOf_109 rfl rfl ?_
    refine r_bipush (v := nI 14) hX d_M_workOf_110 (by decide) ?_
    refine r_icmp_ne 123 hX d_M_workOf_112 (by decide) (fun c112 => ?_) (fun c112 => absurd c112 (by decide))
    refine r_iload hX d_M_workOf_123 rfl ?_
    exact r_iret () hX hF d_M_workOf_125 trivial (by simp [wkF, wkP, opN_nI (show ja < 2 ^ 31 by omega), opN_nI (show jb < 2 ^ 31 by omega)]; rw [Int32.mul_comm]) rfl
  · obtain ⟨ja, hja, rfl⟩ := hab.1 (by decide)
    obtain ⟨jb, hjb, rfl⟩ := hab.2.1 (by decide)
    refine r_iload_n (i := 1) hX d_M_workOf_0 rfl rfl ?_
    refine r_bipush (v := nI 7) hX d_M_workOf_1 (by decide) ?_
    refine r_icmp_ne 9 hX d_M_workOf_3 (by decide) (fun c3 => ?_) (fun c3 => absurd c3 (by decide))
    refine r_iload_n (i := 1) hX d_M_workOf_9 rfl rfl ?_
    refine r_bipush (v := nI 8) hX d_M_workOf_10 (by decide) ?_
    refine r_icmp_le 31 hX d_M_workOf_12 (by decide) (fun c12 => absurd c12 (by decide)) (fun c12 => ?_)
    refine r_iload_n (i := 1) hX d_M_workOf_15 rfl rfl ?_
    refine r_bipush (v := nI 17) hX d_M_workOf_16 (by decide) ?_
    refine r_icmp_ge 31 hX d_M_workOf_18 (by decide) (fun c18 => absurd c18 (by decide)) (fun c18 => ?_)
    refine r_iload_n (i := 1) hX d_M_workOf_21 rfl rfl ?_
    refine r_bipush (v := nI 15) hX d_M_workOf_22 (by decide) ?_
    refine r_icmp_eq 31 hX d_M_workOf_24 (by decide) (fun c24 => absurd c24 (by decide)) (fun c24 => ?_)
    refine r_iconst (v := nI 1) hX d_M_workOf_27 (by decide) ?_
    refine r_goto 32 hX d_M_workOf_28 (by decide) ?_
    refine r_istore hX d_M_workOf_32 (by decide) ?_
    refine r_iconst (v := nI 1) hX d_M_workOf_34 (by decide) ?_
    refine r_istore hX d_M_workOf_35 (by decide) ?_
    refine r_aload_n (i := 0) hX d_M_workOf_37 rfl rfl ?_
    refine r_iload_n (i := 1) hX d_M_workOf_38 rfl rfl ?_
    refine r_callVwi (q0 := 0) hX d_M_workOf_39 cw_M_namesA ml_M_79 (c_M_namesA 11 (by decide)) (Or.inl rfl) rfl rfl rfl rfl (by decide) (Nat.le_of_ble_eq_true rfl) (fun _ => rfl) (fun _ _ => ?_)
    refine r_if_eq 56 hX d_M_workOf_42 (by decide) (fun c42 => absurd c42 (by decide)) (fun c42 => ?_)
    refine r_iload hX d_M_workOf_45 rfl ?_
    refine r_aload_n (i := 0) hX d_M_workOf_47 rfl rfl ?_
    refine r_get 0 11 hX d_M_workOf_48 rfl rfl fi_M (by decide) fl_M_44 rfl rfl ?_
    refine r_iload_n (i := 2) hX d_M_workOf_51 rfl rfl ?_
    refine r_iald 8 0 (ja) hX d_M_workOf_52 rfl rfl rfl (by omega) (by decide) ?_
    refine r_iadd hX d_M_workOf_53 ?_
    refine r_istore hX d_M_workOf_54 (by decide) ?_
    refine r_aload_n (i := 0) hX d_M_workOf_56 rfl rfl ?_
    refine r_iload_n (i := 1) hX d_M_workOf_57 rfl rfl ?_
    refine r_callVwi (q0 := 0) hX d_M_workOf_58 cw_M_namesB ml_M_82 (c_M_namesB 11 (by decide)) (Or.inl rfl) rfl rfl rfl rfl (by decide) (Nat.le_of_ble_eq_true rfl) (fun _ => rfl) (fun _ _ => ?_)
    refine r_if_eq 91 hX d_M_workOf_61 (by decide) (fun c61 => absurd c61 (by decide)) (fun c61 => ?_)
    refine r_iload hX d_M_workOf_64 rfl ?_
    refine r_aload_n (i := 0) hX d_M_workOf_66 rfl rfl ?_
    refine r_get 0 11 hX d_M_workOf_67 rfl rfl fi_M (by decide) fl_M_44 rfl rfl ?_
    refine r_iload_n (i := 3) hX d_M_workOf_70 rfl rfl ?_
    refine r_iald 8 0 (jb) hX d_M_workOf_71 rfl rfl rfl (by omega) (by decide) ?_
    refine r_iload hX d_M_workOf_72 rfl ?_
    refine r_if_eq 86 hX d_M_workOf_74 (by decide) (fun c74 => absurd c74 (by decide)) (fun c74 => ?_)
    refine r_aload_n (i := 0) hX d_M_workOf_77 rfl rfl ?_
    refine r_get 0 9 hX d_M_workOf_78 rfl rfl fi_M (by decide) fl_M_38 rfl rfl ?_
    refine r_iload_n (i := 2) hX d_M_workOf_81 rfl rfl ?_
    refine r_iald 6 0 (ja) hX d_M_workOf_82 rfl rfl rfl (by omega) (by decide) ?_
    refine r_goto 87 hX d_M_workOf_83 (by decide) ?_
    refine r_imul hX d_M_workOf_87 ?_
    refine r_iadd hX d_M_workOf_88 ?_
    refine r_istore hX d_M_workOf_89 (by decide) ?_
    refine r_iload_n (i := 1) hX d_M_workOf_91 rfl rfl ?_
    refine r_bipush (v := nI 19) hX d_M_workOf_92 (by decide) ?_
    refine r_icmp_ne 109 hX d_M_workOf_94 (by decide) (fun c94 => ?_) (fun c94 => absurd c94 (by decide))
    refine r_iload_n (i := 1) hX d_M_workOf_109 rfl rfl ?_
    refine r_bipush (v := nI 14) hX d_M_workOf_110 (by decide) ?_
    refine r_icmp_ne 123 hX d_M_workOf_112 (by decide) (fun c112 => ?_) (fun c112 => absurd c112 (by decide))
    refine r_iload hX d_M_workOf_123 rfl ?_
    exact r_iret () hX hF d_M_workOf_125 trivial (by simp [wkF, wkP, opN_nI (show ja < 2 ^ 31 by omega), opN_nI (show jb < 2 ^ 31 by omega)]; rw [Int32.mul_comm]) rfl
  · obtain ⟨ja, hja, rfl⟩ := hab.1 (by decide)
    obtain ⟨jb, hjb, rfl⟩ := hab.2.1 (by decide)
    refine r_iload_n (i := 1) hX d_M_workOf_0 rfl rfl ?_
    refine r_bipush (v := nI 7) hX d_M_workOf_1 (by decide) ?_
    refine r_icmp_ne 9 hX d_M_workOf_3 (by decide) (fun c3 => ?_) (fun c3 => absurd c3 (by decide))
    refine r_iload_n (i := 1) hX d_M_workOf_9 rfl rfl ?_
    refine r_bipush (v := nI 8) hX d_M_workOf_10 (by decide) ?_
    refine r_icmp_le 31 hX d_M_workOf_12 (by decide) (fun c12 => absurd c12 (by decide)) (fun c12 => ?_)
    refine r_iload_n (i := 1) hX d_M_workOf_15 rfl rfl ?_
    refine r_bipush (v := nI 17) hX d_M_workOf_16 (by decide) ?_
    refine r_icmp_ge 31 hX d_M_workOf_18 (by decide) (fun c18 => absurd c18 (by decide)) (fun c18 => ?_)
    refine r_iload_n (i := 1) hX d_M_workOf_21 rfl rfl ?_
    refine r_bipush (v := nI 15) hX d_M_workOf_22 (by decide) ?_
    refine r_icmp_eq 31 hX d_M_workOf_24 (by decide) (fun c24 => absurd c24 (by decide)) (fun c24 => ?_)
    refine r_iconst (v := nI 1) hX d_M_workOf_27 (by decide) ?_
    refine r_goto 32 hX d_M_workOf_28 (by decide) ?_
    refine r_istore hX d_M_workOf_32 (by decide) ?_
    refine r_iconst (v := nI 1) hX d_M_workOf_34 (by decide) ?_
    refine r_istore hX d_M_workOf_35 (by decide) ?_
    refine r_aload_n (i := 0) hX d_M_workOf_37 rfl rfl ?_
    refine r_iload_n (i := 1) hX d_M_workOf_38 rfl rfl ?_
    refine r_callVwi (q0 := 0) hX d_M_workOf_39 cw_M_namesA ml_M_79 (c_M_namesA 12 (by decide)) (Or.inl rfl) rfl rfl rfl rfl (by decide) (Nat.le_of_ble_eq_true rfl) (fun _ => rfl) (fun _ _ => ?_)
    refine r_if_eq 56 hX d_M_workOf_42 (by decide) (fun c42 => absurd c42 (by decide)) (fun c42 => ?_)
    refine r_iload hX d_M_workOf_45 rfl ?_
    refine r_aload_n (i := 0) hX d_M_workOf_47 rfl rfl ?_
    refine r_get 0 11 hX d_M_workOf_48 rfl rfl fi_M (by decide) fl_M_44 rfl rfl ?_
    refine r_iload_n (i := 2) hX d_M_workOf_51 rfl rfl ?_
    refine r_iald 8 0 (ja) hX d_M_workOf_52 rfl rfl rfl (by omega) (by decide) ?_
    refine r_iadd hX d_M_workOf_53 ?_
    refine r_istore hX d_M_workOf_54 (by decide) ?_
    refine r_aload_n (i := 0) hX d_M_workOf_56 rfl rfl ?_
    refine r_iload_n (i := 1) hX d_M_workOf_57 rfl rfl ?_
    refine r_callVwi (q0 := 0) hX d_M_workOf_58 cw_M_namesB ml_M_82 (c_M_namesB 12 (by decide)) (Or.inl rfl) rfl rfl rfl rfl (by decide) (Nat.le_of_ble_eq_true rfl) (fun _ => rfl) (fun _ _ => ?_)
    refine r_if_eq 91 hX d_M_workOf_61 (by decide) (fun c61 => absurd c61 (by decide)) (fun c61 => ?_)
    refine r_iload hX d_M_workOf_64 rfl ?_
    refine r_aload_n (i := 0) hX d_M_workOf_66 rfl rfl ?_
    refine r_get 0 11 hX d_M_workOf_67 rfl rfl fi_M (by decide) fl_M_44 rfl rfl ?_
    refine r_iload_n (i := 3) hX d_M_workOf_70 rfl rfl ?_
    refine r_iald 8 0 (jb) hX d_M_workOf_71 rfl rfl rfl (by omega) (by decide) ?_
    refine r_iload hX d_M_workOf_72 rfl ?_
    refine r_if_eq 86 hX d_M_workOf_74 (by decide) (fun c74 => absurd c74 (by decide)) (fun c74 => ?_)
    refine r_aload_n (i := 0) hX d_M_workOf_77 rfl rfl ?_
    refine r_get 0 9 hX d_M_workOf_78 rfl rfl fi_M (by decide) fl_M_38 rfl rfl ?_
    refine r_iload_n (i := 2) hX d_M_workOf_81 rfl rfl ?_
    refine r_iald 6 0 (ja) hX d_M_workOf_82 rfl rfl rfl (by omega) (by decide) ?_
    refine r_goto 87 hX d_M_workOf_83 (by decide) ?_
    refine r_imul hX d_M_workOf_87 ?_
    refine r_iadd hX d_M_workOf_88 ?_
    refine r_istore hX d_M_workOf_89 (by decide) ?_
    refine r_iload_n (i := 1) hX d_M_workOf_91 rfl rfl ?_
    refine r_bipush (v := nI 19) hX d_M_workOf_92 (by decide) ?_
    refine r_icmp_ne 109 hX d_M_workOf_94 (by decide) (fun c94 => ?_) (fun c94 => absurd c94 (by decide))
    refine r_iload_n (i := 1) hX d_M_workOf_109 rfl rfl ?_
    refine r_bipush (v := nI 14) hX d_M_workOf_110 (by decide) ?_
    refine r_icmp_ne 123 hX d_M_workOf_112 (by decide) (fun c112 => ?_) (fun c112 => absurd c112 (by decide))
    refine r_iload hX d_M_workOf_123 rfl ?_
    exact r_iret () hX hF d_M_workOf_125 trivial (by simp [wkF, wkP, opN_nI (show ja < 2 ^ 31 by omega), opN_nI (show jb < 2 ^ 31 by omega)]; rw [Int32.mul_comm]) rfl
  · obtain ⟨ja, hja, rfl⟩ := hab.1 (by decide)
    obtain ⟨jb, hjb, rfl⟩ := hab.2.1 (by decide)
    refine r_iload_n (i := 1) hX d_M_workOf_0 rfl rfl ?_
    refine r_bipush (v := nI 7) hX d_M_workOf_1 (by decide) ?_
    refine r_icmp_ne 9 hX d_M_workOf_3 (by decide) (fun c3 => ?_) (fun c3 => absurd c3 (by decide))
    refine r_iload_n (i := 1) hX d_M_workOf_9 rfl rfl ?_
    refine r_bipush (v := nI 8) hX d_M_workOf_10 (by decide) ?_
    refine r_icmp_le 31 hX d_M_workOf_12 (by decide) (fun c12 => absurd c12 (by decide)) (fun c12 => ?_)
    refine r_iload_n (i := 1) hX d_M_workOf_15 rfl rfl ?_
    refine r_bipush (v := nI 17) hX d_M_workOf_16 (by decide) ?_
    refine r_icmp_ge 31 hX d_M_workOf_18 (by decide) (fun c18 => absurd c18 (by decide)) (fun c18 => ?_)
    refine r_iload_n (i := 1) hX d_M_workOf_21 rfl rfl ?_
    refine r_bipush (v := nI 15) hX d_M_workOf_22 (by decide) ?_
    refine r_icmp_eq 31 hX d_M_workOf_24 (by decide) (fun c24 => absurd c24 (by decide)) (fun c24 => ?_)
    refine r_iconst (v := nI 1) hX d_M_workOf_27 (by decide) ?_
    refine r_goto 32 hX d_M_workOf_28 (by decide) ?_
    refine r_istore hX d_M_workOf_32 (by decide) ?_
    refine r_iconst (v := nI 1) hX d_M_workOf_34 (by decide) ?_
    refine r_istore hX d_M_workOf_35 (by decide) ?_
    refine r_aload_n (i := 0) hX d_M_workOf_37 rfl rfl ?_
    refine r_iload_n (i := 1) hX d_M_workOf_38 rfl rfl ?_
    refine r_callVwi (q0 := 0) hX d_M_workOf_39 cw_M_namesA ml_M_79 (c_M_namesA 13 (by decide)) (Or.inl rfl) rfl rfl rfl rfl (by decide) (Nat.le_of_ble_eq_true rfl) (fun _ => rfl) (fun _ _ => ?_)
    refine r_if_eq 56 hX d_M_workOf_42 (by decide) (fun c42 => absurd c42 (by decide)) (fun c42 => ?_)
    refine r_iload hX d_M_workOf_45 rfl ?_
    refine r_aload_n (i := 0) hX d_M_workOf_47 rfl rfl ?_
    refine r_get 0 11 hX d_M_workOf_48 rfl rfl fi_M (by decide) fl_M_44 rfl rfl ?_
    refine r_iload_n (i := 2) hX d_M_workOf_51 rfl rfl ?_
    refine r_iald 8 0 (ja) hX d_M_workOf_52 rfl rfl rfl (by omega) (by decide) ?_
    refine r_iadd hX d_M_workOf_53 ?_
    refine r_istore hX d_M_workOf_54 (by decide) ?_
    refine r_aload_n (i := 0) hX d_M_workOf_56 rfl rfl ?_
    refine r_iload_n (i := 1) hX d_M_workOf_57 rfl rfl ?_
    refine r_callVwi (q0 := 0) hX d_M_workOf_58 cw_M_namesB ml_M_82 (c_M_namesB 13 (by decide)) (Or.inl rfl) rfl rfl rfl rfl (by decide) (Nat.le_of_ble_eq_true rfl) (fun _ => rfl) (fun _ _ => ?_)
    refine r_if_eq 91 hX d_M_workOf_61 (by decide) (fun c61 => absurd c61 (by decide)) (fun c61 => ?_)
    refine r_iload hX d_M_workOf_64 rfl ?_
    refine r_aload_n (i := 0) hX d_M_workOf_66 rfl rfl ?_
    refine r_get 0 11 hX d_M_workOf_67 rfl rfl fi_M (by decide) fl_M_44 rfl rfl ?_
    refine r_iload_n (i := 3) hX d_M_workOf_70 rfl rfl ?_
    refine r_iald 8 0 (jb) hX d_M_workOf_71 rfl rfl rfl (by omega) (by decide) ?_
    refine r_iload hX d_M_workOf_72 rfl ?_
    refine r_if_eq 86 hX d_M_workOf_74 (by decide) (fun c74 => absurd c74 (by decide)) (fun c74 => ?_)
    refine r_aload_n (i := 0) hX d_M_workOf_77 rfl rfl ?_
    refine r_get 0 9 hX d_M_workOf_78 rfl rfl fi_M (by decide) fl_M_38 rfl rfl ?_
    refine r_iload_n (i := 2) hX d_M_workOf_81 rfl rfl ?_
    refine r_iald 6 0 (ja) hX d_M_workOf_82 rfl rfl rfl (by omega) (by decide) ?_
    refine r_goto 87 hX d_M_workOf_83 (by decide) ?_
    refine r_imul hX d_M_workOf_87 ?_
    refine r_iadd hX d_M_workOf_88 ?_
    refine r_istore hX d_M_workOf_89 (by decide) ?_
    refine r_iload_n (i := 1) hX d_M_workOf_91 rfl rfl ?_
    refine r_bipush (v := nI 19) hX d_M_workOf_92 (by decide) ?_
    refine r_icmp_ne 109 hX d_M_workOf_94 (by decide) (fun c94 => ?_) (fun c94 => absurd c94 (by decide))
    refine r_iload_n (i := 1) hX d_M_workOf_109 rfl rfl ?_
    refine r_bipush (v := nI 14) hX d_M_workOf_110 (by decide) ?_
    refine r_icmp_ne 123 hX d_M_workOf_112 (by decide) (fun c112 => ?_) (fun c112 => absurd c112 (by decide))
    refine r_iload hX d_M_workOf_123 rfl ?_
    exact r_iret () hX hF d_M_workOf_125 trivial (by simp [wkF, wkP, opN_nI (show ja < 2 ^ 31 by omega), opN_nI (show jb < 2 ^ 31 by omega)]; rw [Int32.mul_comm]) rfl
  · obtain ⟨ja, hja, rfl⟩ := hab.1 (by decide)
    obtain ⟨jb, hjb, rfl⟩ := hab.2.1 (by decide)
    refine r_iload_n (i := 1) hX d_M_workOf_0 rfl rfl ?_
    refine r_bipush (v := nI 7) hX d_M_workOf_1 (by decide) ?_
    refine r_icmp_ne 9 hX d_M_workOf_3 (by decide) (fun c3 => ?_) (fun c3 => absurd c3 (by decide))
    refine r_iload_n (i := 1) hX d_M_workOf_9 rfl rfl ?_
    refine r_bipush (v := nI 8) hX d_M_workOf_10 (by decide) ?_
    refine r_icmp_le 31 hX d_M_workOf_12 (by decide) (fun c12 => absurd c12 (by decide)) (fun c12 => ?_)
    refine r_iload_n (i := 1) hX d_M_workOf_15 rfl rfl ?_
    refine r_bipush (v := nI 17) hX d_M_workOf_16 (by decide) ?_
    refine r_icmp_ge 31 hX d_M_workOf_18 (by decide) (fun c18 => absurd c18 (by decide)) (fun c18 => ?_)
    refine r_iload_n (i := 1) hX d_M_workOf_21 rfl rfl ?_
    refine r_bipush (v := nI 15) hX d_M_workOf_22 (by decide) ?_
    refine r_icmp_eq 31 hX d_M_workOf_24 (by decide) (fun c24 => absurd c24 (by decide)) (fun c24 => ?_)
    refine r_iconst (v := nI 1) hX d_M_workOf_27 (by decide) ?_
    refine r_goto 32 hX d_M_workOf_28 (by decide) ?_
    refine r_istore hX d_M_workOf_32 (by decide) ?_
    refine r_iconst (v := nI 1) hX d_M_workOf_34 (by decide) ?_
    refine r_istore hX d_M_workOf_35 (by decide) ?_
    refine r_aload_n (i := 0) hX d_M_workOf_37 rfl rfl ?_
    refine r_iload_n (i := 1) hX d_M_workOf_38 rfl rfl ?_
    refine r_callVwi (q0 := 0) hX d_M_workOf_39 cw_M_namesA ml_M_79 (c_M_namesA 14 (by decide)) (Or.inl rfl) rfl rfl rfl rfl (by decide) (Nat.le_of_ble_eq_true rfl) (fun _ => rfl) (fun _ _ => ?_)
    refine r_if_eq 56 hX d_M_workOf_42 (by decide) (fun c42 => absurd c42 (by decide)) (fun c42 => ?_)
    refine r_iload hX d_M_workOf_45 rfl ?_
    refine r_aload_n (i := 0) hX d_M_workOf_47 rfl rfl ?_
    refine r_get 0 11 hX d_M_workOf_48 rfl rfl fi_M (by decide) fl_M_44 rfl rfl ?_
    refine r_iload_n (i := 2) hX d_M_workOf_51 rfl rfl ?_
    refine r_iald 8 0 (ja) hX d_M_workOf_52 rfl rfl rfl (by omega) (by decide) ?_
    refine r_iadd hX d_M_workOf_53 ?_
    refine r_istore hX d_M_workOf_54 (by decide) ?_
    refine r_aload_n (i := 0) hX d_M_workOf_56 rfl rfl ?_
    refine r_iload_n (i := 1) hX d_M_workOf_57 rfl rfl ?_
    refine r_callVwi (q0 := 0) hX d_M_workOf_58 cw_M_namesB ml_M_82 (c_M_namesB 14 (by decide)) (Or.inl rfl) rfl rfl rfl rfl (by decide) (Nat.le_of_ble_eq_true rfl) (fun _ => rfl) (fun _ _ => ?_)
    refine r_if_eq 91 hX d_M_workOf_61 (by decide) (fun c61 => absurd c61 (by decide)) (fun c61 => ?_)
    refine r_iload hX d_M_workOf_64 rfl ?_
    refine r_aload_n (i := 0) hX d_M_workOf_66 rfl rfl ?_
    refine r_get 0 11 hX d_M_workOf_67 rfl rfl fi_M (by decide) fl_M_44 rfl rfl ?_
    refine r_iload_n (i := 3) hX d_M_workOf_70 rfl rfl ?_
    refine r_iald 8 0 (jb) hX d_M_workOf_71 rfl rfl rfl (by omega) (by decide) ?_
    refine r_iload hX d_M_workOf_72 rfl ?_
    refine r_if_eq 86 hX d_M_workOf_74 (by decide) (fun c74 => absurd c74 (by decide)) (fun c74 => ?_)
    refine r_aload_n (i := 0) hX d_M_workOf_77 rfl rfl ?_
    refine r_get 0 9 hX d_M_workOf_78 rfl rfl fi_M (by decide) fl_M_38 rfl rfl ?_
    refine r_iload_n (i := 2) hX d_M_workOf_81 rfl rfl ?_
    refine r_iald 6 0 (ja) hX d_M_workOf_82 rfl rfl rfl (by omega) (by decide) ?_
    refine r_goto 87 hX d_M_workOf_83 (by decide) ?_
    refine r_imul hX d_M_workOf_87 ?_
    refine r_iadd hX d_M_workOf_88 ?_
    refine r_istore hX d_M_workOf_89 (by decide) ?_
    refine r_iload_n (i := 1) hX d_M_workOf_91 rfl rfl ?_
    refine r_bipush (v := nI 19) hX d_M_workOf_92 (by decide) ?_
    refine r_icmp_ne 109 hX d_M_workOf_94 (by decide) (fun c94 => ?_) (fun c94 => absurd c94 (by decide))
    refine r_iload_n (i := 1) hX d_M_workOf_109 rfl rfl ?_
    refine r_bipush (v := nI 14) hX d_M_workOf_110 (by decide) ?_
    refine r_icmp_ne 123 hX d_M_workOf_112 (by decide) (fun c112 => absurd c112 (by decide)) (fun c112 => ?_)
    refine r_bipush (v := nI 8) hX d_M_workOf_115 (by decide) ?_
    refine r_iload hX d_M_workOf_117 rfl ?_
    refine r_imul hX d_M_workOf_119 ?_
    refine r_goto 125 hX d_M_workOf_120 (by decide) ?_
    exact r_iret () hX hF d_M_workOf_125 trivial (by simp [wkF, wkP, opN_nI (show ja < 2 ^ 31 by omega), opN_nI (show jb < 2 ^ 31 by omega)]; rw [Int32.mul_comm (mf 4 ja)]) rfl
  · obtain ⟨ja, hja, rfl⟩ := hab.1 (by decide)
    obtain ⟨jb, hjb, rfl⟩ := hab.2.1 (by decide)
    refine r_iload_n (i := 1) hX d_M_workOf_0 rfl rfl ?_
    refine r_bipush (v := nI 7) hX d_M_workOf_1 (by decide) ?_
    refine r_icmp_ne 9 hX d_M_workOf_3 (by decide) (fun c3 => ?_) (fun c3 => absurd c3 (by decide))
    refine r_iload_n (i := 1) hX d_M_workOf_9 rfl rfl ?_
    refine r_bipush (v := nI 8) hX d_M_workOf_10 (by decide) ?_
    refine r_icmp_le 31 hX d_M_workOf_12 (by decide) (fun c12 => absurd c12 (by decide)) (fun c12 => ?_)
    refine r_iload_n (i := 1) hX d_M_workOf_15 rfl rfl ?_
    refine r_bipush (v := nI 17) hX d_M_workOf_16 (by decide) ?_
    refine r_icmp_ge 31 hX d_M_workOf_18 (by decide) (fun c18 => absurd c18 (by decide)) (fun c18 => ?_)
    refine r_iload_n (i := 1) hX d_M_workOf_21 rfl rfl ?_
    refine r_bipush (v := nI 15) hX d_M_workOf_22 (by decide) ?_
    refine r_icmp_eq 31 hX d_M_workOf_24 (by decide) (fun c24 => ?_) (fun c24 => absurd c24 (by decide))
    refine r_iconst (v := nI 0) hX d_M_workOf_31 (by decide) ?_
    refine r_istore hX d_M_workOf_32 (by decide) ?_
    refine r_iconst (v := nI 1) hX d_M_workOf_34 (by decide) ?_
    refine r_istore hX d_M_workOf_35 (by decide) ?_
    refine r_aload_n (i := 0) hX d_M_workOf_37 rfl rfl ?_
    refine r_iload_n (i := 1) hX d_M_workOf_38 rfl rfl ?_
    refine r_callVwi (q0 := 0) hX d_M_workOf_39 cw_M_namesA ml_M_79 (c_M_namesA 15 (by decide)) (Or.inl rfl) rfl rfl rfl rfl (by decide) (Nat.le_of_ble_eq_true rfl) (fun _ => rfl) (fun _ _ => ?_)
    refine r_if_eq 56 hX d_M_workOf_42 (by decide) (fun c42 => absurd c42 (by decide)) (fun c42 => ?_)
    refine r_iload hX d_M_workOf_45 rfl ?_
    refine r_aload_n (i := 0) hX d_M_workOf_47 rfl rfl ?_
    refine r_get 0 11 hX d_M_workOf_48 rfl rfl fi_M (by decide) fl_M_44 rfl rfl ?_
    refine r_iload_n (i := 2) hX d_M_workOf_51 rfl rfl ?_
    refine r_iald 8 0 (ja) hX d_M_workOf_52 rfl rfl rfl (by omega) (by decide) ?_
    refine r_iadd hX d_M_workOf_53 ?_
    refine r_istore hX d_M_workOf_54 (by decide) ?_
    refine r_aload_n (i := 0) hX d_M_workOf_56 rfl rfl ?_
    refine r_iload_n (i := 1) hX d_M_workOf_57 rfl rfl ?_
    refine r_callVwi (q0 := 0) hX d_M_workOf_58 cw_M_namesB ml_M_82 (c_M_namesB 15 (by decide)) (Or.inl rfl) rfl rfl rfl rfl (by decide) (Nat.le_of_ble_eq_true rfl) (fun _ => rfl) (fun _ _ => ?_)
    refine r_if_eq 91 hX d_M_workOf_61 (by decide) (fun c61 => absurd c61 (by decide)) (fun c61 => ?_)
    refine r_iload hX d_M_workOf_64 rfl ?_
    refine r_aload_n (i := 0) hX d_M_workOf_66 rfl rfl ?_
    refine r_get 0 11 hX d_M_workOf_67 rfl rfl fi_M (by decide) fl_M_44 rfl rfl ?_
    refine r_iload_n (i := 3) hX d_M_workOf_70 rfl rfl ?_
    refine r_iald 8 0 (jb) hX d_M_workOf_71 rfl rfl rfl (by omega) (by decide) ?_
    refine r_iload hX d_M_workOf_72 rfl ?_
    refine r_if_eq 86 hX d_M_workOf_74 (by decide) (fun c74 => ?_) (fun c74 => absurd c74 (by decide))
    refine r_iconst (v := nI 1) hX d_M_workOf_86 (by decide) ?_
    refine r_imul hX d_M_workOf_87 ?_
    refine r_iadd hX d_M_workOf_88 ?_
    refine r_istore hX d_M_workOf_89 (by decide) ?_
    refine r_iload_n (i := 1) hX d_M_workOf_91 rfl rfl ?_
    refine r_bipush (v := nI 19) hX d_M_workOf_92 (by decide) ?_
    refine r_icmp_ne 109 hX d_M_workOf_94 (by decide) (fun c94 => ?_) (fun c94 => absurd c94 (by decide))
    refine r_iload_n (i := 1) hX d_M_workOf_109 rfl rfl ?_
    refine r_bipush (v := nI 14) hX d_M_workOf_110 (by decide) ?_
    refine r_icmp_ne 123 hX d_M_workOf_112 (by decide) (fun c112 => ?_) (fun c112 => absurd c112 (by decide))
    refine r_iload hX d_M_workOf_123 rfl ?_
    exact r_iret () hX hF d_M_workOf_125 trivial (by simp [wkF, wkP, opN_nI (show ja < 2 ^ 31 by omega), opN_nI (show jb < 2 ^ 31 by omega)]; rw [show ∀ x : Int32, x * nI 1 = x from Int32.mul_one]) rfl
  · obtain ⟨ja, hja, rfl⟩ := hab.1 (by decide)
    obtain ⟨jb, hjb, rfl⟩ := hab.2.1 (by decide)
    refine r_iload_n (i := 1) hX d_M_workOf_0 rfl rfl ?_
    refine r_bipush (v := nI 7) hX d_M_workOf_1 (by decide) ?_
    refine r_icmp_ne 9 hX d_M_workOf_3 (by decide) (fun c3 => ?_) (fun c3 => absurd c3 (by decide))
    refine r_iload_n (i := 1) hX d_M_workOf_9 rfl rfl ?_
    refine r_bipush (v := nI 8) hX d_M_workOf_10 (by decide) ?_
    refine r_icmp_le 31 hX d_M_workOf_12 (by decide) (fun c12 => absurd c12 (by decide)) (fun c12 => ?_)
    refine r_iload_n (i := 1) hX d_M_workOf_15 rfl rfl ?_
    refine r_bipush (v := nI 17) hX d_M_workOf_16 (by decide) ?_
    refine r_icmp_ge 31 hX d_M_workOf_18 (by decide) (fun c18 => absurd c18 (by decide)) (fun c18 => ?_)
    refine r_iload_n (i := 1) hX d_M_workOf_21 rfl rfl ?_
    refine r_bipush (v := nI 15) hX d_M_workOf_22 (by decide) ?_
    refine r_icmp_eq 31 hX d_M_workOf_24 (by decide) (fun c24 => absurd c24 (by decide)) (fun c24 => ?_)
    refine r_iconst (v := nI 1) hX d_M_workOf_27 (by decide) ?_
    refine r_goto 32 hX d_M_workOf_28 (by decide) ?_
    refine r_istore hX d_M_workOf_32 (by decide) ?_
    refine r_iconst (v := nI 1) hX d_M_workOf_34 (by decide) ?_
    refine r_istore hX d_M_workOf_35 (by decide) ?_
    refine r_aload_n (i := 0) hX d_M_workOf_37 rfl rfl ?_
    refine r_iload_n (i := 1) hX d_M_workOf_38 rfl rfl ?_
    refine r_callVwi (q0 := 0) hX d_M_workOf_39 cw_M_namesA ml_M_79 (c_M_namesA 16 (by decide)) (Or.inl rfl) rfl rfl rfl rfl (by decide) (Nat.le_of_ble_eq_true rfl) (fun _ => rfl) (fun _ _ => ?_)
    refine r_if_eq 56 hX d_M_workOf_42 (by decide) (fun c42 => absurd c42 (by decide)) (fun c42 => ?_)
    refine r_iload hX d_M_workOf_45 rfl ?_
    refine r_aload_n (i := 0) hX d_M_workOf_47 rfl rfl ?_
    refine r_get 0 11 hX d_M_workOf_48 rfl rfl fi_M (by decide) fl_M_44 rfl rfl ?_
    refine r_iload_n (i := 2) hX d_M_workOf_51 rfl rfl ?_
    refine r_iald 8 0 (ja) hX d_M_workOf_52 rfl rfl rfl (by omega) (by decide) ?_
    refine r_iadd hX d_M_workOf_53 ?_
    refine r_istore hX d_M_workOf_54 (by decide) ?_
    refine r_aload_n (i := 0) hX d_M_workOf_56 rfl rfl ?_
    refine r_iload_n (i := 1) hX d_M_workOf_57 rfl rfl ?_
    refine r_callVwi (q0 := 0) hX d_M_workOf_58 cw_M_namesB ml_M_82 (c_M_namesB 16 (by decide)) (Or.inl rfl) rfl rfl rfl rfl (by decide) (Nat.le_of_ble_eq_true rfl) (fun _ => rfl) (fun _ _ => ?_)
    refine r_if_eq 91 hX d_M_workOf_61 (by decide) (fun c61 => absurd c61 (by decide)) (fun c61 => ?_)
    refine r_iload hX d_M_workOf_64 rfl ?_
    refine r_aload_n (i := 0) hX d_M_workOf_66 rfl rfl ?_
    refine r_get 0 11 hX d_M_workOf_67 rfl rfl fi_M (by decide) fl_M_44 rfl rfl ?_
    refine r_iload_n (i := 3) hX d_M_workOf_70 rfl rfl ?_
    refine r_iald 8 0 (jb) hX d_M_workOf_71 rfl rfl rfl (by omega) (by decide) ?_
    refine r_iload hX d_M_workOf_72 rfl ?_
    refine r_if_eq 86 hX d_M_workOf_74 (by decide) (fun c74 => absurd c74 (by decide)) (fun c74 => ?_)
    refine r_aload_n (i := 0) hX d_M_workOf_77 rfl rfl ?_
    refine r_get 0 9 hX d_M_workOf_78 rfl rfl fi_M (by decide) fl_M_38 rfl rfl ?_
    refine r_iload_n (i := 2) hX d_M_workOf_81 rfl rfl ?_
    refine r_iald 6 0 (ja) hX d_M_workOf_82 rfl rfl rfl (by omega) (by decide) ?_
    refine r_goto 87 hX d_M_workOf_83 (by decide) ?_
    refine r_imul hX d_M_workOf_87 ?_
    refine r_iadd hX d_M_workOf_88 ?_
    refine r_istore hX d_M_workOf_89 (by decide) ?_
    refine r_iload_n (i := 1) hX d_M_workOf_91 rfl rfl ?_
    refine r_bipush (v := nI 19) hX d_M_workOf_92 (by decide) ?_
    refine r_icmp_ne 109 hX d_M_workOf_94 (by decide) (fun c94 => ?_) (fun c94 => absurd c94 (by decide))
    refine r_iload_n (i := 1) hX d_M_workOf_109 rfl rfl ?_
    refine r_bipush (v := nI 14) hX d_M_workOf_110 (by decide) ?_
    refine r_icmp_ne 123 hX d_M_workOf_112 (by decide) (fun c112 => ?_) (fun c112 => absurd c112 (by decide))
    refine r_iload hX d_M_workOf_123 rfl ?_
    exact r_iret () hX hF d_M_workOf_125 trivial (by simp [wkF, wkP, opN_nI (show ja < 2 ^ 31 by omega), opN_nI (show jb < 2 ^ 31 by omega)]; rw [Int32.mul_comm]) rfl
  · obtain ⟨jb, hjb, rfl⟩ := hab.2.1 (by decide)
    refine r_iload_n (i := 1) hX d_M_workOf_0 rfl rfl ?_
    refine r_bipush (v := nI 7) hX d_M_workOf_1 (by decide) ?_
    refine r_icmp_ne 9 hX d_M_workOf_3 (by decide) (fun c3 => ?_) (fun c3 => absurd c3 (by decide))
    refine r_iload_n (i := 1) hX d_M_workOf_9 rfl rfl ?_
    refine r_bipush (v := nI 8) hX d_M_workOf_10 (by decide) ?_
    refine r_icmp_le 31 hX d_M_workOf_12 (by decide) (fun c12 => absurd c12 (by decide)) (fun c12 => ?_)
    refine r_iload_n (i := 1) hX d_M_workOf_15 rfl rfl ?_
    refine r_bipush (v := nI 17) hX d_M_workOf_16 (by decide) ?_
    refine r_icmp_ge 31 hX d_M_workOf_18 (by decide) (fun c18 => ?_) (fun c18 => absurd c18 (by decide))
    refine r_iconst (v := nI 0) hX d_M_workOf_31 (by decide) ?_
    refine r_istore hX d_M_workOf_32 (by decide) ?_
    refine r_iconst (v := nI 1) hX d_M_workOf_34 (by decide) ?_
    refine r_istore hX d_M_workOf_35 (by decide) ?_
    refine r_aload_n (i := 0) hX d_M_workOf_37 rfl rfl ?_
    refine r_iload_n (i := 1) hX d_M_workOf_38 rfl rfl ?_
    refine r_callVwi (q0 := 0) hX d_M_workOf_39 cw_M_namesA ml_M_79 (c_M_namesA 17 (by decide)) (Or.inl rfl) rfl rfl rfl rfl (by decide) (Nat.le_of_ble_eq_true rfl) (fun _ => rfl) (fun _ _ => ?_)
    refine r_if_eq 56 hX d_M_workOf_42 (by decide) (fun c42 => ?_) (fun c42 => absurd c42 (by decide))
    refine r_aload_n (i := 0) hX d_M_workOf_56 rfl rfl ?_
    refine r_iload_n (i := 1) hX d_M_workOf_57 rfl rfl ?_
    refine r_callVwi (q0 := 0) hX d_M_workOf_58 cw_M_namesB ml_M_82 (c_M_namesB 17 (by decide)) (Or.inl rfl) rfl rfl rfl rfl (by decide) (Nat.le_of_ble_eq_true rfl) (fun _ => rfl) (fun _ _ => ?_)
    refine r_if_eq 91 hX d_M_workOf_61 (by decide) (fun c61 => absurd c61 (by decide)) (fun c61 => ?_)
    refine r_iload hX d_M_workOf_64 rfl ?_
    refine r_aload_n (i := 0) hX d_M_workOf_66 rfl rfl ?_
    refine r_get 0 11 hX d_M_workOf_67 rfl rfl fi_M (by decide) fl_M_44 rfl rfl ?_
    refine r_iload_n (i := 3) hX d_M_workOf_70 rfl rfl ?_
    refine r_iald 8 0 (jb) hX d_M_workOf_71 rfl rfl rfl (by omega) (by decide) ?_
    refine r_iload hX d_M_workOf_72 rfl ?_
    refine r_if_eq 86 hX d_M_workOf_74 (by decide) (fun c74 => ?_) (fun c74 => absurd c74 (by decide))
    refine r_iconst (v := nI 1) hX d_M_workOf_86 (by decide) ?_
    refine r_imul hX d_M_workOf_87 ?_
    refine r_iadd hX d_M_workOf_88 ?_
    refine r_istore hX d_M_workOf_89 (by decide) ?_
    refine r_iload_n (i := 1) hX d_M_workOf_91 rfl rfl ?_
    refine r_bipush (v := nI 19) hX d_M_workOf_92 (by decide) ?_
    refine r_icmp_ne 109 hX d_M_workOf_94 (by decide) (fun c94 => ?_) (fun c94 => absurd c94 (by decide))
    refine r_iload_n (i := 1) hX d_M_workOf_109 rfl rfl ?_
    refine r_bipush (v := nI 14) hX d_M_workOf_110 (by decide) ?_
    refine r_icmp_ne 123 hX d_M_workOf_112 (by decide) (fun c112 => ?_) (fun c112 => absurd c112 (by decide))
    refine r_iload hX d_M_workOf_123 rfl ?_
    exact r_iret () hX hF d_M_workOf_125 trivial (by simp [wkF, wkP, opN_nI (show jb < 2 ^ 31 by omega)]; rw [show ∀ x : Int32, x * nI 1 = x from Int32.mul_one]) rfl
  · obtain ⟨jb, hjb, rfl⟩ := hab.2.1 (by decide)
    refine r_iload_n (i := 1) hX d_M_workOf_0 rfl rfl ?_
    refine r_bipush (v := nI 7) hX d_M_workOf_1 (by decide) ?_
    refine r_icmp_ne 9 hX d_M_workOf_3 (by decide) (fun c3 => ?_) (fun c3 => absurd c3 (by decide))
    refine r_iload_n (i := 1) hX d_M_workOf_9 rfl rfl ?_
    refine r_bipush (v := nI 8) hX d_M_workOf_10 (by decide) ?_
    refine r_icmp_le 31 hX d_M_workOf_12 (by decide) (fun c12 => absurd c12 (by decide)) (fun c12 => ?_)
    refine r_iload_n (i := 1) hX d_M_workOf_15 rfl rfl ?_
    refine r_bipush (v := nI 17) hX d_M_workOf_16 (by decide) ?_
    refine r_icmp_ge 31 hX d_M_workOf_18 (by decide) (fun c18 => ?_) (fun c18 => absurd c18 (by decide))
    refine r_iconst (v := nI 0) hX d_M_workOf_31 (by decide) ?_
    refine r_istore hX d_M_workOf_32 (by decide) ?_
    refine r_iconst (v := nI 1) hX d_M_workOf_34 (by decide) ?_
    refine r_istore hX d_M_workOf_35 (by decide) ?_
    refine r_aload_n (i := 0) hX d_M_workOf_37 rfl rfl ?_
    refine r_iload_n (i := 1) hX d_M_workOf_38 rfl rfl ?_
    refine r_callVwi (q0 := 0) hX d_M_workOf_39 cw_M_namesA ml_M_79 (c_M_namesA 18 (by decide)) (Or.inl rfl) rfl rfl rfl rfl (by decide) (Nat.le_of_ble_eq_true rfl) (fun _ => rfl) (fun _ _ => ?_)
    refine r_if_eq 56 hX d_M_workOf_42 (by decide) (fun c42 => ?_) (fun c42 => absurd c42 (by decide))
    refine r_aload_n (i := 0) hX d_M_workOf_56 rfl rfl ?_
    refine r_iload_n (i := 1) hX d_M_workOf_57 rfl rfl ?_
    refine r_callVwi (q0 := 0) hX d_M_workOf_58 cw_M_namesB ml_M_82 (c_M_namesB 18 (by decide)) (Or.inl rfl) rfl rfl rfl rfl (by decide) (Nat.le_of_ble_eq_true rfl) (fun _ => rfl) (fun _ _ => ?_)
    refine r_if_eq 91 hX d_M_workOf_61 (by decide) (fun c61 => absurd c61 (by decide)) (fun c61 => ?_)
    refine r_iload hX d_M_workOf_64 rfl ?_
    refine r_aload_n (i := 0) hX d_M_workOf_66 rfl rfl ?_
    refine r_get 0 11 hX d_M_workOf_67 rfl rfl fi_M (by decide) fl_M_44 rfl rfl ?_
    refine r_iload_n (i := 3) hX d_M_workOf_70 rfl rfl ?_
    refine r_iald 8 0 (jb) hX d_M_workOf_71 rfl rfl rfl (by omega) (by decide) ?_
    refine r_iload hX d_M_workOf_72 rfl ?_
    refine r_if_eq 86 hX d_M_workOf_74 (by decide) (fun c74 => ?_) (fun c74 => absurd c74 (by decide))
    refine r_iconst (v := nI 1) hX d_M_workOf_86 (by decide) ?_
    refine r_imul hX d_M_workOf_87 ?_
    refine r_iadd hX d_M_workOf_88 ?_
    refine r_istore hX d_M_workOf_89 (by decide) ?_
    refine r_iload_n (i := 1) hX d_M_workOf_91 rfl rfl ?_
    refine r_bipush (v := nI 19) hX d_M_workOf_92 (by decide) ?_
    refine r_icmp_ne 109 hX d_M_workOf_94 (by decide) (fun c94 => ?_) (fun c94 => absurd c94 (by decide))
    refine r_iload_n (i := 1) hX d_M_workOf_109 rfl rfl ?_
    refine r_bipush (v := nI 14) hX d_M_workOf_110 (by decide) ?_
    refine r_icmp_ne 123 hX d_M_workOf_112 (by decide) (fun c112 => ?_) (fun c112 => absurd c112 (by decide))
    refine r_iload hX d_M_workOf_123 rfl ?_
    exact r_iret () hX hF d_M_workOf_125 trivial (by simp [wkF, wkP, opN_nI (show jb < 2 ^ 31 by omega)]; rw [show ∀ x : Int32, x * nI 1 = x from Int32.mul_one]) rfl
  · obtain ⟨ja, hja, rfl⟩ := hab.1 (by decide)
    obtain ⟨jb, hjb, rfl⟩ := hab.2.1 (by decide)
    obtain ⟨jc, hjc, rfl⟩ := hab.2.2 rfl
    refine r_iload_n (i := 1) hX d_M_workOf_0 rfl rfl ?_
    refine r_bipush (v := nI 7) hX d_M_workOf_1 (by decide) ?_
    refine r_icmp_ne 9 hX d_M_workOf_3 (by decide) (fun c3 => ?_) (fun c3 => absurd c3 (by decide))
    refine r_iload_n (i := 1) hX d_M_workOf_9 rfl rfl ?_
    refine r_bipush (v := nI 8) hX d_M_workOf_10 (by decide) ?_
    refine r_icmp_le 31 hX d_M_workOf_12 (by decide) (fun c12 => absurd c12 (by decide)) (fun c12 => ?_)
    refine r_iload_n (i := 1) hX d_M_workOf_15 rfl rfl ?_
    refine r_bipush (v := nI 17) hX d_M_workOf_16 (by decide) ?_
    refine r_icmp_ge 31 hX d_M_workOf_18 (by decide) (fun c18 => ?_) (fun c18 => absurd c18 (by decide))
    refine r_iconst (v := nI 0) hX d_M_workOf_31 (by decide) ?_
    refine r_istore hX d_M_workOf_32 (by decide) ?_
    refine r_iconst (v := nI 1) hX d_M_workOf_34 (by decide) ?_
    refine r_istore hX d_M_workOf_35 (by decide) ?_
    refine r_aload_n (i := 0) hX d_M_workOf_37 rfl rfl ?_
    refine r_iload_n (i := 1) hX d_M_workOf_38 rfl rfl ?_
    refine r_callVwi (q0 := 0) hX d_M_workOf_39 cw_M_namesA ml_M_79 (c_M_namesA 19 (by decide)) (Or.inl rfl) rfl rfl rfl rfl (by decide) (Nat.le_of_ble_eq_true rfl) (fun _ => rfl) (fun _ _ => ?_)
    refine r_if_eq 56 hX d_M_workOf_42 (by decide) (fun c42 => absurd c42 (by decide)) (fun c42 => ?_)
    refine r_iload hX d_M_workOf_45 rfl ?_
    refine r_aload_n (i := 0) hX d_M_workOf_47 rfl rfl ?_
    refine r_get 0 11 hX d_M_workOf_48 rfl rfl fi_M (by decide) fl_M_44 rfl rfl ?_
    refine r_iload_n (i := 2) hX d_M_workOf_51 rfl rfl ?_
    refine r_iald 8 0 (ja) hX d_M_workOf_52 rfl rfl rfl (by omega) (by decide) ?_
    refine r_iadd hX d_M_workOf_53 ?_
    refine r_istore hX d_M_workOf_54 (by decide) ?_
    refine r_aload_n (i := 0) hX d_M_workOf_56 rfl rfl ?_
    refine r_iload_n (i := 1) hX d_M_workOf_57 rfl rfl ?_
    refine r_callVwi (q0 := 0) hX d_M_workOf_58 cw_M_namesB ml_M_82 (c_M_namesB 19 (by decide)) (Or.inl rfl) rfl rfl rfl rfl (by decide) (Nat.le_of_ble_eq_true rfl) (fun _ => rfl) (fun _ _ => ?_)
    refine r_if_eq 91 hX d_M_workOf_61 (by decide) (fun c61 => absurd c61 (by decide)) (fun c61 => ?_)
    refine r_iload hX d_M_workOf_64 rfl ?_
    refine r_aload_n (i := 0) hX d_M_workOf_66 rfl rfl ?_
    refine r_get 0 11 hX d_M_workOf_67 rfl rfl fi_M (by decide) fl_M_44 rfl rfl ?_
    refine r_iload_n (i := 3) hX d_M_workOf_70 rfl rfl ?_
    refine r_iald 8 0 (jb) hX d_M_workOf_71 rfl rfl rfl (by omega) (by decide) ?_
    refine r_iload hX d_M_workOf_72 rfl ?_
    refine r_if_eq 86 hX d_M_workOf_74 (by decide) (fun c74 => ?_) (fun c74 => absurd c74 (by decide))
    refine r_iconst (v := nI 1) hX d_M_workOf_86 (by decide) ?_
    refine r_imul hX d_M_workOf_87 ?_
    refine r_iadd hX d_M_workOf_88 ?_
    refine r_istore hX d_M_workOf_89 (by decide) ?_
    refine r_iload_n (i := 1) hX d_M_workOf_91 rfl rfl ?_
    refine r_bipush (v := nI 19) hX d_M_workOf_92 (by decide) ?_
    refine r_icmp_ne 109 hX d_M_workOf_94 (by decide) (fun c94 => absurd c94 (by decide)) (fun c94 => ?_)
    refine r_iload hX d_M_workOf_97 rfl ?_
    refine r_aload_n (i := 0) hX d_M_workOf_99 rfl rfl ?_
    refine r_get 0 11 hX d_M_workOf_100 rfl rfl fi_M (by decide) fl_M_44 rfl rfl ?_
    refine r_iload hX d_M_workOf_103 rfl ?_
    refine r_iald 8 0 (jc) hX d_M_workOf_105 rfl rfl rfl (by omega) (by decide) ?_
    refine r_iadd hX d_M_workOf_106 ?_
    refine r_istore hX d_M_workOf_107 (by decide) ?_
    refine r_iload_n (i := 1) hX d_M_workOf_109 rfl rfl ?_
    refine r_bipush (v := nI 14) hX d_M_workOf_110 (by decide) ?_
    refine r_icmp_ne 123 hX d_M_workOf_112 (by decide) (fun c112 => ?_) (fun c112 => absurd c112 (by decide))
    refine r_iload hX d_M_workOf_123 rfl ?_
    exact r_iret () hX hF d_M_workOf_125 trivial (by simp [wkF, wkP, opN_nI (show ja < 2 ^ 31 by omega), opN_nI (show jb < 2 ^ 31 by omega), opN_nI (show jc < 2 ^ 31 by omega)]; rw [show ∀ x : Int32, x * nI 1 = x from Int32.mul_one]) rfl
  · obtain ⟨ja, hja, rfl⟩ := hab.1 (by decide)
    refine r_iload_n (i := 1) hX d_M_workOf_0 rfl rfl ?_
    refine r_bipush (v := nI 7) hX d_M_workOf_1 (by decide) ?_
    refine r_icmp_ne 9 hX d_M_workOf_3 (by decide) (fun c3 => ?_) (fun c3 => absurd c3 (by decide))
    refine r_iload_n (i := 1) hX d_M_workOf_9 rfl rfl ?_
    refine r_bipush (v := nI 8) hX d_M_workOf_10 (by decide) ?_
    refine r_icmp_le 31 hX d_M_workOf_12 (by decide) (fun c12 => absurd c12 (by decide)) (fun c12 => ?_)
    refine r_iload_n (i := 1) hX d_M_workOf_15 rfl rfl ?_
    refine r_bipush (v := nI 17) hX d_M_workOf_16 (by decide) ?_
    refine r_icmp_ge 31 hX d_M_workOf_18 (by decide) (fun c18 => ?_) (fun c18 => absurd c18 (by decide))
    refine r_iconst (v := nI 0) hX d_M_workOf_31 (by decide) ?_
    refine r_istore hX d_M_workOf_32 (by decide) ?_
    refine r_iconst (v := nI 1) hX d_M_workOf_34 (by decide) ?_
    refine r_istore hX d_M_workOf_35 (by decide) ?_
    refine r_aload_n (i := 0) hX d_M_workOf_37 rfl rfl ?_
    refine r_iload_n (i := 1) hX d_M_workOf_38 rfl rfl ?_
    refine r_callVwi (q0 := 0) hX d_M_workOf_39 cw_M_namesA ml_M_79 (c_M_namesA 20 (by decide)) (Or.inl rfl) rfl rfl rfl rfl (by decide) (Nat.le_of_ble_eq_true rfl) (fun _ => rfl) (fun _ _ => ?_)
    refine r_if_eq 56 hX d_M_workOf_42 (by decide) (fun c42 => absurd c42 (by decide)) (fun c42 => ?_)
    refine r_iload hX d_M_workOf_45 rfl ?_
    refine r_aload_n (i := 0) hX d_M_workOf_47 rfl rfl ?_
    refine r_get 0 11 hX d_M_workOf_48 rfl rfl fi_M (by decide) fl_M_44 rfl rfl ?_
    refine r_iload_n (i := 2) hX d_M_workOf_51 rfl rfl ?_
    refine r_iald 8 0 (ja) hX d_M_workOf_52 rfl rfl rfl (by omega) (by decide) ?_
    refine r_iadd hX d_M_workOf_53 ?_
    refine r_istore hX d_M_workOf_54 (by decide) ?_
    refine r_aload_n (i := 0) hX d_M_workOf_56 rfl rfl ?_
    refine r_iload_n (i := 1) hX d_M_workOf_57 rfl rfl ?_
    refine r_callVwi (q0 := 0) hX d_M_workOf_58 cw_M_namesB ml_M_82 (c_M_namesB 20 (by decide)) (Or.inl rfl) rfl rfl rfl rfl (by decide) (Nat.le_of_ble_eq_true rfl) (fun _ => rfl) (fun _ _ => ?_)
    refine r_if_eq 91 hX d_M_workOf_61 (by decide) (fun c61 => ?_) (fun c61 => absurd c61 (by decide))
    refine r_iload_n (i := 1) hX d_M_workOf_91 rfl rfl ?_
    refine r_bipush (v := nI 19) hX d_M_workOf_92 (by decide) ?_
    refine r_icmp_ne 109 hX d_M_workOf_94 (by decide) (fun c94 => ?_) (fun c94 => absurd c94 (by decide))
    refine r_iload_n (i := 1) hX d_M_workOf_109 rfl rfl ?_
    refine r_bipush (v := nI 14) hX d_M_workOf_110 (by decide) ?_
    refine r_icmp_ne 123 hX d_M_workOf_112 (by decide) (fun c112 => ?_) (fun c112 => absurd c112 (by decide))
    refine r_iload hX d_M_workOf_123 rfl ?_
    exact r_iret () hX hF d_M_workOf_125 trivial (by simp [wkF, wkP, opN_nI (show ja < 2 ^ 31 by omega)]) rfl
  · obtain ⟨ja, hja, rfl⟩ := hab.1 (by decide)
    refine r_iload_n (i := 1) hX d_M_workOf_0 rfl rfl ?_
    refine r_bipush (v := nI 7) hX d_M_workOf_1 (by decide) ?_
    refine r_icmp_ne 9 hX d_M_workOf_3 (by decide) (fun c3 => ?_) (fun c3 => absurd c3 (by decide))
    refine r_iload_n (i := 1) hX d_M_workOf_9 rfl rfl ?_
    refine r_bipush (v := nI 8) hX d_M_workOf_10 (by decide) ?_
    refine r_icmp_le 31 hX d_M_workOf_12 (by decide) (fun c12 => absurd c12 (by decide)) (fun c12 => ?_)
    refine r_iload_n (i := 1) hX d_M_workOf_15 rfl rfl ?_
    refine r_bipush (v := nI 17) hX d_M_workOf_16 (by decide) ?_
    refine r_icmp_ge 31 hX d_M_workOf_18 (by decide) (fun c18 => ?_) (fun c18 => absurd c18 (by decide))
    refine r_iconst (v := nI 0) hX d_M_workOf_31 (by decide) ?_
    refine r_istore hX d_M_workOf_32 (by decide) ?_
    refine r_iconst (v := nI 1) hX d_M_workOf_34 (by decide) ?_
    refine r_istore hX d_M_workOf_35 (by decide) ?_
    refine r_aload_n (i := 0) hX d_M_workOf_37 rfl rfl ?_
    refine r_iload_n (i := 1) hX d_M_workOf_38 rfl rfl ?_
    refine r_callVwi (q0 := 0) hX d_M_workOf_39 cw_M_namesA ml_M_79 (c_M_namesA 21 (by decide)) (Or.inl rfl) rfl rfl rfl rfl (by decide) (Nat.le_of_ble_eq_true rfl) (fun _ => rfl) (fun _ _ => ?_)
    refine r_if_eq 56 hX d_M_workOf_42 (by decide) (fun c42 => absurd c42 (by decide)) (fun c42 => ?_)
    refine r_iload hX d_M_workOf_45 rfl ?_
    refine r_aload_n (i := 0) hX d_M_workOf_47 rfl rfl ?_
    refine r_get 0 11 hX d_M_workOf_48 rfl rfl fi_M (by decide) fl_M_44 rfl rfl ?_
    refine r_iload_n (i := 2) hX d_M_workOf_51 rfl rfl ?_
    refine r_iald 8 0 (ja) hX d_M_workOf_52 rfl rfl rfl (by omega) (by decide) ?_
    refine r_iadd hX d_M_workOf_53 ?_
    refine r_istore hX d_M_workOf_54 (by decide) ?_
    refine r_aload_n (i := 0) hX d_M_workOf_56 rfl rfl ?_
    refine r_iload_n (i := 1) hX d_M_workOf_57 rfl rfl ?_
    refine r_callVwi (q0 := 0) hX d_M_workOf_58 cw_M_namesB ml_M_82 (c_M_namesB 21 (by decide)) (Or.inl rfl) rfl rfl rfl rfl (by decide) (Nat.le_of_ble_eq_true rfl) (fun _ => rfl) (fun _ _ => ?_)
    refine r_if_eq 91 hX d_M_workOf_61 (by decide) (fun c61 => ?_) (fun c61 => absurd c61 (by decide))
    refine r_iload_n (i := 1) hX d_M_workOf_91 rfl rfl ?_
    refine r_bipush (v := nI 19) hX d_M_workOf_92 (by decide) ?_
    refine r_icmp_ne 109 hX d_M_workOf_94 (by decide) (fun c94 => ?_) (fun c94 => absurd c94 (by decide))
    refine r_iload_n (i := 1) hX d_M_workOf_109 rfl rfl ?_
    refine r_bipush (v := nI 14) hX d_M_workOf_110 (by decide) ?_
    refine r_icmp_ne 123 hX d_M_workOf_112 (by decide) (fun c112 => ?_) (fun c112 => absurd c112 (by decide))
    refine r_iload hX d_M_workOf_123 rfl ?_
    exact r_iret () hX hF d_M_workOf_125 trivial (by simp [wkF, wkP, opN_nI (show ja < 2 ^ 31 by omega)]) rfl
end ModelA
