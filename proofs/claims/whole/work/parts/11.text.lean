/-! Text: its two cells; contracts of its methods. -/
abbrev WTx (cI : ClassId) (o c tl : Nat) (ch : Nat → Int32) : va_W := [(o, .inr (2, [.ref c, .int (nI tl)])), (c, .inl (cI, 24, .inl ch))]
theorem sw_lit {a : Int32} {k : Nat} (hk : k < 2 ^ 31) (h : a.toInt = (k : Int)) : a = nI k := Int32.toInt_inj.mp (by rw [h, nI_toInt hk])
theorem sw5 (a : Int32) : a = nI 0 ∨ a = nI 1 ∨ a = nI 2 ∨ a = nI 3 ∨ a = nI 4 ∨ ((a.toInt < 0 ∨ 4 < a.toInt) ∧ a ≠ nI 0 ∧ a ≠ nI 1 ∧ a ≠ nI 2 ∧ a ≠ nI 3 ∧ a ≠ nI 4) := by
  by_cases h0 : a = nI 0
  · exact Or.inl h0
  by_cases h1 : a = nI 1
  · exact Or.inr (Or.inl h1)
  by_cases h2 : a = nI 2
  · exact Or.inr (Or.inr (Or.inl h2))
  by_cases h3 : a = nI 3
  · exact Or.inr (Or.inr (Or.inr (Or.inl h3)))
  by_cases h4 : a = nI 4
  · exact Or.inr (Or.inr (Or.inr (Or.inr (Or.inl h4))))
  refine Or.inr (Or.inr (Or.inr (Or.inr (Or.inr ⟨?_, h0, h1, h2, h3, h4⟩))))
  have e0 : ¬ a.toInt = 0 := fun h => h0 (sw_lit (k := 0) (by decide) h)
  have e1 : ¬ a.toInt = 1 := fun h => h1 (sw_lit (k := 1) (by decide) h)
  have e2 : ¬ a.toInt = 2 := fun h => h2 (sw_lit (k := 2) (by decide) h)
  have e3 : ¬ a.toInt = 3 := fun h => h3 (sw_lit (k := 3) (by decide) h)
  have e4 : ¬ a.toInt = 4 := fun h => h4 (sw_lit (k := 4) (by decide) h)
  omega
theorem runL_stop {b : Nat → Bool} {n q : Nat} (h : b q = false) : runL b n q = q := by
  cases n with
  | zero => rfl
  | succ n => simp [runL, h]
theorem runL_go {b : Nat → Bool} {n q : Nat} (h : b q = true) : runL b (n + 1) q = runL b n (q + 1) := by simp [runL, h]
theorem runL_ge (b : Nat → Bool) : ∀ n q, q ≤ runL b n q
  | 0, q => Nat.le_refl q
  | n + 1, q => by
    unfold runL
    split
    · exact Nat.le_trans (Nat.le_succ q) (runL_ge b n (q + 1))
    · exact Nat.le_refl q
theorem runL_le (b : Nat → Bool) (e : Nat) (he : ∀ q, b q = true → q < e) : ∀ n q, q ≤ e → runL b n q ≤ e
  | 0, q, h => h
  | n + 1, q, h => by
    unfold runL
    split
    · rename_i hb
      exact runL_le b e he n (q + 1) (he q hb)
    · exact h
theorem atSort_lt {tl : Nat} {ch : Nat → Int32} {a : Int32} {q : Nat} (h : atSort tl ch a q = true) : q < tl := by
  simp [atSort] at h
  exact h.1
section TextC
variable {l : Launch} {D : va_G} {cI cZ cN : ClassId} {o c tl : Nat} {ch : Nat → Int32}
set_option maxRecDepth 100000 in
set_option maxHeartbeats 4000000 in
theorem c_T_append (x : Int32) (ht : tl < 24) : CT l D (tyL cI cZ cN) none y_T_append b_T_append 2 none 0 [.ref o, .int x] (WTx cI o c tl ch) (fun _ : Unit => True) (fun _ => none) (fun _ => WTx cI o c (tl + 1) (upd ch tl x)) := by
  refine CT.of (by decide) (Nat.le_of_ble_eq_true rfl) ?_
  intro X A hl hX hF
  refine r_aload_n (i := 0) hX d_T_append_0 rfl rfl ?_
  refine r_get 0 0 hX d_T_append_1 rfl rfl fi_T (by decide) fl_T_9 rfl rfl ?_
  refine r_aload_n (i := 0) hX d_T_append_4 rfl rfl ?_
  refine r_get 0 1 hX d_T_append_5 rfl rfl fi_T (by decide) fl_T_15 rfl rfl ?_
  refine r_iload_n (i := 1) hX d_T_append_8 rfl rfl ?_
  refine r_iast 1 0 (tl) hX d_T_append_9 rfl rfl rfl (by omega) (by decide) ?_
  refine r_aload_n (i := 0) hX d_T_append_10 rfl rfl ?_
  refine r_dup hX d_T_append_11 rfl ?_
  refine r_get 0 1 hX d_T_append_12 rfl rfl fi_T (by decide) fl_T_15 rfl rfl ?_
  refine r_iconst (v := nI 1) hX d_T_append_15 (by decide) ?_
  refine r_iadd hX d_T_append_16 ?_
  refine r_top (nI_add _ _) ?_
  refine r_put 0 1 hX d_T_append_17 rfl rfl fi_T ft_T_ok fn_T (by decide) fl_T_15 rfl rfl rfl rfl rfl (Nat.le_of_ble_eq_true rfl) ?_
  exact r_vret () hX hF d_T_append_20 trivial rfl rfl
set_option maxRecDepth 100000 in
set_option maxHeartbeats 4000000 in
theorem c_T_isDigit (x : Int32) : CT l D (tyL cI cZ cN) none y_T_isDigit b_T_isDigit 1 (some .boolean) 0 [.int x] [] (fun _ : Unit => True) (fun _ => some (.int (bI (isDig x)))) (fun _ => []) := by
  refine CT.of (by decide) (Nat.le_of_ble_eq_true rfl) ?_
  intro X A hl hX hF
  refine r_iload_n (i := 0) hX d_T_isDigit_0 rfl rfl ?_
  refine r_bipush (v := nI 48) hX d_T_isDigit_1 (by decide) ?_
  refine r_icmp_lt 16 hX d_T_isDigit_3 (by decide) (fun c3 => ?_) (fun c3 => ?_)
  · have hn : isDig x = false := by simp [isDig, c3]
    refine r_iconst (v := nI 0) hX d_T_isDigit_16 (by decide) ?_
    exact r_zret () hX hF d_T_isDigit_17 rfl trivial (by rw [hn]; rfl) rfl
  · refine r_iload_n (i := 0) hX d_T_isDigit_6 rfl rfl ?_
    refine r_bipush (v := nI 57) hX d_T_isDigit_7 (by decide) ?_
    refine r_icmp_gt 16 hX d_T_isDigit_9 (by decide) (fun c9 => ?_) (fun c9 => ?_)
    · have hn : isDig x = false := by simp [isDig, c3, c9]
      refine r_iconst (v := nI 0) hX d_T_isDigit_16 (by decide) ?_
      exact r_zret () hX hF d_T_isDigit_17 rfl trivial (by rw [hn]; rfl) rfl
    · have hn : isDig x = true := by simp [isDig, c3, c9]
      refine r_iconst (v := nI 1) hX d_T_isDigit_12 (by decide) ?_
      refine r_goto 17 hX d_T_isDigit_13 (by decide) ?_
      exact r_zret () hX hF d_T_isDigit_17 rfl trivial (by rw [hn]; rfl) rfl
set_option maxRecDepth 100000 in
set_option maxHeartbeats 4000000 in
theorem c_T_isLetter (x : Int32) : CT l D (tyL cI cZ cN) none y_T_isLetter b_T_isLetter 1 (some .boolean) 0 [.int x] [] (fun _ : Unit => True) (fun _ => some (.int (bI (isLet x)))) (fun _ => []) := by
  refine CT.of (by decide) (Nat.le_of_ble_eq_true rfl) ?_
  intro X A hl hX hF
  refine r_iload_n (i := 0) hX d_T_isLetter_0 rfl rfl ?_
  refine r_bipush (v := nI 97) hX d_T_isLetter_1 (by decide) ?_
  refine r_icmp_lt 16 hX d_T_isLetter_3 (by decide) (fun c3 => ?_) (fun c3 => ?_)
  · have hn : isLet x = false := by simp [isLet, c3]
    refine r_iconst (v := nI 0) hX d_T_isLetter_16 (by decide) ?_
    exact r_zret () hX hF d_T_isLetter_17 rfl trivial (by rw [hn]; rfl) rfl
  · refine r_iload_n (i := 0) hX d_T_isLetter_6 rfl rfl ?_
    refine r_bipush (v := nI 122) hX d_T_isLetter_7 (by decide) ?_
    refine r_icmp_gt 16 hX d_T_isLetter_9 (by decide) (fun c9 => ?_) (fun c9 => ?_)
    · have hn : isLet x = false := by simp [isLet, c3, c9]
      refine r_iconst (v := nI 0) hX d_T_isLetter_16 (by decide) ?_
      exact r_zret () hX hF d_T_isLetter_17 rfl trivial (by rw [hn]; rfl) rfl
    · have hn : isLet x = true := by simp [isLet, c3, c9]
      refine r_iconst (v := nI 1) hX d_T_isLetter_12 (by decide) ?_
      refine r_goto 17 hX d_T_isLetter_13 (by decide) ?_
      exact r_zret () hX hF d_T_isLetter_17 rfl trivial (by rw [hn]; rfl) rfl
set_option maxRecDepth 100000 in
set_option maxHeartbeats 4000000 in
theorem c_T_isOfSort (x a : Int32) : CT l D (tyL cI cZ cN) none y_T_isOfSort b_T_isOfSort 2 (some .boolean) 1 [.int x, .int a] [] (fun _ : Unit => True) (fun _ => some (.int (bI (inSort x a)))) (fun _ => []) := by
  refine CT.of (by decide) (Nat.le_of_ble_eq_true rfl) ?_
  intro X A hl hX hF
  refine r_iload_n (i := 1) hX d_T_isOfSort_0 rfl rfl ?_
  rcases sw5 a with rfl | rfl | rfl | rfl | rfl | ⟨hq, h0, h1, h2, h3, h4⟩
  · refine r_tableIn (off := 35) 36 hX d_T_isOfSort_1 (by decide) (by decide) (by decide) (by decide) ?_
    refine r_iload_n (i := 0) hX d_T_isOfSort_36 rfl rfl ?_
    refine r_callSi [] hX d_T_isOfSort_37 cw_T_isDigit ml_T_29 (c_T_isDigit x) (Or.inl rfl) rfl rfl (by decide) (Nat.le_of_ble_eq_true rfl) rfl (fun _ => rfl) rfl (fun _ _ => ?_)
    exact r_zret () hX hF d_T_isOfSort_40 (bI_nar _) trivial rfl rfl
  · refine r_tableIn (off := 40) 41 hX d_T_isOfSort_1 (by decide) (by decide) (by decide) (by decide) ?_
    refine r_iload_n (i := 0) hX d_T_isOfSort_41 rfl rfl ?_
    refine r_callSi [] hX d_T_isOfSort_42 cw_T_isLetter ml_T_33 (c_T_isLetter x) (Or.inl rfl) rfl rfl (by decide) (Nat.le_of_ble_eq_true rfl) rfl (fun _ => rfl) rfl (fun _ _ => ?_)
    exact r_zret () hX hF d_T_isOfSort_45 (bI_nar _) trivial rfl rfl
  · refine r_tableIn (off := 45) 46 hX d_T_isOfSort_1 (by decide) (by decide) (by decide) (by decide) ?_
    refine r_iload_n (i := 0) hX d_T_isOfSort_46 rfl rfl ?_
    refine r_callSi [] hX d_T_isOfSort_47 cw_T_isLetter ml_T_33 (c_T_isLetter x) (Or.inl rfl) rfl rfl (by decide) (Nat.le_of_ble_eq_true rfl) rfl (fun _ => rfl) rfl (fun _ _ => ?_)
    refine r_if_ne 60 hX d_T_isOfSort_50 (by decide) (fun c50 => ?_) (fun c50 => ?_)
    · have hn : inSort x (nI 2) = true := by have := bI_1 c50; simp [inSort, this, show ¬ nI 2 = nI 0 by decide, show ¬ nI 2 = nI 1 by decide]
      refine r_iconst (v := nI 1) hX d_T_isOfSort_60 (by decide) ?_
      refine r_goto 65 hX d_T_isOfSort_61 (by decide) ?_
      exact r_zret () hX hF d_T_isOfSort_65 rfl trivial (by rw [hn]; rfl) rfl
    · refine r_iload_n (i := 0) hX d_T_isOfSort_53 rfl rfl ?_
      refine r_callSi [] hX d_T_isOfSort_54 cw_T_isDigit ml_T_29 (c_T_isDigit x) (Or.inl rfl) rfl rfl (by decide) (Nat.le_of_ble_eq_true rfl) rfl (fun _ => rfl) rfl (fun _ _ => ?_)
      refine r_if_eq 64 hX d_T_isOfSort_57 (by decide) (fun c57 => ?_) (fun c57 => ?_)
      · have hn : inSort x (nI 2) = false := by have := bI_0 c57; have h5 : isLet x = false := bI_0 c50; simp [inSort, this, h5, show ¬ nI 2 = nI 0 by decide, show ¬ nI 2 = nI 1 by decide]
        refine r_iconst (v := nI 0) hX d_T_isOfSort_64 (by decide) ?_
        exact r_zret () hX hF d_T_isOfSort_65 rfl trivial (by rw [hn]; rfl) rfl
      · have hn : inSort x (nI 2) = true := by have := bI_1 c57; simp [inSort, this, show ¬ nI 2 = nI 0 by decide, show ¬ nI 2 = nI 1 by decide]
        refine r_iconst (v := nI 1) hX d_T_isOfSort_60 (by decide) ?_
        refine r_goto 65 hX d_T_isOfSort_61 (by decide) ?_
        exact r_zret () hX hF d_T_isOfSort_65 rfl trivial (by rw [hn]; rfl) rfl
  · refine r_tableIn (off := 65) 66 hX d_T_isOfSort_1 (by decide) (by decide) (by decide) (by decide) ?_
    refine r_iload_n (i := 0) hX d_T_isOfSort_66 rfl rfl ?_
    refine r_bipush (v := nI 32) hX d_T_isOfSort_67 (by decide) ?_
    refine r_icmp_eq 78 hX d_T_isOfSort_69 (by decide) (fun c69 => ?_) (fun c69 => ?_)
    · have hn : inSort x (nI 3) = true := by simp [inSort, c69, show ¬ nI 3 = nI 0 by decide, show ¬ nI 3 = nI 1 by decide, show ¬ nI 3 = nI 2 by decide]
      refine r_iconst (v := nI 1) hX d_T_isOfSort_78 (by decide) ?_
      refine r_goto 83 hX d_T_isOfSort_79 (by decide) ?_
      exact r_zret () hX hF d_T_isOfSort_83 rfl trivial (by rw [hn]; rfl) rfl
    · refine r_iload_n (i := 0) hX d_T_isOfSort_72 rfl rfl ?_
      refine r_bipush (v := nI 9) hX d_T_isOfSort_73 (by decide) ?_
      refine r_icmp_ne 82 hX d_T_isOfSort_75 (by decide) (fun c75 => ?_) (fun c75 => ?_)
      · have hn : inSort x (nI 3) = false := by simp [inSort, c69, c75, show ¬ nI 3 = nI 0 by decide, show ¬ nI 3 = nI 1 by decide, show ¬ nI 3 = nI 2 by decide]
        refine r_iconst (v := nI 0) hX d_T_isOfSort_82 (by decide) ?_
        exact r_zret () hX hF d_T_isOfSort_83 rfl trivial (by rw [hn]; rfl) rfl
      · have hn : inSort x (nI 3) = true := by simp [inSort, c75, show ¬ nI 3 = nI 0 by decide, show ¬ nI 3 = nI 1 by decide, show ¬ nI 3 = nI 2 by decide]
        refine r_iconst (v := nI 1) hX d_T_isOfSort_78 (by decide) ?_
        refine r_goto 83 hX d_T_isOfSort_79 (by decide) ?_
        exact r_zret () hX hF d_T_isOfSort_83 rfl trivial (by rw [hn]; rfl) rfl
  · refine r_tableIn (off := 83) 84 hX d_T_isOfSort_1 (by decide) (by decide) (by decide) (by decide) ?_
    refine r_iconst (v := nI 1) hX d_T_isOfSort_84 (by decide) ?_
    exact r_zret () hX hF d_T_isOfSort_85 rfl trivial rfl rfl
  · refine r_tableOut 86 hX d_T_isOfSort_1 hq (by decide) ?_
    refine r_iload_n (i := 0) hX d_T_isOfSort_86 rfl rfl ?_
    refine r_iload_n (i := 1) hX d_T_isOfSort_87 rfl rfl ?_
    refine r_sipush (v := nI 256) hX d_T_isOfSort_88 (by decide) ?_
    refine r_isub hX d_T_isOfSort_91 ?_
    refine r_icmp_ne 99 hX d_T_isOfSort_92 (by decide) (fun c92 => ?_) (fun c92 => ?_)
    · have hn : inSort x a = false := by simp [inSort, c92, h0, h1, h2, h3, h4]
      refine r_iconst (v := nI 0) hX d_T_isOfSort_99 (by decide) ?_
      exact r_zret () hX hF d_T_isOfSort_100 rfl trivial (by rw [hn]; rfl) rfl
    · have hn : inSort x a = true := by simp [inSort, c92, h0, h1, h2, h3, h4]
      refine r_iconst (v := nI 1) hX d_T_isOfSort_95 (by decide) ?_
      refine r_goto 100 hX d_T_isOfSort_96 (by decide) ?_
      exact r_zret () hX hF d_T_isOfSort_100 rfl trivial (by rw [hn]; rfl) rfl
set_option maxRecDepth 100000 in
set_option maxHeartbeats 4000000 in
theorem c_T_isOf (p : Nat) (a : Int32) (hp : p < 2 ^ 31) (ht : tl ≤ 24) : CT l D (tyL cI cZ cN) none y_T_isOf b_T_isOf 3 (some .boolean) 2 [.ref o, .int (nI p), .int a] (WTx cI o c tl ch) (fun _ : Unit => True) (fun _ => some (.int (bI (atSort tl ch a p)))) (fun _ => WTx cI o c tl ch) := by
  refine CT.of (by decide) (Nat.le_of_ble_eq_true rfl) ?_
  intro X A hl hX hF
  refine r_iload_n (i := 1) hX d_T_isOf_0 rfl rfl ?_
  refine r_if_lt 29 hX d_T_isOf_1 (by decide) (fun c1 => absurd c1 (nI_pos hp)) (fun c1 => ?_)
  refine r_iload_n (i := 1) hX d_T_isOf_4 rfl rfl ?_
  refine r_aload_n (i := 0) hX d_T_isOf_5 rfl rfl ?_
  refine r_get 0 1 hX d_T_isOf_6 rfl rfl fi_T (by decide) fl_T_15 rfl rfl ?_
  refine r_icmp_ge 29 hX d_T_isOf_9 (by decide) (fun c9 => ?_) (fun c9 => ?_)
  · have hn : atSort tl ch a p = false := by have := (nI_leI (by omega) hp).mp c9; simp [atSort]; omega
    refine r_iconst (v := nI 0) hX d_T_isOf_29 (by decide) ?_
    exact r_zret () hX hF d_T_isOf_30 rfl trivial (by rw [hn]; rfl) rfl
  · have hlt : p < tl := by have : ¬ tl ≤ p := fun h => c9 (nI_le h hp); omega
    refine r_aload_n (i := 0) hX d_T_isOf_12 rfl rfl ?_
    refine r_get 0 0 hX d_T_isOf_13 rfl rfl fi_T (by decide) fl_T_9 rfl rfl ?_
    refine r_iload_n (i := 1) hX d_T_isOf_16 rfl rfl ?_
    refine r_iald 1 0 (p) hX d_T_isOf_17 rfl rfl rfl (by omega) (by decide) ?_
    refine r_iload_n (i := 2) hX d_T_isOf_18 rfl rfl ?_
    refine r_callSi [] hX d_T_isOf_19 cw_T_isOfSort ml_T_19 (c_T_isOfSort (ch p) a) (Or.inl rfl) rfl rfl (by decide) (Nat.le_of_ble_eq_true rfl) rfl (fun _ => rfl) rfl (fun _ _ => ?_)
    refine r_if_eq 29 hX d_T_isOf_22 (by decide) (fun c22 => ?_) (fun c22 => ?_)
    · have hn : atSort tl ch a p = false := by have := bI_0 c22; simp [atSort, this]
      refine r_iconst (v := nI 0) hX d_T_isOf_29 (by decide) ?_
      exact r_zret () hX hF d_T_isOf_30 rfl trivial (by rw [hn]; rfl) rfl
    · have hn : atSort tl ch a p = true := by have := bI_1 c22; simp [atSort, this, hlt]
      refine r_iconst (v := nI 1) hX d_T_isOf_25 (by decide) ?_
      refine r_goto 30 hX d_T_isOf_26 (by decide) ?_
      exact r_zret () hX hF d_T_isOf_30 rfl trivial (by rw [hn]; rfl) rfl
set_option maxRecDepth 100000 in
set_option maxHeartbeats 4000000 in
theorem c_T_behindRun (p most : Nat) (a : Int32) (hp : p ≤ tl) (ht : tl ≤ 24) (hm : most ≤ 24) : CT l D (tyL cI cZ cN) none y_T_behindRun b_T_behindRun 6 (some .int) 2 [.ref o, .int (nI p), .int a, .int (nI most)] (WTx cI o c tl ch) (fun _ : Unit => True) (fun _ => some (.int (nI (runL (atSort tl ch a) most p)))) (fun _ => WTx cI o c tl ch) := by
  refine CT.of (by decide) (Nat.le_of_ble_eq_true rfl) ?_
  intro X A hl hX hF
  generalize he : min tl (p + most) = e
  have loop : ∀ n k, k + n = e → runL (atSort tl ch a) (p + most - k) k = runL (atSort tl ch a) most p → RR X 6 D A 0 0 (WTx cI o c tl ch) [(0, .ref o), (2, .int a), (4, .int (nI e)), (5, .int (nI k))] 15 [] := by
    intro n
    induction n with
    | zero =>
      intro k hk hr
      have hk : k = e := by omega
      subst hk
      have hn : runL (atSort tl ch a) most p = k := by
        rw [← hr]
        by_cases h : k = tl
        · exact runL_stop (by simp [atSort]; omega)
        · have : p + most - k = 0 := by omega
          rw [this]
          rfl
      refine r_iload hX d_T_behindRun_15 rfl ?_
      refine r_iload hX d_T_behindRun_17 rfl ?_
      refine r_icmp_ge 45 hX d_T_behindRun_19 (by decide) (fun c19 => ?_) (fun c19 => absurd (nI_le (Nat.le_refl k) (by omega)) c19)
      refine r_iload hX d_T_behindRun_45 rfl ?_
      exact r_iret () hX hF d_T_behindRun_47 trivial (by rw [hn]) rfl
    | succ n ih =>
      intro k hk hr
      have hkt : k < tl := by omega
      have hm2 : p + most - k = (p + most - (k + 1)) + 1 := by omega
      refine r_iload hX d_T_behindRun_15 rfl ?_
      refine r_iload hX d_T_behindRun_17 rfl ?_
      refine r_icmp_ge 45 hX d_T_behindRun_19 (by decide) (fun c19 => absurd c19 (nI_ge (by omega) (by omega))) (fun c19 => ?_)
      refine r_aload_n (i := 0) hX d_T_behindRun_22 rfl rfl ?_
      refine r_get 0 0 hX d_T_behindRun_23 rfl rfl fi_T (by decide) fl_T_9 rfl rfl ?_
      refine r_iload hX d_T_behindRun_26 rfl ?_
      refine r_iald 1 0 (k) hX d_T_behindRun_28 rfl rfl rfl (by omega) (by decide) ?_
      refine r_iload_n (i := 2) hX d_T_behindRun_29 rfl rfl ?_
      refine r_callSi [] hX d_T_behindRun_30 cw_T_isOfSort ml_T_19 (c_T_isOfSort (ch k) a) (Or.inl rfl) rfl rfl (by decide) (Nat.le_of_ble_eq_true rfl) rfl (fun _ => rfl) rfl (fun _ _ => ?_)
      refine r_if_ne 39 hX d_T_behindRun_33 (by decide) (fun c33 => ?_) (fun c33 => ?_)
      · have hn : atSort tl ch a k = true := by have := bI_1 c33; simp [atSort, this, hkt]
        refine r_iinc hX d_T_behindRun_39 rfl (rx_inc _) (by decide) ?_
        refine r_goto 15 hX d_T_behindRun_42 (by decide) ?_
        exact r_lv [0, 2, 4, 5] (ih (k + 1) (by omega) (by rw [← hr, hm2, runL_go hn]))
      · have hn : atSort tl ch a k = false := by have := bI_0 c33; simp [atSort, this]
        refine r_iload hX d_T_behindRun_36 rfl ?_
        exact r_iret () hX hF d_T_behindRun_38 trivial (by rw [← hr, runL_stop hn]) rfl
  refine r_aload_n (i := 0) hX d_T_behindRun_0 rfl rfl ?_
  refine r_get 0 1 hX d_T_behindRun_1 rfl rfl fi_T (by decide) fl_T_15 rfl rfl ?_
  refine r_iload_n (i := 1) hX d_T_behindRun_4 rfl rfl ?_
  refine r_iload_n (i := 3) hX d_T_behindRun_5 rfl rfl ?_
  refine r_iadd hX d_T_behindRun_6 ?_
  refine r_top (nI_add _ _) ?_
  refine r_min hX d_T_behindRun_7 ml_T_23 tw_min_s tw_math tw_min_c (by decide) (Nat.le_of_ble_eq_true rfl) ?_
  refine r_top (rx_min (by omega) (by omega)) ?_
  refine r_top (by rw [he]) ?_
  refine r_istore hX d_T_behindRun_10 (by decide) ?_
  refine r_iload_n (i := 1) hX d_T_behindRun_12 rfl rfl ?_
  refine r_istore hX d_T_behindRun_13 (by decide) ?_
  exact r_lv [0, 2, 4, 5] (loop (e - p) p (by omega) (by rw [Nat.add_sub_cancel_left]))
set_option maxRecDepth 100000 in
set_option maxHeartbeats 4000000 in
theorem c_T_decimal (p q : Nat) (hp : p ≤ q) (hq : q ≤ 24) : CT l D (tyL cI cZ cN) none y_T_decimal b_T_decimal 5 (some .int) 0 [.ref o, .int (nI p), .int (nI q)] (WTx cI o c tl ch) (fun _ : Unit => True) (fun _ => some (.int (decL ch (q - p) p (nI 0)))) (fun _ => WTx cI o c tl ch) := by
  refine CT.of (by decide) (Nat.le_of_ble_eq_true rfl) ?_
  intro X A hl hX hF
  have loop : ∀ n k v, k + n = q → decL ch n k v = decL ch (q - p) p (nI 0) → RR X 5 D A 0 0 (WTx cI o c tl ch) [(0, .ref o), (2, .int (nI q)), (3, .int v), (4, .int (nI k))] 5 [] := by
    intro n
    induction n with
    | zero =>
      intro k v hk hr
      have hk : k = q := by omega
      subst hk
      refine r_iload hX d_T_decimal_5 rfl ?_
      refine r_iload_n (i := 2) hX d_T_decimal_7 rfl rfl ?_
      refine r_icmp_ge 33 hX d_T_decimal_8 (by decide) (fun c8 => ?_) (fun c8 => absurd (nI_le (Nat.le_refl k) (by omega)) c8)
      refine r_iload_n (i := 3) hX d_T_decimal_33 rfl rfl ?_
      exact r_iret () hX hF d_T_decimal_34 trivial (by rw [← hr]; rfl) rfl
    | succ n ih =>
      intro k v hk hr
      refine r_iload hX d_T_decimal_5 rfl ?_
      refine r_iload_n (i := 2) hX d_T_decimal_7 rfl rfl ?_
      refine r_icmp_ge 33 hX d_T_decimal_8 (by decide) (fun c8 => absurd c8 (nI_ge (by omega) (by omega))) (fun c8 => ?_)
      refine r_iload_n (i := 3) hX d_T_decimal_11 rfl rfl ?_
      refine r_bipush (v := nI 10) hX d_T_decimal_12 (by decide) ?_
      refine r_imul hX d_T_decimal_14 ?_
      refine r_aload_n (i := 0) hX d_T_decimal_15 rfl rfl ?_
      refine r_get 0 0 hX d_T_decimal_16 rfl rfl fi_T (by decide) fl_T_9 rfl rfl ?_
      refine r_iload hX d_T_decimal_19 rfl ?_
      refine r_iald 1 0 (k) hX d_T_decimal_21 rfl rfl rfl (by omega) (by decide) ?_
      refine r_iadd hX d_T_decimal_22 ?_
      refine r_bipush (v := nI 48) hX d_T_decimal_23 (by decide) ?_
      refine r_isub hX d_T_decimal_25 ?_
      refine r_istore_n (i := 3) hX d_T_decimal_26 rfl (by decide) ?_
      refine r_iinc hX d_T_decimal_27 rfl (rx_inc _) (by decide) ?_
      refine r_goto 5 hX d_T_decimal_30 (by decide) ?_
      exact r_lv [0, 2, 3, 4] (ih (k + 1) _ (by omega) hr)
  refine r_iconst (v := nI 0) hX d_T_decimal_0 (by decide) ?_
  refine r_istore_n (i := 3) hX d_T_decimal_1 rfl (by decide) ?_
  refine r_iload_n (i := 1) hX d_T_decimal_2 rfl rfl ?_
  refine r_istore hX d_T_decimal_3 (by decide) ?_
  exact r_lv [0, 2, 3, 4] (loop (q - p) p _ (by omega) rfl)
end TextC
/-! Node: its cell. -/
abbrev WNd (o : Nat) (kd a b c bd wk le us : Int32) : va_W := [(o, .inr (0, [.int kd, .int a, .int b, .int c, .int bd, .int wk, .int le, .int us]))]
set_option maxRecDepth 100000 in
set_option maxHeartbeats 4000000 in
theorem c_N_fill {l : Launch} {D : va_G} {cI cZ cN : ClassId} {o : Nat} {kd a b c bd wk le us : Int32} (kd' a' b' c' : Int32) : CT l D (tyL cI cZ cN) none y_N_fill b_N_fill 5 none 0 [.ref o, .int kd', .int a', .int b', .int c'] (WNd o kd a b c bd wk le us) (fun _ : Unit => True) (fun _ => none) (fun _ => WNd o kd' a' b' c' bd wk le (nI 0)) := by
  refine CT.of (by decide) (Nat.le_of_ble_eq_true rfl) ?_
  intro X A hl hX hF
  refine r_aload_n (i := 0) hX d_N_fill_0 rfl rfl ?_
  refine r_iload_n (i := 1) hX d_N_fill_1 rfl rfl ?_
  refine r_put 0 0 hX d_N_fill_2 rfl rfl fi_N ft_N_ok fn_N (by decide) fl_N_7 rfl rfl rfl rfl rfl (Nat.le_of_ble_eq_true rfl) ?_
  refine r_aload_n (i := 0) hX d_N_fill_5 rfl rfl ?_
  refine r_iload_n (i := 2) hX d_N_fill_6 rfl rfl ?_
  refine r_put 0 1 hX d_N_fill_7 rfl rfl fi_N ft_N_ok fn_N (by decide) fl_N_13 rfl rfl rfl rfl rfl (Nat.le_of_ble_eq_true rfl) ?_
  refine r_aload_n (i := 0) hX d_N_fill_10 rfl rfl ?_
  refine r_iload_n (i := 3) hX d_N_fill_11 rfl rfl ?_
  refine r_put 0 2 hX d_N_fill_12 rfl rfl fi_N ft_N_ok fn_N (by decide) fl_N_16 rfl rfl rfl rfl rfl (Nat.le_of_ble_eq_true rfl) ?_
  refine r_aload_n (i := 0) hX d_N_fill_15 rfl rfl ?_
  refine r_iload hX d_N_fill_16 rfl ?_
  refine r_put 0 3 hX d_N_fill_18 rfl rfl fi_N ft_N_ok fn_N (by decide) fl_N_19 rfl rfl rfl rfl rfl (Nat.le_of_ble_eq_true rfl) ?_
  refine r_aload_n (i := 0) hX d_N_fill_21 rfl rfl ?_
  refine r_iconst (v := nI 0) hX d_N_fill_22 (by decide) ?_
  refine r_put 0 7 hX d_N_fill_23 rfl rfl fi_N ft_N_ok fn_N (by decide) fl_N_22 rfl rfl rfl rfl rfl (Nat.le_of_ble_eq_true rfl) ?_
  exact r_vret () hX hF d_N_fill_26 trivial rfl rfl
