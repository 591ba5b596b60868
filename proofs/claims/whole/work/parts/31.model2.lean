/-! The reference: readers; node. -/
def mkU (mf : Nat → Nat → Int32) (nn : Nat) (x a b c B W L : Int32) (T : Nat → Int32) : Nat → Nat → Int32 := fun f => match f with
  | 0 => upd (mf 0) nn x
  | 1 => upd (mf 1) nn a
  | 2 => upd (mf 2) nn b
  | 3 => upd (mf 3) nn c
  | 4 => upd (mf 4) nn B
  | 5 => upd (mf 5) nn W
  | 6 => upd (mf 6) nn L
  | 7 => upd T nn (nI 0)
  | i => mf i
def m7 (mf : Nat → Nat → Int32) (T : Nat → Int32) : Nat → Nat → Int32 := fun f => match f with
  | 7 => T
  | i => mf i
theorem mkU_post {mf : Nat → Nat → Int32} {nn : Nat} {x a b c B W L : Int32} {T : Nat → Int32} (hok : nodeOk nn mf x a b c = true) (hB : B = bndF mf (opN x) a b c) (hW : W = wkF mf (opN x) a b c) (hL : L = lvF mf (opsN (opN x)) a b c) (hT : T = useN mf (opsN (opN x)) a b c 7) : ndPost nn mf x a b c (mkU mf nn x a b c B W L T) := by
  refine ⟨fun j hj i hi => ?_, fun q => (by rw [hok] at q; cases q), fun _ => ⟨fun j hj => ?_, pk_us, pk_us, pk_us, pk_us, pk_us.trans hB, pk_us.trans hW, pk_us.trans hL, pk_us⟩⟩
  · have hne : j ≠ nn := by omega
    match i, hi with
    | 0, _ => exact pk_un hne
    | 1, _ => exact pk_un hne
    | 2, _ => exact pk_un hne
    | 3, _ => exact pk_un hne
    | 4, _ => exact pk_un hne
    | 5, _ => exact pk_un hne
    | 6, _ => exact pk_un hne
    | 7, h => exact absurd rfl h
    | i + 8, _ => rfl
  · rw [← hT]
    exact pk_un (by omega)
section ModelB
variable {l : Launch} {D : va_G} {cI cZ cN : ClassId} {am : Nat → Nat} {tl nn rs ae dp : Nat} {tx rw sz nv ph tu sv : Nat → Int32} {mf : Nat → Nat → Int32}
set_option maxRecDepth 100000 in
set_option maxHeartbeats 4000000 in
theorem c_M_none (r : Int32) : CT l D (tyL cI cZ cN) none y_M_none b_M_none 2 (some .boolean) 0 [.ref (am 0), .int r] (WM am cI cZ tl nn rs ae dp tx mf rw sz nv ph tu sv) (fun _ : Unit => True) (fun _ => some (.int (bI (!inR r (nI rs))))) (fun _ => (WM am cI cZ tl nn rs ae dp tx mf rw sz nv ph tu sv)) := by
  refine CT.of (by decide) (Nat.le_of_ble_eq_true rfl) ?_
  intro X A hl hX hF
  refine r_iload_n (i := 1) hX d_M_none_0 rfl rfl ?_
  refine r_if_lt 12 hX d_M_none_1 (by decide) (fun c1 => ?_) (fun c1 => ?_)
  · have hn : inR r (nI rs) = false := by simp [inR, c1]
    refine r_iconst (v := nI 1) hX d_M_none_12 (by decide) ?_
    refine r_goto 17 hX d_M_none_13 (by decide) ?_
    exact r_zret () hX hF d_M_none_17 rfl trivial (by rw [hn]; rfl) rfl
  · refine r_iload_n (i := 1) hX d_M_none_4 rfl rfl ?_
    refine r_aload_n (i := 0) hX d_M_none_5 rfl rfl ?_
    refine r_get 0 2 hX d_M_none_6 rfl rfl fi_M (by decide) fl_M_16 rfl rfl ?_
    refine r_icmp_lt 16 hX d_M_none_9 (by decide) (fun c9 => ?_) (fun c9 => ?_)
    · have hn : inR r (nI rs) = true := by simp [inR, c1, Int32.not_le.mpr c9]
      refine r_iconst (v := nI 0) hX d_M_none_16 (by decide) ?_
      exact r_zret () hX hF d_M_none_17 rfl trivial (by rw [hn]; rfl) rfl
    · have hn : inR r (nI rs) = false := by simp [inR, Int32.not_lt.mp c9]
      refine r_iconst (v := nI 1) hX d_M_none_12 (by decide) ?_
      refine r_goto 17 hX d_M_none_13 (by decide) ?_
      exact r_zret () hX hF d_M_none_17 rfl trivial (by rw [hn]; rfl) rfl
set_option maxRecDepth 100000 in
set_option maxHeartbeats 4000000 in
theorem c_M_result (r : Int32) (hq : rs ≤ 64) : CT l D (tyL cI cZ cN) none y_M_result b_M_result 2 (some .long) 1 [.ref (am 0), .int r] (WM am cI cZ tl nn rs ae dp tx mf rw sz nv ph tu sv) (fun _ : Unit => True) (fun _ => some (.long (if inR r (nI rs) = true then (rw (6 * (1024 + opN r))).toInt64 else 1000000000000))) (fun _ => (WM am cI cZ tl nn rs ae dp tx mf rw sz nv ph tu sv)) := by
  refine CT.of (by decide) (Nat.le_of_ble_eq_true rfl) ?_
  intro X A hl hX hF
  refine r_aload_n (i := 0) hX d_M_result_0 rfl rfl ?_
  refine r_iload_n (i := 1) hX d_M_result_1 rfl rfl ?_
  refine r_callVwi (q0 := 0) hX d_M_result_2 cw_M_none ml_M_153 (c_M_none r) (Or.inl rfl) rfl rfl rfl rfl (by decide) (Nat.le_of_ble_eq_true rfl) (fun _ => rfl) (fun _ _ => ?_)
  refine r_if_eq 14 hX d_M_result_5 (by decide) (fun c5 => ?_) (fun c5 => ?_)
  · have hr : inR r (nI rs) = true := by have := bI_0 c5; simpa using this
    obtain ⟨j, hj, rfl⟩ := inR_of hr (by omega)
    have hn : (if inR (nI j) (nI rs) = true then (rw (6 * (1024 + opN (nI j)))).toInt64 else 1000000000000) = (rw (6144 + j * 6)).toInt64 := by rw [if_pos hr, opN_nI (by omega), show 6 * (1024 + j) = 6144 + j * 6 by omega]
    refine r_aload_n (i := 0) hX d_M_result_14 rfl rfl ?_
    refine r_get 0 13 hX d_M_result_15 rfl rfl fi_M (by decide) fl_M_51 rfl rfl ?_
    refine r_sipush (v := nI 6144) hX d_M_result_18 (by decide) ?_
    refine r_iload_n (i := 1) hX d_M_result_21 rfl rfl ?_
    skip
    refine r_bipush (v := nI 6) hX d_M_result_22 (by decide) ?_
    refine r_imul hX d_M_result_24 ?_
    refine r_iadd hX d_M_result_25 ?_
    refine r_iald 10 0 (6144 + j * 6) hX d_M_result_26 rfl rfl (by rw [pk_mul, nI_add]) (by omega) (by decide) ?_
    refine r_i2l hX d_M_result_27 rfl ?_
    exact r_lret () hX hF d_M_result_28 trivial (by rw [hn]) rfl
  · have hr : inR r (nI rs) = false := by have := bI_1 c5; simpa using this
    have hn : (if inR r (nI rs) = true then (rw (6 * (1024 + opN r))).toInt64 else 1000000000000) = 1000000000000 := by simp [hr]
    refine r_ldc2 hX d_M_result_8 kl_M_156 ?_
    refine r_goto 28 hX d_M_result_11 (by decide) ?_
    exact r_lret () hX hF d_M_result_28 trivial (by rw [hn]) rfl
set_option maxRecDepth 100000 in
set_option maxHeartbeats 4000000 in
theorem c_M_place (r : Int32) (hq : rs ≤ 64) : CT l D (tyL cI cZ cN) none y_M_place b_M_place 2 (some .int) 1 [.ref (am 0), .int r] (WM am cI cZ tl nn rs ae dp tx mf rw sz nv ph tu sv) (fun _ : Unit => True) (fun _ => some (.int (if inR r (nI rs) = true then rw (6 * (1024 + opN r) + 1) else -1))) (fun _ => (WM am cI cZ tl nn rs ae dp tx mf rw sz nv ph tu sv)) := by
  refine CT.of (by decide) (Nat.le_of_ble_eq_true rfl) ?_
  intro X A hl hX hF
  refine r_aload_n (i := 0) hX d_M_place_0 rfl rfl ?_
  refine r_iload_n (i := 1) hX d_M_place_1 rfl rfl ?_
  refine r_callVwi (q0 := 0) hX d_M_place_2 cw_M_none ml_M_153 (c_M_none r) (Or.inl rfl) rfl rfl rfl rfl (by decide) (Nat.le_of_ble_eq_true rfl) (fun _ => rfl) (fun _ _ => ?_)
  refine r_if_eq 12 hX d_M_place_5 (by decide) (fun c5 => ?_) (fun c5 => ?_)
  · have hr : inR r (nI rs) = true := by have := bI_0 c5; simpa using this
    obtain ⟨j, hj, rfl⟩ := inR_of hr (by omega)
    have hn : (if inR (nI j) (nI rs) = true then rw (6 * (1024 + opN (nI j)) + 1) else -1) = rw (6144 + j * 6 + 1) := by rw [if_pos hr, opN_nI (by omega), show 6 * (1024 + j) + 1 = 6144 + j * 6 + 1 by omega]
    refine r_aload_n (i := 0) hX d_M_place_12 rfl rfl ?_
    refine r_get 0 13 hX d_M_place_13 rfl rfl fi_M (by decide) fl_M_51 rfl rfl ?_
    refine r_sipush (v := nI 6144) hX d_M_place_16 (by decide) ?_
    refine r_iload_n (i := 1) hX d_M_place_19 rfl rfl ?_
    refine r_bipush (v := nI 6) hX d_M_place_20 (by decide) ?_
    refine r_imul hX d_M_place_22 ?_
    refine r_iadd hX d_M_place_23 ?_
    refine r_iconst (v := nI 1) hX d_M_place_24 (by decide) ?_
    refine r_iadd hX d_M_place_25 ?_
    refine r_iald 10 0 (6144 + j * 6 + 1) hX d_M_place_26 rfl rfl (by rw [pk_mul, nI_add, nI_add]) (by omega) (by decide) ?_
    exact r_iret () hX hF d_M_place_27 trivial (by rw [hn]) rfl
  · have hr : inR r (nI rs) = false := by have := bI_1 c5; simpa using this
    have hn : (if inR r (nI rs) = true then rw (6 * (1024 + opN r) + 1) else -1) = -1 := by simp [hr]
    refine r_iconst (v := -1) hX d_M_place_8 (by decide) ?_
    refine r_goto 27 hX d_M_place_9 (by decide) ?_
    exact r_iret () hX hF d_M_place_27 trivial (by rw [hn]) rfl
set_option maxRecDepth 100000 in
set_option maxHeartbeats 4000000 in
theorem c_M_variable (r v : Int32) (hq : rs ≤ 64) : CT l D (tyL cI cZ cN) none y_M_variable b_M_variable 3 (some .long) 1 [.ref (am 0), .int r, .int v] (WM am cI cZ tl nn rs ae dp tx mf rw sz nv ph tu sv) (fun _ : Unit => True) (fun _ => some (.long (if inR r (nI rs) = true ∧ inR v (nI 4) = true then (rw (6 * (1024 + opN r) + 2 + opN v)).toInt64 else 1000000000000))) (fun _ => (WM am cI cZ tl nn rs ae dp tx mf rw sz nv ph tu sv)) := by
  refine CT.of (by decide) (Nat.le_of_ble_eq_true rfl) ?_
  intro X A hl hX hF
  refine r_aload_n (i := 0) hX d_M_variable_0 rfl rfl ?_
  refine r_iload_n (i := 1) hX d_M_variable_1 rfl rfl ?_
  refine r_callVwi (q0 := 0) hX d_M_variable_2 cw_M_none ml_M_153 (c_M_none r) (Or.inl rfl) rfl rfl rfl rfl (by decide) (Nat.le_of_ble_eq_true rfl) (fun _ => rfl) (fun _ _ => ?_)
  refine r_if_ne 17 hX d_M_variable_5 (by decide) (fun c5 => ?_) (fun c5 => ?_)
  · have hr : inR r (nI rs) = false := by have := bI_1 c5; simpa using this
    have hn : (if inR r (nI rs) = true ∧ inR v (nI 4) = true then (rw (6 * (1024 + opN r) + 2 + opN v)).toInt64 else 1000000000000) = 1000000000000 := by simp [hr]
    refine r_ldc2 hX d_M_variable_17 kl_M_156 ?_
    refine r_goto 41 hX d_M_variable_20 (by decide) ?_
    exact r_lret () hX hF d_M_variable_41 trivial (by rw [hn]) rfl
  · have hr : inR r (nI rs) = true := by have := bI_0 c5; simpa using this
    refine r_iload_n (i := 2) hX d_M_variable_8 rfl rfl ?_
    refine r_if_lt 17 hX d_M_variable_9 (by decide) (fun c9 => ?_) (fun c9 => ?_)
    · have hn : (if inR r (nI rs) = true ∧ inR v (nI 4) = true then (rw (6 * (1024 + opN r) + 2 + opN v)).toInt64 else 1000000000000) = 1000000000000 := by simp [inR, c9]
      refine r_ldc2 hX d_M_variable_17 kl_M_156 ?_
      refine r_goto 41 hX d_M_variable_20 (by decide) ?_
      exact r_lret () hX hF d_M_variable_41 trivial (by rw [hn]) rfl
    · refine r_iload_n (i := 2) hX d_M_variable_12 rfl rfl ?_
      refine r_iconst (v := nI 3) hX d_M_variable_13 (by decide) ?_
      refine r_icmp_le 23 hX d_M_variable_14 (by decide) (fun c14 => ?_) (fun c14 => ?_)
      · have hv : inR v (nI 4) = true := by
          have h5 : ¬ nI 4 ≤ v := fun h => Int32.not_le.mpr ((i32_succ (n := 3) (by decide)).mp h) c14
          simp [inR, c9, h5]
        obtain ⟨j, hj, rfl⟩ := inR_of hr (by omega)
        obtain ⟨i, hi, rfl⟩ := inR_of hv (by omega)
        have hn : (if inR (nI j) (nI rs) = true ∧ inR (nI i) (nI 4) = true then (rw (6 * (1024 + opN (nI j)) + 2 + opN (nI i))).toInt64 else 1000000000000) = (rw (6144 + j * 6 + 2 + i)).toInt64 := by rw [if_pos ⟨hr, hv⟩, opN_nI (by omega), opN_nI (by omega), show 6 * (1024 + j) + 2 + i = 6144 + j * 6 + 2 + i by omega]
        refine r_aload_n (i := 0) hX d_M_variable_23 rfl rfl ?_
        refine r_get 0 13 hX d_M_variable_24 rfl rfl fi_M (by decide) fl_M_51 rfl rfl ?_
        refine r_sipush (v := nI 6144) hX d_M_variable_27 (by decide) ?_
        refine r_iload_n (i := 1) hX d_M_variable_30 rfl rfl ?_
        refine r_bipush (v := nI 6) hX d_M_variable_31 (by decide) ?_
        refine r_imul hX d_M_variable_33 ?_
        refine r_iadd hX d_M_variable_34 ?_
        refine r_iconst (v := nI 2) hX d_M_variable_35 (by decide) ?_
        refine r_iadd hX d_M_variable_36 ?_
        refine r_iload_n (i := 2) hX d_M_variable_37 rfl rfl ?_
        refine r_iadd hX d_M_variable_38 ?_
        refine r_iald 10 0 (6144 + j * 6 + 2 + i) hX d_M_variable_39 rfl rfl (by rw [pk_mul, nI_add, nI_add, nI_add]) (by omega) (by decide) ?_
        refine r_i2l hX d_M_variable_40 rfl ?_
        exact r_lret () hX hF d_M_variable_41 trivial (by rw [hn]) rfl
      · have hn : (if inR r (nI rs) = true ∧ inR v (nI 4) = true then (rw (6 * (1024 + opN r) + 2 + opN v)).toInt64 else 1000000000000) = 1000000000000 := by
          have h5 : nI 4 ≤ v := (i32_succ (n := 3) (by decide)).mpr (Int32.not_le.mp c14)
          simp [inR, h5]
        refine r_ldc2 hX d_M_variable_17 kl_M_156 ?_
        refine r_goto 41 hX d_M_variable_20 (by decide) ?_
        exact r_lret () hX hF d_M_variable_41 trivial (by rw [hn]) rfl
set_option maxRecDepth 100000 in
set_option maxHeartbeats 4000000 in
theorem c_M_bound (r : Int32) (hnn : nn ≤ 60) : CT l D (tyL cI cZ cN) none y_M_bound b_M_bound 2 (some .int) 0 [.ref (am 0), .int r] (WM am cI cZ tl nn rs ae dp tx mf rw sz nv ph tu sv) (fun _ : Unit => True) (fun _ => some (.int (if inR r (nI nn) = true then mf 4 (opN r) else -1))) (fun _ => (WM am cI cZ tl nn rs ae dp tx mf rw sz nv ph tu sv)) := by
  refine CT.of (by decide) (Nat.le_of_ble_eq_true rfl) ?_
  intro X A hl hX hF
  refine r_iload_n (i := 1) hX d_M_bound_0 rfl rfl ?_
  refine r_if_lt 12 hX d_M_bound_1 (by decide) (fun c1 => ?_) (fun c1 => ?_)
  · have hn : (if inR r (nI nn) = true then mf 4 (opN r) else -1) = -1 := by simp [inR, c1]
    refine r_iconst (v := -1) hX d_M_bound_12 (by decide) ?_
    refine r_goto 22 hX d_M_bound_13 (by decide) ?_
    exact r_iret () hX hF d_M_bound_22 trivial (by rw [hn]) rfl
  · refine r_iload_n (i := 1) hX d_M_bound_4 rfl rfl ?_
    refine r_aload_n (i := 0) hX d_M_bound_5 rfl rfl ?_
    refine r_get 0 1 hX d_M_bound_6 rfl rfl fi_M (by decide) fl_M_13 rfl rfl ?_
    refine r_icmp_lt 16 hX d_M_bound_9 (by decide) (fun c9 => ?_) (fun c9 => ?_)
    · have hr : inR r (nI nn) = true := by simp [inR, c1, Int32.not_le.mpr c9]
      obtain ⟨j, hj, rfl⟩ := inR_of hr (by omega)
      have hn : (if inR (nI j) (nI nn) = true then mf 4 (opN (nI j)) else -1) = mf 4 j := by rw [if_pos hr, opN_nI (by omega)]
      refine r_aload_n (i := 0) hX d_M_bound_16 rfl rfl ?_
      refine r_get 0 9 hX d_M_bound_17 rfl rfl fi_M (by decide) fl_M_38 rfl rfl ?_
      refine r_iload_n (i := 1) hX d_M_bound_20 rfl rfl ?_
      refine r_iald 6 0 (j) hX d_M_bound_21 rfl rfl rfl (by omega) (by decide) ?_
      exact r_iret () hX hF d_M_bound_22 trivial (by rw [hn]) rfl
    · have hn : (if inR r (nI nn) = true then mf 4 (opN r) else -1) = -1 := by simp [inR, Int32.not_lt.mp c9]
      refine r_iconst (v := -1) hX d_M_bound_12 (by decide) ?_
      refine r_goto 22 hX d_M_bound_13 (by decide) ?_
      exact r_iret () hX hF d_M_bound_22 trivial (by rw [hn]) rfl
set_option maxRecDepth 100000 in
set_option maxHeartbeats 4000000 in
theorem c_M_level (r : Int32) (hnn : nn ≤ 60) : CT l D (tyL cI cZ cN) none y_M_level b_M_level 2 (some .int) 0 [.ref (am 0), .int r] (WM am cI cZ tl nn rs ae dp tx mf rw sz nv ph tu sv) (fun _ : Unit => True) (fun _ => some (.int (if inR r (nI nn) = true then mf 6 (opN r) else -1))) (fun _ => (WM am cI cZ tl nn rs ae dp tx mf rw sz nv ph tu sv)) := by
  refine CT.of (by decide) (Nat.le_of_ble_eq_true rfl) ?_
  intro X A hl hX hF
  refine r_iload_n (i := 1) hX d_M_level_0 rfl rfl ?_
  refine r_if_lt 12 hX d_M_level_1 (by decide) (fun c1 => ?_) (fun c1 => ?_)
  · have hn : (if inR r (nI nn) = true then mf 6 (opN r) else -1) = -1 := by simp [inR, c1]
    refine r_iconst (v := -1) hX d_M_level_12 (by decide) ?_
    refine r_goto 22 hX d_M_level_13 (by decide) ?_
    exact r_iret () hX hF d_M_level_22 trivial (by rw [hn]) rfl
  · refine r_iload_n (i := 1) hX d_M_level_4 rfl rfl ?_
    refine r_aload_n (i := 0) hX d_M_level_5 rfl rfl ?_
    refine r_get 0 1 hX d_M_level_6 rfl rfl fi_M (by decide) fl_M_13 rfl rfl ?_
    refine r_icmp_lt 16 hX d_M_level_9 (by decide) (fun c9 => ?_) (fun c9 => ?_)
    · have hr : inR r (nI nn) = true := by simp [inR, c1, Int32.not_le.mpr c9]
      obtain ⟨j, hj, rfl⟩ := inR_of hr (by omega)
      have hn : (if inR (nI j) (nI nn) = true then mf 6 (opN (nI j)) else -1) = mf 6 j := by rw [if_pos hr, opN_nI (by omega)]
      refine r_aload_n (i := 0) hX d_M_level_16 rfl rfl ?_
      refine r_get 0 10 hX d_M_level_17 rfl rfl fi_M (by decide) fl_M_41 rfl rfl ?_
      refine r_iload_n (i := 1) hX d_M_level_20 rfl rfl ?_
      refine r_iald 7 0 (j) hX d_M_level_21 rfl rfl rfl (by omega) (by decide) ?_
      exact r_iret () hX hF d_M_level_22 trivial (by rw [hn]) rfl
    · have hn : (if inR r (nI nn) = true then mf 6 (opN r) else -1) = -1 := by simp [inR, Int32.not_lt.mp c9]
      refine r_iconst (v := -1) hX d_M_level_12 (by decide) ?_
      refine r_goto 22 hX d_M_level_13 (by decide) ?_
      exact r_iret () hX hF d_M_level_22 trivial (by rw [hn]) rfl
set_option maxRecDepth 100000 in
set_option maxHeartbeats 4000000 in
theorem c_M_used (r : Int32) (hnn : nn ≤ 60) : CT l D (tyL cI cZ cN) none y_M_used b_M_used 2 (some .boolean) 0 [.ref (am 0), .int r] (WM am cI cZ tl nn rs ae dp tx mf rw sz nv ph tu sv) (fun _ : Unit => True) (fun _ => some (.int (bI (inR r (nI nn) && !decide (mf 7 (opN r) = 0))))) (fun _ => (WM am cI cZ tl nn rs ae dp tx mf rw sz nv ph tu sv)) := by
  refine CT.of (by decide) (Nat.le_of_ble_eq_true rfl) ?_
  intro X A hl hX hF
  refine r_iload_n (i := 1) hX d_M_used_0 rfl rfl ?_
  refine r_if_lt 25 hX d_M_used_1 (by decide) (fun c1 => ?_) (fun c1 => ?_)
  · have hn : (inR r (nI nn) && !decide (mf 7 (opN r) = 0)) = false := by simp [inR, c1]
    refine r_iconst (v := nI 0) hX d_M_used_25 (by decide) ?_
    exact r_zret () hX hF d_M_used_26 rfl trivial (by rw [hn]; rfl) rfl
  · refine r_iload_n (i := 1) hX d_M_used_4 rfl rfl ?_
    refine r_aload_n (i := 0) hX d_M_used_5 rfl rfl ?_
    refine r_get 0 1 hX d_M_used_6 rfl rfl fi_M (by decide) fl_M_13 rfl rfl ?_
    refine r_icmp_ge 25 hX d_M_used_9 (by decide) (fun c9 => ?_) (fun c9 => ?_)
    · have hn : (inR r (nI nn) && !decide (mf 7 (opN r) = 0)) = false := by simp [inR, c9]
      refine r_iconst (v := nI 0) hX d_M_used_25 (by decide) ?_
      exact r_zret () hX hF d_M_used_26 rfl trivial (by rw [hn]; rfl) rfl
    · have hr : inR r (nI nn) = true := by simp [inR, c1, c9]
      obtain ⟨j, hj, rfl⟩ := inR_of hr (by omega)
      refine r_aload_n (i := 0) hX d_M_used_12 rfl rfl ?_
      refine r_get 0 12 hX d_M_used_13 rfl rfl fi_M (by decide) fl_M_47 rfl rfl ?_
      refine r_iload_n (i := 1) hX d_M_used_16 rfl rfl ?_
      refine r_zald 9 1 (j) hX d_M_used_17 rfl rfl rfl (by omega) (by decide) ?_
      refine r_if_eq 25 hX d_M_used_18 (by decide) (fun c18 => ?_) (fun c18 => ?_)
      · have hn : (inR (nI j) (nI nn) && !decide (mf 7 (opN (nI j)) = 0)) = false := by rw [opN_nI (by omega)]; simp [c18]
        refine r_iconst (v := nI 0) hX d_M_used_25 (by decide) ?_
        exact r_zret () hX hF d_M_used_26 rfl trivial (by rw [hn]; rfl) rfl
      · have hn : (inR (nI j) (nI nn) && !decide (mf 7 (opN (nI j)) = 0)) = true := by rw [opN_nI (by omega), hr]; simp [c18]
        refine r_iconst (v := nI 1) hX d_M_used_21 (by decide) ?_
        refine r_goto 26 hX d_M_used_22 (by decide) ?_
        exact r_zret () hX hF d_M_used_26 rfl trivial (by rw [hn]; rfl) rfl
set_option maxRecDepth 100000 in
set_option maxHeartbeats 4000000 in
theorem c_M_count (w : Int32) : CT l D (tyL cI cZ cN) none y_M_count b_M_count 2 (some .int) 0 [.ref (am 0), .int w] (WM am cI cZ tl nn rs ae dp tx mf rw sz nv ph tu sv) (fun _ : Unit => True) (fun _ => some (.int (cntF nn tl rs ae w))) (fun _ => (WM am cI cZ tl nn rs ae dp tx mf rw sz nv ph tu sv)) := by
  refine CT.of (by decide) (Nat.le_of_ble_eq_true rfl) ?_
  intro X A hl hX hF
  refine r_iload_n (i := 1) hX d_M_count_0 rfl rfl ?_
  refine r_if_ne 11 hX d_M_count_1 (by decide) (fun c1 => ?_) (fun c1 => ?_)
  · have h0 : ¬ w = nI 0 := c1
    refine r_iload_n (i := 1) hX d_M_count_11 rfl rfl ?_
    refine r_iconst (v := nI 1) hX d_M_count_12 (by decide) ?_
    refine r_icmp_ne 23 hX d_M_count_13 (by decide) (fun c13 => ?_) (fun c13 => ?_)
    · refine r_iload_n (i := 1) hX d_M_count_23 rfl rfl ?_
      refine r_iconst (v := nI 2) hX d_M_count_24 (by decide) ?_
      refine r_icmp_ne 35 hX d_M_count_25 (by decide) (fun c25 => ?_) (fun c25 => ?_)
      · refine r_iload_n (i := 1) hX d_M_count_35 rfl rfl ?_
        refine r_iconst (v := nI 3) hX d_M_count_36 (by decide) ?_
        refine r_icmp_ne 47 hX d_M_count_37 (by decide) (fun c37 => ?_) (fun c37 => ?_)
        · have hn : cntF nn tl rs ae w = -1 := by simp only [cntF, if_neg h0, if_neg c13, if_neg c25, if_neg c37]
          refine r_iconst (v := -1) hX d_M_count_47 (by decide) ?_
          exact r_iret () hX hF d_M_count_48 trivial (by rw [hn]) rfl
        · have hn : cntF nn tl rs ae w = nI ae := by simp only [cntF, if_neg h0, if_neg c13, if_neg c25, if_pos c37]
          refine r_aload_n (i := 0) hX d_M_count_40 rfl rfl ?_
          refine r_get 0 3 hX d_M_count_41 rfl rfl fi_M (by decide) fl_M_19 rfl rfl ?_
          refine r_goto 48 hX d_M_count_44 (by decide) ?_
          exact r_iret () hX hF d_M_count_48 trivial (by rw [hn]) rfl
      · have hn : cntF nn tl rs ae w = nI rs := by simp only [cntF, if_neg h0, if_neg c13, if_pos c25]
        refine r_aload_n (i := 0) hX d_M_count_28 rfl rfl ?_
        refine r_get 0 2 hX d_M_count_29 rfl rfl fi_M (by decide) fl_M_16 rfl rfl ?_
        refine r_goto 48 hX d_M_count_32 (by decide) ?_
        exact r_iret () hX hF d_M_count_48 trivial (by rw [hn]) rfl
    · have hn : cntF nn tl rs ae w = nI tl := by simp only [cntF, if_neg h0, if_pos c13]
      refine r_aload_n (i := 0) hX d_M_count_16 rfl rfl ?_
      refine r_get 0 0 hX d_M_count_17 rfl rfl fi_M (by decide) fl_M_7 rfl rfl ?_
      refine r_goto 48 hX d_M_count_20 (by decide) ?_
      exact r_iret () hX hF d_M_count_48 trivial (by rw [hn]) rfl
  · have h0 : w = nI 0 := c1
    have hn : cntF nn tl rs ae w = nI nn := by simp [cntF, h0]
    refine r_aload_n (i := 0) hX d_M_count_4 rfl rfl ?_
    refine r_get 0 1 hX d_M_count_5 rfl rfl fi_M (by decide) fl_M_13 rfl rfl ?_
    refine r_goto 48 hX d_M_count_8 (by decide) ?_
    exact r_iret () hX hF d_M_count_48 trivial (by rw [hn]) rfl
set_option maxRecDepth 100000 in
set_option maxHeartbeats 4000000 in
theorem c_M_higher (x r : Int32) (b : Bool) (hb : b = true → ∃ j, j < 60 ∧ r = nI j) : CT l D (tyL cI cZ cN) none y_M_higher b_M_higher 4 (some .int) 0 [.ref (am 0), .int x, .int (bI b), .int r] (WM am cI cZ tl nn rs ae dp tx mf rw sz nv ph tu sv) (fun _ : Unit => True) (fun _ => some (.int (if b = true then mx x (mf 6 (opN r)) else x))) (fun _ => (WM am cI cZ tl nn rs ae dp tx mf rw sz nv ph tu sv)) := by
  refine CT.of (by decide) (Nat.le_of_ble_eq_true rfl) ?_
  intro X A hl hX hF
  refine r_iload_n (i := 2) hX d_M_higher_0 rfl rfl ?_
  refine r_if_eq 23 hX d_M_higher_1 (by decide) (fun c1 => ?_) (fun c1 => ?_)
  · have hn : (if b = true then mx x (mf 6 (opN r)) else x) = x := by have := bI_0 c1; simp [this]
    refine r_iload_n (i := 1) hX d_M_higher_23 rfl rfl ?_
    exact r_iret () hX hF d_M_higher_24 trivial (by rw [hn]) rfl
  · have hbt := bI_1 c1
    obtain ⟨j, hj, rfl⟩ := hb hbt
    refine r_aload_n (i := 0) hX d_M_higher_4 rfl rfl ?_
    refine r_get 0 10 hX d_M_higher_5 rfl rfl fi_M (by decide) fl_M_41 rfl rfl ?_
    refine r_iload_n (i := 3) hX d_M_higher_8 rfl rfl ?_
    refine r_iald 7 0 (j) hX d_M_higher_9 rfl rfl rfl (by omega) (by decide) ?_
    refine r_iload_n (i := 1) hX d_M_higher_10 rfl rfl ?_
    refine r_icmp_le 23 hX d_M_higher_11 (by decide) (fun c11 => ?_) (fun c11 => ?_)
    · have hn : (if b = true then mx x (mf 6 (opN (nI j))) else x) = x := by rw [if_pos hbt, opN_nI (by omega), mx, if_neg (Int32.not_lt.mpr c11)]
      refine r_iload_n (i := 1) hX d_M_higher_23 rfl rfl ?_
      exact r_iret () hX hF d_M_higher_24 trivial (by rw [hn]) rfl
    · have hn : (if b = true then mx x (mf 6 (opN (nI j))) else x) = mf 6 j := by rw [if_pos hbt, opN_nI (by omega), mx, if_pos (Int32.not_le.mp c11)]
      refine r_aload_n (i := 0) hX d_M_higher_14 rfl rfl ?_
      refine r_get 0 10 hX d_M_higher_15 rfl rfl fi_M (by decide) fl_M_41 rfl rfl ?_
      refine r_iload_n (i := 3) hX d_M_higher_18 rfl rfl ?_
      refine r_iald 7 0 (j) hX d_M_higher_19 rfl rfl rfl (by omega) (by decide) ?_
      refine r_goto 24 hX d_M_higher_20 (by decide) ?_
      exact r_iret () hX hF d_M_higher_24 trivial (by rw [hn]) rfl
set_option maxRecDepth 100000 in
set_option maxHeartbeats 4000000 in
theorem c_M_node (x a b c : Int32) (hnn : nn ≤ 60) : CT l D (tyL cI cZ cN) none y_M_node b_M_node 8 (some .int) 2 [.ref (am 0), .int x, .int a, .int b, .int c] (WM am cI cZ tl nn rs ae dp tx mf rw sz nv ph tu sv) (ndPost nn mf x a b c) (fun _ => some (.int (if nodeOk nn mf x a b c = true then nI nn else -1))) (fun u => WM am cI cZ tl (if nodeOk nn mf x a b c = true then nn + 1 else nn) rs ae dp tx u rw sz nv ph tu sv) := by
  refine CT.of (by decide) (Nat.le_of_ble_eq_true rfl) ?_
  intro X A hl hX hF
  have bad : nodeOk nn mf x a b c = false → ndPost nn mf x a b c mf := fun h => ⟨fun _ _ _ _ => rfl, fun _ _ _ => rfl, fun q => by rw [h] at q; cases q⟩
  by_cases hx0 : x < 0
  · have hn : nodeOk nn mf x a b c = false := by simp [nodeOk, hx0]
    refine r_iload_n (i := 1) hX d_M_node_0 rfl rfl ?_
    refine r_if_lt 31 hX d_M_node_1 (by decide) (fun c1 => ?_) (fun c1 => absurd hx0 c1)
    refine r_iconst (v := -1) hX d_M_node_31 (by decide) ?_
    exact r_iret mf hX hF d_M_node_32 (bad hn) (by rw [hn]; rfl) (by rw [hn]; rfl)
  by_cases hx1 : nI 21 < x
  · have hn : nodeOk nn mf x a b c = false := by simp [nodeOk, hx1]
    refine r_iload_n (i := 1) hX d_M_node_0 rfl rfl ?_
    refine r_if_lt 31 hX d_M_node_1 (by decide) (fun c1 => absurd c1 hx0) (fun c1 => ?_)
    refine r_iload_n (i := 1) hX d_M_node_4 rfl rfl ?_
    refine r_bipush (v := nI 21) hX d_M_node_5 (by decide) ?_
    refine r_icmp_gt 31 hX d_M_node_7 (by decide) (fun c7 => ?_) (fun c7 => absurd hx1 c7)
    refine r_iconst (v := -1) hX d_M_node_31 (by decide) ?_
    exact r_iret mf hX hF d_M_node_32 (bad hn) (by rw [hn]; rfl) (by rw [hn]; rfl)
  obtain ⟨k, hk, rfl⟩ := nI_of2 (M := nI 21) (n := 21) (by decide) hx0 (Int32.not_lt.mp hx1)
  have hkk : opN (nI k) = k := opN_nI (by omega)
  rcases k22 hk with rfl | rfl | rfl | rfl | rfl | rfl | rfl | rfl | rfl | rfl | rfl | rfl | rfl | rfl | rfl | rfl | rfl | rfl | rfl | rfl | rfl | rfl
  ·
    refine r_iload_n (i := 1) hX d_M_node_0 rfl rfl ?_
    refine r_if_lt 31 hX d_M_node_1 (by decide) (fun c1 => absurd c1 (by decide)) (fun c1 => ?_)
    refine r_iload_n (i := 1) hX d_M_node_4 rfl rfl ?_
    refine r_bipush (v := nI 21) hX d_M_node_5 (by decide) ?_
    refine r_icmp_gt 31 hX d_M_node_7 (by decide) (fun c7 => absurd c7 (by decide)) (fun c7 => ?_)
    refine r_aload_n (i := 0) hX d_M_node_10 rfl rfl ?_
    refine r_iload_n (i := 1) hX d_M_node_11 rfl rfl ?_
    refine r_iload_n (i := 2) hX d_M_node_12 rfl rfl ?_
    refine r_iload_n (i := 3) hX d_M_node_13 rfl rfl ?_
    refine r_iload hX d_M_node_14 rfl ?_
    refine r_callVwi (q0 := 0) hX d_M_node_16 cw_M_fits ml_M_85 (c_M_fits 0 a b c (by decide) hnn) (Or.inl rfl) rfl rfl rfl rfl (by decide) (Nat.le_of_ble_eq_true rfl) (fun _ => rfl) (fun _ _ => ?_)
    refine r_if_eq 31 hX d_M_node_19 (by decide) (fun c19 => ?_) (fun c19 => ?_)
    · have hn : nodeOk nn mf (nI 0) a b c = false := by
        have h9 := bI_0 c19
        simp only [fitK, Bool.and_eq_false_iff] at h9
        rcases h9 with h9 | h9 <;> simp [nodeOk, hkk, h9]
      refine r_iconst (v := -1) hX d_M_node_31 (by decide) ?_
      exact r_iret mf hX hF d_M_node_32 (bad hn) (by rw [hn]; rfl) (by rw [hn]; rfl)
    · refine r_aload_n (i := 0) hX d_M_node_22 rfl rfl ?_
      refine r_get 0 1 hX d_M_node_23 rfl rfl fi_M (by decide) fl_M_13 rfl rfl ?_
      refine r_bipush (v := nI 60) hX d_M_node_26 (by decide) ?_
      refine r_icmp_ne 33 hX d_M_node_28 (by decide) (fun c28 => ?_) (fun c28 => ?_)
      · have hlt : nn < 60 := by
          rcases Nat.lt_or_ge nn 60 with h | h
          · exact h
          · exact absurd (by rw [show nn = 60 by omega]) c28
        have h9 := bI_1 c19
        simp only [fitK, Bool.and_eq_true] at h9
        obtain ⟨hpl, hfit⟩ := h9
        have hoN := mfit_k (by decide) hfit hnn
        have hops := hoN.ops hnn
        refine r_aload_n (i := 0) hX d_M_node_33 rfl rfl ?_
        refine r_iload_n (i := 1) hX d_M_node_34 rfl rfl ?_
        refine r_iload_n (i := 2) hX d_M_node_35 rfl rfl ?_
        refine r_iload_n (i := 3) hX d_M_node_36 rfl rfl ?_
        refine r_iload hX d_M_node_37 rfl ?_
        refine r_callVwi (q0 := 0) hX d_M_node_39 cw_M_boundOf ml_M_89 (c_M_boundOf 0 a b c (by decide) hops) (Or.inl rfl) rfl rfl rfl rfl (by decide) (Nat.le_of_ble_eq_true rfl) (fun _ => rfl) (fun _ _ => ?_)
        generalize hB : bndF mf 0 a b c = B
        refine r_istore hX d_M_node_42 (by decide) ?_
        refine r_iconst (v := nI 0) hX d_M_node_44 (by decide) ?_
        refine r_istore hX d_M_node_45 (by decide) ?_
        refine r_aload_n (i := 0) hX d_M_node_47 rfl rfl ?_
        refine r_iload hX d_M_node_48 rfl ?_
        refine r_aload_n (i := 0) hX d_M_node_50 rfl rfl ?_
        refine r_iload_n (i := 1) hX d_M_node_51 rfl rfl ?_
        refine r_callVwi (q0 := 0) hX d_M_node_52 cw_M_namesA ml_M_79 (c_M_namesA 0 (by decide)) (Or.inl rfl) rfl rfl rfl rfl (by decide) (Nat.le_of_ble_eq_true rfl) (fun _ => rfl) (fun _ _ => ?_)
        refine r_iload_n (i := 2) hX d_M_node_55 rfl rfl ?_
        refine r_callVwi (q0 := 0) hX d_M_node_56 cw_M_higher ml_M_93 (c_M_higher (nI 0) a (nmA 0) (fun q => absurd q (by decide))) (Or.inl rfl) rfl rfl rfl rfl (by decide) (Nat.le_of_ble_eq_true rfl) (fun _ => rfl) (fun _ _ => ?_)
        refine r_top (y := nI 0) (by simp [nmA]) ?_
        refine r_istore hX d_M_node_59 (by decide) ?_
        refine r_aload_n (i := 0) hX d_M_node_61 rfl rfl ?_
        refine r_iload hX d_M_node_62 rfl ?_
        refine r_aload_n (i := 0) hX d_M_node_64 rfl rfl ?_
        refine r_iload_n (i := 1) hX d_M_node_65 rfl rfl ?_
        refine r_callVwi (q0 := 0) hX d_M_node_66 cw_M_namesB ml_M_82 (c_M_namesB 0 (by decide)) (Or.inl rfl) rfl rfl rfl rfl (by decide) (Nat.le_of_ble_eq_true rfl) (fun _ => rfl) (fun _ _ => ?_)
        refine r_iload_n (i := 3) hX d_M_node_69 rfl rfl ?_
        refine r_callVwi (q0 := 0) hX d_M_node_70 cw_M_higher ml_M_93 (c_M_higher (nI 0) b (nmB 0) (fun q => absurd q (by decide))) (Or.inl rfl) rfl rfl rfl rfl (by decide) (Nat.le_of_ble_eq_true rfl) (fun _ => rfl) (fun _ _ => ?_)
        refine r_top (y := nI 0) (by simp [nmB]) ?_
        refine r_istore hX d_M_node_73 (by decide) ?_
        refine r_iconst (v := nI 1) hX d_M_node_75 (by decide) ?_
        refine r_aload_n (i := 0) hX d_M_node_76 rfl rfl ?_
        refine r_iload hX d_M_node_77 rfl ?_
        refine r_iload_n (i := 1) hX d_M_node_79 rfl rfl ?_
        refine r_bipush (v := nI 19) hX d_M_node_80 (by decide) ?_
        refine r_icmp_ne 89 hX d_M_node_82 (by decide) (fun c82 => ?_) (fun c82 => absurd c82 (by decide))
        refine r_iconst (v := nI 0) hX d_M_node_89 (by decide) ?_
        refine r_iload hX d_M_node_90 rfl ?_
        refine r_callVwi (q0 := 0) hX d_M_node_92 cw_M_higher ml_M_93 (c_M_higher (nI 0) c false (fun q => absurd q (by decide))) (Or.inl rfl) rfl rfl rfl rfl (by decide) (Nat.le_of_ble_eq_true rfl) (fun _ => rfl) (fun _ _ => ?_)
        refine r_top (y := nI 0) (by simp) ?_
        refine r_iadd hX d_M_node_95 ?_
        refine r_top (y := lvF mf (opsN 0) a b c) (by rw [show opsN 0 = 0 from rfl]; simp [lvF]; rw [Int32.add_comm]) ?_
        generalize hL : lvF mf (opsN 0) a b c = L
        refine r_istore hX d_M_node_96 (by decide) ?_
        refine r_aload_n (i := 0) hX d_M_node_98 rfl rfl ?_
        refine r_iload_n (i := 1) hX d_M_node_99 rfl rfl ?_
        refine r_iload_n (i := 2) hX d_M_node_100 rfl rfl ?_
        refine r_iload_n (i := 3) hX d_M_node_101 rfl rfl ?_
        refine r_iload hX d_M_node_102 rfl ?_
        refine r_callVwi (q0 := 0) hX d_M_node_104 cw_M_workOf ml_M_97 (c_M_workOf 0 a b c (by decide) hops) (Or.inl rfl) rfl rfl rfl rfl (by decide) (Nat.le_of_ble_eq_true rfl) (fun _ => rfl) (fun _ _ => ?_)
        generalize hW : wkF mf 0 a b c = W
        refine r_istore hX d_M_node_107 (by decide) ?_
        refine r_iload hX d_M_node_109 rfl ?_
        refine r_bipush (v := nI 64) hX d_M_node_111 (by decide) ?_
        refine r_icmp_gt 131 hX d_M_node_113 (by decide) (fun c113 => ?_) (fun c113 => ?_)
        · have hn : nodeOk nn mf (nI 0) a b c = false := by simp [nodeOk, hkk, hB, c113]
          refine r_iconst (v := -1) hX d_M_node_131 (by decide) ?_
          exact r_iret mf hX hF d_M_node_132 (bad hn) (by rw [hn]; rfl) (by rw [hn]; rfl)
        · refine r_iload hX d_M_node_116 rfl ?_
          refine r_sipush (v := nI 2000) hX d_M_node_118 (by decide) ?_
          refine r_icmp_gt 131 hX d_M_node_121 (by decide) (fun c121 => ?_) (fun c121 => ?_)
          · have hn : nodeOk nn mf (nI 0) a b c = false := by simp [nodeOk, hkk, hW, c121]
            refine r_iconst (v := -1) hX d_M_node_131 (by decide) ?_
            exact r_iret mf hX hF d_M_node_132 (bad hn) (by rw [hn]; rfl) (by rw [hn]; rfl)
          · refine r_iload hX d_M_node_124 rfl ?_
            refine r_bipush (v := nI 8) hX d_M_node_126 (by decide) ?_
            refine r_icmp_le 133 hX d_M_node_128 (by decide) (fun c128 => ?_) (fun c128 => ?_)
            · have hn : nodeOk nn mf (nI 0) a b c = true := by simp [nodeOk, hkk, hB, hW, hL, hx0, hx1, c113, c121, c128, hlt, hpl, hfit]
              refine r_aload_n (i := 0) hX d_M_node_133 rfl rfl ?_
              refine r_iload_n (i := 1) hX d_M_node_134 rfl rfl ?_
              refine r_callVwi (q0 := 0) hX d_M_node_135 cw_M_namesA ml_M_79 (c_M_namesA 0 (by decide)) (Or.inl rfl) rfl rfl rfl rfl (by decide) (Nat.le_of_ble_eq_true rfl) (fun _ => rfl) (fun _ _ => ?_)
              refine r_if_eq 148 hX d_M_node_138 (by decide) (fun c138 => ?_) (fun c138 => absurd c138 (by decide))
              refine r_aload_n (i := 0) hX d_M_node_148 rfl rfl ?_
              refine r_iload_n (i := 1) hX d_M_node_149 rfl rfl ?_
              refine r_callVwi (q0 := 0) hX d_M_node_150 cw_M_namesB ml_M_82 (c_M_namesB 0 (by decide)) (Or.inl rfl) rfl rfl rfl rfl (by decide) (Nat.le_of_ble_eq_true rfl) (fun _ => rfl) (fun _ _ => ?_)
              refine r_if_eq 163 hX d_M_node_153 (by decide) (fun c153 => ?_) (fun c153 => absurd c153 (by decide))
              refine r_iload_n (i := 1) hX d_M_node_163 rfl rfl ?_
              refine r_bipush (v := nI 19) hX d_M_node_164 (by decide) ?_
              refine r_icmp_ne 177 hX d_M_node_166 (by decide) (fun c166 => ?_) (fun c166 => absurd c166 (by decide))
              refine r_aload_n (i := 0) hX d_M_node_177 rfl rfl ?_
              refine r_get 0 5 hX d_M_node_178 rfl rfl fi_M (by decide) fl_M_26 rfl rfl ?_
              refine r_aload_n (i := 0) hX d_M_node_181 rfl rfl ?_
              refine r_get 0 1 hX d_M_node_182 rfl rfl fi_M (by decide) fl_M_13 rfl rfl ?_
              refine r_iload_n (i := 1) hX d_M_node_185 rfl rfl ?_
              refine r_iast 2 0 (nn) hX d_M_node_186 rfl rfl rfl (by omega) (by decide) ?_
              refine r_aload_n (i := 0) hX d_M_node_187 rfl rfl ?_
              refine r_get 0 6 hX d_M_node_188 rfl rfl fi_M (by decide) fl_M_29 rfl rfl ?_
              refine r_aload_n (i := 0) hX d_M_node_191 rfl rfl ?_
              refine r_get 0 1 hX d_M_node_192 rfl rfl fi_M (by decide) fl_M_13 rfl rfl ?_
              refine r_iload_n (i := 2) hX d_M_node_195 rfl rfl ?_
              refine r_iast 3 0 (nn) hX d_M_node_196 rfl rfl rfl (by omega) (by decide) ?_
              refine r_aload_n (i := 0) hX d_M_node_197 rfl rfl ?_
              refine r_get 0 7 hX d_M_node_198 rfl rfl fi_M (by decide) fl_M_32 rfl rfl ?_
              refine r_aload_n (i := 0) hX d_M_node_201 rfl rfl ?_
              refine r_get 0 1 hX d_M_node_202 rfl rfl fi_M (by decide) fl_M_13 rfl rfl ?_
              refine r_iload_n (i := 3) hX d_M_node_205 rfl rfl ?_
              refine r_iast 4 0 (nn) hX d_M_node_206 rfl rfl rfl (by omega) (by decide) ?_
              refine r_aload_n (i := 0) hX d_M_node_207 rfl rfl ?_
              refine r_get 0 8 hX d_M_node_208 rfl rfl fi_M (by decide) fl_M_35 rfl rfl ?_
              refine r_aload_n (i := 0) hX d_M_node_211 rfl rfl ?_
              refine r_get 0 1 hX d_M_node_212 rfl rfl fi_M (by decide) fl_M_13 rfl rfl ?_
              refine r_iload hX d_M_node_215 rfl ?_
              refine r_iast 5 0 (nn) hX d_M_node_217 rfl rfl rfl (by omega) (by decide) ?_
              refine r_aload_n (i := 0) hX d_M_node_218 rfl rfl ?_
              refine r_get 0 9 hX d_M_node_219 rfl rfl fi_M (by decide) fl_M_38 rfl rfl ?_
              refine r_aload_n (i := 0) hX d_M_node_222 rfl rfl ?_
              refine r_get 0 1 hX d_M_node_223 rfl rfl fi_M (by decide) fl_M_13 rfl rfl ?_
              refine r_iload hX d_M_node_226 rfl ?_
              refine r_iast 6 0 (nn) hX d_M_node_228 rfl rfl rfl (by omega) (by decide) ?_
              refine r_aload_n (i := 0) hX d_M_node_229 rfl rfl ?_
              refine r_get 0 11 hX d_M_node_230 rfl rfl fi_M (by decide) fl_M_44 rfl rfl ?_
              refine r_aload_n (i := 0) hX d_M_node_233 rfl rfl ?_
              refine r_get 0 1 hX d_M_node_234 rfl rfl fi_M (by decide) fl_M_13 rfl rfl ?_
              refine r_iload hX d_M_node_237 rfl ?_
              refine r_iast 8 0 (nn) hX d_M_node_239 rfl rfl rfl (by omega) (by decide) ?_
              refine r_aload_n (i := 0) hX d_M_node_240 rfl rfl ?_
              refine r_get 0 10 hX d_M_node_241 rfl rfl fi_M (by decide) fl_M_41 rfl rfl ?_
              refine r_aload_n (i := 0) hX d_M_node_244 rfl rfl ?_
              refine r_get 0 1 hX d_M_node_245 rfl rfl fi_M (by decide) fl_M_13 rfl rfl ?_
              refine r_iload hX d_M_node_248 rfl ?_
              refine r_iast 7 0 (nn) hX d_M_node_250 rfl rfl rfl (by omega) (by decide) ?_
              refine r_aload_n (i := 0) hX d_M_node_251 rfl rfl ?_
              refine r_get 0 12 hX d_M_node_252 rfl rfl fi_M (by decide) fl_M_47 rfl rfl ?_
              refine r_aload_n (i := 0) hX d_M_node_255 rfl rfl ?_
              refine r_get 0 1 hX d_M_node_256 rfl rfl fi_M (by decide) fl_M_13 rfl rfl ?_
              refine r_iconst (v := nI 0) hX d_M_node_259 (by decide) ?_
              refine r_zast (y := nI 0) 9 1 (nn) hX d_M_node_260 rfl rfl rfl (by omega) (by decide) rfl ?_
              refine r_aload_n (i := 0) hX d_M_node_261 rfl rfl ?_
              refine r_dup hX d_M_node_262 rfl ?_
              refine r_get 0 1 hX d_M_node_263 rfl rfl fi_M (by decide) fl_M_13 rfl rfl ?_
              refine r_iconst (v := nI 1) hX d_M_node_266 (by decide) ?_
              refine r_iadd hX d_M_node_267 ?_
              refine r_top (nI_add _ _) ?_
              refine r_put 0 1 hX d_M_node_268 rfl rfl fi_M ft_M_ok fn_M (by decide) fl_M_13 rfl rfl rfl rfl rfl (Nat.le_of_ble_eq_true rfl) ?_
              refine r_aload_n (i := 0) hX d_M_node_271 rfl rfl ?_
              refine r_get 0 1 hX d_M_node_272 rfl rfl fi_M (by decide) fl_M_13 rfl rfl ?_
              refine r_iconst (v := nI 1) hX d_M_node_275 (by decide) ?_
              refine r_isub hX d_M_node_276 ?_
              refine r_top (pk_sub (by omega)) ?_
              exact r_iret (mkU mf nn (nI 0) a b c B W L (mf 7)) hX hF d_M_node_277 (mkU_post hn (by rw [hkk, hB]) (by rw [hkk, hW]) (by rw [hkk, hL]) (by rw [hkk, show opsN 0 = 0 from rfl]; simp [useN, nfU])) (by rw [hn]; rfl) (by rw [hn]; rfl)
            · have hn : nodeOk nn mf (nI 0) a b c = false := by simp [nodeOk, hkk, hL, c128]
              refine r_iconst (v := -1) hX d_M_node_131 (by decide) ?_
              exact r_iret mf hX hF d_M_node_132 (bad hn) (by rw [hn]; rfl) (by rw [hn]; rfl)
      · have hn : nodeOk nn mf (nI 0) a b c = false := by
          have := (nI_eq (by omega) (by decide)).mp c28
          simp [nodeOk, this]
        refine r_iconst (v := -1) hX d_M_node_31 (by decide) ?_
        exact r_iret mf hX hF d_M_node_32 (bad hn) (by rw [hn]; rfl) (by rw [hn]; rfl)
  ·
    refine r_iload_n (i := 1) hX d_M_node_0 rfl rfl ?_
    refine r_if_lt 31 hX d_M_node_1 (by decide) (fun c1 => absurd c1 (by decide)) (fun c1 => ?_)
    refine r_iload_n (i := 1) hX d_M_node_4 rfl rfl ?_
    refine r_bipush (v := nI 21) hX d_M_node_5 (by decide) ?_
    refine r_icmp_gt 31 hX d_M_node_7 (by decide) (fun c7 => absurd c7 (by decide)) (fun c7 => ?_)
    refine r_aload_n (i := 0) hX d_M_node_10 rfl rfl ?_
    refine r_iload_n (i := 1) hX d_M_node_11 rfl rfl ?_
    refine r_iload_n (i := 2) hX d_M_node_12 rfl rfl ?_
    refine r_iload_n (i := 3) hX d_M_node_13 rfl rfl ?_
    refine r_iload hX d_M_node_14 rfl ?_
    refine r_callVwi (q0 := 0) hX d_M_node_16 cw_M_fits ml_M_85 (c_M_fits 1 a b c (by decide) hnn) (Or.inl rfl) rfl rfl rfl rfl (by decide) (Nat.le_of_ble_eq_true rfl) (fun _ => rfl) (fun _ _ => ?_)
    refine r_if_eq 31 hX d_M_node_19 (by decide) (fun c19 => ?_) (fun c19 => ?_)
    · have hn : nodeOk nn mf (nI 1) a b c = false := by
        have h9 := bI_0 c19
        simp only [fitK, Bool.and_eq_false_iff] at h9
        rcases h9 with h9 | h9 <;> simp [nodeOk, hkk, h9]
      refine r_iconst (v := -1) hX d_M_node_31 (by decide) ?_
      exact r_iret mf hX hF d_M_node_32 (bad hn) (by rw [hn]; rfl) (by rw [hn]; rfl)
    · refine r_aload_n (i := 0) hX d_M_node_22 rfl rfl ?_
      refine r_get 0 1 hX d_M_node_23 rfl rfl fi_M (by decide) fl_M_13 rfl rfl ?_
      refine r_bipush (v := nI 60) hX d_M_node_26 (by decide) ?_
      refine r_icmp_ne 33 hX d_M_node_28 (by decide) (fun c28 => ?_) (fun c28 => ?_)
      · have hlt : nn < 60 := by
          rcases Nat.lt_or_ge nn 60 with h | h
          · exact h
          · exact absurd (by rw [show nn = 60 by omega]) c28
        have h9 := bI_1 c19
        simp only [fitK, Bool.and_eq_true] at h9
        obtain ⟨hpl, hfit⟩ := h9
        have hoN := mfit_k (by decide) hfit hnn
        have hops := hoN.ops hnn
        refine r_aload_n (i := 0) hX d_M_node_33 rfl rfl ?_
        refine r_iload_n (i := 1) hX d_M_node_34 rfl rfl ?_
        refine r_iload_n (i := 2) hX d_M_node_35 rfl rfl ?_
        refine r_iload_n (i := 3) hX d_M_node_36 rfl rfl ?_
        refine r_iload hX d_M_node_37 rfl ?_
        refine r_callVwi (q0 := 0) hX d_M_node_39 cw_M_boundOf ml_M_89 (c_M_boundOf 1 a b c (by decide) hops) (Or.inl rfl) rfl rfl rfl rfl (by decide) (Nat.le_of_ble_eq_true rfl) (fun _ => rfl) (fun _ _ => ?_)
        generalize hB : bndF mf 1 a b c = B
        refine r_istore hX d_M_node_42 (by decide) ?_
        refine r_iconst (v := nI 0) hX d_M_node_44 (by decide) ?_
        refine r_istore hX d_M_node_45 (by decide) ?_
        refine r_aload_n (i := 0) hX d_M_node_47 rfl rfl ?_
        refine r_iload hX d_M_node_48 rfl ?_
        refine r_aload_n (i := 0) hX d_M_node_50 rfl rfl ?_
        refine r_iload_n (i := 1) hX d_M_node_51 rfl rfl ?_
        refine r_callVwi (q0 := 0) hX d_M_node_52 cw_M_namesA ml_M_79 (c_M_namesA 1 (by decide)) (Or.inl rfl) rfl rfl rfl rfl (by decide) (Nat.le_of_ble_eq_true rfl) (fun _ => rfl) (fun _ _ => ?_)
        refine r_iload_n (i := 2) hX d_M_node_55 rfl rfl ?_
        refine r_callVwi (q0 := 0) hX d_M_node_56 cw_M_higher ml_M_93 (c_M_higher (nI 0) a (nmA 1) (fun q => absurd q (by decide))) (Or.inl rfl) rfl rfl rfl rfl (by decide) (Nat.le_of_ble_eq_true rfl) (fun _ => rfl) (fun _ _ => ?_)
        refine r_top (y := nI 0) (by simp [nmA]) ?_
        refine r_istore hX d_M_node_59 (by decide) ?_
        refine r_aload_n (i := 0) hX d_M_node_61 rfl rfl ?_
        refine r_iload hX d_M_node_62 rfl ?_
        refine r_aload_n (i := 0) hX d_M_node_64 rfl rfl ?_
        refine r_iload_n (i := 1) hX d_M_node_65 rfl rfl ?_
        refine r_callVwi (q0 := 0) hX d_M_node_66 cw_M_namesB ml_M_82 (c_M_namesB 1 (by decide)) (Or.inl rfl) rfl rfl rfl rfl (by decide) (Nat.le_of_ble_eq_true rfl) (fun _ => rfl) (fun _ _ => ?_)
        refine r_iload_n (i := 3) hX d_M_node_69 rfl rfl ?_
        refine r_callVwi (q0 := 0) hX d_M_node_70 cw_M_higher ml_M_93 (c_M_higher (nI 0) b (nmB 1) (fun q => absurd q (by decide))) (Or.inl rfl) rfl rfl rfl rfl (by decide) (Nat.le_of_ble_eq_true rfl) (fun _ => rfl) (fun _ _ => ?_)
        refine r_top (y := nI 0) (by simp [nmB]) ?_
        refine r_istore hX d_M_node_73 (by decide) ?_
        refine r_iconst (v := nI 1) hX d_M_node_75 (by decide) ?_
        refine r_aload_n (i := 0) hX d_M_node_76 rfl rfl ?_
        refine r_iload hX d_M_node_77 rfl ?_
        refine r_iload_n (i := 1) hX d_M_node_79 rfl rfl ?_
        refine r_bipush (v := nI 19) hX d_M_node_80 (by decide) ?_
        refine r_icmp_ne 89 hX d_M_node_82 (by decide) (fun c82 => ?_) (fun c82 => absurd c82 (by decide))
        refine r_iconst (v := nI 0) hX d_M_node_89 (by decide) ?_
        refine r_iload hX d_M_node_90 rfl ?_
        refine r_callVwi (q0 := 0) hX d_M_node_92 cw_M_higher ml_M_93 (c_M_higher (nI 0) c false (fun q => absurd q (by decide))) (Or.inl rfl) rfl rfl rfl rfl (by decide) (Nat.le_of_ble_eq_true rfl) (fun _ => rfl) (fun _ _ => ?_)
        refine r_top (y := nI 0) (by simp) ?_
        refine r_iadd hX d_M_node_95 ?_
        refine r_top (y := lvF mf (opsN 1) a b c) (by rw [show opsN 1 = 0 from rfl]; simp [lvF]; rw [Int32.add_comm]) ?_
        generalize hL : lvF mf (opsN 1) a b c = L
        refine r_istore hX d_M_node_96 (by decide) ?_
        refine r_aload_n (i := 0) hX d_M_node_98 rfl rfl ?_
        refine r_iload_n (i := 1) hX d_M_node_99 rfl rfl ?_
        refine r_iload_n (i := 2) hX d_M_node_100 rfl rfl ?_
        refine r_iload_n (i := 3) hX d_M_node_101 rfl rfl ?_
        refine r_iload hX d_M_node_102 rfl ?_
        refine r_callVwi (q0 := 0) hX d_M_node_104 cw_M_workOf ml_M_97 (c_M_workOf 1 a b c (by decide) hops) (Or.inl rfl) rfl rfl rfl rfl (by decide) (Nat.le_of_ble_eq_true rfl) (fun _ => rfl) (fun _ _ => ?_)
        generalize hW : wkF mf 1 a b c = W
        refine r_istore hX d_M_node_107 (by decide) ?_
        refine r_iload hX d_M_node_109 rfl ?_
        refine r_bipush (v := nI 64) hX d_M_node_111 (by decide) ?_
        refine r_icmp_gt 131 hX d_M_node_113 (by decide) (fun c113 => ?_) (fun c113 => ?_)
        · have hn : nodeOk nn mf (nI 1) a b c = false := by simp [nodeOk, hkk, hB, c113]
          refine r_iconst (v := -1) hX d_M_node_131 (by decide) ?_
          exact r_iret mf hX hF d_M_node_132 (bad hn) (by rw [hn]; rfl) (by rw [hn]; rfl)
        · refine r_iload hX d_M_node_116 rfl ?_
          refine r_sipush (v := nI 2000) hX d_M_node_118 (by decide) ?_
          refine r_icmp_gt 131 hX d_M_node_121 (by decide) (fun c121 => ?_) (fun c121 => ?_)
          · have hn : nodeOk nn mf (nI 1) a b c = false := by simp [nodeOk, hkk, hW, c121]
            refine r_iconst (v := -1) hX d_M_node_131 (by decide) ?_
            exact r_iret mf hX hF d_M_node_132 (bad hn) (by rw [hn]; rfl) (by rw [hn]; rfl)
          · refine r_iload hX d_M_node_124 rfl ?_
            refine r_bipush (v := nI 8) hX d_M_node_126 (by decide) ?_
            refine r_icmp_le 133 hX d_M_node_128 (by decide) (fun c128 => ?_) (fun c128 => ?_)
            · have hn : nodeOk nn mf (nI 1) a b c = true := by simp [nodeOk, hkk, hB, hW, hL, hx0, hx1, c113, c121, c128, hlt, hpl, hfit]
              refine r_aload_n (i := 0) hX d_M_node_133 rfl rfl ?_
              refine r_iload_n (i := 1) hX d_M_node_134 rfl rfl ?_
              refine r_callVwi (q0 := 0) hX d_M_node_135 cw_M_namesA ml_M_79 (c_M_namesA 1 (by decide)) (Or.inl rfl) rfl rfl rfl rfl (by decide) (Nat.le_of_ble_eq_true rfl) (fun _ => rfl) (fun _ _ => ?_)
              refine r_if_eq 148 hX d_M_node_138 (by decide) (fun c138 => ?_) (fun c138 => absurd c138 (by decide))
              refine r_aload_n (i := 0) hX d_M_node_148 rfl rfl ?_
              refine r_iload_n (i := 1) hX d_M_node_149 rfl rfl ?_
              refine r_callVwi (q0 := 0) hX d_M_node_150 cw_M_namesB ml_M_82 (c_M_namesB 1 (by decide)) (Or.inl rfl) rfl rfl rfl rfl (by decide) (Nat.le_of_ble_eq_true rfl) (fun _ => rfl) (fun _ _ => ?_)
              refine r_if_eq 163 hX d_M_node_153 (by decide) (fun c153 => ?_) (fun c153 => absurd c153 (by decide))
              refine r_iload_n (i := 1) hX d_M_node_163 rfl rfl ?_
              refine r_bipush (v := nI 19) hX d_M_node_164 (by decide) ?_
              refine r_icmp_ne 177 hX d_M_node_166 (by decide) (fun c166 => ?_) (fun c166 => absurd c166 (by decide))
              refine r_aload_n (i := 0) hX d_M_node_177 rfl rfl ?_
              refine r_get 0 5 hX d_M_node_178 rfl rfl fi_M (by decide) fl_M_26 rfl rfl ?_
              refine r_aload_n (i := 0) hX d_M_node_181 rfl rfl ?_
              refine r_get 0 1 hX d_M_node_182 rfl rfl fi_M (by decide) fl_M_13 rfl rfl ?_
              refine r_iload_n (i := 1) hX d_M_node_185 rfl rfl ?_
              refine r_iast 2 0 (nn) hX d_M_node_186 rfl rfl rfl (by omega) (by decide) ?_
              refine r_aload_n (i := 0) hX d_M_node_187 rfl rfl ?_
              refine r_get 0 6 hX d_M_node_188 rfl rfl fi_M (by decide) fl_M_29 rfl rfl ?_
              refine r_aload_n (i := 0) hX d_M_node_191 rfl rfl ?_
              refine r_get 0 1 hX d_M_node_192 rfl rfl fi_M (by decide) fl_M_13 rfl rfl ?_
              refine r_iload_n (i := 2) hX d_M_node_195 rfl rfl ?_
              refine r_iast 3 0 (nn) hX d_M_node_196 rfl rfl rfl (by omega) (by decide) ?_
              refine r_aload_n (i := 0) hX d_M_node_197 rfl rfl ?_
              refine r_get 0 7 hX d_M_node_198 rfl rfl fi_M (by decide) fl_M_32 rfl rfl ?_
              refine r_aload_n (i := 0) hX d_M_node_201 rfl rfl ?_
              refine r_get 0 1 hX d_M_node_202 rfl rfl fi_M (by decide) fl_M_13 rfl rfl ?_
              refine r_iload_n (i := 3) hX d_M_node_205 rfl rfl ?_
              refine r_iast 4 0 (nn) hX d_M_node_206 rfl rfl rfl (by omega) (by decide) ?_
              refine r_aload_n (i := 0) hX d_M_node_207 rfl rfl ?_
              refine r_get 0 8 hX d_M_node_208 rfl rfl fi_M (by decide) fl_M_35 rfl rfl ?_
              refine r_aload_n (i := 0) hX d_M_node_211 rfl rfl ?_
              refine r_get 0 1 hX d_M_node_212 rfl rfl fi_M (by decide) fl_M_13 rfl rfl ?_
              refine r_iload hX d_M_node_215 rfl ?_
              refine r_iast 5 0 (nn) hX d_M_node_217 rfl rfl rfl (by omega) (by decide) ?_
              refine r_aload_n (i := 0) hX d_M_node_218 rfl rfl ?_
              refine r_get 0 9 hX d_M_node_219 rfl rfl fi_M (by decide) fl_M_38 rfl rfl ?_
              refine r_aload_n (i := 0) hX d_M_node_222 rfl rfl ?_
              refine r_get 0 1 hX d_M_node_223 rfl rfl fi_M (by decide) fl_M_13 rfl rfl ?_
              refine r_iload hX d_M_node_226 rfl ?_
              refine r_iast 6 0 (nn) hX d_M_node_228 rfl rfl rfl (by omega) (by decide) ?_
              refine r_aload_n (i := 0) hX d_M_node_229 rfl rfl ?_
              refine r_get 0 11 hX d_M_node_230 rfl rfl fi_M (by decide) fl_M_44 rfl rfl ?_
              refine r_aload_n (i := 0) hX d_M_node_233 rfl rfl ?_
              refine r_get 0 1 hX d_M_node_234 rfl rfl fi_M (by decide) fl_M_13 rfl rfl ?_
              refine r_iload hX d_M_node_237 rfl ?_
              refine r_iast 8 0 (nn) hX d_M_node_239 rfl rfl rfl (by omega) (by decide) ?_
              refine r_aload_n (i := 0) hX d_M_node_240 rfl rfl ?_
              refine r_get 0 10 hX d_M_node_241 rfl rfl fi_M (by decide) fl_M_41 rfl rfl ?_
              refine r_aload_n (i := 0) hX d_M_node_244 rfl rfl ?_
              refine r_get 0 1 hX d_M_node_245 rfl rfl fi_M (by decide) fl_M_13 rfl rfl ?_
              refine r_iload hX d_M_node_248 rfl ?_
              refine r_iast 7 0 (nn) hX d_M_node_250 rfl rfl rfl (by omega) (by decide) ?_
              refine r_aload_n (i := 0) hX d_M_node_251 rfl rfl ?_
              refine r_get 0 12 hX d_M_node_252 rfl rfl fi_M (by decide) fl_M_47 rfl rfl ?_
              refine r_aload_n (i := 0) hX d_M_node_255 rfl rfl ?_
              refine r_get 0 1 hX d_M_node_256 rfl rfl fi_M (by decide) fl_M_13 rfl rfl ?_
              refine r_iconst (v := nI 0) hX d_M_node_259 (by decide) ?_
              refine r_zast (y := nI 0) 9 1 (nn) hX d_M_node_260 rfl rfl rfl (by omega) (by decide) rfl ?_
              refine r_aload_n (i := 0) hX d_M_node_261 rfl rfl ?_
              refine r_dup hX d_M_node_262 rfl ?_
              refine r_get 0 1 hX d_M_node_263 rfl rfl fi_M (by decide) fl_M_13 rfl rfl ?_
              refine r_iconst (v := nI 1) hX d_M_node_266 (by decide) ?_
              refine r_iadd hX d_M_node_267 ?_
              refine r_top (nI_add _ _) ?_
              refine r_put 0 1 hX d_M_node_268 rfl rfl fi_M ft_M_ok fn_M (by decide) fl_M_13 rfl rfl rfl rfl rfl (Nat.le_of_ble_eq_true rfl) ?_
              refine r_aload_n (i := 0) hX d_M_node_271 rfl rfl ?_
              refine r_get 0 1 hX d_M_node_272 rfl rfl fi_M (by decide) fl_M_13 rfl rfl ?_
              refine r_iconst (v := nI 1) hX d_M_node_275 (by decide) ?_
              refine r_isub hX d_M_node_276 ?_
              refine r_top (pk_sub (by omega)) ?_
              exact r_iret (mkU mf nn (nI 1) a b c B W L (mf 7)) hX hF d_M_node_277 (mkU_post hn (by rw [hkk, hB]) (by rw [hkk, hW]) (by rw [hkk, hL]) (by rw [hkk, show opsN 1 = 0 from rfl]; simp [useN, nfU])) (by rw [hn]; rfl) (by rw [hn]; rfl)
            · have hn : nodeOk nn mf (nI 1) a b c = false := by simp [nodeOk, hkk, hL, c128]
              refine r_iconst (v := -1) hX d_M_node_131 (by decide) ?_
              exact r_iret mf hX hF d_M_node_132 (bad hn) (by rw [hn]; rfl) (by rw [hn]; rfl)
      · have hn : nodeOk nn mf (nI 1) a b c = false := by
          have := (nI_eq (by omega) (by decide)).mp c28
          simp [nodeOk, this]
        refine r_iconst (v := -1) hX d_M_node_31 (by decide) ?_
        exact r_iret mf hX hF d_M_node_32 (bad hn) (by rw [hn]; rfl) (by rw [hn]; rfl)
  ·
    refine r_iload_n (i := 1) hX d_M_node_0 rfl rfl ?_
    refine r_if_lt 31 hX d_M_node_1 (by decide) (fun c1 => absurd c1 (by decide)) (fun c1 => ?_)
    refine r_iload_n (i := 1) hX d_M_node_4 rfl rfl ?_
    refine r_bipush (v := nI 21) hX d_M_node_5 (by decide) ?_
    refine r_icmp_gt 31 hX d_M_node_7 (by decide) (fun c7 => absurd c7 (by decide)) (fun c7 => ?_)
    refine r_aload_n (i := 0) hX d_M_node_10 rfl rfl ?_
    refine r_iload_n (i := 1) hX d_M_node_11 rfl rfl ?_
    refine r_iload_n (i := 2) hX d_M_node_12 rfl rfl ?_
    refine r_iload_n (i := 3) hX d_M_node_13 rfl rfl ?_
    refine r_iload hX d_M_node_14 rfl ?_
    refine r_callVwi (q0 := 0) hX d_M_node_16 cw_M_fits ml_M_85 (c_M_fits 2 a b c (by decide) hnn) (Or.inl rfl) rfl rfl rfl rfl (by decide) (Nat.le_of_ble_eq_true rfl) (fun _ => rfl) (fun _ _ => ?_)
    refine r_if_eq 31 hX d_M_node_19 (by decide) (fun c19 => ?_) (fun c19 => ?_)
    · have hn : nodeOk nn mf (nI 2) a b c = false := by
        have h9 := bI_0 c19
        simp only [fitK, Bool.and_eq_false_iff] at h9
        rcases h9 with h9 | h9 <;> simp [nodeOk, hkk, h9]
      refine r_iconst (v := -1) hX d_M_node_31 (by decide) ?_
      exact r_iret mf hX hF d_M_node_32 (bad hn) (by rw [hn]; rfl) (by rw [hn]; rfl)
    · refine r_aload_n (i := 0) hX d_M_node_22 rfl rfl ?_
      refine r_get 0 1 hX d_M_node_23 rfl rfl fi_M (by decide) fl_M_13 rfl rfl ?_
      refine r_bipush (v := nI 60) hX d_M_node_26 (by decide) ?_
      refine r_icmp_ne 33 hX d_M_node_28 (by decide) (fun c28 => ?_) (fun c28 => ?_)
      · have hlt : nn < 60 := by
          rcases Nat.lt_or_ge nn 60 with h | h
          · exact h
          · exact absurd (by rw [show nn = 60 by omega]) c28
        have h9 := bI_1 c19
        simp only [fitK, Bool.and_eq_true] at h9
        obtain ⟨hpl, hfit⟩ := h9
        have hoN := mfit_k (by decide) hfit hnn
        have hops := hoN.ops hnn
        refine r_aload_n (i := 0) hX d_M_node_33 rfl rfl ?_
        refine r_iload_n (i := 1) hX d_M_node_34 rfl rfl ?_
        refine r_iload_n (i := 2) hX d_M_node_35 rfl rfl ?_
        refine r_iload_n (i := 3) hX d_M_node_36 rfl rfl ?_
        refine r_iload hX d_M_node_37 rfl ?_
        refine r_callVwi (q0 := 0) hX d_M_node_39 cw_M_boundOf ml_M_89 (c_M_boundOf 2 a b c (by decide) hops) (Or.inl rfl) rfl rfl rfl rfl (by decide) (Nat.le_of_ble_eq_true rfl) (fun _ => rfl) (fun _ _ => ?_)
        generalize hB : bndF mf 2 a b c = B
        refine r_istore hX d_M_node_42 (by decide) ?_
        refine r_iconst (v := nI 0) hX d_M_node_44 (by decide) ?_
        refine r_istore hX d_M_node_45 (by decide) ?_
        refine r_aload_n (i := 0) hX d_M_node_47 rfl rfl ?_
        refine r_iload hX d_M_node_48 rfl ?_
        refine r_aload_n (i := 0) hX d_M_node_50 rfl rfl ?_
        refine r_iload_n (i := 1) hX d_M_node_51 rfl rfl ?_
        refine r_callVwi (q0 := 0) hX d_M_node_52 cw_M_namesA ml_M_79 (c_M_namesA 2 (by decide)) (Or.inl rfl) rfl rfl rfl rfl (by decide) (Nat.le_of_ble_eq_true rfl) (fun _ => rfl) (fun _ _ => ?_)
        refine r_iload_n (i := 2) hX d_M_node_55 rfl rfl ?_
        refine r_callVwi (q0 := 0) hX d_M_node_56 cw_M_higher ml_M_93 (c_M_higher (nI 0) a (nmA 2) (fun q => absurd q (by decide))) (Or.inl rfl) rfl rfl rfl rfl (by decide) (Nat.le_of_ble_eq_true rfl) (fun _ => rfl) (fun _ _ => ?_)
        refine r_top (y := nI 0) (by simp [nmA]) ?_
        refine r_istore hX d_M_node_59 (by decide) ?_
        refine r_aload_n (i := 0) hX d_M_node_61 rfl rfl ?_
        refine r_iload hX d_M_node_62 rfl ?_
        refine r_aload_n (i := 0) hX d_M_node_64 rfl rfl ?_
        refine r_iload_n (i := 1) hX d_M_node_65 rfl rfl ?_
        refine r_callVwi (q0 := 0) hX d_M_node_66 cw_M_namesB ml_M_82 (c_M_namesB 2 (by decide)) (Or.inl rfl) rfl rfl rfl rfl (by decide) (Nat.le_of_ble_eq_true rfl) (fun _ => rfl) (fun _ _ => ?_)
        refine r_iload_n (i := 3) hX d_M_node_69 rfl rfl ?_
        refine r_callVwi (q0 := 0) hX d_M_node_70 cw_M_higher ml_M_93 (c_M_higher (nI 0) b (nmB 2) (fun q => absurd q (by decide))) (Or.inl rfl) rfl rfl rfl rfl (by decide) (Nat.le_of_ble_eq_true rfl) (fun _ => rfl) (fun _ _ => ?_)
        refine r_top (y := nI 0) (by simp [nmB]) ?_
        refine r_istore hX d_M_node_73 (by decide) ?_
        refine r_iconst (v := nI 1) hX d_M_node_75 (by decide) ?_
        refine r_aload_n (i := 0) hX d_M_node_76 rfl rfl ?_
        refine r_iload hX d_M_node_77 rfl ?_
        refine r_iload_n (i := 1) hX d_M_node_79 rfl rfl ?_
        refine r_bipush (v := nI 19) hX d_M_node_80 (by decide) ?_
        refine r_icmp_ne 89 hX d_M_node_82 (by decide) (fun c82 => ?_) (fun c82 => absurd c82 (by decide))
        refine r_iconst (v := nI 0) hX d_M_node_89 (by decide) ?_
        refine r_iload hX d_M_node_90 rfl ?_
        refine r_callVwi (q0 := 0) hX d_M_node_92 cw_M_higher ml_M_93 (c_M_higher (nI 0) c false (fun q => absurd q (by decide))) (Or.inl rfl) rfl rfl rfl rfl (by decide) (Nat.le_of_ble_eq_true rfl) (fun _ => rfl) (fun _ _ => ?_)
        refine r_top (y := nI 0) (by simp) ?_
        refine r_iadd hX d_M_node_95 ?_
        refine r_top (y := lvF mf (opsN 2) a b c) (by rw [show opsN 2 = 0 from rfl]; simp [lvF]; rw [Int32.add_comm]) ?_
        generalize hL : lvF mf (opsN 2) a b c = L
        refine r_istore hX d_M_node_96 (by decide) ?_
        refine r_aload_n (i := 0) hX d_M_node_98 rfl rfl ?_
        refine r_iload_n (i := 1) hX d_M_node_99 rfl rfl ?_
        refine r_iload_n (i := 2) hX d_M_node_100 rfl rfl ?_
        refine r_iload_n (i := 3) hX d_M_node_101 rfl rfl ?_
        refine r_iload hX d_M_node_102 rfl ?_
        refine r_callVwi (q0 := 0) hX d_M_node_104 cw_M_workOf ml_M_97 (c_M_workOf 2 a b c (by decide) hops) (Or.inl rfl) rfl rfl rfl rfl (by decide) (Nat.le_of_ble_eq_true rfl) (fun _ => rfl) (fun _ _ => ?_)
        generalize hW : wkF mf 2 a b c = W
        refine r_istore hX d_M_node_107 (by decide) ?_
        refine r_iload hX d_M_node_109 rfl ?_
        refine r_bipush (v := nI 64) hX d_M_node_111 (by decide) ?_
        refine r_icmp_gt 131 hX d_M_node_113 (by decide) (fun c113 => ?_) (fun c113 => ?_)
        · have hn : nodeOk nn mf (nI 2) a b c = false := by simp [nodeOk, hkk, hB, c113]
          refine r_iconst (v := -1) hX d_M_node_131 (by decide) ?_
          exact r_iret mf hX hF d_M_node_132 (bad hn) (by rw [hn]; rfl) (by rw [hn]; rfl)
        · refine r_iload hX d_M_node_116 rfl ?_
          refine r_sipush (v := nI 2000) hX d_M_node_118 (by decide) ?_
          refine r_icmp_gt 131 hX d_M_node_121 (by decide) (fun c121 => ?_) (fun c121 => ?_)
          · have hn : nodeOk nn mf (nI 2) a b c = false := by simp [nodeOk, hkk, hW, c121]
            refine r_iconst (v := -1) hX d_M_node_131 (by decide) ?_
            exact r_iret mf hX hF d_M_node_132 (bad hn) (by rw [hn]; rfl) (by rw [hn]; rfl)
          · refine r_iload hX d_M_node_124 rfl ?_
            refine r_bipush (v := nI 8) hX d_M_node_126 (by decide) ?_
            refine r_icmp_le 133 hX d_M_node_128 (by decide) (fun c128 => ?_) (fun c128 => ?_)
            · have hn : nodeOk nn mf (nI 2) a b c = true := by simp [nodeOk, hkk, hB, hW, hL, hx0, hx1, c113, c121, c128, hlt, hpl, hfit]
              refine r_aload_n (i := 0) hX d_M_node_133 rfl rfl ?_
              refine r_iload_n (i := 1) hX d_M_node_134 rfl rfl ?_
              refine r_callVwi (q0 := 0) hX d_M_node_135 cw_M_namesA ml_M_79 (c_M_namesA 2 (by decide)) (Or.inl rfl) rfl rfl rfl rfl (by decide) (Nat.le_of_ble_eq_true rfl) (fun _ => rfl) (fun _ _ => ?_)
              refine r_if_eq 148 hX d_M_node_138 (by decide) (fun c138 => ?_) (fun c138 => absurd c138 (by decide))
              refine r_aload_n (i := 0) hX d_M_node_148 rfl rfl ?_
              refine r_iload_n (i := 1) hX d_M_node_149 rfl rfl ?_
              refine r_callVwi (q0 := 0) hX d_M_node_150 cw_M_namesB ml_M_82 (c_M_namesB 2 (by decide)) (Or.inl rfl) rfl rfl rfl rfl (by decide) (Nat.le_of_ble_eq_true rfl) (fun _ => rfl) (fun _ _ => ?_)
              refine r_if_eq 163 hX d_M_node_153 (by decide) (fun c153 => ?_) (fun c153 => absurd c153 (by decide))
              refine r_iload_n (i := 1) hX d_M_node_163 rfl rfl ?_
              refine r_bipush (v := nI 19) hX d_M_node_164 (by decide) ?_
              refine r_icmp_ne 177 hX d_M_node_166 (by decide) (fun c166 => ?_) (fun c166 => absurd c166 (by decide))
              refine r_aload_n (i := 0) hX d_M_node_177 rfl rfl ?_
              refine r_get 0 5 hX d_M_node_178 rfl rfl fi_M (by decide) fl_M_26 rfl rfl ?_
              refine r_aload_n (i := 0) hX d_M_node_181 rfl rfl ?_
              refine r_get 0 1 hX d_M_node_182 rfl rfl fi_M (by decide) fl_M_13 rfl rfl ?_
              refine r_iload_n (i := 1) hX d_M_node_185 rfl rfl ?_
              refine r_iast 2 0 (nn) hX d_M_node_186 rfl rfl rfl (by omega) (by decide) ?_
              refine r_aload_n (i := 0) hX d_M_node_187 rfl rfl ?_
              refine r_get 0 6 hX d_M_node_188 rfl rfl fi_M (by decide) fl_M_29 rfl rfl ?_
              refine r_aload_n (i := 0) hX d_M_node_191 rfl rfl ?_
              refine r_get 0 1 hX d_M_node_192 rfl rfl fi_M (by decide) fl_M_13 rfl rfl ?_
              refine r_iload_n (i := 2) hX d_M_node_195 rfl rfl ?_
              refine r_iast 3 0 (nn) hX d_M_node_196 rfl rfl rfl (by omega) (by decide) ?_
              refine r_aload_n (i := 0) hX d_M_node_197 rfl rfl ?_
              refine r_get 0 7 hX d_M_node_198 rfl rfl fi_M (by decide) fl_M_32 rfl rfl ?_
              refine r_aload_n (i := 0) hX d_M_node_201 rfl rfl ?_
              refine r_get 0 1 hX d_M_node_202 rfl rfl fi_M (by decide) fl_M_13 rfl rfl ?_
              refine r_iload_n (i := 3) hX d_M_node_205 rfl rfl ?_
              refine r_iast 4 0 (nn) hX d_M_node_206 rfl rfl rfl (by omega) (by decide) ?_
              refine r_aload_n (i := 0) hX d_M_node_207 rfl rfl ?_
              refine r_get 0 8 hX d_M_node_208 rfl rfl fi_M (by decide) fl_M_35 rfl rfl ?_
              refine r_aload_n (i := 0) hX d_M_node_211 rfl rfl ?_
              refine r_get 0 1 hX d_M_node_212 rfl rfl fi_M (by decide) fl_M_13 rfl rfl ?_
              refine r_iload hX d_M_node_215 rfl ?_
              refine r_iast 5 0 (nn) hX d_M_node_217 rfl rfl rfl (by omega) (by decide) ?_
              refine r_aload_n (i := 0) hX d_M_node_218 rfl rfl ?_
              refine r_get 0 9 hX d_M_node_219 rfl rfl fi_M (by decide) fl_M_38 rfl rfl ?_
              refine r_aload_n (i := 0) hX d_M_node_222 rfl rfl ?_
              refine r_get 0 1 hX d_M_node_223 rfl rfl fi_M (by decide) fl_M_13 rfl rfl ?_
              refine r_iload hX d_M_node_226 rfl ?_
              refine r_iast 6 0 (nn) hX d_M_node_228 rfl rfl rfl (by omega) (by decide) ?_
              refine r_aload_n (i := 0) hX d_M_node_229 rfl rfl ?_
              refine r_get 0 11 hX d_M_node_230 rfl rfl fi_M (by decide) fl_M_44 rfl rfl ?_
              refine r_aload_n (i := 0) hX d_M_node_233 rfl rfl ?_
              refine r_get 0 1 hX d_M_node_234 rfl rfl fi_M (by decide) fl_M_13 rfl rfl ?_
              refine r_iload hX d_M_node_237 rfl ?_
              refine r_iast 8 0 (nn) hX d_M_node_239 rfl rfl rfl (by omega) (by decide) ?_
              refine r_aload_n (i := 0) hX d_M_node_240 rfl rfl ?_
              refine r_get 0 10 hX d_M_node_241 rfl rfl fi_M (by decide) fl_M_41 rfl rfl ?_
              refine r_aload_n (i := 0) hX d_M_node_244 rfl rfl ?_
              refine r_get 0 1 hX d_M_node_245 rfl rfl fi_M (by decide) fl_M_13 rfl rfl ?_
              refine r_iload hX d_M_node_248 rfl ?_
              refine r_iast 7 0 (nn) hX d_M_node_250 rfl rfl rfl (by omega) (by decide) ?_
              refine r_aload_n (i := 0) hX d_M_node_251 rfl rfl ?_
              refine r_get 0 12 hX d_M_node_252 rfl rfl fi_M (by decide) fl_M_47 rfl rfl ?_
              refine r_aload_n (i := 0) hX d_M_node_255 rfl rfl ?_
              refine r_get 0 1 hX d_M_node_256 rfl rfl fi_M (by decide) fl_M_13 rfl rfl ?_
              refine r_iconst (v := nI 0) hX d_M_node_259 (by decide) ?_
              refine r_zast (y := nI 0) 9 1 (nn) hX d_M_node_260 rfl rfl rfl (by omega) (by decide) rfl ?_
              refine r_aload_n (i := 0) hX d_M_node_261 rfl rfl ?_
              refine r_dup hX d_M_node_262 rfl ?_
              refine r_get 0 1 hX d_M_node_263 rfl rfl fi_M (by decide) fl_M_13 rfl rfl ?_
              refine r_iconst (v := nI 1) hX d_M_node_266 (by decide) ?_
              refine r_iadd hX d_M_node_267 ?_
              refine r_top (nI_add _ _) ?_
              refine r_put 0 1 hX d_M_node_268 rfl rfl fi_M ft_M_ok fn_M (by decide) fl_M_13 rfl rfl rfl rfl rfl (Nat.le_of_ble_eq_true rfl) ?_
              refine r_aload_n (i := 0) hX d_M_node_271 rfl rfl ?_
              refine r_get 0 1 hX d_M_node_272 rfl rfl fi_M (by decide) fl_M_13 rfl rfl ?_
              refine r_iconst (v := nI 1) hX d_M_node_275 (by decide) ?_
              refine r_isub hX d_M_node_276 ?_
              refine r_top (pk_sub (by omega)) ?_
              exact r_iret (mkU mf nn (nI 2) a b c B W L (mf 7)) hX hF d_M_node_277 (mkU_post hn (by rw [hkk, hB]) (by rw [hkk, hW]) (by rw [hkk, hL]) (by rw [hkk, show opsN 2 = 0 from rfl]; simp [useN, nfU])) (by rw [hn]; rfl) (by rw [hn]; rfl)
            · have hn : nodeOk nn mf (nI 2) a b c = false := by simp [nodeOk, hkk, hL, c128]
              refine r_iconst (v := -1) hX d_M_node_131 (by decide) ?_
              exact r_iret mf hX hF d_M_node_132 (bad hn) (by rw [hn]; rfl) (by rw [hn]; rfl)
      · have hn : nodeOk nn mf (nI 2) a b c = false := by
          have := (nI_eq (by omega) (by decide)).mp c28
          simp [nodeOk, this]
        refine r_iconst (v := -1) hX d_M_node_31 (by decide) ?_
        exact r_iret mf hX hF d_M_node_32 (bad hn) (by rw [hn]; rfl) (by rw [hn]; rfl)
  ·
    refine r_iload_n (i := 1) hX d_M_node_0 rfl rfl ?_
    refine r_if_lt 31 hX d_M_node_1 (by decide) (fun c1 => absurd c1 (by decide)) (fun c1 => ?_)
    refine r_iload_n (i := 1) hX d_M_node_4 rfl rfl ?_
    refine r_bipush (v := nI 21) hX d_M_node_5 (by decide) ?_
    refine r_icmp_gt 31 hX d_M_node_7 (by decide) (fun c7 => absurd c7 (by decide)) (fun c7 => ?_)
    refine r_aload_n (i := 0) hX d_M_node_10 rfl rfl ?_
    refine r_iload_n (i := 1) hX d_M_node_11 rfl rfl ?_
    refine r_iload_n (i := 2) hX d_M_node_12 rfl rfl ?_
    refine r_iload_n (i := 3) hX d_M_node_13 rfl rfl ?_
    refine r_iload hX d_M_node_14 rfl ?_
    refine r_callVwi (q0 := 0) hX d_M_node_16 cw_M_fits ml_M_85 (c_M_fits 3 a b c (by decide) hnn) (Or.inl rfl) rfl rfl rfl rfl (by decide) (Nat.le_of_ble_eq_true rfl) (fun _ => rfl) (fun _ _ => ?_)
    refine r_if_eq 31 hX d_M_node_19 (by decide) (fun c19 => ?_) (fun c19 => ?_)
    · have hn : nodeOk nn mf (nI 3) a b c = false := by
        have h9 := bI_0 c19
        simp only [fitK, Bool.and_eq_false_iff] at h9
        rcases h9 with h9 | h9 <;> simp [nodeOk, hkk, h9]
      refine r_iconst (v := -1) hX d_M_node_31 (by decide) ?_
      exact r_iret mf hX hF d_M_node_32 (bad hn) (by rw [hn]; rfl) (by rw [hn]; rfl)
    · refine r_aload_n (i := 0) hX d_M_node_22 rfl rfl ?_
      refine r_get 0 1 hX d_M_node_23 rfl rfl fi_M (by decide) fl_M_13 rfl rfl ?_
      refine r_bipush (v := nI 60) hX d_M_node_26 (by decide) ?_
      refine r_icmp_ne 33 hX d_M_node_28 (by decide) (fun c28 => ?_) (fun c28 => ?_)
      · have hlt : nn < 60 := by
          rcases Nat.lt_or_ge nn 60 with h | h
          · exact h
          · exact absurd (by rw [show nn = 60 by omega]) c28
        have h9 := bI_1 c19
        simp only [fitK, Bool.and_eq_true] at h9
        obtain ⟨hpl, hfit⟩ := h9
        have hoN := mfit_k (by decide) hfit hnn
        have hops := hoN.ops hnn
        refine r_aload_n (i := 0) hX d_M_node_33 rfl rfl ?_
        refine r_iload_n (i := 1) hX d_M_node_34 rfl rfl ?_
        refine r_iload_n (i := 2) hX d_M_node_35 rfl rfl ?_
        refine r_iload_n (i := 3) hX d_M_node_36 rfl rfl ?_
        refine r_iload hX d_M_node_37 rfl ?_
        refine r_callVwi (q0 := 0) hX d_M_node_39 cw_M_boundOf ml_M_89 (c_M_boundOf 3 a b c (by decide) hops) (Or.inl rfl) rfl rfl rfl rfl (by decide) (Nat.le_of_ble_eq_true rfl) (fun _ => rfl) (fun _ _ => ?_)
        generalize hB : bndF mf 3 a b c = B
        refine r_istore hX d_M_node_42 (by decide) ?_
        refine r_iconst (v := nI 0) hX d_M_node_44 (by decide) ?_
        refine r_istore hX d_M_node_45 (by decide) ?_
        refine r_aload_n (i := 0) hX d_M_node_47 rfl rfl ?_
        refine r_iload hX d_M_node_48 rfl ?_
        refine r_aload_n (i := 0) hX d_M_node_50 rfl rfl ?_
        refine r_iload_n (i := 1) hX d_M_node_51 rfl rfl ?_
        refine r_callVwi (q0 := 0) hX d_M_node_52 cw_M_namesA ml_M_79 (c_M_namesA 3 (by decide)) (Or.inl rfl) rfl rfl rfl rfl (by decide) (Nat.le_of_ble_eq_true rfl) (fun _ => rfl) (fun _ _ => ?_)
        refine r_iload_n (i := 2) hX d_M_node_55 rfl rfl ?_
        refine r_callVwi (q0 := 0) hX d_M_node_56 cw_M_higher ml_M_93 (c_M_higher (nI 0) a (nmA 3) (fun q => absurd q (by decide))) (Or.inl rfl) rfl rfl rfl rfl (by decide) (Nat.le_of_ble_eq_true rfl) (fun _ => rfl) (fun _ _ => ?_)
        refine r_top (y := nI 0) (by simp [nmA]) ?_
        refine r_istore hX d_M_node_59 (by decide) ?_
        refine r_aload_n (i := 0) hX d_M_node_61 rfl rfl ?_
        refine r_iload hX d_M_node_62 rfl ?_
        refine r_aload_n (i := 0) hX d_M_node_64 rfl rfl ?_
        refine r_iload_n (i := 1) hX d_M_node_65 rfl rfl ?_
        refine r_callVwi (q0 := 0) hX d_M_node_66 cw_M_namesB ml_M_82 (c_M_namesB 3 (by decide)) (Or.inl rfl) rfl rfl rfl rfl (by decide) (Nat.le_of_ble_eq_true rfl) (fun _ => rfl) (fun _ _ => ?_)
        refine r_iload_n (i := 3) hX d_M_node_69 rfl rfl ?_
        refine r_callVwi (q0 := 0) hX d_M_node_70 cw_M_higher ml_M_93 (c_M_higher (nI 0) b (nmB 3) (fun q => absurd q (by decide))) (Or.inl rfl) rfl rfl rfl rfl (by decide) (Nat.le_of_ble_eq_true rfl) (fun _ => rfl) (fun _ _ => ?_)
        refine r_top (y := nI 0) (by simp [nmB]) ?_
        refine r_istore hX d_M_node_73 (by decide) ?_
        refine r_iconst (v := nI 1) hX d_M_node_75 (by decide) ?_
        refine r_aload_n (i := 0) hX d_M_node_76 rfl rfl ?_
        refine r_iload hX d_M_node_77 rfl ?_
        refine r_iload_n (i := 1) hX d_M_node_79 rfl rfl ?_
        refine r_bipush (v := nI 19) hX d_M_node_80 (by decide) ?_
        refine r_icmp_ne 89 hX d_M_node_82 (by decide) (fun c82 => ?_) (fun c82 => absurd c82 (by decide))
        refine r_iconst (v := nI 0) hX d_M_node_89 (by decide) ?_
        refine r_iload hX d_M_node_90 rfl ?_
        refine r_callVwi (q0 := 0) hX d_M_node_92 cw_M_higher ml_M_93 (c_M_higher (nI 0) c false (fun q => absurd q (by decide))) (Or.inl rfl) rfl rfl rfl rfl (by decide) (Nat.le_of_ble_eq_true rfl) (fun _ => rfl) (fun _ _ => ?_)
        refine r_top (y := nI 0) (by simp) ?_
        refine r_iadd hX d_M_node_95 ?_
        refine r_top (y := lvF mf (opsN 3) a b c) (by rw [show opsN 3 = 0 from rfl]; simp [lvF]; rw [Int32.add_comm]) ?_
        generalize hL : lvF mf (opsN 3) a b c = L
        refine r_istore hX d_M_node_96 (by decide) ?_
        refine r_aload_n (i := 0) hX d_M_node_98 rfl rfl ?_
        refine r_iload_n (i := 1) hX d_M_node_99 rfl rfl ?_
        refine r_iload_n (i := 2) hX d_M_node_100 rfl rfl ?_
        refine r_iload_n (i := 3) hX d_M_node_101 rfl rfl ?_
        refine r_iload hX d_M_node_102 rfl ?_
        refine r_callVwi (q0 := 0) hX d_M_node_104 cw_M_workOf ml_M_97 (c_M_workOf 3 a b c (by decide) hops) (Or.inl rfl) rfl rfl rfl rfl (by decide) (Nat.le_of_ble_eq_true rfl) (fun _ => rfl) (fun _ _ => ?_)
        generalize hW : wkF mf 3 a b c = W
        refine r_istore hX d_M_node_107 (by decide) ?_
        refine r_iload hX d_M_node_109 rfl ?_
        refine r_bipush (v := nI 64) hX d_M_node_111 (by decide) ?_
        refine r_icmp_gt 131 hX d_M_node_113 (by decide) (fun c113 => ?_) (fun c113 => ?_)
        · have hn : nodeOk nn mf (nI 3) a b c = false := by simp [nodeOk, hkk, hB, c113]
          refine r_iconst (v := -1) hX d_M_node_131 (by decide) ?_
          exact r_iret mf hX hF d_M_node_132 (bad hn) (by rw [hn]; rfl) (by rw [hn]; rfl)
        · refine r_iload hX d_M_node_116 rfl ?_
          refine r_sipush (v := nI 2000) hX d_M_node_118 (by decide) ?_
          refine r_icmp_gt 131 hX d_M_node_121 (by decide) (fun c121 => ?_) (fun c121 => ?_)
          · have hn : nodeOk nn mf (nI 3) a b c = false := by simp [nodeOk, hkk, hW, c121]
            refine r_iconst (v := -1) hX d_M_node_131 (by decide) ?_
            exact r_iret mf hX hF d_M_node_132 (bad hn) (by rw [hn]; rfl) (by rw [hn]; rfl)
          · refine r_iload hX d_M_node_124 rfl ?_
            refine r_bipush (v := nI 8) hX d_M_node_126 (by decide) ?_
            refine r_icmp_le 133 hX d_M_node_128 (by decide) (fun c128 => ?_) (fun c128 => ?_)
            · have hn : nodeOk nn mf (nI 3) a b c = true := by simp [nodeOk, hkk, hB, hW, hL, hx0, hx1, c113, c121, c128, hlt, hpl, hfit]
              refine r_aload_n (i := 0) hX d_M_node_133 rfl rfl ?_
              refine r_iload_n (i := 1) hX d_M_node_134 rfl rfl ?_
              refine r_callVwi (q0 := 0) hX d_M_node_135 cw_M_namesA ml_M_79 (c_M_namesA 3 (by decide)) (Or.inl rfl) rfl rfl rfl rfl (by decide) (Nat.le_of_ble_eq_true rfl) (fun _ => rfl) (fun _ _ => ?_)
              refine r_if_eq 148 hX d_M_node_138 (by decide) (fun c138 => ?_) (fun c138 => absurd c138 (by decide))
              refine r_aload_n (i := 0) hX d_M_node_148 rfl rfl ?_
              refine r_iload_n (i := 1) hX d_M_node_149 rfl rfl ?_
              refine r_callVwi (q0 := 0) hX d_M_node_150 cw_M_namesB ml_M_82 (c_M_namesB 3 (by decide)) (Or.inl rfl) rfl rfl rfl rfl (by decide) (Nat.le_of_ble_eq_true rfl) (fun _ => rfl) (fun _ _ => ?_)
              refine r_if_eq 163 hX d_M_node_153 (by decide) (fun c153 => ?_) (fun c153 => absurd c153 (by decide))
              refine r_iload_n (i := 1) hX d_M_node_163 rfl rfl ?_
              refine r_bipush (v := nI 19) hX d_M_node_164 (by decide) ?_
              refine r_icmp_ne 177 hX d_M_node_166 (by decide) (fun c166 => ?_) (fun c166 => absurd c166 (by decide))
              refine r_aload_n (i := 0) hX d_M_node_177 rfl rfl ?_
              refine r_get 0 5 hX d_M_node_178 rfl rfl fi_M (by decide) fl_M_26 rfl rfl ?_
              refine r_aload_n (i := 0) hX d_M_node_181 rfl rfl ?_
              refine r_get 0 1 hX d_M_node_182 rfl rfl fi_M (by decide) fl_M_13 rfl rfl ?_
              refine r_iload_n (i := 1) hX d_M_node_185 rfl rfl ?_
              refine r_iast 2 0 (nn) hX d_M_node_186 rfl rfl rfl (by omega) (by decide) ?_
              refine r_aload_n (i := 0) hX d_M_node_187 rfl rfl ?_
              refine r_get 0 6 hX d_M_node_188 rfl rfl fi_M (by decide) fl_M_29 rfl rfl ?_
              refine r_aload_n (i := 0) hX d_M_node_191 rfl rfl ?_
              refine r_get 0 1 hX d_M_node_192 rfl rfl fi_M (by decide) fl_M_13 rfl rfl ?_
              refine r_iload_n (i := 2) hX d_M_node_195 rfl rfl ?_
              refine r_iast 3 0 (nn) hX d_M_node_196 rfl rfl rfl (by omega) (by decide) ?_
              refine r_aload_n (i := 0) hX d_M_node_197 rfl rfl ?_
              refine r_get 0 7 hX d_M_node_198 rfl rfl fi_M (by decide) fl_M_32 rfl rfl ?_
              refine r_aload_n (i := 0) hX d_M_node_201 rfl rfl ?_
              refine r_get 0 1 hX d_M_node_202 rfl rfl fi_M (by decide) fl_M_13 rfl rfl ?_
              refine r_iload_n (i := 3) hX d_M_node_205 rfl rfl ?_
              refine r_iast 4 0 (nn) hX d_M_node_206 rfl rfl rfl (by omega) (by decide) ?_
              refine r_aload_n (i := 0) hX d_M_node_207 rfl rfl ?_
              refine r_get 0 8 hX d_M_node_208 rfl rfl fi_M (by decide) fl_M_35 rfl rfl ?_
              refine r_aload_n (i := 0) hX d_M_node_211 rfl rfl ?_
              refine r_get 0 1 hX d_M_node_212 rfl rfl fi_M (by decide) fl_M_13 rfl rfl ?_
              refine r_iload hX d_M_node_215 rfl ?_
              refine r_iast 5 0 (nn) hX d_M_node_217 rfl rfl rfl (by omega) (by decide) ?_
              refine r_aload_n (i := 0) hX d_M_node_218 rfl rfl ?_
              refine r_get 0 9 hX d_M_node_219 rfl rfl fi_M (by decide) fl_M_38 rfl rfl ?_
              refine r_aload_n (i := 0) hX d_M_node_222 rfl rfl ?_
              refine r_get 0 1 hX d_M_node_223 rfl rfl fi_M (by decide) fl_M_13 rfl rfl ?_
              refine r_iload hX d_M_node_226 rfl ?_
              refine r_iast 6 0 (nn) hX d_M_node_228 rfl rfl rfl (by omega) (by decide) ?_
              refine r_aload_n (i := 0) hX d_M_node_229 rfl rfl ?_
              refine r_get 0 11 hX d_M_node_230 rfl rfl fi_M (by decide) fl_M_44 rfl rfl ?_
              refine r_aload_n (i := 0) hX d_M_node_233 rfl rfl ?_
              refine r_get 0 1 hX d_M_node_234 rfl rfl fi_M (by decide) fl_M_13 rfl rfl ?_
              refine r_iload hX d_M_node_237 rfl ?_
              refine r_iast 8 0 (nn) hX d_M_node_239 rfl rfl rfl (by omega) (by decide) ?_
              refine r_aload_n (i := 0) hX d_M_node_240 rfl rfl ?_
              refine r_get 0 10 hX d_M_node_241 rfl rfl fi_M (by decide) fl_M_41 rfl rfl ?_
              refine r_aload_n (i := 0) hX d_M_node_244 rfl rfl ?_
              refine r_get 0 1 hX d_M_node_245 rfl rfl fi_M (by decide) fl_M_13 rfl rfl ?_
              refine r_iload hX d_M_node_248 rfl ?_
              refine r_iast 7 0 (nn) hX d_M_node_250 rfl rfl rfl (by omega) (by decide) ?_
              refine r_aload_n (i := 0) hX d_M_node_251 rfl rfl ?_
              refine r_get 0 12 hX d_M_node_252 rfl rfl fi_M (by decide) fl_M_47 rfl rfl ?_
              refine r_aload_n (i := 0) hX d_M_node_255 rfl rfl ?_
              refine r_get 0 1 hX d_M_node_256 rfl rfl fi_M (by decide) fl_M_13 rfl rfl ?_
              refine r_iconst (v := nI 0) hX d_M_node_259 (by decide) ?_
              refine r_zast (y := nI 0) 9 1 (nn) hX d_M_node_260 rfl rfl rfl (by omega) (by decide) rfl ?_
              refine r_aload_n (i := 0) hX d_M_node_261 rfl rfl ?_
              refine r_dup hX d_M_node_262 rfl ?_
              refine r_get 0 1 hX d_M_node_263 rfl rfl fi_M (by decide) fl_M_13 rfl rfl ?_
              refine r_iconst (v := nI 1) hX d_M_node_266 (by decide) ?_
              refine r_iadd hX d_M_node_267 ?_
              refine r_top (nI_add _ _) ?_
              refine r_put 0 1 hX d_M_node_268 rfl rfl fi_M ft_M_ok fn_M (by decide) fl_M_13 rfl rfl rfl rfl rfl (Nat.le_of_ble_eq_true rfl) ?_
              refine r_aload_n (i := 0) hX d_M_node_271 rfl rfl ?_
              refine r_get 0 1 hX d_M_node_272 rfl rfl fi_M (by decide) fl_M_13 rfl rfl ?_
              refine r_iconst (v := nI 1) hX d_M_node_275 (by decide) ?_
              refine r_isub hX d_M_node_276 ?_
              refine r_top (pk_sub (by omega)) ?_
              exact r_iret (mkU mf nn (nI 3) a b c B W L (mf 7)) hX hF d_M_node_277 (mkU_post hn (by rw [hkk, hB]) (by rw [hkk, hW]) (by rw [hkk, hL]) (by rw [hkk, show opsN 3 = 0 from rfl]; simp [useN, nfU])) (by rw [hn]; rfl) (by rw [hn]; rfl)
            · have hn : nodeOk nn mf (nI 3) a b c = false := by simp [nodeOk, hkk, hL, c128]
              refine r_iconst (v := -1) hX d_M_node_131 (by decide) ?_
              exact r_iret mf hX hF d_M_node_132 (bad hn) (by rw [hn]; rfl) (by rw [hn]; rfl)
      · have hn : nodeOk nn mf (nI 3) a b c = false := by
          have := (nI_eq (by omega) (by decide)).mp c28
          simp [nodeOk, this]
        refine r_iconst (v := -1) hX d_M_node_31 (by decide) ?_
        exact r_iret mf hX hF d_M_node_32 (bad hn) (by rw [hn]; rfl) (by rw [hn]; rfl)
  ·
    refine r_iload_n (i := 1) hX d_M_node_0 rfl rfl ?_
    refine r_if_lt 31 hX d_M_node_1 (by decide) (fun c1 => absurd c1 (by decide)) (fun c1 => ?_)
    refine r_iload_n (i := 1) hX d_M_node_4 rfl rfl ?_
    refine r_bipush (v := nI 21) hX d_M_node_5 (by decide) ?_
    refine r_icmp_gt 31 hX d_M_node_7 (by decide) (fun c7 => absurd c7 (by decide)) (fun c7 => ?_)
    refine r_aload_n (i := 0) hX d_M_node_10 rfl rfl ?_
    refine r_iload_n (i := 1) hX d_M_node_11 rfl rfl ?_
    refine r_iload_n (i := 2) hX d_M_node_12 rfl rfl ?_
    refine r_iload_n (i := 3) hX d_M_node_13 rfl rfl ?_
    refine r_iload hX d_M_node_14 rfl ?_
    refine r_callVwi (q0 := 0) hX d_M_node_16 cw_M_fits ml_M_85 (c_M_fits 4 a b c (by decide) hnn) (Or.inl rfl) rfl rfl rfl rfl (by decide) (Nat.le_of_ble_eq_true rfl) (fun _ => rfl) (fun _ _ => ?_)
    refine r_if_eq 31 hX d_M_node_19 (by decide) (fun c19 => ?_) (fun c19 => ?_)
    · have hn : nodeOk nn mf (nI 4) a b c = false := by
        have h9 := bI_0 c19
        simp only [fitK, Bool.and_eq_false_iff] at h9
        rcases h9 with h9 | h9 <;> simp [nodeOk, hkk, h9]
      refine r_iconst (v := -1) hX d_M_node_31 (by decide) ?_
      exact r_iret mf hX hF d_M_node_32 (bad hn) (by rw [hn]; rfl) (by rw [hn]; rfl)
    · refine r_aload_n (i := 0) hX d_M_node_22 rfl rfl ?_
      refine r_get 0 1 hX d_M_node_23 rfl rfl fi_M (by decide) fl_M_13 rfl rfl ?_
      refine r_bipush (v := nI 60) hX d_M_node_26 (by decide) ?_
      refine r_icmp_ne 33 hX d_M_node_28 (by decide) (fun c28 => ?_) (fun c28 => ?_)
      · have hlt : nn < 60 := by
          rcases Nat.lt_or_ge nn 60 with h | h
          · exact h
          · exact absurd (by rw [show nn = 60 by omega]) c28
        have h9 := bI_1 c19
        simp only [fitK, Bool.and_eq_true] at h9
        obtain ⟨hpl, hfit⟩ := h9
        have hoN := mfit_k (by decide) hfit hnn
        have hops := hoN.ops hnn
        refine r_aload_n (i := 0) hX d_M_node_33 rfl rfl ?_
        refine r_iload_n (i := 1) hX d_M_node_34 rfl rfl ?_
        refine r_iload_n (i := 2) hX d_M_node_35 rfl rfl ?_
        refine r_iload_n (i := 3) hX d_M_node_36 rfl rfl ?_
        refine r_iload hX d_M_node_37 rfl ?_
        refine r_callVwi (q0 := 0) hX d_M_node_39 cw_M_boundOf ml_M_89 (c_M_boundOf 4 a b c (by decide) hops) (Or.inl rfl) rfl rfl rfl rfl (by decide) (Nat.le_of_ble_eq_true rfl) (fun _ => rfl) (fun _ _ => ?_)
        generalize hB : bndF mf 4 a b c = B
        refine r_istore hX d_M_node_42 (by decide) ?_
        refine r_iconst (v := nI 0) hX d_M_node_44 (by decide) ?_
        refine r_istore hX d_M_node_45 (by decide) ?_
        refine r_aload_n (i := 0) hX d_M_node_47 rfl rfl ?_
        refine r_iload hX d_M_node_48 rfl ?_
        refine r_aload_n (i := 0) hX d_M_node_50 rfl rfl ?_
        refine r_iload_n (i := 1) hX d_M_node_51 rfl rfl ?_
        refine r_callVwi (q0 := 0) hX d_M_node_52 cw_M_namesA ml_M_79 (c_M_namesA 4 (by decide)) (Or.inl rfl) rfl rfl rfl rfl (by decide) (Nat.le_of_ble_eq_true rfl) (fun _ => rfl) (fun _ _ => ?_)
        refine r_iload_n (i := 2) hX d_M_node_55 rfl rfl ?_
        refine r_callVwi (q0 := 0) hX d_M_node_56 cw_M_higher ml_M_93 (c_M_higher (nI 0) a (nmA 4) (fun q => absurd q (by decide))) (Or.inl rfl) rfl rfl rfl rfl (by decide) (Nat.le_of_ble_eq_true rfl) (fun _ => rfl) (fun _ _ => ?_)
        refine r_top (y := nI 0) (by simp [nmA]) ?_
        refine r_istore hX d_M_node_59 (by decide) ?_
        refine r_aload_n (i := 0) hX d_M_node_61 rfl rfl ?_
        refine r_iload hX d_M_node_62 rfl ?_
        refine r_aload_n (i := 0) hX d_M_node_64 rfl rfl ?_
        refine r_iload_n (i := 1) hX d_M_node_65 rfl rfl ?_
        refine r_callVwi (q0 := 0) hX d_M_node_66 cw_M_namesB ml_M_82 (c_M_namesB 4 (by decide)) (Or.inl rfl) rfl rfl rfl rfl (by decide) (Nat.le_of_ble_eq_true rfl) (fun _ => rfl) (fun _ _ => ?_)
        refine r_iload_n (i := 3) hX d_M_node_69 rfl rfl ?_
        refine r_callVwi (q0 := 0) hX d_M_node_70 cw_M_higher ml_M_93 (c_M_higher (nI 0) b (nmB 4) (fun q => absurd q (by decide))) (Or.inl rfl) rfl rfl rfl rfl (by decide) (Nat.le_of_ble_eq_true rfl) (fun _ => rfl) (fun _ _ => ?_)
        refine r_top (y := nI 0) (by simp [nmB]) ?_
        refine r_istore hX d_M_node_73 (by decide) ?_
        refine r_iconst (v := nI 1) hX d_M_node_75 (by decide) ?_
        refine r_aload_n (i := 0) hX d_M_node_76 rfl rfl ?_
        refine r_iload hX d_M_node_77 rfl ?_
        refine r_iload_n (i := 1) hX d_M_node_79 rfl rfl ?_
        refine r_bipush (v := nI 19) hX d_M_node_80 (by decide) ?_
        refine r_icmp_ne 89 hX d_M_node_82 (by decide) (fun c82 => ?_) (fun c82 => absurd c82 (by decide))
        refine r_iconst (v := nI 0) hX d_M_node_89 (by decide) ?_
        refine r_iload hX d_M_node_90 rfl ?_
        refine r_callVwi (q0 := 0) hX d_M_node_92 cw_M_higher ml_M_93 (c_M_higher (nI 0) c false (fun q => absurd q (by decide))) (Or.inl rfl) rfl rfl rfl rfl (by decide) (Nat.le_of_ble_eq_true rfl) (fun _ => rfl) (fun _ _ => ?_)
        refine r_top (y := nI 0) (by simp) ?_
        refine r_iadd hX d_M_node_95 ?_
        refine r_top (y := lvF mf (opsN 4) a b c) (by rw [show opsN 4 = 0 from rfl]; simp [lvF]; rw [Int32.add_comm]) ?_
        generalize hL : lvF mf (opsN 4) a b c = L
        refine r_istore hX d_M_node_96 (by decide) ?_
        refine r_aload_n (i := 0) hX d_M_node_98 rfl rfl ?_
        refine r_iload_n (i := 1) hX d_M_node_99 rfl rfl ?_
        refine r_iload_n (i := 2) hX d_M_node_100 rfl rfl ?_
        refine r_iload_n (i := 3) hX d_M_node_101 rfl rfl ?_
        refine r_iload hX d_M_node_102 rfl ?_
        refine r_callVwi (q0 := 0) hX d_M_node_104 cw_M_workOf ml_M_97 (c_M_workOf 4 a b c (by decide) hops) (Or.inl rfl) rfl rfl rfl rfl (by decide) (Nat.le_of_ble_eq_true rfl) (fun _ => rfl) (fun _ _ => ?_)
        generalize hW : wkF mf 4 a b c = W
        refine r_istore hX d_M_node_107 (by decide) ?_
        refine r_iload hX d_M_node_109 rfl ?_
        refine r_bipush (v := nI 64) hX d_M_node_111 (by decide) ?_
        refine r_icmp_gt 131 hX d_M_node_113 (by decide) (fun c113 => ?_) (fun c113 => ?_)
        · have hn : nodeOk nn mf (nI 4) a b c = false := by simp [nodeOk, hkk, hB, c113]
          refine r_iconst (v := -1) hX d_M_node_131 (by decide) ?_
          exact r_iret mf hX hF d_M_node_132 (bad hn) (by rw [hn]; rfl) (by rw [hn]; rfl)
        · refine r_iload hX d_M_node_116 rfl ?_
          refine r_sipush (v := nI 2000) hX d_M_node_118 (by decide) ?_
          refine r_icmp_gt 131 hX d_M_node_121 (by decide) (fun c121 => ?_) (fun c121 => ?_)
          · have hn : nodeOk nn mf (nI 4) a b c = false := by simp [nodeOk, hkk, hW, c121]
            refine r_iconst (v := -1) hX d_M_node_131 (by decide) ?_
            exact r_iret mf hX hF d_M_node_132 (bad hn) (by rw [hn]; rfl) (by rw [hn]; rfl)
          · refine r_iload hX d_M_node_124 rfl ?_
            refine r_bipush (v := nI 8) hX d_M_node_126 (by decide) ?_
            refine r_icmp_le 133 hX d_M_node_128 (by decide) (fun c128 => ?_) (fun c128 => ?_)
            · have hn : nodeOk nn mf (nI 4) a b c = true := by simp [nodeOk, hkk, hB, hW, hL, hx0, hx1, c113, c121, c128, hlt, hpl, hfit]
              refine r_aload_n (i := 0) hX d_M_node_133 rfl rfl ?_
              refine r_iload_n (i := 1) hX d_M_node_134 rfl rfl ?_
              refine r_callVwi (q0 := 0) hX d_M_node_135 cw_M_namesA ml_M_79 (c_M_namesA 4 (by decide)) (Or.inl rfl) rfl rfl rfl rfl (by decide) (Nat.le_of_ble_eq_true rfl) (fun _ => rfl) (fun _ _ => ?_)
              refine r_if_eq 148 hX d_M_node_138 (by decide) (fun c138 => ?_) (fun c138 => absurd c138 (by decide))
              refine r_aload_n (i := 0) hX d_M_node_148 rfl rfl ?_
              refine r_iload_n (i := 1) hX d_M_node_149 rfl rfl ?_
              refine r_callVwi (q0 := 0) hX d_M_node_150 cw_M_namesB ml_M_82 (c_M_namesB 4 (by decide)) (Or.inl rfl) rfl rfl rfl rfl (by decide) (Nat.le_of_ble_eq_true rfl) (fun _ => rfl) (fun _ _ => ?_)
              refine r_if_eq 163 hX d_M_node_153 (by decide) (fun c153 => ?_) (fun c153 => absurd c153 (by decide))
              refine r_iload_n (i := 1) hX d_M_node_163 rfl rfl ?_
              refine r_bipush (v := nI 19) hX d_M_node_164 (by decide) ?_
              refine r_icmp_ne 177 hX d_M_node_166 (by decide) (fun c166 => ?_) (fun c166 => absurd c166 (by decide))
              refine r_aload_n (i := 0) hX d_M_node_177 rfl rfl ?_
              refine r_get 0 5 hX d_M_node_178 rfl rfl fi_M (by decide) fl_M_26 rfl rfl ?_
              refine r_aload_n (i := 0) hX d_M_node_181 rfl rfl ?_
              refine r_get 0 1 hX d_M_node_182 rfl rfl fi_M (by decide) fl_M_13 rfl rfl ?_
              refine r_iload_n (i := 1) hX d_M_node_185 rfl rfl ?_
              refine r_iast 2 0 (nn) hX d_M_node_186 rfl rfl rfl (by omega) (by decide) ?_
              refine r_aload_n (i := 0) hX d_M_node_187 rfl rfl ?_
              refine r_get 0 6 hX d_M_node_188 rfl rfl fi_M (by decide) fl_M_29 rfl rfl ?_
              refine r_aload_n (i := 0) hX d_M_node_191 rfl rfl ?_
              refine r_get 0 1 hX d_M_node_192 rfl rfl fi_M (by decide) fl_M_13 rfl rfl ?_
              refine r_iload_n (i := 2) hX d_M_node_195 rfl rfl ?_
              refine r_iast 3 0 (nn) hX d_M_node_196 rfl rfl rfl (by omega) (by decide) ?_
              refine r_aload_n (i := 0) hX d_M_node_197 rfl rfl ?_
              refine r_get 0 7 hX d_M_node_198 rfl rfl fi_M (by decide) fl_M_32 rfl rfl ?_
              refine r_aload_n (i := 0) hX d_M_node_201 rfl rfl ?_
              refine r_get 0 1 hX d_M_node_202 rfl rfl fi_M (by decide) fl_M_13 rfl rfl ?_
              refine r_iload_n (i := 3) hX d_M_node_205 rfl rfl ?_
              refine r_iast 4 0 (nn) hX d_M_node_206 rfl rfl rfl (by omega) (by decide) ?_
              refine r_aload_n (i := 0) hX d_M_node_207 rfl rfl ?_
              refine r_get 0 8 hX d_M_node_208 rfl rfl fi_M (by decide) fl_M_35 rfl rfl ?_
              refine r_aload_n (i := 0) hX d_M_node_211 rfl rfl ?_
              refine r_get 0 1 hX d_M_node_212 rfl rfl fi_M (by decide) fl_M_13 rfl rfl ?_
              refine r_iload hX d_M_node_215 rfl ?_
              refine r_iast 5 0 (nn) hX d_M_node_217 rfl rfl rfl (by omega) (by decide) ?_
              refine r_aload_n (i := 0) hX d_M_node_218 rfl rfl ?_
              refine r_get 0 9 hX d_M_node_219 rfl rfl fi_M (by decide) fl_M_38 rfl rfl ?_
              refine r_aload_n (i := 0) hX d_M_node_222 rfl rfl ?_
              refine r_get 0 1 hX d_M_node_223 rfl rfl fi_M (by decide) fl_M_13 rfl rfl ?_
              refine r_iload hX d_M_node_226 rfl ?_
              refine r_iast 6 0 (nn) hX d_M_node_228 rfl rfl rfl (by omega) (by decide) ?_
              refine r_aload_n (i := 0) hX d_M_node_229 rfl rfl ?_
              refine r_get 0 11 hX d_M_node_230 rfl rfl fi_M (by decide) fl_M_44 rfl rfl ?_
              refine r_aload_n (i := 0) hX d_M_node_233 rfl rfl ?_
              refine r_get 0 1 hX d_M_node_234 rfl rfl fi_M (by decide) fl_M_13 rfl rfl ?_
              refine r_iload hX d_M_node_237 rfl ?_
              refine r_iast 8 0 (nn) hX d_M_node_239 rfl rfl rfl (by omega) (by decide) ?_
              refine r_aload_n (i := 0) hX d_M_node_240 rfl rfl ?_
              refine r_get 0 10 hX d_M_node_241 rfl rfl fi_M (by decide) fl_M_41 rfl rfl ?_
              refine r_aload_n (i := 0) hX d_M_node_244 rfl rfl ?_
              refine r_get 0 1 hX d_M_node_245 rfl rfl fi_M (by decide) fl_M_13 rfl rfl ?_
              refine r_iload hX d_M_node_248 rfl ?_
              refine r_iast 7 0 (nn) hX d_M_node_250 rfl rfl rfl (by omega) (by decide) ?_
              refine r_aload_n (i := 0) hX d_M_node_251 rfl rfl ?_
              refine r_get 0 12 hX d_M_node_252 rfl rfl fi_M (by decide) fl_M_47 rfl rfl ?_
              refine r_aload_n (i := 0) hX d_M_node_255 rfl rfl ?_
              refine r_get 0 1 hX d_M_node_256 rfl rfl fi_M (by decide) fl_M_13 rfl rfl ?_
              refine r_iconst (v := nI 0) hX d_M_node_259 (by decide) ?_
              refine r_zast (y := nI 0) 9 1 (nn) hX d_M_node_260 rfl rfl rfl (by omega) (by decide) rfl ?_
              refine r_aload_n (i := 0) hX d_M_node_261 rfl rfl ?_
              refine r_dup hX d_M_node_262 rfl ?_
              refine r_get 0 1 hX d_M_node_263 rfl rfl fi_M (by decide) fl_M_13 rfl rfl ?_
              refine r_iconst (v := nI 1) hX d_M_node_266 (by decide) ?_
              refine r_iadd hX d_M_node_267 ?_
              refine r_top (nI_add _ _) ?_
              refine r_put 0 1 hX d_M_node_268 rfl rfl fi_M ft_M_ok fn_M (by decide) fl_M_13 rfl rfl rfl rfl rfl (Nat.le_of_ble_eq_true rfl) ?_
              refine r_aload_n (i := 0) hX d_M_node_271 rfl rfl ?_
              refine r_get 0 1 hX d_M_node_272 rfl rfl fi_M (by decide) fl_M_13 rfl rfl ?_
              refine r_iconst (v := nI 1) hX d_M_node_275 (by decide) ?_
              refine r_isub hX d_M_node_276 ?_
              refine r_top (pk_sub (by omega)) ?_
              exact r_iret (mkU mf nn (nI 4) a b c B W L (mf 7)) hX hF d_M_node_277 (mkU_post hn (by rw [hkk, hB]) (by rw [hkk, hW]) (by rw [hkk, hL]) (by rw [hkk, show opsN 4 = 0 from rfl]; simp [useN, nfU])) (by rw [hn]; rfl) (by rw [hn]; rfl)
            · have hn : nodeOk nn mf (nI 4) a b c = false := by simp [nodeOk, hkk, hL, c128]
              refine r_iconst (v := -1) hX d_M_node_131 (by decide) ?_
              exact r_iret mf hX hF d_M_node_132 (bad hn) (by rw [hn]; rfl) (by rw [hn]; rfl)
      · have hn : nodeOk nn mf (nI 4) a b c = false := by
          have := (nI_eq (by omega) (by decide)).mp c28
          simp [nodeOk, this]
        refine r_iconst (v := -1) hX d_M_node_31 (by decide) ?_
        exact r_iret mf hX hF d_M_node_32 (bad hn) (by rw [hn]; rfl) (by rw [hn]; rfl)
  ·
    refine r_iload_n (i := 1) hX d_M_node_0 rfl rfl ?_
    refine r_if_lt 31 hX d_M_node_1 (by decide) (fun c1 => absurd c1 (by decide)) (fun c1 => ?_)
    refine r_iload_n (i := 1) hX d_M_node_4 rfl rfl ?_
    refine r_bipush (v := nI 21) hX d_M_node_5 (by decide) ?_
    refine r_icmp_gt 31 hX d_M_node_7 (by decide) (fun c7 => absurd c7 (by decide)) (fun c7 => ?_)
    refine r_aload_n (i := 0) hX d_M_node_10 rfl rfl ?_
    refine r_iload_n (i := 1) hX d_M_node_11 rfl rfl ?_
    refine r_iload_n (i := 2) hX d_M_node_12 rfl rfl ?_
    refine r_iload_n (i := 3) hX d_M_node_13 rfl rfl ?_
    refine r_iload hX d_M_node_14 rfl ?_
    refine r_callVwi (q0 := 0) hX d_M_node_16 cw_M_fits ml_M_85 (c_M_fits 5 a b c (by decide) hnn) (Or.inl rfl) rfl rfl rfl rfl (by decide) (Nat.le_of_ble_eq_true rfl) (fun _ => rfl) (fun _ _ => ?_)
    refine r_if_eq 31 hX d_M_node_19 (by decide) (fun c19 => ?_) (fun c19 => ?_)
    · have hn : nodeOk nn mf (nI 5) a b c = false := by
        have h9 := bI_0 c19
        simp only [fitK, Bool.and_eq_false_iff] at h9
        rcases h9 with h9 | h9 <;> simp [nodeOk, hkk, h9]
      refine r_iconst (v := -1) hX d_M_node_31 (by decide) ?_
      exact r_iret mf hX hF d_M_node_32 (bad hn) (by rw [hn]; rfl) (by rw [hn]; rfl)
    · refine r_aload_n (i := 0) hX d_M_node_22 rfl rfl ?_
      refine r_get 0 1 hX d_M_node_23 rfl rfl fi_M (by decide) fl_M_13 rfl rfl ?_
      refine r_bipush (v := nI 60) hX d_M_node_26 (by decide) ?_
      refine r_icmp_ne 33 hX d_M_node_28 (by decide) (fun c28 => ?_) (fun c28 => ?_)
      · have hlt : nn < 60 := by
          rcases Nat.lt_or_ge nn 60 with h | h
          · exact h
          · exact absurd (by rw [show nn = 60 by omega]) c28
        have h9 := bI_1 c19
        simp only [fitK, Bool.and_eq_true] at h9
        obtain ⟨hpl, hfit⟩ := h9
        have hoN := mfit_k (by decide) hfit hnn
        have hops := hoN.ops hnn
        refine r_aload_n (i := 0) hX d_M_node_33 rfl rfl ?_
        refine r_iload_n (i := 1) hX d_M_node_34 rfl rfl ?_
        refine r_iload_n (i := 2) hX d_M_node_35 rfl rfl ?_
        refine r_iload_n (i := 3) hX d_M_node_36 rfl rfl ?_
        refine r_iload hX d_M_node_37 rfl ?_
        refine r_callVwi (q0 := 0) hX d_M_node_39 cw_M_boundOf ml_M_89 (c_M_boundOf 5 a b c (by decide) hops) (Or.inl rfl) rfl rfl rfl rfl (by decide) (Nat.le_of_ble_eq_true rfl) (fun _ => rfl) (fun _ _ => ?_)
        generalize hB : bndF mf 5 a b c = B
        refine r_istore hX d_M_node_42 (by decide) ?_
        refine r_iconst (v := nI 0) hX d_M_node_44 (by decide) ?_
        refine r_istore hX d_M_node_45 (by decide) ?_
        refine r_aload_n (i := 0) hX d_M_node_47 rfl rfl ?_
        refine r_iload hX d_M_node_48 rfl ?_
        refine r_aload_n (i := 0) hX d_M_node_50 rfl rfl ?_
        refine r_iload_n (i := 1) hX d_M_node_51 rfl rfl ?_
        refine r_callVwi (q0 := 0) hX d_M_node_52 cw_M_namesA ml_M_79 (c_M_namesA 5 (by decide)) (Or.inl rfl) rfl rfl rfl rfl (by decide) (Nat.le_of_ble_eq_true rfl) (fun _ => rfl) (fun _ _ => ?_)
        refine r_iload_n (i := 2) hX d_M_node_55 rfl rfl ?_
        refine r_callVwi (q0 := 0) hX d_M_node_56 cw_M_higher ml_M_93 (c_M_higher (nI 0) a (nmA 5) (fun q => absurd q (by decide))) (Or.inl rfl) rfl rfl rfl rfl (by decide) (Nat.le_of_ble_eq_true rfl) (fun _ => rfl) (fun _ _ => ?_)
        refine r_top (y := nI 0) (by simp [nmA]) ?_
        refine r_istore hX d_M_node_59 (by decide) ?_
        refine r_aload_n (i := 0) hX d_M_node_61 rfl rfl ?_
        refine r_iload hX d_M_node_62 rfl ?_
        refine r_aload_n (i := 0) hX d_M_node_64 rfl rfl ?_
        refine r_iload_n (i := 1) hX d_M_node_65 rfl rfl ?_
        refine r_callVwi (q0 := 0) hX d_M_node_66 cw_M_namesB ml_M_82 (c_M_namesB 5 (by decide)) (Or.inl rfl) rfl rfl rfl rfl (by decide) (Nat.le_of_ble_eq_true rfl) (fun _ => rfl) (fun _ _ => ?_)
        refine r_iload_n (i := 3) hX d_M_node_69 rfl rfl ?_
        refine r_callVwi (q0 := 0) hX d_M_node_70 cw_M_higher ml_M_93 (c_M_higher (nI 0) b (nmB 5) (fun q => absurd q (by decide))) (Or.inl rfl) rfl rfl rfl rfl (by decide) (Nat.le_of_ble_eq_true rfl) (fun _ => rfl) (fun _ _ => ?_)
        refine r_top (y := nI 0) (by simp [nmB]) ?_
        refine r_istore hX d_M_node_73 (by decide) ?_
        refine r_iconst (v := nI 1) hX d_M_node_75 (by decide) ?_
        refine r_aload_n (i := 0) hX d_M_node_76 rfl rfl ?_
        refine r_iload hX d_M_node_77 rfl ?_
        refine r_iload_n (i := 1) hX d_M_node_79 rfl rfl ?_
        refine r_bipush (v := nI 19) hX d_M_node_80 (by decide) ?_
        refine r_icmp_ne 89 hX d_M_node_82 (by decide) (fun c82 => ?_) (fun c82 => absurd c82 (by decide))
        refine r_iconst (v := nI 0) hX d_M_node_89 (by decide) ?_
        refine r_iload hX d_M_node_90 rfl ?_
        refine r_callVwi (q0 := 0) hX d_M_node_92 cw_M_higher ml_M_93 (c_M_higher (nI 0) c false (fun q => absurd q (by decide))) (Or.inl rfl) rfl rfl rfl rfl (by decide) (Nat.le_of_ble_eq_true rfl) (fun _ => rfl) (fun _ _ => ?_)
        refine r_top (y := nI 0) (by simp) ?_
        refine r_iadd hX d_M_node_95 ?_
        refine r_top (y := lvF mf (opsN 5) a b c) (by rw [show opsN 5 = 0 from rfl]; simp [lvF]; rw [Int32.add_comm]) ?_
        generalize hL : lvF mf (opsN 5) a b c = L
        refine r_istore hX d_M_node_96 (by decide) ?_
        refine r_aload_n (i := 0) hX d_M_node_98 rfl rfl ?_
        refine r_iload_n (i := 1) hX d_M_node_99 rfl rfl ?_
        refine r_iload_n (i := 2) hX d_M_node_100 rfl rfl ?_
        refine r_iload_n (i := 3) hX d_M_node_101 rfl rfl ?_
        refine r_iload hX d_M_node_102 rfl ?_
        refine r_callVwi (q0 := 0) hX d_M_node_104 cw_M_workOf ml_M_97 (c_M_workOf 5 a b c (by decide) hops) (Or.inl rfl) rfl rfl rfl rfl (by decide) (Nat.le_of_ble_eq_true rfl) (fun _ => rfl) (fun _ _ => ?_)
        generalize hW : wkF mf 5 a b c = W
        refine r_istore hX d_M_node_107 (by decide) ?_
        refine r_iload hX d_M_node_109 rfl ?_
        refine r_bipush (v := nI 64) hX d_M_node_111 (by decide) ?_
        refine r_icmp_gt 131 hX d_M_node_113 (by decide) (fun c113 => ?_) (fun c113 => ?_)
        · have hn : nodeOk nn mf (nI 5) a b c = false := by simp [nodeOk, hkk, hB, c113]
          refine r_iconst (v := -1) hX d_M_node_131 (by decide) ?_
          exact r_iret mf hX hF d_M_node_132 (bad hn) (by rw [hn]; rfl) (by rw [hn]; rfl)
        · refine r_iload hX d_M_node_116 rfl ?_
          refine r_sipush (v := nI 2000) hX d_M_node_118 (by decide) ?_
          refine r_icmp_gt 131 hX d_M_node_121 (by decide) (fun c121 => ?_) (fun c121 => ?_)
          · have hn : nodeOk nn mf (nI 5) a b c = false := by simp [nodeOk, hkk, hW, c121]
            refine r_iconst (v := -1) hX d_M_node_131 (by decide) ?_
            exact r_iret mf hX hF d_M_node_132 (bad hn) (by rw [hn]; rfl) (by rw [hn]; rfl)
          · refine r_iload hX d_M_node_124 rfl ?_
            refine r_bipush (v := nI 8) hX d_M_node_126 (by decide) ?_
            refine r_icmp_le 133 hX d_M_node_128 (by decide) (fun c128 => ?_) (fun c128 => ?_)
            · have hn : nodeOk nn mf (nI 5) a b c = true := by simp [nodeOk, hkk, hB, hW, hL, hx0, hx1, c113, c121, c128, hlt, hpl, hfit]
              refine r_aload_n (i := 0) hX d_M_node_133 rfl rfl ?_
              refine r_iload_n (i := 1) hX d_M_node_134 rfl rfl ?_
              refine r_callVwi (q0 := 0) hX d_M_node_135 cw_M_namesA ml_M_79 (c_M_namesA 5 (by decide)) (Or.inl rfl) rfl rfl rfl rfl (by decide) (Nat.le_of_ble_eq_true rfl) (fun _ => rfl) (fun _ _ => ?_)
              refine r_if_eq 148 hX d_M_node_138 (by decide) (fun c138 => ?_) (fun c138 => absurd c138 (by decide))
              refine r_aload_n (i := 0) hX d_M_node_148 rfl rfl ?_
              refine r_iload_n (i := 1) hX d_M_node_149 rfl rfl ?_
              refine r_callVwi (q0 := 0) hX d_M_node_150 cw_M_namesB ml_M_82 (c_M_namesB 5 (by decide)) (Or.inl rfl) rfl rfl rfl rfl (by decide) (Nat.le_of_ble_eq_true rfl) (fun _ => rfl) (fun _ _ => ?_)
              refine r_if_eq 163 hX d_M_node_153 (by decide) (fun c153 => ?_) (fun c153 => absurd c153 (by decide))
              refine r_iload_n (i := 1) hX d_M_node_163 rfl rfl ?_
              refine r_bipush (v := nI 19) hX d_M_node_164 (by decide) ?_
              refine r_icmp_ne 177 hX d_M_node_166 (by decide) (fun c166 => ?_) (fun c166 => absurd c166 (by decide))
              refine r_aload_n (i := 0) hX d_M_node_177 rfl rfl ?_
              refine r_get 0 5 hX d_M_node_178 rfl rfl fi_M (by decide) fl_M_26 rfl rfl ?_
              refine r_aload_n (i := 0) hX d_M_node_181 rfl rfl ?_
              refine r_get 0 1 hX d_M_node_182 rfl rfl fi_M (by decide) fl_M_13 rfl rfl ?_
              refine r_iload_n (i := 1) hX d_M_node_185 rfl rfl ?_
              refine r_iast 2 0 (nn) hX d_M_node_186 rfl rfl rfl (by omega) (by decide) ?_
              refine r_aload_n (i := 0) hX d_M_node_187 rfl rfl ?_
              refine r_get 0 6 hX d_M_node_188 rfl rfl fi_M (by decide) fl_M_29 rfl rfl ?_
              refine r_aload_n (i := 0) hX d_M_node_191 rfl rfl ?_
              refine r_get 0 1 hX d_M_node_192 rfl rfl fi_M (by decide) fl_M_13 rfl rfl ?_
              refine r_iload_n (i := 2) hX d_M_node_195 rfl rfl ?_
              refine r_iast 3 0 (nn) hX d_M_node_196 rfl rfl rfl (by omega) (by decide) ?_
              refine r_aload_n (i := 0) hX d_M_node_197 rfl rfl ?_
              refine r_get 0 7 hX d_M_node_198 rfl rfl fi_M (by decide) fl_M_32 rfl rfl ?_
              refine r_aload_n (i := 0) hX d_M_node_201 rfl rfl ?_
              refine r_get 0 1 hX d_M_node_202 rfl rfl fi_M (by decide) fl_M_13 rfl rfl ?_
              refine r_iload_n (i := 3) hX d_M_node_205 rfl rfl ?_
              refine r_iast 4 0 (nn) hX d_M_node_206 rfl rfl rfl (by omega) (by decide) ?_
              refine r_aload_n (i := 0) hX d_M_node_207 rfl rfl ?_
              refine r_get 0 8 hX d_M_node_208 rfl rfl fi_M (by decide) fl_M_35 rfl rfl ?_
              refine r_aload_n (i := 0) hX d_M_node_211 rfl rfl ?_
              refine r_get 0 1 hX d_M_node_212 rfl rfl fi_M (by decide) fl_M_13 rfl rfl ?_
              refine r_iload hX d_M_node_215 rfl ?_
              refine r_iast 5 0 (nn) hX d_M_node_217 rfl rfl rfl (by omega) (by decide) ?_
              refine r_aload_n (i := 0) hX d_M_node_218 rfl rfl ?_
              refine r_get 0 9 hX d_M_node_219 rfl rfl fi_M (by decide) fl_M_38 rfl rfl ?_
              refine r_aload_n (i := 0) hX d_M_node_222 rfl rfl ?_
              refine r_get 0 1 hX d_M_node_223 rfl rfl fi_M (by decide) fl_M_13 rfl rfl ?_
              refine r_iload hX d_M_node_226 rfl ?_
              refine r_iast 6 0 (nn) hX d_M_node_228 rfl rfl rfl (by omega) (by decide) ?_
              refine r_aload_n (i := 0) hX d_M_node_229 rfl rfl ?_
              refine r_get 0 11 hX d_M_node_230 rfl rfl fi_M (by decide) fl_M_44 rfl rfl ?_
              refine r_aload_n (i := 0) hX d_M_node_233 rfl rfl ?_
              refine r_get 0 1 hX d_M_node_234 rfl rfl fi_M (by decide) fl_M_13 rfl rfl ?_
              refine r_iload hX d_M_node_237 rfl ?_
              refine r_iast 8 0 (nn) hX d_M_node_239 rfl rfl rfl (by omega) (by decide) ?_
              refine r_aload_n (i := 0) hX d_M_node_240 rfl rfl ?_
              refine r_get 0 10 hX d_M_node_241 rfl rfl fi_M (by decide) fl_M_41 rfl rfl ?_
              refine r_aload_n (i := 0) hX d_M_node_244 rfl rfl ?_
              refine r_get 0 1 hX d_M_node_245 rfl rfl fi_M (by decide) fl_M_13 rfl rfl ?_
              refine r_iload hX d_M_node_248 rfl ?_
              refine r_iast 7 0 (nn) hX d_M_node_250 rfl rfl rfl (by omega) (by decide) ?_
              refine r_aload_n (i := 0) hX d_M_node_251 rfl rfl ?_
              refine r_get 0 12 hX d_M_node_252 rfl rfl fi_M (by decide) fl_M_47 rfl rfl ?_
              refine r_aload_n (i := 0) hX d_M_node_255 rfl rfl ?_
              refine r_get 0 1 hX d_M_node_256 rfl rfl fi_M (by decide) fl_M_13 rfl rfl ?_
              refine r_iconst (v := nI 0) hX d_M_node_259 (by decide) ?_
              refine r_zast (y := nI 0) 9 1 (nn) hX d_M_node_260 rfl rfl rfl (by omega) (by decide) rfl ?_
              refine r_aload_n (i := 0) hX d_M_node_261 rfl rfl ?_
              refine r_dup hX d_M_node_262 rfl ?_
              refine r_get 0 1 hX d_M_node_263 rfl rfl fi_M (by decide) fl_M_13 rfl rfl ?_
              refine r_iconst (v := nI 1) hX d_M_node_266 (by decide) ?_
              refine r_iadd hX d_M_node_267 ?_
              refine r_top (nI_add _ _) ?_
              refine r_put 0 1 hX d_M_node_268 rfl rfl fi_M ft_M_ok fn_M (by decide) fl_M_13 rfl rfl rfl rfl rfl (Nat.le_of_ble_eq_true rfl) ?_
              refine r_aload_n (i := 0) hX d_M_node_271 rfl rfl ?_
              refine r_get 0 1 hX d_M_node_272 rfl rfl fi_M (by decide) fl_M_13 rfl rfl ?_
              refine r_iconst (v := nI 1) hX d_M_node_275 (by decide) ?_
              refine r_isub hX d_M_node_276 ?_
              refine r_top (pk_sub (by omega)) ?_
              exact r_iret (mkU mf nn (nI 5) a b c B W L (mf 7)) hX hF d_M_node_277 (mkU_post hn (by rw [hkk, hB]) (by rw [hkk, hW]) (by rw [hkk, hL]) (by rw [hkk, show opsN 5 = 0 from rfl]; simp [useN, nfU])) (by rw [hn]; rfl) (by rw [hn]; rfl)
            · have hn : nodeOk nn mf (nI 5) a b c = false := by simp [nodeOk, hkk, hL, c128]
              refine r_iconst (v := -1) hX d_M_node_131 (by decide) ?_
              exact r_iret mf hX hF d_M_node_132 (bad hn) (by rw [hn]; rfl) (by rw [hn]; rfl)
      · have hn : nodeOk nn mf (nI 5) a b c = false := by
          have := (nI_eq (by omega) (by decide)).mp c28
          simp [nodeOk, this]
        refine r_iconst (v := -1) hX d_M_node_31 (by decide) ?_
        exact r_iret mf hX hF d_M_node_32 (bad hn) (by rw [hn]; rfl) (by rw [hn]; rfl)
  ·
    refine r_iload_n (i := 1) hX d_M_node_0 rfl rfl ?_
    refine r_if_lt 31 hX d_M_node_1 (by decide) (fun c1 => absurd c1 (by decide)) (fun c1 => ?_)
    refine r_iload_n (i := 1) hX d_M_node_4 rfl rfl ?_
    refine r_bipush (v := nI 21) hX d_M_node_5 (by decide) ?_
    refine r_icmp_gt 31 hX d_M_node_7 (by decide) (fun c7 => absurd c7 (by decide)) (fun c7 => ?_)
    refine r_aload_n (i := 0) hX d_M_node_10 rfl rfl ?_
    refine r_iload_n (i := 1) hX d_M_node_11 rfl rfl ?_
    refine r_iload_n (i := 2) hX d_M_node_12 rfl rfl ?_
    refine r_iload_n (i := 3) hX d_M_node_13 rfl rfl ?_
    refine r_iload hX d_M_node_14 rfl ?_
    refine r_callVwi (q0 := 0) hX d_M_node_16 cw_M_fits ml_M_85 (c_M_fits 6 a b c (by decide) hnn) (Or.inl rfl) rfl rfl rfl rfl (by decide) (Nat.le_of_ble_eq_true rfl) (fun _ => rfl) (fun _ _ => ?_)
    refine r_if_eq 31 hX d_M_node_19 (by decide) (fun c19 => ?_) (fun c19 => ?_)
    · have hn : nodeOk nn mf (nI 6) a b c = false := by
        have h9 := bI_0 c19
        simp only [fitK, Bool.and_eq_false_iff] at h9
        rcases h9 with h9 | h9 <;> simp [nodeOk, hkk, h9]
      refine r_iconst (v := -1) hX d_M_node_31 (by decide) ?_
      exact r_iret mf hX hF d_M_node_32 (bad hn) (by rw [hn]; rfl) (by rw [hn]; rfl)
    · refine r_aload_n (i := 0) hX d_M_node_22 rfl rfl ?_
      refine r_get 0 1 hX d_M_node_23 rfl rfl fi_M (by decide) fl_M_13 rfl rfl ?_
      refine r_bipush (v := nI 60) hX d_M_node_26 (by decide) ?_
      refine r_icmp_ne 33 hX d_M_node_28 (by decide) (fun c28 => ?_) (fun c28 => ?_)
      · have hlt : nn < 60 := by
          rcases Nat.lt_or_ge nn 60 with h | h
          · exact h
          · exact absurd (by rw [show nn = 60 by omega]) c28
        have h9 := bI_1 c19
        simp only [fitK, Bool.and_eq_true] at h9
        obtain ⟨hpl, hfit⟩ := h9
        have hoN := mfit_k (by decide) hfit hnn
        have hops := hoN.ops hnn
        refine r_aload_n (i := 0) hX d_M_node_33 rfl rfl ?_
        refine r_iload_n (i := 1) hX d_M_node_34 rfl rfl ?_
        refine r_iload_n (i := 2) hX d_M_node_35 rfl rfl ?_
        refine r_iload_n (i := 3) hX d_M_node_36 rfl rfl ?_
        refine r_iload hX d_M_node_37 rfl ?_
        refine r_callVwi (q0 := 0) hX d_M_node_39 cw_M_boundOf ml_M_89 (c_M_boundOf 6 a b c (by decide) hops) (Or.inl rfl) rfl rfl rfl rfl (by decide) (Nat.le_of_ble_eq_true rfl) (fun _ => rfl) (fun _ _ => ?_)
        generalize hB : bndF mf 6 a b c = B
        refine r_istore hX d_M_node_42 (by decide) ?_
        refine r_iconst (v := nI 0) hX d_M_node_44 (by decide) ?_
        refine r_istore hX d_M_node_45 (by decide) ?_
        refine r_aload_n (i := 0) hX d_M_node_47 rfl rfl ?_
        refine r_iload hX d_M_node_48 rfl ?_
        refine r_aload_n (i := 0) hX d_M_node_50 rfl rfl ?_
        refine r_iload_n (i := 1) hX d_M_node_51 rfl rfl ?_
        refine r_callVwi (q0 := 0) hX d_M_node_52 cw_M_namesA ml_M_79 (c_M_namesA 6 (by decide)) (Or.inl rfl) rfl rfl rfl rfl (by decide) (Nat.le_of_ble_eq_true rfl) (fun _ => rfl) (fun _ _ => ?_)
        refine r_iload_n (i := 2) hX d_M_node_55 rfl rfl ?_
        refine r_callVwi (q0 := 0) hX d_M_node_56 cw_M_higher ml_M_93 (c_M_higher (nI 0) a (nmA 6) (fun q => absurd q (by decide))) (Or.inl rfl) rfl rfl rfl rfl (by decide) (Nat.le_of_ble_eq_true rfl) (fun _ => rfl) (fun _ _ => ?_)
        refine r_top (y := nI 0) (by simp [nmA]) ?_
        refine r_istore hX d_M_node_59 (by decide) ?_
        refine r_aload_n (i := 0) hX d_M_node_61 rfl rfl ?_
        refine r_iload hX d_M_node_62 rfl ?_
        refine r_aload_n (i := 0) hX d_M_node_64 rfl rfl ?_
        refine r_iload_n (i := 1) hX d_M_node_65 rfl rfl ?_
        refine r_callVwi (q0 := 0) hX d_M_node_66 cw_M_namesB ml_M_82 (c_M_namesB 6 (by decide)) (Or.inl rfl) rfl rfl rfl rfl (by decide) (Nat.le_of_ble_eq_true rfl) (fun _ => rfl) (fun _ _ => ?_)
        refine r_iload_n (i := 3) hX d_M_node_69 rfl rfl ?_
        refine r_callVwi (q0 := 0) hX d_M_node_70 cw_M_higher ml_M_93 (c_M_higher (nI 0) b (nmB 6) (fun q => absurd q (by decide))) (Or.inl rfl) rfl rfl rfl rfl (by decide) (Nat.le_of_ble_eq_true rfl) (fun _ => rfl) (fun _ _ => ?_)
        refine r_top (y := nI 0) (by simp [nmB]) ?_
        refine r_istore hX d_M_node_73 (by decide) ?_
        refine r_iconst (v := nI 1) hX d_M_node_75 (by decide) ?_
        refine r_aload_n (i := 0) hX d_M_node_76 rfl rfl ?_
        refine r_iload hX d_M_node_77 rfl ?_
        refine r_iload_n (i := 1) hX d_M_node_79 rfl rfl ?_
        refine r_bipush (v := nI 19) hX d_M_node_80 (by decide) ?_
        refine r_icmp_ne 89 hX d_M_node_82 (by decide) (fun c82 => ?_) (fun c82 => absurd c82 (by decide))
        refine r_iconst (v := nI 0) hX d_M_node_89 (by decide) ?_
        refine r_iload hX d_M_node_90 rfl ?_
        refine r_callVwi (q0 := 0) hX d_M_node_92 cw_M_higher ml_M_93 (c_M_higher (nI 0) c false (fun q => absurd q (by decide))) (Or.inl rfl) rfl rfl rfl rfl (by decide) (Nat.le_of_ble_eq_true rfl) (fun _ => rfl) (fun _ _ => ?_)
        refine r_top (y := nI 0) (by simp) ?_
        refine r_iadd hX d_M_node_95 ?_
        refine r_top (y := lvF mf (opsN 6) a b c) (by rw [show opsN 6 = 0 from rfl]; simp [lvF]; rw [Int32.add_comm]) ?_
        generalize hL : lvF mf (opsN 6) a b c = L
        refine r_istore hX d_M_node_96 (by decide) ?_
        refine r_aload_n (i := 0) hX d_M_node_98 rfl rfl ?_
        refine r_iload_n (i := 1) hX d_M_node_99 rfl rfl ?_
        refine r_iload_n (i := 2) hX d_M_node_100 rfl rfl ?_
        refine r_iload_n (i := 3) hX d_M_node_101 rfl rfl ?_
        refine r_iload hX d_M_node_102 rfl ?_
        refine r_callVwi (q0 := 0) hX d_M_node_104 cw_M_workOf ml_M_97 (c_M_workOf 6 a b c (by decide) hops) (Or.inl rfl) rfl rfl rfl rfl (by decide) (Nat.le_of_ble_eq_true rfl) (fun _ => rfl) (fun _ _ => ?_)
        generalize hW : wkF mf 6 a b c = W
        refine r_istore hX d_M_node_107 (by decide) ?_
        refine r_iload hX d_M_node_109 rfl ?_
        refine r_bipush (v := nI 64) hX d_M_node_111 (by decide) ?_
        refine r_icmp_gt 131 hX d_M_node_113 (by decide) (fun c113 => ?_) (fun c113 => ?_)
        · have hn : nodeOk nn mf (nI 6) a b c = false := by simp [nodeOk, hkk, hB, c113]
          refine r_iconst (v := -1) hX d_M_node_131 (by decide) ?_
          exact r_iret mf hX hF d_M_node_132 (bad hn) (by rw [hn]; rfl) (by rw [hn]; rfl)
        · refine r_iload hX d_M_node_116 rfl ?_
          refine r_sipush (v := nI 2000) hX d_M_node_118 (by decide) ?_
          refine r_icmp_gt 131 hX d_M_node_121 (by decide) (fun c121 => ?_) (fun c121 => ?_)
          · have hn : nodeOk nn mf (nI 6) a b c = false := by simp [nodeOk, hkk, hW, c121]
            refine r_iconst (v := -1) hX d_M_node_131 (by decide) ?_
            exact r_iret mf hX hF d_M_node_132 (bad hn) (by rw [hn]; rfl) (by rw [hn]; rfl)
          · refine r_iload hX d_M_node_124 rfl ?_
            refine r_bipush (v := nI 8) hX d_M_node_126 (by decide) ?_
            refine r_icmp_le 133 hX d_M_node_128 (by decide) (fun c128 => ?_) (fun c128 => ?_)
            · have hn : nodeOk nn mf (nI 6) a b c = true := by simp [nodeOk, hkk, hB, hW, hL, hx0, hx1, c113, c121, c128, hlt, hpl, hfit]
              refine r_aload_n (i := 0) hX d_M_node_133 rfl rfl ?_
              refine r_iload_n (i := 1) hX d_M_node_134 rfl rfl ?_
              refine r_callVwi (q0 := 0) hX d_M_node_135 cw_M_namesA ml_M_79 (c_M_namesA 6 (by decide)) (Or.inl rfl) rfl rfl rfl rfl (by decide) (Nat.le_of_ble_eq_true rfl) (fun _ => rfl) (fun _ _ => ?_)
              refine r_if_eq 148 hX d_M_node_138 (by decide) (fun c138 => ?_) (fun c138 => absurd c138 (by decide))
              refine r_aload_n (i := 0) hX d_M_node_148 rfl rfl ?_
              refine r_iload_n (i := 1) hX d_M_node_149 rfl rfl ?_
              refine r_callVwi (q0 := 0) hX d_M_node_150 cw_M_namesB ml_M_82 (c_M_namesB 6 (by decide)) (Or.inl rfl) rfl rfl rfl rfl (by decide) (Nat.le_of_ble_eq_true rfl) (fun _ => rfl) (fun _ _ => ?_)
              refine r_if_eq 163 hX d_M_node_153 (by decide) (fun c153 => ?_) (fun c153 => absurd c153 (by decide))
              refine r_iload_n (i := 1) hX d_M_node_163 rfl rfl ?_
              refine r_bipush (v := nI 19) hX d_M_node_164 (by decide) ?_
              refine r_icmp_ne 177 hX d_M_node_166 (by decide) (fun c166 => ?_) (fun c166 => absurd c166 (by decide))
              refine r_aload_n (i := 0) hX d_M_node_177 rfl rfl ?_
              refine r_get 0 5 hX d_M_node_178 rfl rfl fi_M (by decide) fl_M_26 rfl rfl ?_
              refine r_aload_n (i := 0) hX d_M_node_181 rfl rfl ?_
              refine r_get 0 1 hX d_M_node_182 rfl rfl fi_M (by decide) fl_M_13 rfl rfl ?_
              refine r_iload_n (i := 1) hX d_M_node_185 rfl rfl ?_
              refine r_iast 2 0 (nn) hX d_M_node_186 rfl rfl rfl (by omega) (by decide) ?_
              refine r_aload_n (i := 0) hX d_M_node_187 rfl rfl ?_
              refine r_get 0 6 hX d_M_node_188 rfl rfl fi_M (by decide) fl_M_29 rfl rfl ?_
              refine r_aload_n (i := 0) hX d_M_node_191 rfl rfl ?_
              refine r_get 0 1 hX d_M_node_192 rfl rfl fi_M (by decide) fl_M_13 rfl rfl ?_
              refine r_iload_n (i := 2) hX d_M_node_195 rfl rfl ?_
              refine r_iast 3 0 (nn) hX d_M_node_196 rfl rfl rfl (by omega) (by decide) ?_
              refine r_aload_n (i := 0) hX d_M_node_197 rfl rfl ?_
              refine r_get 0 7 hX d_M_node_198 rfl rfl fi_M (by decide) fl_M_32 rfl rfl ?_
              refine r_aload_n (i := 0) hX d_M_node_201 rfl rfl ?_
              refine r_get 0 1 hX d_M_node_202 rfl rfl fi_M (by decide) fl_M_13 rfl rfl ?_
              refine r_iload_n (i := 3) hX d_M_node_205 rfl rfl ?_
              refine r_iast 4 0 (nn) hX d_M_node_206 rfl rfl rfl (by omega) (by decide) ?_
              refine r_aload_n (i := 0) hX d_M_node_207 rfl rfl ?_
              refine r_get 0 8 hX d_M_node_208 rfl rfl fi_M (by decide) fl_M_35 rfl rfl ?_
              refine r_aload_n (i := 0) hX d_M_node_211 rfl rfl ?_
              refine r_get 0 1 hX d_M_node_212 rfl rfl fi_M (by decide) fl_M_13 rfl rfl ?_
              refine r_iload hX d_M_node_215 rfl ?_
              refine r_iast 5 0 (nn) hX d_M_node_217 rfl rfl rfl (by omega) (by decide) ?_
              refine r_aload_n (i := 0) hX d_M_node_218 rfl rfl ?_
              refine r_get 0 9 hX d_M_node_219 rfl rfl fi_M (by decide) fl_M_38 rfl rfl ?_
              refine r_aload_n (i := 0) hX d_M_node_222 rfl rfl ?_
              refine r_get 0 1 hX d_M_node_223 rfl rfl fi_M (by decide) fl_M_13 rfl rfl ?_
              refine r_iload hX d_M_node_226 rfl ?_
              refine r_iast 6 0 (nn) hX d_M_node_228 rfl rfl rfl (by omega) (by decide) ?_
              refine r_aload_n (i := 0) hX d_M_node_229 rfl rfl ?_
              refine r_get 0 11 hX d_M_node_230 rfl rfl fi_M (by decide) fl_M_44 rfl rfl ?_
              refine r_aload_n (i := 0) hX d_M_node_233 rfl rfl ?_
              refine r_get 0 1 hX d_M_node_234 rfl rfl fi_M (by decide) fl_M_13 rfl rfl ?_
              refine r_iload hX d_M_node_237 rfl ?_
              refine r_iast 8 0 (nn) hX d_M_node_239 rfl rfl rfl (by omega) (by decide) ?_
              refine r_aload_n (i := 0) hX d_M_node_240 rfl rfl ?_
              refine r_get 0 10 hX d_M_node_241 rfl rfl fi_M (by decide) fl_M_41 rfl rfl ?_
              refine r_aload_n (i := 0) hX d_M_node_244 rfl rfl ?_
              refine r_get 0 1 hX d_M_node_245 rfl rfl fi_M (by decide) fl_M_13 rfl rfl ?_
              refine r_iload hX d_M_node_248 rfl ?_
              refine r_iast 7 0 (nn) hX d_M_node_250 rfl rfl rfl (by omega) (by decide) ?_
              refine r_aload_n (i := 0) hX d_M_node_251 rfl rfl ?_
              refine r_get 0 12 hX d_M_node_252 rfl rfl fi_M (by decide) fl_M_47 rfl rfl ?_
              refine r_aload_n (i := 0) hX d_M_node_255 rfl rfl ?_
              refine r_get 0 1 hX d_M_node_256 rfl rfl fi_M (by decide) fl_M_13 rfl rfl ?_
              refine r_iconst (v := nI 0) hX d_M_node_259 (by decide) ?_
              refine r_zast (y := nI 0) 9 1 (nn) hX d_M_node_260 rfl rfl rfl (by omega) (by decide) rfl ?_
              refine r_aload_n (i := 0) hX d_M_node_261 rfl rfl ?_
              refine r_dup hX d_M_node_262 rfl ?_
              refine r_get 0 1 hX d_M_node_263 rfl rfl fi_M (by decide) fl_M_13 rfl rfl ?_
              refine r_iconst (v := nI 1) hX d_M_node_266 (by decide) ?_
              refine r_iadd hX d_M_node_267 ?_
              refine r_top (nI_add _ _) ?_
              refine r_put 0 1 hX d_M_node_268 rfl rfl fi_M ft_M_ok fn_M (by decide) fl_M_13 rfl rfl rfl rfl rfl (Nat.le_of_ble_eq_true rfl) ?_
              refine r_aload_n (i := 0) hX d_M_node_271 rfl rfl ?_
              refine r_get 0 1 hX d_M_node_272 rfl rfl fi_M (by decide) fl_M_13 rfl rfl ?_
              refine r_iconst (v := nI 1) hX d_M_node_275 (by decide) ?_
              refine r_isub hX d_M_node_276 ?_
              refine r_top (pk_sub (by omega)) ?_
              exact r_iret (mkU mf nn (nI 6) a b c B W L (mf 7)) hX hF d_M_node_277 (mkU_post hn (by rw [hkk, hB]) (by rw [hkk, hW]) (by rw [hkk, hL]) (by rw [hkk, show opsN 6 = 0 from rfl]; simp [useN, nfU])) (by rw [hn]; rfl) (by rw [hn]; rfl)
            · have hn : nodeOk nn mf (nI 6) a b c = false := by simp [nodeOk, hkk, hL, c128]
              refine r_iconst (v := -1) hX d_M_node_131 (by decide) ?_
              exact r_iret mf hX hF d_M_node_132 (bad hn) (by rw [hn]; rfl) (by rw [hn]; rfl)
      · have hn : nodeOk nn mf (nI 6) a b c = false := by
          have := (nI_eq (by omega) (by decide)).mp c28
          simp [nodeOk, this]
        refine r_iconst (v := -1) hX d_M_node_31 (by decide) ?_
        exact r_iret mf hX hF d_M_node_32 (bad hn) (by rw [hn]; rfl) (by rw [hn]; rfl)
  ·
    refine r_iload_n (i := 1) hX d_M_node_0 rfl rfl ?_
    refine r_if_lt 31 hX d_M_node_1 (by decide) (fun c1 => absurd c1 (by decide)) (fun c1 => ?_)
    refine r_iload_n (i := 1) hX d_M_node_4 rfl rfl ?_
    refine r_bipush (v := nI 21) hX d_M_node_5 (by decide) ?_
    refine r_icmp_gt 31 hX d_M_node_7 (by decide) (fun c7 => absurd c7 (by decide)) (fun c7 => ?_)
    refine r_aload_n (i := 0) hX d_M_node_10 rfl rfl ?_
    refine r_iload_n (i := 1) hX d_M_node_11 rfl rfl ?_
    refine r_iload_n (i := 2) hX d_M_node_12 rfl rfl ?_
    refine r_iload_n (i := 3) hX d_M_node_13 rfl rfl ?_
    refine r_iload hX d_M_node_14 rfl ?_
    refine r_callVwi (q0 := 0) hX d_M_node_16 cw_M_fits ml_M_85 (c_M_fits 7 a b c (by decide) hnn) (Or.inl rfl) rfl rfl rfl rfl (by decide) (Nat.le_of_ble_eq_true rfl) (fun _ => rfl) (fun _ _ => ?_)
    refine r_if_eq 31 hX d_M_node_19 (by decide) (fun c19 => ?_) (fun c19 => ?_)
    · have hn : nodeOk nn mf (nI 7) a b c = false := by
        have h9 := bI_0 c19
        simp only [fitK, Bool.and_eq_false_iff] at h9
        rcases h9 with h9 | h9 <;> simp [nodeOk, hkk, h9]
      refine r_iconst (v := -1) hX d_M_node_31 (by decide) ?_
      exact r_iret mf hX hF d_M_node_32 (bad hn) (by rw [hn]; rfl) (by rw [hn]; rfl)
    · refine r_aload_n (i := 0) hX d_M_node_22 rfl rfl ?_
      refine r_get 0 1 hX d_M_node_23 rfl rfl fi_M (by decide) fl_M_13 rfl rfl ?_
      refine r_bipush (v := nI 60) hX d_M_node_26 (by decide) ?_
      refine r_icmp_ne 33 hX d_M_node_28 (by decide) (fun c28 => ?_) (fun c28 => ?_)
      · have hlt : nn < 60 := by
          rcases Nat.lt_or_ge nn 60 with h | h
          · exact h
          · exact absurd (by rw [show nn = 60 by omega]) c28
        have h9 := bI_1 c19
        simp only [fitK, Bool.and_eq_true] at h9
        obtain ⟨hpl, hfit⟩ := h9
        have hoN := mfit_k (by decide) hfit hnn
        have hops := hoN.ops hnn
        refine r_aload_n (i := 0) hX d_M_node_33 rfl rfl ?_
        refine r_iload_n (i := 1) hX d_M_node_34 rfl rfl ?_
        refine r_iload_n (i := 2) hX d_M_node_35 rfl rfl ?_
        refine r_iload_n (i := 3) hX d_M_node_36 rfl rfl ?_
        refine r_iload hX d_M_node_37 rfl ?_
        refine r_callVwi (q0 := 0) hX d_M_node_39 cw_M_boundOf ml_M_89 (c_M_boundOf 7 a b c (by decide) hops) (Or.inl rfl) rfl rfl rfl rfl (by decide) (Nat.le_of_ble_eq_true rfl) (fun _ => rfl) (fun _ _ => ?_)
        generalize hB : bndF mf 7 a b c = B
        refine r_istore hX d_M_node_42 (by decide) ?_
        refine r_iconst (v := nI 0) hX d_M_node_44 (by decide) ?_
        refine r_istore hX d_M_node_45 (by decide) ?_
        refine r_aload_n (i := 0) hX d_M_node_47 rfl rfl ?_
        refine r_iload hX d_M_node_48 rfl ?_
        refine r_aload_n (i := 0) hX d_M_node_50 rfl rfl ?_
        refine r_iload_n (i := 1) hX d_M_node_51 rfl rfl ?_
        refine r_callVwi (q0 := 0) hX d_M_node_52 cw_M_namesA ml_M_79 (c_M_namesA 7 (by decide)) (Or.inl rfl) rfl rfl rfl rfl (by decide) (Nat.le_of_ble_eq_true rfl) (fun _ => rfl) (fun _ _ => ?_)
        refine r_iload_n (i := 2) hX d_M_node_55 rfl rfl ?_
        refine r_callVwi (q0 := 0) hX d_M_node_56 cw_M_higher ml_M_93 (c_M_higher (nI 0) a (nmA 7) (fun q => absurd q (by decide))) (Or.inl rfl) rfl rfl rfl rfl (by decide) (Nat.le_of_ble_eq_true rfl) (fun _ => rfl) (fun _ _ => ?_)
        refine r_top (y := nI 0) (by simp [nmA]) ?_
        refine r_istore hX d_M_node_59 (by decide) ?_
        refine r_aload_n (i := 0) hX d_M_node_61 rfl rfl ?_
        refine r_iload hX d_M_node_62 rfl ?_
        refine r_aload_n (i := 0) hX d_M_node_64 rfl rfl ?_
        refine r_iload_n (i := 1) hX d_M_node_65 rfl rfl ?_
        refine r_callVwi (q0 := 0) hX d_M_node_66 cw_M_namesB ml_M_82 (c_M_namesB 7 (by decide)) (Or.inl rfl) rfl rfl rfl rfl (by decide) (Nat.le_of_ble_eq_true rfl) (fun _ => rfl) (fun _ _ => ?_)
        refine r_iload_n (i := 3) hX d_M_node_69 rfl rfl ?_
        refine r_callVwi (q0 := 0) hX d_M_node_70 cw_M_higher ml_M_93 (c_M_higher (nI 0) b (nmB 7) (fun q => absurd q (by decide))) (Or.inl rfl) rfl rfl rfl rfl (by decide) (Nat.le_of_ble_eq_true rfl) (fun _ => rfl) (fun _ _ => ?_)
        refine r_top (y := nI 0) (by simp [nmB]) ?_
        refine r_istore hX d_M_node_73 (by decide) ?_
        refine r_iconst (v := nI 1) hX d_M_node_75 (by decide) ?_
        refine r_aload_n (i := 0) hX d_M_node_76 rfl rfl ?_
        refine r_iload hX d_M_node_77 rfl ?_
        refine r_iload_n (i := 1) hX d_M_node_79 rfl rfl ?_
        refine r_bipush (v := nI 19) hX d_M_node_80 (by decide) ?_
        refine r_icmp_ne 89 hX d_M_node_82 (by decide) (fun c82 => ?_) (fun c82 => absurd c82 (by decide))
        refine r_iconst (v := nI 0) hX d_M_node_89 (by decide) ?_
        refine r_iload hX d_M_node_90 rfl ?_
        refine r_callVwi (q0 := 0) hX d_M_node_92 cw_M_higher ml_M_93 (c_M_higher (nI 0) c false (fun q => absurd q (by decide))) (Or.inl rfl) rfl rfl rfl rfl (by decide) (Nat.le_of_ble_eq_true rfl) (fun _ => rfl) (fun _ _ => ?_)
        refine r_top (y := nI 0) (by simp) ?_
        refine r_iadd hX d_M_node_95 ?_
        refine r_top (y := lvF mf (opsN 7) a b c) (by rw [show opsN 7 = 0 from rfl]; simp [lvF]; rw [Int32.add_comm]) ?_
        generalize hL : lvF mf (opsN 7) a b c = L
        refine r_istore hX d_M_node_96 (by decide) ?_
        refine r_aload_n (i := 0) hX d_M_node_98 rfl rfl ?_
        refine r_iload_n (i := 1) hX d_M_node_99 rfl rfl ?_
        refine r_iload_n (i := 2) hX d_M_node_100 rfl rfl ?_
        refine r_iload_n (i := 3) hX d_M_node_101 rfl rfl ?_
        refine r_iload hX d_M_node_102 rfl ?_
        refine r_callVwi (q0 := 0) hX d_M_node_104 cw_M_workOf ml_M_97 (c_M_workOf 7 a b c (by decide) hops) (Or.inl rfl) rfl rfl rfl rfl (by decide) (Nat.le_of_ble_eq_true rfl) (fun _ => rfl) (fun _ _ => ?_)
        generalize hW : wkF mf 7 a b c = W
        refine r_istore hX d_M_node_107 (by decide) ?_
        refine r_iload hX d_M_node_109 rfl ?_
        refine r_bipush (v := nI 64) hX d_M_node_111 (by decide) ?_
        refine r_icmp_gt 131 hX d_M_node_113 (by decide) (fun c113 => ?_) (fun c113 => ?_)
        · have hn : nodeOk nn mf (nI 7) a b c = false := by simp [nodeOk, hkk, hB, c113]
          refine r_iconst (v := -1) hX d_M_node_131 (by decide) ?_
          exact r_iret mf hX hF d_M_node_132 (bad hn) (by rw [hn]; rfl) (by rw [hn]; rfl)
        · refine r_iload hX d_M_node_116 rfl ?_
          refine r_sipush (v := nI 2000) hX d_M_node_118 (by decide) ?_
          refine r_icmp_gt 131 hX d_M_node_121 (by decide) (fun c121 => ?_) (fun c121 => ?_)
          · have hn : nodeOk nn mf (nI 7) a b c = false := by simp [nodeOk, hkk, hW, c121]
            refine r_iconst (v := -1) hX d_M_node_131 (by decide) ?_
            exact r_iret mf hX hF d_M_node_132 (bad hn) (by rw [hn]; rfl) (by rw [hn]; rfl)
          · refine r_iload hX d_M_node_124 rfl ?_
            refine r_bipush (v := nI 8) hX d_M_node_126 (by decide) ?_
            refine r_icmp_le 133 hX d_M_node_128 (by decide) (fun c128 => ?_) (fun c128 => ?_)
            · have hn : nodeOk nn mf (nI 7) a b c = true := by simp [nodeOk, hkk, hB, hW, hL, hx0, hx1, c113, c121, c128, hlt, hpl, hfit]
              refine r_aload_n (i := 0) hX d_M_node_133 rfl rfl ?_
              refine r_iload_n (i := 1) hX d_M_node_134 rfl rfl ?_
              refine r_callVwi (q0 := 0) hX d_M_node_135 cw_M_namesA ml_M_79 (c_M_namesA 7 (by decide)) (Or.inl rfl) rfl rfl rfl rfl (by decide) (Nat.le_of_ble_eq_true rfl) (fun _ => rfl) (fun _ _ => ?_)
              refine r_if_eq 148 hX d_M_node_138 (by decide) (fun c138 => ?_) (fun c138 => absurd c138 (by decide))
              refine r_aload_n (i := 0) hX d_M_node_148 rfl rfl ?_
              refine r_iload_n (i := 1) hX d_M_node_149 rfl rfl ?_
              refine r_callVwi (q0 := 0) hX d_M_node_150 cw_M_namesB ml_M_82 (c_M_namesB 7 (by decide)) (Or.inl rfl) rfl rfl rfl rfl (by decide) (Nat.le_of_ble_eq_true rfl) (fun _ => rfl) (fun _ _ => ?_)
              refine r_if_eq 163 hX d_M_node_153 (by decide) (fun c153 => ?_) (fun c153 => absurd c153 (by decide))
              refine r_iload_n (i := 1) hX d_M_node_163 rfl rfl ?_
              refine r_bipush (v := nI 19) hX d_M_node_164 (by decide) ?_
              refine r_icmp_ne 177 hX d_M_node_166 (by decide) (fun c166 => ?_) (fun c166 => absurd c166 (by decide))
              refine r_aload_n (i := 0) hX d_M_node_177 rfl rfl ?_
              refine r_get 0 5 hX d_M_node_178 rfl rfl fi_M (by decide) fl_M_26 rfl rfl ?_
              refine r_aload_n (i := 0) hX d_M_node_181 rfl rfl ?_
              refine r_get 0 1 hX d_M_node_182 rfl rfl fi_M (by decide) fl_M_13 rfl rfl ?_
              refine r_iload_n (i := 1) hX d_M_node_185 rfl rfl ?_
              refine r_iast 2 0 (nn) hX d_M_node_186 rfl rfl rfl (by omega) (by decide) ?_
              refine r_aload_n (i := 0) hX d_M_node_187 rfl rfl ?_
              refine r_get 0 6 hX d_M_node_188 rfl rfl fi_M (by decide) fl_M_29 rfl rfl ?_
              refine r_aload_n (i := 0) hX d_M_node_191 rfl rfl ?_
              refine r_get 0 1 hX d_M_node_192 rfl rfl fi_M (by decide) fl_M_13 rfl rfl ?_
              refine r_iload_n (i := 2) hX d_M_node_195 rfl rfl ?_
              refine r_iast 3 0 (nn) hX d_M_node_196 rfl rfl rfl (by omega) (by decide) ?_
              refine r_aload_n (i := 0) hX d_M_node_197 rfl rfl ?_
              refine r_get 0 7 hX d_M_node_198 rfl rfl fi_M (by decide) fl_M_32 rfl rfl ?_
              refine r_aload_n (i := 0) hX d_M_node_201 rfl rfl ?_
              refine r_get 0 1 hX d_M_node_202 rfl rfl fi_M (by decide) fl_M_13 rfl rfl ?_
              refine r_iload_n (i := 3) hX d_M_node_205 rfl rfl ?_
              refine r_iast 4 0 (nn) hX d_M_node_206 rfl rfl rfl (by omega) (by decide) ?_
              refine r_aload_n (i := 0) hX d_M_node_207 rfl rfl ?_
              refine r_get 0 8 hX d_M_node_208 rfl rfl fi_M (by decide) fl_M_35 rfl rfl ?_
              refine r_aload_n (i := 0) hX d_M_node_211 rfl rfl ?_
              refine r_get 0 1 hX d_M_node_212 rfl rfl fi_M (by decide) fl_M_13 rfl rfl ?_
              refine r_iload hX d_M_node_215 rfl ?_
              refine r_iast 5 0 (nn) hX d_M_node_217 rfl rfl rfl (by omega) (by decide) ?_
              refine r_aload_n (i := 0) hX d_M_node_218 rfl rfl ?_
              refine r_get 0 9 hX d_M_node_219 rfl rfl fi_M (by decide) fl_M_38 rfl rfl ?_
              refine r_aload_n (i := 0) hX d_M_node_222 rfl rfl ?_
              refine r_get 0 1 hX d_M_node_223 rfl rfl fi_M (by decide) fl_M_13 rfl rfl ?_
              refine r_iload hX d_M_node_226 rfl ?_
              refine r_iast 6 0 (nn) hX d_M_node_228 rfl rfl rfl (by omega) (by decide) ?_
              refine r_aload_n (i := 0) hX d_M_node_229 rfl rfl ?_
              refine r_get 0 11 hX d_M_node_230 rfl rfl fi_M (by decide) fl_M_44 rfl rfl ?_
              refine r_aload_n (i := 0) hX d_M_node_233 rfl rfl ?_
              refine r_get 0 1 hX d_M_node_234 rfl rfl fi_M (by decide) fl_M_13 rfl rfl ?_
              refine r_iload hX d_M_node_237 rfl ?_
              refine r_iast 8 0 (nn) hX d_M_node_239 rfl rfl rfl (by omega) (by decide) ?_
              refine r_aload_n (i := 0) hX d_M_node_240 rfl rfl ?_
              refine r_get 0 10 hX d_M_node_241 rfl rfl fi_M (by decide) fl_M_41 rfl rfl ?_
              refine r_aload_n (i := 0) hX d_M_node_244 rfl rfl ?_
              refine r_get 0 1 hX d_M_node_245 rfl rfl fi_M (by decide) fl_M_13 rfl rfl ?_
              refine r_iload hX d_M_node_248 rfl ?_
              refine r_iast 7 0 (nn) hX d_M_node_250 rfl rfl rfl (by omega) (by decide) ?_
              refine r_aload_n (i := 0) hX d_M_node_251 rfl rfl ?_
              refine r_get 0 12 hX d_M_node_252 rfl rfl fi_M (by decide) fl_M_47 rfl rfl ?_
              refine r_aload_n (i := 0) hX d_M_node_255 rfl rfl ?_
              refine r_get 0 1 hX d_M_node_256 rfl rfl fi_M (by decide) fl_M_13 rfl rfl ?_
              refine r_iconst (v := nI 0) hX d_M_node_259 (by decide) ?_
              refine r_zast (y := nI 0) 9 1 (nn) hX d_M_node_260 rfl rfl rfl (by omega) (by decide) rfl ?_
              refine r_aload_n (i := 0) hX d_M_node_261 rfl rfl ?_
              refine r_dup hX d_M_node_262 rfl ?_
              refine r_get 0 1 hX d_M_node_263 rfl rfl fi_M (by decide) fl_M_13 rfl rfl ?_
              refine r_iconst (v := nI 1) hX d_M_node_266 (by decide) ?_
              refine r_iadd hX d_M_node_267 ?_
              refine r_top (nI_add _ _) ?_
              refine r_put 0 1 hX d_M_node_268 rfl rfl fi_M ft_M_ok fn_M (by decide) fl_M_13 rfl rfl rfl rfl rfl (Nat.le_of_ble_eq_true rfl) ?_
              refine r_aload_n (i := 0) hX d_M_node_271 rfl rfl ?_
              refine r_get 0 1 hX d_M_node_272 rfl rfl fi_M (by decide) fl_M_13 rfl rfl ?_
              refine r_iconst (v := nI 1) hX d_M_node_275 (by decide) ?_
              refine r_isub hX d_M_node_276 ?_
              refine r_top (pk_sub (by omega)) ?_
              exact r_iret (mkU mf nn (nI 7) a b c B W L (mf 7)) hX hF d_M_node_277 (mkU_post hn (by rw [hkk, hB]) (by rw [hkk, hW]) (by rw [hkk, hL]) (by rw [hkk, show opsN 7 = 0 from rfl]; simp [useN, nfU])) (by rw [hn]; rfl) (by rw [hn]; rfl)
            · have hn : nodeOk nn mf (nI 7) a b c = false := by simp [nodeOk, hkk, hL, c128]
              refine r_iconst (v := -1) hX d_M_node_131 (by decide) ?_
              exact r_iret mf hX hF d_M_node_132 (bad hn) (by rw [hn]; rfl) (by rw [hn]; rfl)
      · have hn : nodeOk nn mf (nI 7) a b c = false := by
          have := (nI_eq (by omega) (by decide)).mp c28
          simp [nodeOk, this]
        refine r_iconst (v := -1) hX d_M_node_31 (by decide) ?_
        exact r_iret mf hX hF d_M_node_32 (bad hn) (by rw [hn]; rfl) (by rw [hn]; rfl)
  ·
    refine r_iload_n (i := 1) hX d_M_node_0 rfl rfl ?_
    refine r_if_lt 31 hX d_M_node_1 (by decide) (fun c1 => absurd c1 (by decide)) (fun c1 => ?_)
    refine r_iload_n (i := 1) hX d_M_node_4 rfl rfl ?_
    refine r_bipush (v := nI 21) hX d_M_node_5 (by decide) ?_
    refine r_icmp_gt 31 hX d_M_node_7 (by decide) (fun c7 => absurd c7 (by decide)) (fun c7 => ?_)
    refine r_aload_n (i := 0) hX d_M_node_10 rfl rfl ?_
    refine r_iload_n (i := 1) hX d_M_node_11 rfl rfl ?_
    refine r_iload_n (i := 2) hX d_M_node_12 rfl rfl ?_
    refine r_iload_n (i := 3) hX d_M_node_13 rfl rfl ?_
    refine r_iload hX d_M_node_14 rfl ?_
    refine r_callVwi (q0 := 0) hX d_M_node_16 cw_M_fits ml_M_85 (c_M_fits 8 a b c (by decide) hnn) (Or.inl rfl) rfl rfl rfl rfl (by decide) (Nat.le_of_ble_eq_true rfl) (fun _ => rfl) (fun _ _ => ?_)
    refine r_if_eq 31 hX d_M_node_19 (by decide) (fun c19 => ?_) (fun c19 => ?_)
    · have hn : nodeOk nn mf (nI 8) a b c = false := by
        have h9 := bI_0 c19
        simp only [fitK, Bool.and_eq_false_iff] at h9
        rcases h9 with h9 | h9 <;> simp [nodeOk, hkk, h9]
      refine r_iconst (v := -1) hX d_M_node_31 (by decide) ?_
      exact r_iret mf hX hF d_M_node_32 (bad hn) (by rw [hn]; rfl) (by rw [hn]; rfl)
    · refine r_aload_n (i := 0) hX d_M_node_22 rfl rfl ?_
      refine r_get 0 1 hX d_M_node_23 rfl rfl fi_M (by decide) fl_M_13 rfl rfl ?_
      refine r_bipush (v := nI 60) hX d_M_node_26 (by decide) ?_
      refine r_icmp_ne 33 hX d_M_node_28 (by decide) (fun c28 => ?_) (fun c28 => ?_)
      · have hlt : nn < 60 := by
          rcases Nat.lt_or_ge nn 60 with h | h
          · exact h
          · exact absurd (by rw [show nn = 60 by omega]) c28
        have h9 := bI_1 c19
        simp only [fitK, Bool.and_eq_true] at h9
        obtain ⟨hpl, hfit⟩ := h9
        have hoN := mfit_k (by decide) hfit hnn
        have hops := hoN.ops hnn
        obtain ⟨ja, hja, rfl⟩ := hoN.1 (by decide)
        refine r_aload_n (i := 0) hX d_M_node_33 rfl rfl ?_
        refine r_iload_n (i := 1) hX d_M_node_34 rfl rfl ?_
        refine r_iload_n (i := 2) hX d_M_node_35 rfl rfl ?_
        refine r_iload_n (i := 3) hX d_M_node_36 rfl rfl ?_
        refine r_iload hX d_M_node_37 rfl ?_
        refine r_callVwi (q0 := 0) hX d_M_node_39 cw_M_boundOf ml_M_89 (c_M_boundOf 8 (nI ja) b c (by decide) hops) (Or.inl rfl) rfl rfl rfl rfl (by decide) (Nat.le_of_ble_eq_true rfl) (fun _ => rfl) (fun _ _ => ?_)
        generalize hB : bndF mf 8 (nI ja) b c = B
        refine r_istore hX d_M_node_42 (by decide) ?_
        refine r_iconst (v := nI 0) hX d_M_node_44 (by decide) ?_
        refine r_istore hX d_M_node_45 (by decide) ?_
        refine r_aload_n (i := 0) hX d_M_node_47 rfl rfl ?_
        refine r_iload hX d_M_node_48 rfl ?_
        refine r_aload_n (i := 0) hX d_M_node_50 rfl rfl ?_
        refine r_iload_n (i := 1) hX d_M_node_51 rfl rfl ?_
        refine r_callVwi (q0 := 0) hX d_M_node_52 cw_M_namesA ml_M_79 (c_M_namesA 8 (by decide)) (Or.inl rfl) rfl rfl rfl rfl (by decide) (Nat.le_of_ble_eq_true rfl) (fun _ => rfl) (fun _ _ => ?_)
        refine r_iload_n (i := 2) hX d_M_node_55 rfl rfl ?_
        refine r_callVwi (q0 := 0) hX d_M_node_56 cw_M_higher ml_M_93 (c_M_higher (nI 0) (nI ja) (nmA 8) (fun q => ⟨ja, by omega, rfl⟩)) (Or.inl rfl) rfl rfl rfl rfl (by decide) (Nat.le_of_ble_eq_true rfl) (fun _ => rfl) (fun _ _ => ?_)
        refine r_top (y := mx (nI 0) (mf 6 ja)) (by simp [nmA, opN_nI (show ja < 2 ^ 31 by omega)]) ?_
        refine r_istore hX d_M_node_59 (by decide) ?_
        refine r_aload_n (i := 0) hX d_M_node_61 rfl rfl ?_
        refine r_iload hX d_M_node_62 rfl ?_
        refine r_aload_n (i := 0) hX d_M_node_64 rfl rfl ?_
        refine r_iload_n (i := 1) hX d_M_node_65 rfl rfl ?_
        refine r_callVwi (q0 := 0) hX d_M_node_66 cw_M_namesB ml_M_82 (c_M_namesB 8 (by decide)) (Or.inl rfl) rfl rfl rfl rfl (by decide) (Nat.le_of_ble_eq_true rfl) (fun _ => rfl) (fun _ _ => ?_)
        refine r_iload_n (i := 3) hX d_M_node_69 rfl rfl ?_
        refine r_callVwi (q0 := 0) hX d_M_node_70 cw_M_higher ml_M_93 (c_M_higher (mx (nI 0) (mf 6 ja)) b (nmB 8) (fun q => absurd q (by decide))) (Or.inl rfl) rfl rfl rfl rfl (by decide) (Nat.le_of_ble_eq_true rfl) (fun _ => rfl) (fun _ _ => ?_)
        refine r_top (y := mx (nI 0) (mf 6 ja)) (by simp [nmB, opN_nI (show ja < 2 ^ 31 by omega)]) ?_
        refine r_istore hX d_M_node_73 (by decide) ?_
        refine r_iconst (v := nI 1) hX d_M_node_75 (by decide) ?_
        refine r_aload_n (i := 0) hX d_M_node_76 rfl rfl ?_
        refine r_iload hX d_M_node_77 rfl ?_
        refine r_iload_n (i := 1) hX d_M_node_79 rfl rfl ?_
        refine r_bipush (v := nI 19) hX d_M_node_80 (by decide) ?_
        refine r_icmp_ne 89 hX d_M_node_82 (by decide) (fun c82 => ?_) (fun c82 => absurd c82 (by decide))
        refine r_iconst (v := nI 0) hX d_M_node_89 (by decide) ?_
        refine r_iload hX d_M_node_90 rfl ?_
        refine r_callVwi (q0 := 0) hX d_M_node_92 cw_M_higher ml_M_93 (c_M_higher (mx (nI 0) (mf 6 ja)) c false (fun q => absurd q (by decide))) (Or.inl rfl) rfl rfl rfl rfl (by decide) (Nat.le_of_ble_eq_true rfl) (fun _ => rfl) (fun _ _ => ?_)
        refine r_top (y := mx (nI 0) (mf 6 ja)) (by simp [opN_nI (show ja < 2 ^ 31 by omega)]) ?_
        refine r_iadd hX d_M_node_95 ?_
        refine r_top (y := lvF mf (opsN 8) (nI ja) b c) (by rw [show opsN 8 = 1 from rfl]; simp [lvF, opN_nI (show ja < 2 ^ 31 by omega)]; rw [Int32.add_comm]) ?_
        generalize hL : lvF mf (opsN 8) (nI ja) b c = L
        refine r_istore hX d_M_node_96 (by decide) ?_
        refine r_aload_n (i := 0) hX d_M_node_98 rfl rfl ?_
        refine r_iload_n (i := 1) hX d_M_node_99 rfl rfl ?_
        refine r_iload_n (i := 2) hX d_M_node_100 rfl rfl ?_
        refine r_iload_n (i := 3) hX d_M_node_101 rfl rfl ?_
        refine r_iload hX d_M_node_102 rfl ?_
        refine r_callVwi (q0 := 0) hX d_M_node_104 cw_M_workOf ml_M_97 (c_M_workOf 8 (nI ja) b c (by decide) hops) (Or.inl rfl) rfl rfl rfl rfl (by decide) (Nat.le_of_ble_eq_true rfl) (fun _ => rfl) (fun _ _ => ?_)
        generalize hW : wkF mf 8 (nI ja) b c = W
        refine r_istore hX d_M_node_107 (by decide) ?_
        refine r_iload hX d_M_node_109 rfl ?_
        refine r_bipush (v := nI 64) hX d_M_node_111 (by decide) ?_
        refine r_icmp_gt 131 hX d_M_node_113 (by decide) (fun c113 => ?_) (fun c113 => ?_)
        · have hn : nodeOk nn mf (nI 8) (nI ja) b c = false := by simp [nodeOk, hkk, hB, c113]
          refine r_iconst (v := -1) hX d_M_node_131 (by decide) ?_
          exact r_iret mf hX hF d_M_node_132 (bad hn) (by rw [hn]; rfl) (by rw [hn]; rfl)
        · refine r_iload hX d_M_node_116 rfl ?_
          refine r_sipush (v := nI 2000) hX d_M_node_118 (by decide) ?_
          refine r_icmp_gt 131 hX d_M_node_121 (by decide) (fun c121 => ?_) (fun c121 => ?_)
          · have hn : nodeOk nn mf (nI 8) (nI ja) b c = false := by simp [nodeOk, hkk, hW, c121]
            refine r_iconst (v := -1) hX d_M_node_131 (by decide) ?_
            exact r_iret mf hX hF d_M_node_132 (bad hn) (by rw [hn]; rfl) (by rw [hn]; rfl)
          · refine r_iload hX d_M_node_124 rfl ?_
            refine r_bipush (v := nI 8) hX d_M_node_126 (by decide) ?_
            refine r_icmp_le 133 hX d_M_node_128 (by decide) (fun c128 => ?_) (fun c128 => ?_)
            · have hn : nodeOk nn mf (nI 8) (nI ja) b c = true := by simp [nodeOk, hkk, hB, hW, hL, hx0, hx1, c113, c121, c128, hlt, hpl, hfit]
              refine r_aload_n (i := 0) hX d_M_node_133 rfl rfl ?_
              refine r_iload_n (i := 1) hX d_M_node_134 rfl rfl ?_
              refine r_callVwi (q0 := 0) hX d_M_node_135 cw_M_namesA ml_M_79 (c_M_namesA 8 (by decide)) (Or.inl rfl) rfl rfl rfl rfl (by decide) (Nat.le_of_ble_eq_true rfl) (fun _ => rfl) (fun _ _ => ?_)
              refine r_if_eq 148 hX d_M_node_138 (by decide) (fun c138 => absurd c138 (by decide)) (fun c138 => ?_)
              refine r_aload_n (i := 0) hX d_M_node_141 rfl rfl ?_
              refine r_get 0 12 hX d_M_node_142 rfl rfl fi_M (by decide) fl_M_47 rfl rfl ?_
              refine r_iload_n (i := 2) hX d_M_node_145 rfl rfl ?_
              refine r_iconst (v := nI 1) hX d_M_node_146 (by decide) ?_
              refine r_zast (y := nI 1) 9 1 (ja) hX d_M_node_147 rfl rfl rfl (by omega) (by decide) rfl ?_
              refine r_ws (ws' := WM am cI cZ tl nn rs ae dp tx (m7 mf (upd (mf 7) ja (nI 1))) rw sz nv ph tu sv) rfl ?_
              refine r_aload_n (i := 0) hX d_M_node_148 rfl rfl ?_
              refine r_iload_n (i := 1) hX d_M_node_149 rfl rfl ?_
              refine r_callVwi (q0 := 0) hX d_M_node_150 cw_M_namesB ml_M_82 (c_M_namesB 8 (by decide)) (Or.inl rfl) rfl rfl rfl rfl (by decide) (Nat.le_of_ble_eq_true rfl) (fun _ => rfl) (fun _ _ => ?_)
              refine r_if_eq 163 hX d_M_node_153 (by decide) (fun c153 => ?_) (fun c153 => absurd c153 (by decide))
              refine r_iload_n (i := 1) hX d_M_node_163 rfl rfl ?_
              refine r_bipush (v := nI 19) hX d_M_node_164 (by decide) ?_
              refine r_icmp_ne 177 hX d_M_node_166 (by decide) (fun c166 => ?_) (fun c166 => absurd c166 (by decide))
              refine r_aload_n (i := 0) hX d_M_node_177 rfl rfl ?_
              refine r_get 0 5 hX d_M_node_178 rfl rfl fi_M (by decide) fl_M_26 rfl rfl ?_
              refine r_aload_n (i := 0) hX d_M_node_181 rfl rfl ?_
              refine r_get 0 1 hX d_M_node_182 rfl rfl fi_M (by decide) fl_M_13 rfl rfl ?_
              refine r_iload_n (i := 1) hX d_M_node_185 rfl rfl ?_
              refine r_iast 2 0 (nn) hX d_M_node_186 rfl rfl rfl (by omega) (by decide) ?_
              refine r_aload_n (i := 0) hX d_M_node_187 rfl rfl ?_
              refine r_get 0 6 hX d_M_node_188 rfl rfl fi_M (by decide) fl_M_29 rfl rfl ?_
              refine r_aload_n (i := 0) hX d_M_node_191 rfl rfl ?_
              refine r_get 0 1 hX d_M_node_192 rfl rfl fi_M (by decide) fl_M_13 rfl rfl ?_
              refine r_iload_n (i := 2) hX d_M_node_195 rfl rfl ?_
              refine r_iast 3 0 (nn) hX d_M_node_196 rfl rfl rfl (by omega) (by decide) ?_
              refine r_aload_n (i := 0) hX d_M_node_197 rfl rfl ?_
              refine r_get 0 7 hX d_M_node_198 rfl rfl fi_M (by decide) fl_M_32 rfl rfl ?_
              refine r_aload_n (i := 0) hX d_M_node_201 rfl rfl ?_
              refine r_get 0 1 hX d_M_node_202 rfl rfl fi_M (by decide) fl_M_13 rfl rfl ?_
              refine r_iload_n (i := 3) hX d_M_node_205 rfl rfl ?_
              refine r_iast 4 0 (nn) hX d_M_node_206 rfl rfl rfl (by omega) (by decide) ?_
              refine r_aload_n (i := 0) hX d_M_node_207 rfl rfl ?_
              refine r_get 0 8 hX d_M_node_208 rfl rfl fi_M (by decide) fl_M_35 rfl rfl ?_
              refine r_aload_n (i := 0) hX d_M_node_211 rfl rfl ?_
              refine r_get 0 1 hX d_M_node_212 rfl rfl fi_M (by decide) fl_M_13 rfl rfl ?_
              refine r_iload hX d_M_node_215 rfl ?_
              refine r_iast 5 0 (nn) hX d_M_node_217 rfl rfl rfl (by omega) (by decide) ?_
              refine r_aload_n (i := 0) hX d_M_node_218 rfl rfl ?_
              refine r_get 0 9 hX d_M_node_219 rfl rfl fi_M (by decide) fl_M_38 rfl rfl ?_
              refine r_aload_n (i := 0) hX d_M_node_222 rfl rfl ?_
              refine r_get 0 1 hX d_M_node_223 rfl rfl fi_M (by decide) fl_M_13 rfl rfl ?_
              refine r_iload hX d_M_node_226 rfl ?_
              refine r_iast 6 0 (nn) hX d_M_node_228 rfl rfl rfl (by omega) (by decide) ?_
              refine r_aload_n (i := 0) hX d_M_node_229 rfl rfl ?_
              refine r_get 0 11 hX d_M_node_230 rfl rfl fi_M (by decide) fl_M_44 rfl rfl ?_
              refine r_aload_n (i := 0) hX d_M_node_233 rfl rfl ?_
              refine r_get 0 1 hX d_M_node_234 rfl rfl fi_M (by decide) fl_M_13 rfl rfl ?_
              refine r_iload hX d_M_node_237 rfl ?_
              refine r_iast 8 0 (nn) hX d_M_node_239 rfl rfl rfl (by omega) (by decide) ?_
              refine r_aload_n (i := 0) hX d_M_node_240 rfl rfl ?_
              refine r_get 0 10 hX d_M_node_241 rfl rfl fi_M (by decide) fl_M_41 rfl rfl ?_
              refine r_aload_n (i := 0) hX d_M_node_244 rfl rfl ?_
              refine r_get 0 1 hX d_M_node_245 rfl rfl fi_M (by decide) fl_M_13 rfl rfl ?_
              refine r_iload hX d_M_node_248 rfl ?_
              refine r_iast 7 0 (nn) hX d_M_node_250 rfl rfl rfl (by omega) (by decide) ?_
              refine r_aload_n (i := 0) hX d_M_node_251 rfl rfl ?_
              refine r_get 0 12 hX d_M_node_252 rfl rfl fi_M (by decide) fl_M_47 rfl rfl ?_
              refine r_aload_n (i := 0) hX d_M_node_255 rfl rfl ?_
              refine r_get 0 1 hX d_M_node_256 rfl rfl fi_M (by decide) fl_M_13 rfl rfl ?_
              refine r_iconst (v := nI 0) hX d_M_node_259 (by decide) ?_
              refine r_zast (y := nI 0) 9 1 (nn) hX d_M_node_260 rfl rfl rfl (by omega) (by decide) rfl ?_
              refine r_aload_n (i := 0) hX d_M_node_261 rfl rfl ?_
              refine r_dup hX d_M_node_262 rfl ?_
              refine r_get 0 1 hX d_M_node_263 rfl rfl fi_M (by decide) fl_M_13 rfl rfl ?_
              refine r_iconst (v := nI 1) hX d_M_node_266 (by decide) ?_
              refine r_iadd hX d_M_node_267 ?_
              refine r_top (nI_add _ _) ?_
              refine r_put 0 1 hX d_M_node_268 rfl rfl fi_M ft_M_ok fn_M (by decide) fl_M_13 rfl rfl rfl rfl rfl (Nat.le_of_ble_eq_true rfl) ?_
              refine r_aload_n (i := 0) hX d_M_node_271 rfl rfl ?_
              refine r_get 0 1 hX d_M_node_272 rfl rfl fi_M (by decide) fl_M_13 rfl rfl ?_
              refine r_iconst (v := nI 1) hX d_M_node_275 (by decide) ?_
              refine r_isub hX d_M_node_276 ?_
              refine r_top (pk_sub (by omega)) ?_
              exact r_iret (mkU mf nn (nI 8) (nI ja) b c B W L (upd (mf 7) ja (nI 1))) hX hF d_M_node_277 (mkU_post hn (by rw [hkk, hB]) (by rw [hkk, hW]) (by rw [hkk, hL]) (by rw [hkk, show opsN 8 = 1 from rfl]; simp [useN, nfU, opN_nI (show ja < 2 ^ 31 by omega)])) (by rw [hn]; rfl) (by rw [hn]; rfl)
            · have hn : nodeOk nn mf (nI 8) (nI ja) b c = false := by simp [nodeOk, hkk, hL, c128]
              refine r_iconst (v := -1) hX d_M_node_131 (by decide) ?_
              exact r_iret mf hX hF d_M_node_132 (bad hn) (by rw [hn]; rfl) (by rw [hn]; rfl)
      · have hn : nodeOk nn mf (nI 8) a b c = false := by
          have := (nI_eq (by omega) (by decide)).mp c28
          simp [nodeOk, this]
        refine r_iconst (v := -1) hX d_M_node_31 (by decide) ?_
        exact r_iret mf hX hF d_M_node_32 (bad hn) (by rw [hn]; rfl) (by rw [hn]; rfl)
  ·
    refine r_iload_n (i := 1) hX d_M_node_0 rfl rfl ?_
    refine r_if_lt 31 hX d_M_node_1 (by decide) (fun c1 => absurd c1 (by decide)) (fun c1 => ?_)
    refine r_iload_n (i := 1) hX d_M_node_4 rfl rfl ?_
    refine r_bipush (v := nI 21) hX d_M_node_5 (by decide) ?_
    refine r_icmp_gt 31 hX d_M_node_7 (by decide) (fun c7 => absurd c7 (by decide)) (fun c7 => ?_)
    refine r_aload_n (i := 0) hX d_M_node_10 rfl rfl ?_
    refine r_iload_n (i := 1) hX d_M_node_11 rfl rfl ?_
    refine r_iload_n (i := 2) hX d_M_node_12 rfl rfl ?_
    refine r_iload_n (i := 3) hX d_M_node_13 rfl rfl ?_
    refine r_iload hX d_M_node_14 rfl ?_
    refine r_callVwi (q0 := 0) hX d_M_node_16 cw_M_fits ml_M_85 (c_M_fits 9 a b c (by decide) hnn) (Or.inl rfl) rfl rfl rfl rfl (by decide) (Nat.le_of_ble_eq_true rfl) (fun _ => rfl) (fun _ _ => ?_)
    refine r_if_eq 31 hX d_M_node_19 (by decide) (fun c19 => ?_) (fun c19 => ?_)
    · have hn : nodeOk nn mf (nI 9) a b c = false := by
        have h9 := bI_0 c19
        simp only [fitK, Bool.and_eq_false_iff] at h9
        rcases h9 with h9 | h9 <;> simp [nodeOk, hkk, h9]
      refine r_iconst (v := -1) hX d_M_node_31 (by decide) ?_
      exact r_iret mf hX hF d_M_node_32 (bad hn) (by rw [hn]; rfl) (by rw [hn]; rfl)
    · refine r_aload_n (i := 0) hX d_M_node_22 rfl rfl ?_
      refine r_get 0 1 hX d_M_node_23 rfl rfl fi_M (by decide) fl_M_13 rfl rfl ?_
      refine r_bipush (v := nI 60) hX d_M_node_26 (by decide) ?_
      refine r_icmp_ne 33 hX d_M_node_28 (by decide) (fun c28 => ?_) (fun c28 => ?_)
      · have hlt : nn < 60 := by
          rcases Nat.lt_or_ge nn 60 with h | h
          · exact h
          · exact absurd (by rw [show nn = 60 by omega]) c28
        have h9 := bI_1 c19
        simp only [fitK, Bool.and_eq_true] at h9
        obtain ⟨hpl, hfit⟩ := h9
        have hoN := mfit_k (by decide) hfit hnn
        have hops := hoN.ops hnn
        obtain ⟨ja, hja, rfl⟩ := hoN.1 (by decide)
        obtain ⟨jb, hjb, rfl⟩ := hoN.2.1 (by decide)
        refine r_aload_n (i := 0) hX d_M_node_33 rfl rfl ?_
        refine r_iload_n (i := 1) hX d_M_node_34 rfl rfl ?_
        refine r_iload_n (i := 2) hX d_M_node_35 rfl rfl ?_
        refine r_iload_n (i := 3) hX d_M_node_36 rfl rfl ?_
        refine r_iload hX d_M_node_37 rfl ?_
        refine r_callVwi (q0 := 0) hX d_M_node_39 cw_M_boundOf ml_M_89 (c_M_boundOf 9 (nI ja) (nI jb) c (by decide) hops) (Or.inl rfl) rfl rfl rfl rfl (by decide) (Nat.le_of_ble_eq_true rfl) (fun _ => rfl) (fun _ _ => ?_)
        generalize hB : bndF mf 9 (nI ja) (nI jb) c = B
        refine r_istore hX d_M_node_42 (by decide) ?_
        refine r_iconst (v := nI 0) hX d_M_node_44 (by decide) ?_
        refine r_istore hX d_M_node_45 (by decide) ?_
        refine r_aload_n (i := 0) hX d_M_node_47 rfl rfl ?_
        refine r_iload hX d_M_node_48 rfl ?_
        refine r_aload_n (i := 0) hX d_M_node_50 rfl rfl ?_
        refine r_iload_n (i := 1) hX d_M_node_51 rfl rfl ?_
        refine r_callVwi (q0 := 0) hX d_M_node_52 cw_M_namesA ml_M_79 (c_M_namesA 9 (by decide)) (Or.inl rfl) rfl rfl rfl rfl (by decide) (Nat.le_of_ble_eq_true rfl) (fun _ => rfl) (fun _ _ => ?_)
        refine r_iload_n (i := 2) hX d_M_node_55 rfl rfl ?_
        refine r_callVwi (q0 := 0) hX d_M_node_56 cw_M_higher ml_M_93 (c_M_higher (nI 0) (nI ja) (nmA 9) (fun q => ⟨ja, by omega, rfl⟩)) (Or.inl rfl) rfl rfl rfl rfl (by decide) (Nat.le_of_ble_eq_true rfl) (fun _ => rfl) (fun _ _ => ?_)
        refine r_top (y := mx (nI 0) (mf 6 ja)) (by simp [nmA, opN_nI (show ja < 2 ^ 31 by omega), opN_nI (show jb < 2 ^ 31 by omega)]) ?_
        refine r_istore hX d_M_node_59 (by decide) ?_
        refine r_aload_n (i := 0) hX d_M_node_61 rfl rfl ?_
        refine r_iload hX d_M_node_62 rfl ?_
        refine r_aload_n (i := 0) hX d_M_node_64 rfl rfl ?_
        refine r_iload_n (i := 1) hX d_M_node_65 rfl rfl ?_
        refine r_callVwi (q0 := 0) hX d_M_node_66 cw_M_namesB ml_M_82 (c_M_namesB 9 (by decide)) (Or.inl rfl) rfl rfl rfl rfl (by decide) (Nat.le_of_ble_eq_true rfl) (fun _ => rfl) (fun _ _ => ?_)
        refine r_iload_n (i := 3) hX d_M_node_69 rfl rfl ?_
        refine r_callVwi (q0 := 0) hX d_M_node_70 cw_M_higher ml_M_93 (c_M_higher (mx (nI 0) (mf 6 ja)) (nI jb) (nmB 9) (fun q => ⟨jb, by omega, rfl⟩)) (Or.inl rfl) rfl rfl rfl rfl (by decide) (Nat.le_of_ble_eq_true rfl) (fun _ => rfl) (fun _ _ => ?_)
        refine r_top (y := mx (mx (nI 0) (mf 6 ja)) (mf 6 jb)) (by simp [nmB, opN_nI (show ja < 2 ^ 31 by omega), opN_nI (show jb < 2 ^ 31 by omega)]) ?_
        refine r_istore hX d_M_node_73 (by decide) ?_
        refine r_iconst (v := nI 1) hX d_M_node_75 (by decide) ?_
        refine r_aload_n (i := 0) hX d_M_node_76 rfl rfl ?_
        refine r_iload hX d_M_node_77 rfl ?_
        refine r_iload_n (i := 1) hX d_M_node_79 rfl rfl ?_
        refine r_bipush (v := nI 19) hX d_M_node_80 (by decide) ?_
        refine r_icmp_ne 89 hX d_M_node_82 (by decide) (fun c82 => ?_) (fun c82 => absurd c82 (by decide))
        refine r_iconst (v := nI 0) hX d_M_node_89 (by decide) ?_
        refine r_iload hX d_M_node_90 rfl ?_
        refine r_callVwi (q0 := 0) hX d_M_node_92 cw_M_higher ml_M_93 (c_M_higher (mx (mx (nI 0) (mf 6 ja)) (mf 6 jb)) c false (fun q => absurd q (by decide))) (Or.inl rfl) rfl rfl rfl rfl (by decide) (Nat.le_of_ble_eq_true rfl) (fun _ => rfl) (fun _ _ => ?_)
        refine r_top (y := mx (mx (nI 0) (mf 6 ja)) (mf 6 jb)) (by simp [opN_nI (show ja < 2 ^ 31 by omega), opN_nI (show jb < 2 ^ 31 by omega)]) ?_
        refine r_iadd hX d_M_node_95 ?_
        refine r_top (y := lvF mf (opsN 9) (nI ja) (nI jb) c) (by rw [show opsN 9 = 3 from rfl]; simp [lvF, opN_nI (show ja < 2 ^ 31 by omega), opN_nI (show jb < 2 ^ 31 by omega)]; rw [Int32.add_comm]) ?_
        generalize hL : lvF mf (opsN 9) (nI ja) (nI jb) c = L
        refine r_istore hX d_M_node_96 (by decide) ?_
        refine r_aload_n (i := 0) hX d_M_node_98 rfl rfl ?_
        refine r_iload_n (i := 1) hX d_M_node_99 rfl rfl ?_
        refine r_iload_n (i := 2) hX d_M_node_100 rfl rfl ?_
        refine r_iload_n (i := 3) hX d_M_node_101 rfl rfl ?_
        refine r_iload hX d_M_node_102 rfl ?_
        refine r_callVwi (q0 := 0) hX d_M_node_104 cw_M_workOf ml_M_97 (c_M_workOf 9 (nI ja) (nI jb) c (by decide) hops) (Or.inl rfl) rfl rfl rfl rfl (by decide) (Nat.le_of_ble_eq_true rfl) (fun _ => rfl) (fun _ _ => ?_)
        generalize hW : wkF mf 9 (nI ja) (nI jb) c = W
        refine r_istore hX d_M_node_107 (by decide) ?_
        refine r_iload hX d_M_node_109 rfl ?_
        refine r_bipush (v := nI 64) hX d_M_node_111 (by decide) ?_
        refine r_icmp_gt 131 hX d_M_node_113 (by decide) (fun c113 => ?_) (fun c113 => ?_)
        · have hn : nodeOk nn mf (nI 9) (nI ja) (nI jb) c = false := by simp [nodeOk, hkk, hB, c113]
          refine r_iconst (v := -1) hX d_M_node_131 (by decide) ?_
          exact r_iret mf hX hF d_M_node_132 (bad hn) (by rw [hn]; rfl) (by rw [hn]; rfl)
        · refine r_iload hX d_M_node_116 rfl ?_
          refine r_sipush (v := nI 2000) hX d_M_node_118 (by decide) ?_
          refine r_icmp_gt 131 hX d_M_node_121 (by decide) (fun c121 => ?_) (fun c121 => ?_)
          · have hn : nodeOk nn mf (nI 9) (nI ja) (nI jb) c = false := by simp [nodeOk, hkk, hW, c121]
            refine r_iconst (v := -1) hX d_M_node_131 (by decide) ?_
            exact r_iret mf hX hF d_M_node_132 (bad hn) (by rw [hn]; rfl) (by rw [hn]; rfl)
          · refine r_iload hX d_M_node_124 rfl ?_
            refine r_bipush (v := nI 8) hX d_M_node_126 (by decide) ?_
            refine r_icmp_le 133 hX d_M_node_128 (by decide) (fun c128 => ?_) (fun c128 => ?_)
            · have hn : nodeOk nn mf (nI 9) (nI ja) (nI jb) c = true := by simp [nodeOk, hkk, hB, hW, hL, hx0, hx1, c113, c121, c128, hlt, hpl, hfit]
              refine r_aload_n (i := 0) hX d_M_node_133 rfl rfl ?_
              refine r_iload_n (i := 1) hX d_M_node_134 rfl rfl ?_
              refine r_callVwi (q0 := 0) hX d_M_node_135 cw_M_namesA ml_M_79 (c_M_namesA 9 (by decide)) (Or.inl rfl) rfl rfl rfl rfl (by decide) (Nat.le_of_ble_eq_true rfl) (fun _ => rfl) (fun _ _ => ?_)
              refine r_if_eq 148 hX d_M_node_138 (by decide) (fun c138 => absurd c138 (by decide)) (fun c138 => ?_)
              refine r_aload_n (i := 0) hX d_M_node_141 rfl rfl ?_
              refine r_get 0 12 hX d_M_node_142 rfl rfl fi_M (by decide) fl_M_47 rfl rfl ?_
              refine r_iload_n (i := 2) hX d_M_node_145 rfl rfl ?_
              refine r_iconst (v := nI 1) hX d_M_node_146 (by decide) ?_
              refine r_zast (y := nI 1) 9 1 (ja) hX d_M_node_147 rfl rfl rfl (by omega) (by decide) rfl ?_
              refine r_ws (ws' := WM am cI cZ tl nn rs ae dp tx (m7 mf (upd (mf 7) ja (nI 1))) rw sz nv ph tu sv) rfl ?_
              refine r_aload_n (i := 0) hX d_M_node_148 rfl rfl ?_
              refine r_iload_n (i := 1) hX d_M_node_149 rfl rfl ?_
              refine r_callVwi (q0 := 0) hX d_M_node_150 cw_M_namesB ml_M_82 (c_M_namesB 9 (by decide)) (Or.inl rfl) rfl rfl rfl rfl (by decide) (Nat.le_of_ble_eq_true rfl) (fun _ => rfl) (fun _ _ => ?_)
              refine r_if_eq 163 hX d_M_node_153 (by decide) (fun c153 => absurd c153 (by decide)) (fun c153 => ?_)
              refine r_aload_n (i := 0) hX d_M_node_156 rfl rfl ?_
              refine r_get 0 12 hX d_M_node_157 rfl rfl fi_M (by decide) fl_M_47 rfl rfl ?_
              refine r_iload_n (i := 3) hX d_M_node_160 rfl rfl ?_
              refine r_iconst (v := nI 1) hX d_M_node_161 (by decide) ?_
              refine r_zast (y := nI 1) 9 1 (jb) hX d_M_node_162 rfl rfl rfl (by omega) (by decide) rfl ?_
              refine r_iload_n (i := 1) hX d_M_node_163 rfl rfl ?_
              refine r_bipush (v := nI 19) hX d_M_node_164 (by decide) ?_
              refine r_icmp_ne 177 hX d_M_node_166 (by decide) (fun c166 => ?_) (fun c166 => absurd c166 (by decide))
              refine r_aload_n (i := 0) hX d_M_node_177 rfl rfl ?_
              refine r_get 0 5 hX d_M_node_178 rfl rfl fi_M (by decide) fl_M_26 rfl rfl ?_
              refine r_aload_n (i := 0) hX d_M_node_181 rfl rfl ?_
              refine r_get 0 1 hX d_M_node_182 rfl rfl fi_M (by decide) fl_M_13 rfl rfl ?_
              refine r_iload_n (i := 1) hX d_M_node_185 rfl rfl ?_
              refine r_iast 2 0 (nn) hX d_M_node_186 rfl rfl rfl (by omega) (by decide) ?_
              refine r_aload_n (i := 0) hX d_M_node_187 rfl rfl ?_
              refine r_get 0 6 hX d_M_node_188 rfl rfl fi_M (by decide) fl_M_29 rfl rfl ?_
              refine r_aload_n (i := 0) hX d_M_node_191 rfl rfl ?_
              refine r_get 0 1 hX d_M_node_192 rfl rfl fi_M (by decide) fl_M_13 rfl rfl ?_
              refine r_iload_n (i := 2) hX d_M_node_195 rfl rfl ?_
              refine r_iast 3 0 (nn) hX d_M_node_196 rfl rfl rfl (by omega) (by decide) ?_
              refine r_aload_n (i := 0) hX d_M_node_197 rfl rfl ?_
              refine r_get 0 7 hX d_M_node_198 rfl rfl fi_M (by decide) fl_M_32 rfl rfl ?_
              refine r_aload_n (i := 0) hX d_M_node_201 rfl rfl ?_
              refine r_get 0 1 hX d_M_node_202 rfl rfl fi_M (by decide) fl_M_13 rfl rfl ?_
              refine r_iload_n (i := 3) hX d_M_node_205 rfl rfl ?_
              refine r_iast 4 0 (nn) hX d_M_node_206 rfl rfl rfl (by omega) (by decide) ?_
              refine r_aload_n (i := 0) hX d_M_node_207 rfl rfl ?_
              refine r_get 0 8 hX d_M_node_208 rfl rfl fi_M (by decide) fl_M_35 rfl rfl ?_
              refine r_aload_n (i := 0) hX d_M_node_211 rfl rfl ?_
              refine r_get 0 1 hX d_M_node_212 rfl rfl fi_M (by decide) fl_M_13 rfl rfl ?_
              refine r_iload hX d_M_node_215 rfl ?_
              refine r_iast 5 0 (nn) hX d_M_node_217 rfl rfl rfl (by omega) (by decide) ?_
              refine r_aload_n (i := 0) hX d_M_node_218 rfl rfl ?_
              refine r_get 0 9 hX d_M_node_219 rfl rfl fi_M (by decide) fl_M_38 rfl rfl ?_
              refine r_aload_n (i := 0) hX d_M_node_222 rfl rfl ?_
              refine r_get 0 1 hX d_M_node_223 rfl rfl fi_M (by decide) fl_M_13 rfl rfl ?_
              refine r_iload hX d_M_node_226 rfl ?_
              refine r_iast 6 0 (nn) hX d_M_node_228 rfl rfl rfl (by omega) (by decide) ?_
              refine r_aload_n (i := 0) hX d_M_node_229 rfl rfl ?_
              refine r_get 0 11 hX d_M_node_230 rfl rfl fi_M (by decide) fl_M_44 rfl rfl ?_
              refine r_aload_n (i := 0) hX d_M_node_233 rfl rfl ?_
              refine r_get 0 1 hX d_M_node_234 rfl rfl fi_M (by decide) fl_M_13 rfl rfl ?_
              refine r_iload hX d_M_node_237 rfl ?_
              refine r_iast 8 0 (nn) hX d_M_node_239 rfl rfl rfl (by omega) (by decide) ?_
              refine r_aload_n (i := 0) hX d_M_node_240 rfl rfl ?_
              refine r_get 0 10 hX d_M_node_241 rfl rfl fi_M (by decide) fl_M_41 rfl rfl ?_
              refine r_aload_n (i := 0) hX d_M_node_244 rfl rfl ?_
              refine r_get 0 1 hX d_M_node_245 rfl rfl fi_M (by decide) fl_M_13 rfl rfl ?_
              refine r_iload hX d_M_node_248 rfl ?_
              refine r_iast 7 0 (nn) hX d_M_node_250 rfl rfl rfl (by omega) (by decide) ?_
              refine r_aload_n (i := 0) hX d_M_node_251 rfl rfl ?_
              refine r_get 0 12 hX d_M_node_252 rfl rfl fi_M (by decide) fl_M_47 rfl rfl ?_
              refine r_aload_n (i := 0) hX d_M_node_255 rfl rfl ?_
              refine r_get 0 1 hX d_M_node_256 rfl rfl fi_M (by decide) fl_M_13 rfl rfl ?_
              refine r_iconst (v := nI 0) hX d_M_node_259 (by decide) ?_
              refine r_zast (y := nI 0) 9 1 (nn) hX d_M_node_260 rfl rfl rfl (by omega) (by decide) rfl ?_
              refine r_aload_n (i := 0) hX d_M_node_261 rfl rfl ?_
              refine r_dup hX d_M_node_262 rfl ?_
              refine r_get 0 1 hX d_M_node_263 rfl rfl fi_M (by decide) fl_M_13 rfl rfl ?_
              refine r_iconst (v := nI 1) hX d_M_node_266 (by decide) ?_
              refine r_iadd hX d_M_node_267 ?_
              refine r_top (nI_add _ _) ?_
              refine r_put 0 1 hX d_M_node_268 rfl rfl fi_M ft_M_ok fn_M (by decide) fl_M_13 rfl rfl rfl rfl rfl (Nat.le_of_ble_eq_true rfl) ?_
              refine r_aload_n (i := 0) hX d_M_node_271 rfl rfl ?_
              refine r_get 0 1 hX d_M_node_272 rfl rfl fi_M (by decide) fl_M_13 rfl rfl ?_
              refine r_iconst (v := nI 1) hX d_M_node_275 (by decide) ?_
              refine r_isub hX d_M_node_276 ?_
              refine r_top (pk_sub (by omega)) ?_
              exact r_iret (mkU mf nn (nI 9) (nI ja) (nI jb) c B W L (upd (upd (mf 7) ja (nI 1)) jb (nI 1))) hX hF d_M_node_277 (mkU_post hn (by rw [hkk, hB]) (by rw [hkk, hW]) (by rw [hkk, hL]) (by rw [hkk, show opsN 9 = 3 from rfl]; simp [useN, nfU, opN_nI (show ja < 2 ^ 31 by omega), opN_nI (show jb < 2 ^ 31 by omega)])) (by rw [hn]; rfl) (by rw [hn]; rfl)
            · have hn : nodeOk nn mf (nI 9) (nI ja) (nI jb) c = false := by simp [nodeOk, hkk, hL, c128]
              refine r_iconst (v := -1) hX d_M_node_131 (by decide) ?_
              exact r_iret mf hX hF d_M_node_132 (bad hn) (by rw [hn]; rfl) (by rw [hn]; rfl)
      · have hn : nodeOk nn mf (nI 9) a b c = false := by
          have := (nI_eq (by omega) (by decide)).mp c28
          simp [nodeOk, this]
        refine r_iconst (v := -1) hX d_M_node_31 (by decide) ?_
        exact r_iret mf hX hF d_M_node_32 (bad hn) (by rw [hn]; rfl) (by rw [hn]; rfl)
  ·
    refine r_iload_n (i := 1) hX d_M_node_0 rfl rfl ?_
    refine r_if_lt 31 hX d_M_node_1 (by decide) (fun c1 => absurd c1 (by decide)) (fun c1 => ?_)
    refine r_iload_n (i := 1) hX d_M_node_4 rfl rfl ?_
    refine r_bipush (v := nI 21) hX d_M_node_5 (by decide) ?_
    refine r_icmp_gt 31 hX d_M_node_7 (by decide) (fun c7 => absurd c7 (by decide)) (fun c7 => ?_)
    refine r_aload_n (i := 0) hX d_M_node_10 rfl rfl ?_
    refine r_iload_n (i := 1) hX d_M_node_11 rfl rfl ?_
    refine r_iload_n (i := 2) hX d_M_node_12 rfl rfl ?_
    refine r_iload_n (i := 3) hX d_M_node_13 rfl rfl ?_
    refine r_iload hX d_M_node_14 rfl ?_
    refine r_callVwi (q0 := 0) hX d_M_node_16 cw_M_fits ml_M_85 (c_M_fits 10 a b c (by decide) hnn) (Or.inl rfl) rfl rfl rfl rfl (by decide) (Nat.le_of_ble_eq_true rfl) (fun _ => rfl) (fun _ _ => ?_)
    refine r_if_eq 31 hX d_M_node_19 (by decide) (fun c19 => ?_) (fun c19 => ?_)
    · have hn : nodeOk nn mf (nI 10) a b c = false := by
        have h9 := bI_0 c19
        simp only [fitK, Bool.and_eq_false_iff] at h9
        rcases h9 with h9 | h9 <;> simp [nodeOk, hkk, h9]
      refine r_iconst (v := -1) hX d_M_node_31 (by decide) ?_
      exact r_iret mf hX hF d_M_node_32 (bad hn) (by rw [hn]; rfl) (by rw [hn]; rfl)
    · refine r_aload_n (i := 0) hX d_M_node_22 rfl rfl ?_
      refine r_get 0 1 hX d_M_node_23 rfl rfl fi_M (by decide) fl_M_13 rfl rfl ?_
      refine r_bipush (v := nI 60) hX d_M_node_26 (by decide) ?_
      refine r_icmp_ne 33 hX d_M_node_28 (by decide) (fun c28 => ?_) (fun c28 => ?_)
      · have hlt : nn < 60 := by
          rcases Nat.lt_or_ge nn 60 with h | h
          · exact h
          · exact absurd (by rw [show nn = 60 by omega]) c28
        have h9 := bI_1 c19
        simp only [fitK, Bool.and_eq_true] at h9
        obtain ⟨hpl, hfit⟩ := h9
        have hoN := mfit_k (by decide) hfit hnn
        have hops := hoN.ops hnn
        obtain ⟨ja, hja, rfl⟩ := hoN.1 (by decide)
        obtain ⟨jb, hjb, rfl⟩ := hoN.2.1 (by decide)
        refine r_aload_n (i := 0) hX d_M_node_33 rfl rfl ?_
        refine r_iload_n (i := 1) hX d_M_node_34 rfl rfl ?_
        refine r_iload_n (i := 2) hX d_M_node_35 rfl rfl ?_
        refine r_iload_n (i := 3) hX d_M_node_36 rfl rfl ?_
        refine r_iload hX d_M_node_37 rfl ?_
        refine r_callVwi (q0 := 0) hX d_M_node_39 cw_M_boundOf ml_M_89 (c_M_boundOf 10 (nI ja) (nI jb) c (by decide) hops) (Or.inl rfl) rfl rfl rfl rfl (by decide) (Nat.le_of_ble_eq_true rfl) (fun _ => rfl) (fun _ _ => ?_)
        generalize hB : bndF mf 10 (nI ja) (nI jb) c = B
        refine r_istore hX d_M_node_42 (by decide) ?_
        refine r_iconst (v := nI 0) hX d_M_node_44 (by decide) ?_
        refine r_istore hX d_M_node_45 (by decide) ?_
        refine r_aload_n (i := 0) hX d_M_node_47 rfl rfl ?_
        refine r_iload hX d_M_node_48 rfl ?_
        refine r_aload_n (i := 0) hX d_M_node_50 rfl rfl ?_
        refine r_iload_n (i := 1) hX d_M_node_51 rfl rfl ?_
        refine r_callVwi (q0 := 0) hX d_M_node_52 cw_M_namesA ml_M_79 (c_M_namesA 10 (by decide)) (Or.inl rfl) rfl rfl rfl rfl (by decide) (Nat.le_of_ble_eq_true rfl) (fun _ => rfl) (fun _ _ => ?_)
        refine r_iload_n (i := 2) hX d_M_node_55 rfl rfl ?_
        refine r_callVwi (q0 := 0) hX d_M_node_56 cw_M_higher ml_M_93 (c_M_higher (nI 0) (nI ja) (nmA 10) (fun q => ⟨ja, by omega, rfl⟩)) (Or.inl rfl) rfl rfl rfl rfl (by decide) (Nat.le_of_ble_eq_true rfl) (fun _ => rfl) (fun _ _ => ?_)
        refine r_top (y := mx (nI 0) (mf 6 ja)) (by simp [nmA, opN_nI (show ja < 2 ^ 31 by omega), opN_nI (show jb < 2 ^ 31 by omega)]) ?_
        refine r_istore hX d_M_node_59 (by decide) ?_
        refine r_aload_n (i := 0) hX d_M_node_61 rfl rfl ?_
        refine r_iload hX d_M_node_62 rfl ?_
        refine r_aload_n (i := 0) hX d_M_node_64 rfl rfl ?_
        refine r_iload_n (i := 1) hX d_M_node_65 rfl rfl ?_
        refine r_callVwi (q0 := 0) hX d_M_node_66 cw_M_namesB ml_M_82 (c_M_namesB 10 (by decide)) (Or.inl rfl) rfl rfl rfl rfl (by decide) (Nat.le_of_ble_eq_true rfl) (fun _ => rfl) (fun _ _ => ?_)
        refine r_iload_n (i := 3) hX d_M_node_69 rfl rfl ?_
        refine r_callVwi (q0 := 0) hX d_M_node_70 cw_M_higher ml_M_93 (c_M_higher (mx (nI 0) (mf 6 ja)) (nI jb) (nmB 10) (fun q => ⟨jb, by omega, rfl⟩)) (Or.inl rfl) rfl rfl rfl rfl (by decide) (Nat.le_of_ble_eq_true rfl) (fun _ => rfl) (fun _ _ => ?_)
        refine r_top (y := mx (mx (nI 0) (mf 6 ja)) (mf 6 jb)) (by simp [nmB, opN_nI (show ja < 2 ^ 31 by omega), opN_nI (show jb < 2 ^ 31 by omega)]) ?_
        refine r_istore hX d_M_node_73 (by decide) ?_
        refine r_iconst (v := nI 1) hX d_M_node_75 (by decide) ?_
        refine r_aload_n (i := 0) hX d_M_node_76 rfl rfl ?_
        refine r_iload hX d_M_node_77 rfl ?_
        refine r_iload_n (i := 1) hX d_M_node_79 rfl rfl ?_
        refine r_bipush (v := nI 19) hX d_M_node_80 (by decide) ?_
        refine r_icmp_ne 89 hX d_M_node_82 (by decide) (fun c82 => ?_) (fun c82 => absurd c82 (by decide))
        refine r_iconst (v := nI 0) hX d_M_node_89 (by decide) ?_
        refine r_iload hX d_M_node_90 rfl ?_
        refine r_callVwi (q0 := 0) hX d_M_node_92 cw_M_higher ml_M_93 (c_M_higher (mx (mx (nI 0) (mf 6 ja)) (mf 6 jb)) c false (fun q => absurd q (by decide))) (Or.inl rfl) rfl rfl rfl rfl (by decide) (Nat.le_of_ble_eq_true rfl) (fun _ => rfl) (fun _ _ => ?_)
        refine r_top (y := mx (mx (nI 0) (mf 6 ja)) (mf 6 jb)) (by simp [opN_nI (show ja < 2 ^ 31 by omega), opN_nI (show jb < 2 ^ 31 by omega)]) ?_
        refine r_iadd hX d_M_node_95 ?_
        refine r_top (y := lvF mf (opsN 10) (nI ja) (nI jb) c) (by rw [show opsN 10 = 3 from rfl]; simp [lvF, opN_nI (show ja < 2 ^ 31 by omega), opN_nI (show jb < 2 ^ 31 by omega)]; rw [Int32.add_comm]) ?_
        generalize hL : lvF mf (opsN 10) (nI ja) (nI jb) c = L
        refine r_istore hX d_M_node_96 (by decide) ?_
        refine r_aload_n (i := 0) hX d_M_node_98 rfl rfl ?_
        refine r_iload_n (i := 1) hX d_M_node_99 rfl rfl ?_
        refine r_iload_n (i := 2) hX d_M_node_100 rfl rfl ?_
        refine r_iload_n (i := 3) hX d_M_node_101 rfl rfl ?_
        refine r_iload hX d_M_node_102 rfl ?_
        refine r_callVwi (q0 := 0) hX d_M_node_104 cw_M_workOf ml_M_97 (c_M_workOf 10 (nI ja) (nI jb) c (by decide) hops) (Or.inl rfl) rfl rfl rfl rfl (by decide) (Nat.le_of_ble_eq_true rfl) (fun _ => rfl) (fun _ _ => ?_)
        generalize hW : wkF mf 10 (nI ja) (nI jb) c = W
        refine r_istore hX d_M_node_107 (by decide) ?_
        refine r_iload hX d_M_node_109 rfl ?_
        refine r_bipush (v := nI 64) hX d_M_node_111 (by decide) ?_
        refine r_icmp_gt 131 hX d_M_node_113 (by decide) (fun c113 => ?_) (fun c113 => ?_)
        · have hn : nodeOk nn mf (nI 10) (nI ja) (nI jb) c = false := by simp [nodeOk, hkk, hB, c113]
          refine r_iconst (v := -1) hX d_M_node_131 (by decide) ?_
          exact r_iret mf hX hF d_M_node_132 (bad hn) (by rw [hn]; rfl) (by rw [hn]; rfl)
        · refine r_iload hX d_M_node_116 rfl ?_
          refine r_sipush (v := nI 2000) hX d_M_node_118 (by decide) ?_
          refine r_icmp_gt 131 hX d_M_node_121 (by decide) (fun c121 => ?_) (fun c121 => ?_)
          · have hn : nodeOk nn mf (nI 10) (nI ja) (nI jb) c = false := by simp [nodeOk, hkk, hW, c121]
            refine r_iconst (v := -1) hX d_M_node_131 (by decide) ?_
            exact r_iret mf hX hF d_M_node_132 (bad hn) (by rw [hn]; rfl) (by rw [hn]; rfl)
          · refine r_iload hX d_M_node_124 rfl ?_
            refine r_bipush (v := nI 8) hX d_M_node_126 (by decide) ?_
            refine r_icmp_le 133 hX d_M_node_128 (by decide) (fun c128 => ?_) (fun c128 => ?_)
            · have hn : nodeOk nn mf (nI 10) (nI ja) (nI jb) c = true := by simp [nodeOk, hkk, hB, hW, hL, hx0, hx1, c113, c121, c128, hlt, hpl, hfit]
              refine r_aload_n (i := 0) hX d_M_node_133 rfl rfl ?_
              refine r_iload_n (i := 1) hX d_M_node_134 rfl rfl ?_
              refine r_callVwi (q0 := 0) hX d_M_node_135 cw_M_namesA ml_M_79 (c_M_namesA 10 (by decide)) (Or.inl rfl) rfl rfl rfl rfl (by decide) (Nat.le_of_ble_eq_true rfl) (fun _ => rfl) (fun _ _ => ?_)
              refine r_if_eq 148 hX d_M_node_138 (by decide) (fun c138 => absurd c138 (by decide)) (fun c138 => ?_)
              refine r_aload_n (i := 0) hX d_M_node_141 rfl rfl ?_
              refine r_get 0 12 hX d_M_node_142 rfl rfl fi_M (by decide) fl_M_47 rfl rfl ?_
              refine r_iload_n (i := 2) hX d_M_node_145 rfl rfl ?_
              refine r_iconst (v := nI 1) hX d_M_node_146 (by decide) ?_
              refine r_zast (y := nI 1) 9 1 (ja) hX d_M_node_147 rfl rfl rfl (by omega) (by decide) rfl ?_
              refine r_ws (ws' := WM am cI cZ tl nn rs ae dp tx (m7 mf (upd (mf 7) ja (nI 1))) rw sz nv ph tu sv) rfl ?_
              refine r_aload_n (i := 0) hX d_M_node_148 rfl rfl ?_
              refine r_iload_n (i := 1) hX d_M_node_149 rfl rfl ?_
              refine r_callVwi (q0 := 0) hX d_M_node_150 cw_M_namesB ml_M_82 (c_M_namesB 10 (by decide)) (Or.inl rfl) rfl rfl rfl rfl (by decide) (Nat.le_of_ble_eq_true rfl) (fun _ => rfl) (fun _ _ => ?_)
              refine r_if_eq 163 hX d_M_node_153 (by decide) (fun c153 => absurd c153 (by decide)) (fun c153 => ?_)
              refine r_aload_n (i := 0) hX d_M_node_156 rfl rfl ?_
              refine r_get 0 12 hX d_M_node_157 rfl rfl fi_M (by decide) fl_M_47 rfl rfl ?_
              refine r_iload_n (i := 3) hX d_M_node_160 rfl rfl ?_
              refine r_iconst (v := nI 1) hX d_M_node_161 (by decide) ?_
              refine r_zast (y := nI 1) 9 1 (jb) hX d_M_node_162 rfl rfl rfl (by omega) (by decide) rfl ?_
              refine r_iload_n (i := 1) hX d_M_node_163 rfl rfl ?_
              refine r_bipush (v := nI 19) hX d_M_node_164 (by decide) ?_
              refine r_icmp_ne 177 hX d_M_node_166 (by decide) (fun c166 => ?_) (fun c166 => absurd c166 (by decide))
              refine r_aload_n (i := 0) hX d_M_node_177 rfl rfl ?_
              refine r_get 0 5 hX d_M_node_178 rfl rfl fi_M (by decide) fl_M_26 rfl rfl ?_
              refine r_aload_n (i := 0) hX d_M_node_181 rfl rfl ?_
              refine r_get 0 1 hX d_M_node_182 rfl rfl fi_M (by decide) fl_M_13 rfl rfl ?_
              refine r_iload_n (i := 1) hX d_M_node_185 rfl rfl ?_
              refine r_iast 2 0 (nn) hX d_M_node_186 rfl rfl rfl (by omega) (by decide) ?_
              refine r_aload_n (i := 0) hX d_M_node_187 rfl rfl ?_
              refine r_get 0 6 hX d_M_node_188 rfl rfl fi_M (by decide) fl_M_29 rfl rfl ?_
              refine r_aload_n (i := 0) hX d_M_node_191 rfl rfl ?_
              refine r_get 0 1 hX d_M_node_192 rfl rfl fi_M (by decide) fl_M_13 rfl rfl ?_
              refine r_iload_n (i := 2) hX d_M_node_195 rfl rfl ?_
              refine r_iast 3 0 (nn) hX d_M_node_196 rfl rfl rfl (by omega) (by decide) ?_
              refine r_aload_n (i := 0) hX d_M_node_197 rfl rfl ?_
              refine r_get 0 7 hX d_M_node_198 rfl rfl fi_M (by decide) fl_M_32 rfl rfl ?_
              refine r_aload_n (i := 0) hX d_M_node_201 rfl rfl ?_
              refine r_get 0 1 hX d_M_node_202 rfl rfl fi_M (by decide) fl_M_13 rfl rfl ?_
              refine r_iload_n (i := 3) hX d_M_node_205 rfl rfl ?_
              refine r_iast 4 0 (nn) hX d_M_node_206 rfl rfl rfl (by omega) (by decide) ?_
              refine r_aload_n (i := 0) hX d_M_node_207 rfl rfl ?_
              refine r_get 0 8 hX d_M_node_208 rfl rfl fi_M (by decide) fl_M_35 rfl rfl ?_
              refine r_aload_n (i := 0) hX d_M_node_211 rfl rfl ?_
              refine r_get 0 1 hX d_M_node_212 rfl rfl fi_M (by decide) fl_M_13 rfl rfl ?_
              refine r_iload hX d_M_node_215 rfl ?_
              refine r_iast 5 0 (nn) hX d_M_node_217 rfl rfl rfl (by omega) (by decide) ?_
              refine r_aload_n (i := 0) hX d_M_node_218 rfl rfl ?_
              refine r_get 0 9 hX d_M_node_219 rfl rfl fi_M (by decide) fl_M_38 rfl rfl ?_
              refine r_aload_n (i := 0) hX d_M_node_222 rfl rfl ?_
              refine r_get 0 1 hX d_M_node_223 rfl rfl fi_M (by decide) fl_M_13 rfl rfl ?_
              refine r_iload hX d_M_node_226 rfl ?_
              refine r_iast 6 0 (nn) hX d_M_node_228 rfl rfl rfl (by omega) (by decide) ?_
              refine r_aload_n (i := 0) hX d_M_node_229 rfl rfl ?_
              refine r_get 0 11 hX d_M_node_230 rfl rfl fi_M (by decide) fl_M_44 rfl rfl ?_
              refine r_aload_n (i := 0) hX d_M_node_233 rfl rfl ?_
              refine r_get 0 1 hX d_M_node_234 rfl rfl fi_M (by decide) fl_M_13 rfl rfl ?_
              refine r_iload hX d_M_node_237 rfl ?_
              refine r_iast 8 0 (nn) hX d_M_node_239 rfl rfl rfl (by omega) (by decide) ?_
              refine r_aload_n (i := 0) hX d_M_node_240 rfl rfl ?_
              refine r_get 0 10 hX d_M_node_241 rfl rfl fi_M (by decide) fl_M_41 rfl rfl ?_
              refine r_aload_n (i := 0) hX d_M_node_244 rfl rfl ?_
              refine r_get 0 1 hX d_M_node_245 rfl rfl fi_M (by decide) fl_M_13 rfl rfl ?_
              refine r_iload hX d_M_node_248 rfl ?_
              refine r_iast 7 0 (nn) hX d_M_node_250 rfl rfl rfl (by omega) (by decide) ?_
              refine r_aload_n (i := 0) hX d_M_node_251 rfl rfl ?_
              refine r_get 0 12 hX d_M_node_252 rfl rfl fi_M (by decide) fl_M_47 rfl rfl ?_
              refine r_aload_n (i := 0) hX d_M_node_255 rfl rfl ?_
              refine r_get 0 1 hX d_M_node_256 rfl rfl fi_M (by decide) fl_M_13 rfl rfl ?_
              refine r_iconst (v := nI 0) hX d_M_node_259 (by decide) ?_
              refine r_zast (y := nI 0) 9 1 (nn) hX d_M_node_260 rfl rfl rfl (by omega) (by decide) rfl ?_
              refine r_aload_n (i := 0) hX d_M_node_261 rfl rfl ?_
              refine r_dup hX d_M_node_262 rfl ?_
              refine r_get 0 1 hX d_M_node_263 rfl rfl fi_M (by decide) fl_M_13 rfl rfl ?_
              refine r_iconst (v := nI 1) hX d_M_node_266 (by decide) ?_
              refine r_iadd hX d_M_node_267 ?_
              refine r_top (nI_add _ _) ?_
              refine r_put 0 1 hX d_M_node_268 rfl rfl fi_M ft_M_ok fn_M (by decide) fl_M_13 rfl rfl rfl rfl rfl (Nat.le_of_ble_eq_true rfl) ?_
              refine r_aload_n (i := 0) hX d_M_node_271 rfl rfl ?_
              refine r_get 0 1 hX d_M_node_272 rfl rfl fi_M (by decide) fl_M_13 rfl rfl ?_
              refine r_iconst (v := nI 1) hX d_M_node_275 (by decide) ?_
              refine r_isub hX d_M_node_276 ?_
              refine r_top (pk_sub (by omega)) ?_
              exact r_iret (mkU mf nn (nI 10) (nI ja) (nI jb) c B W L (upd (upd (mf 7) ja (nI 1)) jb (nI 1))) hX hF d_M_node_277 (mkU_post hn (by rw [hkk, hB]) (by rw [hkk, hW]) (by rw [hkk, hL]) (by rw [hkk, show opsN 10 = 3 from rfl]; simp [useN, nfU, opN_nI (show ja < 2 ^ 31 by omega), opN_nI (show jb < 2 ^ 31 by omega)])) (by rw [hn]; rfl) (by rw [hn]; rfl)
            · have hn : nodeOk nn mf (nI 10) (nI ja) (nI jb) c = false := by simp [nodeOk, hkk, hL, c128]
              refine r_iconst (v := -1) hX d_M_node_131 (by decide) ?_
              exact r_iret mf hX hF d_M_node_132 (bad hn) (by rw [hn]; rfl) (by rw [hn]; rfl)
      · have hn : nodeOk nn mf (nI 10) a b c = false := by
          have := (nI_eq (by omega) (by decide)).mp c28
          simp [nodeOk, this]
        refine r_iconst (v := -1) hX d_M_node_31 (by decide) ?_
        exact r_iret mf hX hF d_M_node_32 (bad hn) (by rw [hn]; rfl) (by rw [hn]; rfl)
  ·
    refine r_iload_n (i := 1) hX d_M_node_0 rfl rfl ?_
    refine r_if_lt 31 hX d_M_node_1 (by decide) (fun c1 => absurd c1 (by decide)) (fun c1 => ?_)
    refine r_iload_n (i := 1) hX d_M_node_4 rfl rfl ?_
    refine r_bipush (v := nI 21) hX d_M_node_5 (by decide) ?_
    refine r_icmp_gt 31 hX d_M_node_7 (by decide) (fun c7 => absurd c7 (by decide)) (fun c7 => ?_)
    refine r_aload_n (i := 0) hX d_M_node_10 rfl rfl ?_
    refine r_iload_n (i := 1) hX d_M_node_11 rfl rfl ?_
    refine r_iload_n (i := 2) hX d_M_node_12 rfl rfl ?_
    refine r_iload_n (i := 3) hX d_M_node_13 rfl rfl ?_
    refine r_iload hX d_M_node_14 rfl ?_
    refine r_callVwi (q0 := 0) hX d_M_node_16 cw_M_fits ml_M_85 (c_M_fits 11 a b c (by decide) hnn) (Or.inl rfl) rfl rfl rfl rfl (by decide) (Nat.le_of_ble_eq_true rfl) (fun _ => rfl) (fun _ _ => ?_)
    refine r_if_eq 31 hX d_M_node_19 (by decide) (fun c19 => ?_) (fun c19 => ?_)
    · have hn : nodeOk nn mf (nI 11) a b c = false := by
        have h9 := bI_0 c19
        simp only [fitK, Bool.and_eq_false_iff] at h9
        rcases h9 with h9 | h9 <;> simp [nodeOk, hkk, h9]
      refine r_iconst (v := -1) hX d_M_node_31 (by decide) ?_
      exact r_iret mf hX hF d_M_node_32 (bad hn) (by rw [hn]; rfl) (by rw [hn]; rfl)
    · refine r_aload_n (i := 0) hX d_M_node_22 rfl rfl ?_
      refine r_get 0 1 hX d_M_node_23 rfl rfl fi_M (by decide) fl_M_13 rfl rfl ?_
      refine r_bipush (v := nI 60) hX d_M_node_26 (by decide) ?_
      refine r_icmp_ne 33 hX d_M_node_28 (by decide) (fun c28 => ?_) (fun c28 => ?_)
      · have hlt : nn < 60 := by
          rcases Nat.lt_or_ge nn 60 with h | h
          · exact h
          · exact absurd (by rw [show nn = 60 by omega]) c28
        have h9 := bI_1 c19
        simp only [fitK, Bool.and_eq_true] at h9
        obtain ⟨hpl, hfit⟩ := h9
        have hoN := mfit_k (by decide) hfit hnn
        have hops := hoN.ops hnn
        obtain ⟨ja, hja, rfl⟩ := hoN.1 (by decide)
        obtain ⟨jb, hjb, rfl⟩ := hoN.2.1 (by decide)
        refine r_aload_n (i := 0) hX d_M_node_33 rfl rfl ?_
        refine r_iload_n (i := 1) hX d_M_node_34 rfl rfl ?_
        refine r_iload_n (i := 2) hX d_M_node_35 rfl rfl ?_
        refine r_iload_n (i := 3) hX d_M_node_36 rfl rfl ?_
        refine r_iload hX d_M_node_37 rfl ?_
        refine r_callVwi (q0 := 0) hX d_M_node_39 cw_M_boundOf ml_M_89 (c_M_boundOf 11 (nI ja) (nI jb) c (by decide) hops) (Or.inl rfl) rfl rfl rfl rfl (by decide) (Nat.le_of_ble_eq_true rfl) (fun _ => rfl) (fun _ _ => ?_)
        generalize hB : bndF mf 11 (nI ja) (nI jb) c = B
        refine r_istore hX d_M_node_42 (by decide) ?_
        refine r_iconst (v := nI 0) hX d_M_node_44 (by decide) ?_
        refine r_istore hX d_M_node_45 (by decide) ?_
        refine r_aload_n (i := 0) hX d_M_node_47 rfl rfl ?_
        refine r_iload hX d_M_node_48 rfl ?_
        refine r_aload_n (i := 0) hX d_M_node_50 rfl rfl ?_
        refine r_iload_n (i := 1) hX d_M_node_51 rfl rfl ?_
        refine r_callVwi (q0 := 0) hX d_M_node_52 cw_M_namesA ml_M_79 (c_M_namesA 11 (by decide)) (Or.inl rfl) rfl rfl rfl rfl (by decide) (Nat.le_of_ble_eq_true rfl) (fun _ => rfl) (fun _ _ => ?_)
        refine r_iload_n (i := 2) hX d_M_node_55 rfl rfl ?_
        refine r_callVwi (q0 := 0) hX d_M_node_56 cw_M_higher ml_M_93 (c_M_higher (nI 0) (nI ja) (nmA 11) (fun q => ⟨ja, by omega, rfl⟩)) (Or.inl rfl) rfl rfl rfl rfl (by decide) (Nat.le_of_ble_eq_true rfl) (fun _ => rfl) (fun _ _ => ?_)
        refine r_top (y := mx (nI 0) (mf 6 ja)) (by simp [nmA, opN_nI (show ja < 2 ^ 31 by omega), opN_nI (show jb < 2 ^ 31 by omega)]) ?_
        refine r_istore hX d_M_node_59 (by decide) ?_
        refine r_aload_n (i := 0) hX d_M_node_61 rfl rfl ?_
        refine r_iload hX d_M_node_62 rfl ?_
        refine r_aload_n (i := 0) hX d_M_node_64 rfl rfl ?_
        refine r_iload_n (i := 1) hX d_M_node_65 rfl rfl ?_
        refine r_callVwi (q0 := 0) hX d_M_node_66 cw_M_namesB ml_M_82 (c_M_namesB 11 (by decide)) (Or.inl rfl) rfl rfl rfl rfl (by decide) (Nat.le_of_ble_eq_true rfl) (fun _ => rfl) (fun _ _ => ?_)
        refine r_iload_n (i := 3) hX d_M_node_69 rfl rfl ?_
        refine r_callVwi (q0 := 0) hX d_M_node_70 cw_M_higher ml_M_93 (c_M_higher (mx (nI 0) (mf 6 ja)) (nI jb) (nmB 11) (fun q => ⟨jb, by omega, rfl⟩)) (Or.inl rfl) rfl rfl rfl rfl (by decide) (Nat.le_of_ble_eq_true rfl) (fun _ => rfl) (fun _ _ => ?_)
        refine r_top (y := mx (mx (nI 0) (mf 6 ja)) (mf 6 jb)) (by simp [nmB, opN_nI (show ja < 2 ^ 31 by omega), opN_nI (show jb < 2 ^ 31 by omega)]) ?_
        refine r_istore hX d_M_node_73 (by decide) ?_
        refine r_iconst (v := nI 1) hX d_M_node_75 (by decide) ?_
        refine r_aload_n (i := 0) hX d_M_node_76 rfl rfl ?_
        refine r_iload hX d_M_node_77 rfl ?_
        refine r_iload_n (i := 1) hX d_M_node_79 rfl rfl ?_
        refine r_bipush (v := nI 19) hX d_M_node_80 (by decide) ?_
        refine r_icmp_ne 89 hX d_M_node_82 (by decide) (fun c82 => ?_) (fun c82 => absurd c82 (by decide))
        refine r_iconst (v := nI 0) hX d_M_node_89 (by decide) ?_
        refine r_iload hX d_M_node_90 rfl ?_
        refine r_callVwi (q0 := 0) hX d_M_node_92 cw_M_higher ml_M_93 (c_M_higher (mx (mx (nI 0) (mf 6 ja)) (mf 6 jb)) c false (fun q => absurd q (by decide))) (Or.inl rfl) rfl rfl rfl rfl (by decide) (Nat.le_of_ble_eq_true rfl) (fun _ => rfl) (fun _ _ => ?_)
        refine r_top (y := mx (mx (nI 0) (mf 6 ja)) (mf 6 jb)) (by simp [opN_nI (show ja < 2 ^ 31 by omega), opN_nI (show jb < 2 ^ 31 by omega)]) ?_
        refine r_iadd hX d_M_node_95 ?_
        refine r_top (y := lvF mf (opsN 11) (nI ja) (nI jb) c) (by rw [show opsN 11 = 3 from rfl]; simp [lvF, opN_nI (show ja < 2 ^ 31 by omega), opN_nI (show jb < 2 ^ 31 by omega)]; rw [Int32.add_comm]) ?_
        generalize hL : lvF mf (opsN 11) (nI ja) (nI jb) c = L
        refine r_istore hX d_M_node_96 (by decide) ?_
        refine r_aload_n (i := 0) hX d_M_node_98 rfl rfl ?_
        refine r_iload_n (i := 1) hX d_M_node_99 rfl rfl ?_
        refine r_iload_n (i := 2) hX d_M_node_100 rfl rfl ?_
        refine r_iload_n (i := 3) hX d_M_node_101 rfl rfl ?_
        refine r_iload hX d_M_node_102 rfl ?_
        refine r_callVwi (q0 := 0) hX d_M_node_104 cw_M_workOf ml_M_97 (c_M_workOf 11 (nI ja) (nI jb) c (by decide) hops) (Or.inl rfl) rfl rfl rfl rfl (by decide) (Nat.le_of_ble_eq_true rfl) (fun _ => rfl) (fun _ _ => ?_)
        generalize hW : wkF mf 11 (nI ja) (nI jb) c = W
        refine r_istore hX d_M_node_107 (by decide) ?_
        refine r_iload hX d_M_node_109 rfl ?_
        refine r_bipush (v := nI 64) hX d_M_node_111 (by decide) ?_
        refine r_icmp_gt 131 hX d_M_node_113 (by decide) (fun c113 => ?_) (fun c113 => ?_)
        · have hn : nodeOk nn mf (nI 11) (nI ja) (nI jb) c = false := by simp [nodeOk, hkk, hB, c113]
          refine r_iconst (v := -1) hX d_M_node_131 (by decide) ?_
          exact r_iret mf hX hF d_M_node_132 (bad hn) (by rw [hn]; rfl) (by rw [hn]; rfl)
        · refine r_iload hX d_M_node_116 rfl ?_
          refine r_sipush (v := nI 2000) hX d_M_node_118 (by decide) ?_
          refine r_icmp_gt 131 hX d_M_node_121 (by decide) (fun c121 => ?_) (fun c121 => ?_)
          · have hn : nodeOk nn mf (nI 11) (nI ja) (nI jb) c = false := by simp [nodeOk, hkk, hW, c121]
            refine r_iconst (v := -1) hX d_M_node_131 (by decide) ?_
            exact r_iret mf hX hF d_M_node_132 (bad hn) (by rw [hn]; rfl) (by rw [hn]; rfl)
          · refine r_iload hX d_M_node_124 rfl ?_
            refine r_bipush (v := nI 8) hX d_M_node_126 (by decide) ?_
            refine r_icmp_le 133 hX d_M_node_128 (by decide) (fun c128 => ?_) (fun c128 => ?_)
            · have hn : nodeOk nn mf (nI 11) (nI ja) (nI jb) c = true := by simp [nodeOk, hkk, hB, hW, hL, hx0, hx1, c113, c121, c128, hlt, hpl, hfit]
              refine r_aload_n (i := 0) hX d_M_node_133 rfl rfl ?_
              refine r_iload_n (i := 1) hX d_M_node_134 rfl rfl ?_
              refine r_callVwi (q0 := 0) hX d_M_node_135 cw_M_namesA ml_M_79 (c_M_namesA 11 (by decide)) (Or.inl rfl) rfl rfl rfl rfl (by decide) (Nat.le_of_ble_eq_true rfl) (fun _ => rfl) (fun _ _ => ?_)
              refine r_if_eq 148 hX d_M_node_138 (by decide) (fun c138 => absurd c138 (by decide)) (fun c138 => ?_)
              refine r_aload_n (i := 0) hX d_M_node_141 rfl rfl ?_
              refine r_get 0 12 hX d_M_node_142 rfl rfl fi_M (by decide) fl_M_47 rfl rfl ?_
              refine r_iload_n (i := 2) hX d_M_node_145 rfl rfl ?_
              refine r_iconst (v := nI 1) hX d_M_node_146 (by decide) ?_
              refine r_zast (y := nI 1) 9 1 (ja) hX d_M_node_147 rfl rfl rfl (by omega) (by decide) rfl ?_
              refine r_ws (ws' := WM am cI cZ tl nn rs ae dp tx (m7 mf (upd (mf 7) ja (nI 1))) rw sz nv ph tu sv) rfl ?_
              refine r_aload_n (i := 0) hX d_M_node_148 rfl rfl ?_
              refine r_iload_n (i := 1) hX d_M_node_149 rfl rfl ?_
              refine r_callVwi (q0 := 0) hX d_M_node_150 cw_M_namesB ml_M_82 (c_M_namesB 11 (by decide)) (Or.inl rfl) rfl rfl rfl rfl (by decide) (Nat.le_of_ble_eq_true rfl) (fun _ => rfl) (fun _ _ => ?_)
              refine r_if_eq 163 hX d_M_node_153 (by decide) (fun c153 => absurd c153 (by decide)) (fun c153 => ?_)
              refine r_aload_n (i := 0) hX d_M_node_156 rfl rfl ?_
              refine r_get 0 12 hX d_M_node_157 rfl rfl fi_M (by decide) fl_M_47 rfl rfl ?_
              refine r_iload_n (i := 3) hX d_M_node_160 rfl rfl ?_
              refine r_iconst (v := nI 1) hX d_M_node_161 (by decide) ?_
              refine r_zast (y := nI 1) 9 1 (jb) hX d_M_node_162 rfl rfl rfl (by omega) (by decide) rfl ?_
              refine r_iload_n (i := 1) hX d_M_node_163 rfl rfl ?_
              refine r_bipush (v := nI 19) hX d_M_node_164 (by decide) ?_
              refine r_icmp_ne 177 hX d_M_node_166 (by decide) (fun c166 => ?_) (fun c166 => absurd c166 (by decide))
              refine r_aload_n (i := 0) hX d_M_node_177 rfl rfl ?_
              refine r_get 0 5 hX d_M_node_178 rfl rfl fi_M (by decide) fl_M_26 rfl rfl ?_
              refine r_aload_n (i := 0) hX d_M_node_181 rfl rfl ?_
              refine r_get 0 1 hX d_M_node_182 rfl rfl fi_M (by decide) fl_M_13 rfl rfl ?_
              refine r_iload_n (i := 1) hX d_M_node_185 rfl rfl ?_
              refine r_iast 2 0 (nn) hX d_M_node_186 rfl rfl rfl (by omega) (by decide) ?_
              refine r_aload_n (i := 0) hX d_M_node_187 rfl rfl ?_
              refine r_get 0 6 hX d_M_node_188 rfl rfl fi_M (by decide) fl_M_29 rfl rfl ?_
              refine r_aload_n (i := 0) hX d_M_node_191 rfl rfl ?_
              refine r_get 0 1 hX d_M_node_192 rfl rfl fi_M (by decide) fl_M_13 rfl rfl ?_
              refine r_iload_n (i := 2) hX d_M_node_195 rfl rfl ?_
              refine r_iast 3 0 (nn) hX d_M_node_196 rfl rfl rfl (by omega) (by decide) ?_
              refine r_aload_n (i := 0) hX d_M_node_197 rfl rfl ?_
              refine r_get 0 7 hX d_M_node_198 rfl rfl fi_M (by decide) fl_M_32 rfl rfl ?_
              refine r_aload_n (i := 0) hX d_M_node_201 rfl rfl ?_
              refine r_get 0 1 hX d_M_node_202 rfl rfl fi_M (by decide) fl_M_13 rfl rfl ?_
              refine r_iload_n (i := 3) hX d_M_node_205 rfl rfl ?_
              refine r_iast 4 0 (nn) hX d_M_node_206 rfl rfl rfl (by omega) (by decide) ?_
              refine r_aload_n (i := 0) hX d_M_node_207 rfl rfl ?_
              refine r_get 0 8 hX d_M_node_208 rfl rfl fi_M (by decide) fl_M_35 rfl rfl ?_
              refine r_aload_n (i := 0) hX d_M_node_211 rfl rfl ?_
              refine r_get 0 1 hX d_M_node_212 rfl rfl fi_M (by decide) fl_M_13 rfl rfl ?_
              refine r_iload hX d_M_node_215 rfl ?_
              refine r_iast 5 0 (nn) hX d_M_node_217 rfl rfl rfl (by omega) (by decide) ?_
              refine r_aload_n (i := 0) hX d_M_node_218 rfl rfl ?_
              refine r_get 0 9 hX d_M_node_219 rfl rfl fi_M (by decide) fl_M_38 rfl rfl ?_
              refine r_aload_n (i := 0) hX d_M_node_222 rfl rfl ?_
              refine r_get 0 1 hX d_M_node_223 rfl rfl fi_M (by decide) fl_M_13 rfl rfl ?_
              refine r_iload hX d_M_node_226 rfl ?_
              refine r_iast 6 0 (nn) hX d_M_node_228 rfl rfl rfl (by omega) (by decide) ?_
              refine r_aload_n (i := 0) hX d_M_node_229 rfl rfl ?_
              refine r_get 0 11 hX d_M_node_230 rfl rfl fi_M (by decide) fl_M_44 rfl rfl ?_
              refine r_aload_n (i := 0) hX d_M_node_233 rfl rfl ?_
              refine r_get 0 1 hX d_M_node_234 rfl rfl fi_M (by decide) fl_M_13 rfl rfl ?_
              refine r_iload hX d_M_node_237 rfl ?_
              refine r_iast 8 0 (nn) hX d_M_node_239 rfl rfl rfl (by omega) (by decide) ?_
              refine r_aload_n (i := 0) hX d_M_node_240 rfl rfl ?_
              refine r_get 0 10 hX d_M_node_241 rfl rfl fi_M (by decide) fl_M_41 rfl rfl ?_
              refine r_aload_n (i := 0) hX d_M_node_244 rfl rfl ?_
              refine r_get 0 1 hX d_M_node_245 rfl rfl fi_M (by decide) fl_M_13 rfl rfl ?_
              refine r_iload hX d_M_node_248 rfl ?_
              refine r_iast 7 0 (nn) hX d_M_node_250 rfl rfl rfl (by omega) (by decide) ?_
              refine r_aload_n (i := 0) hX d_M_node_251 rfl rfl ?_
              refine r_get 0 12 hX d_M_node_252 rfl rfl fi_M (by decide) fl_M_47 rfl rfl ?_
              refine r_aload_n (i := 0) hX d_M_node_255 rfl rfl ?_
              refine r_get 0 1 hX d_M_node_256 rfl rfl fi_M (by decide) fl_M_13 rfl rfl ?_
              refine r_iconst (v := nI 0) hX d_M_node_259 (by decide) ?_
              refine r_zast (y := nI 0) 9 1 (nn) hX d_M_node_260 rfl rfl rfl (by omega) (by decide) rfl ?_
              refine r_aload_n (i := 0) hX d_M_node_261 rfl rfl ?_
              refine r_dup hX d_M_node_262 rfl ?_
              refine r_get 0 1 hX d_M_node_263 rfl rfl fi_M (by decide) fl_M_13 rfl rfl ?_
              refine r_iconst (v := nI 1) hX d_M_node_266 (by decide) ?_
              refine r_iadd hX d_M_node_267 ?_
              refine r_top (nI_add _ _) ?_
              refine r_put 0 1 hX d_M_node_268 rfl rfl fi_M ft_M_ok fn_M (by decide) fl_M_13 rfl rfl rfl rfl rfl (Nat.le_of_ble_eq_true rfl) ?_
              refine r_aload_n (i := 0) hX d_M_node_271 rfl rfl ?_
              refine r_get 0 1 hX d_M_node_272 rfl rfl fi_M (by decide) fl_M_13 rfl rfl ?_
              refine r_iconst (v := nI 1) hX d_M_node_275 (by decide) ?_
              refine r_isub hX d_M_node_276 ?_
              refine r_top (pk_sub (by omega)) ?_
              exact r_iret (mkU mf nn (nI 11) (nI ja) (nI jb) c B W L (upd (upd (mf 7) ja (nI 1)) jb (nI 1))) hX hF d_M_node_277 (mkU_post hn (by rw [hkk, hB]) (by rw [hkk, hW]) (by rw [hkk, hL]) (by rw [hkk, show opsN 11 = 3 from rfl]; simp [useN, nfU, opN_nI (show ja < 2 ^ 31 by omega), opN_nI (show jb < 2 ^ 31 by omega)])) (by rw [hn]; rfl) (by rw [hn]; rfl)
            · have hn : nodeOk nn mf (nI 11) (nI ja) (nI jb) c = false := by simp [nodeOk, hkk, hL, c128]
              refine r_iconst (v := -1) hX d_M_node_131 (by decide) ?_
              exact r_iret mf hX hF d_M_node_132 (bad hn) (by rw [hn]; rfl) (by rw [hn]; rfl)
      · have hn : nodeOk nn mf (nI 11) a b c = false := by
          have := (nI_eq (by omega) (by decide)).mp c28
          simp [nodeOk, this]
        refine r_iconst (v := -1) hX d_M_node_31 (by decide) ?_
        exact r_iret mf hX hF d_M_node_32 (bad hn) (by rw [hn]; rfl) (by rw [hn]; rfl)
  ·
    refine r_iload_n (i := 1) hX d_M_node_0 rfl rfl ?_
    refine r_if_lt 31 hX d_M_node_1 (by decide) (fun c1 => absurd c1 (by decide)) (fun c1 => ?_)
    refine r_iload_n (i := 1) hX d_M_node_4 rfl rfl ?_
    refine r_bipush (v := nI 21) hX d_M_node_5 (by decide) ?_
    refine r_icmp_gt 31 hX d_M_node_7 (by decide) (fun c7 => absurd c7 (by decide)) (fun c7 => ?_)
    refine r_aload_n (i := 0) hX d_M_node_10 rfl rfl ?_
    refine r_iload_n (i := 1) hX d_M_node_11 rfl rfl ?_
    refine r_iload_n (i := 2) hX d_M_node_12 rfl rfl ?_
    refine r_iload_n (i := 3) hX d_M_node_13 rfl rfl ?_
    refine r_iload hX d_M_node_14 rfl ?_
    refine r_callVwi (q0 := 0) hX d_M_node_16 cw_M_fits ml_M_85 (c_M_fits 12 a b c (by decide) hnn) (Or.inl rfl) rfl rfl rfl rfl (by decide) (Nat.le_of_ble_eq_true rfl) (fun _ => rfl) (fun _ _ => ?_)
    refine r_if_eq 31 hX d_M_node_19 (by decide) (fun c19 => ?_) (fun c19 => ?_)
    · have hn : nodeOk nn mf (nI 12) a b c = false := by
        have h9 := bI_0 c19
        simp only [fitK, Bool.and_eq_false_iff] at h9
        rcases h9 with h9 | h9 <;> simp [nodeOk, hkk, h9]
      refine r_iconst (v := -1) hX d_M_node_31 (by decide) ?_
      exact r_iret mf hX hF d_M_node_32 (bad hn) (by rw [hn]; rfl) (by rw [hn]; rfl)
    · refine r_aload_n (i := 0) hX d_M_node_22 rfl rfl ?_
      refine r_get 0 1 hX d_M_node_23 rfl rfl fi_M (by decide) fl_M_13 rfl rfl ?_
      refine r_bipush (v := nI 60) hX d_M_node_26 (by decide) ?_
      refine r_icmp_ne 33 hX d_M_node_28 (by decide) (fun c28 => ?_) (fun c28 => ?_)
      · have hlt : nn < 60 := by
          rcases Nat.lt_or_ge nn 60 with h | h
          · exact h
          · exact absurd (by rw [show nn = 60 by omega]) c28
        have h9 := bI_1 c19
        simp only [fitK, Bool.and_eq_true] at h9
        obtain ⟨hpl, hfit⟩ := h9
        have hoN := mfit_k (by decide) hfit hnn
        have hops := hoN.ops hnn
        obtain ⟨ja, hja, rfl⟩ := hoN.1 (by decide)
        obtain ⟨jb, hjb, rfl⟩ := hoN.2.1 (by decide)
        refine r_aload_n (i := 0) hX d_M_node_33 rfl rfl ?_
        refine r_iload_n (i := 1) hX d_M_node_34 rfl rfl ?_
        refine r_iload_n (i := 2) hX d_M_node_35 rfl rfl ?_
        refine r_iload_n (i := 3) hX d_M_node_36 rfl rfl ?_
        refine r_iload hX d_M_node_37 rfl ?_
        refine r_callVwi (q0 := 0) hX d_M_node_39 cw_M_boundOf ml_M_89 (c_M_boundOf 12 (nI ja) (nI jb) c (by decide) hops) (Or.inl rfl) rfl rfl rfl rfl (by decide) (Nat.le_of_ble_eq_true rfl) (fun _ => rfl) (fun _ _ => ?_)
        generalize hB : bndF mf 12 (nI ja) (nI jb) c = B
        refine r_istore hX d_M_node_42 (by decide) ?_
        refine r_iconst (v := nI 0) hX d_M_node_44 (by decide) ?_
        refine r_istore hX d_M_node_45 (by decide) ?_
        refine r_aload_n (i := 0) hX d_M_node_47 rfl rfl ?_
        refine r_iload hX d_M_node_48 rfl ?_
        refine r_aload_n (i := 0) hX d_M_node_50 rfl rfl ?_
        refine r_iload_n (i := 1) hX d_M_node_51 rfl rfl ?_
        refine r_callVwi (q0 := 0) hX d_M_node_52 cw_M_namesA ml_M_79 (c_M_namesA 12 (by decide)) (Or.inl rfl) rfl rfl rfl rfl (by decide) (Nat.le_of_ble_eq_true rfl) (fun _ => rfl) (fun _ _ => ?_)
        refine r_iload_n (i := 2) hX d_M_node_55 rfl rfl ?_
        refine r_callVwi (q0 := 0) hX d_M_node_56 cw_M_higher ml_M_93 (c_M_higher (nI 0) (nI ja) (nmA 12) (fun q => ⟨ja, by omega, rfl⟩)) (Or.inl rfl) rfl rfl rfl rfl (by decide) (Nat.le_of_ble_eq_true rfl) (fun _ => rfl) (fun _ _ => ?_)
        refine r_top (y := mx (nI 0) (mf 6 ja)) (by simp [nmA, opN_nI (show ja < 2 ^ 31 by omega), opN_nI (show jb < 2 ^ 31 by omega)]) ?_
        refine r_istore hX d_M_node_59 (by decide) ?_
        refine r_aload_n (i := 0) hX d_M_node_61 rfl rfl ?_
        refine r_iload hX d_M_node_62 rfl ?_
        refine r_aload_n (i := 0) hX d_M_node_64 rfl rfl ?_
        refine r_iload_n (i := 1) hX d_M_node_65 rfl rfl ?_
        refine r_callVwi (q0 := 0) hX d_M_node_66 cw_M_namesB ml_M_82 (c_M_namesB 12 (by decide)) (Or.inl rfl) rfl rfl rfl rfl (by decide) (Nat.le_of_ble_eq_true rfl) (fun _ => rfl) (fun _ _ => ?_)
        refine r_iload_n (i := 3) hX d_M_node_69 rfl rfl ?_
        refine r_callVwi (q0 := 0) hX d_M_node_70 cw_M_higher ml_M_93 (c_M_higher (mx (nI 0) (mf 6 ja)) (nI jb) (nmB 12) (fun q => ⟨jb, by omega, rfl⟩)) (Or.inl rfl) rfl rfl rfl rfl (by decide) (Nat.le_of_ble_eq_true rfl) (fun _ => rfl) (fun _ _ => ?_)
        refine r_top (y := mx (mx (nI 0) (mf 6 ja)) (mf 6 jb)) (by simp [nmB, opN_nI (show ja < 2 ^ 31 by omega), opN_nI (show jb < 2 ^ 31 by omega)]) ?_
        refine r_istore hX d_M_node_73 (by decide) ?_
        refine r_iconst (v := nI 1) hX d_M_node_75 (by decide) ?_
        refine r_aload_n (i := 0) hX d_M_node_76 rfl rfl ?_
        refine r_iload hX d_M_node_77 rfl ?_
        refine r_iload_n (i := 1) hX d_M_node_79 rfl rfl ?_
        refine r_bipush (v := nI 19) hX d_M_node_80 (by decide) ?_
        refine r_icmp_ne 89 hX d_M_node_82 (by decide) (fun c82 => ?_) (fun c82 => absurd c82 (by decide))
        refine r_iconst (v := nI 0) hX d_M_node_89 (by decide) ?_
        refine r_iload hX d_M_node_90 rfl ?_
        refine r_callVwi (q0 := 0) hX d_M_node_92 cw_M_higher ml_M_93 (c_M_higher (mx (mx (nI 0) (mf 6 ja)) (mf 6 jb)) c false (fun q => absurd q (by decide))) (Or.inl rfl) rfl rfl rfl rfl (by decide) (Nat.le_of_ble_eq_true rfl) (fun _ => rfl) (fun _ _ => ?_)
        refine r_top (y := mx (mx (nI 0) (mf 6 ja)) (mf 6 jb)) (by simp [opN_nI (show ja < 2 ^ 31 by omega), opN_nI (show jb < 2 ^ 31 by omega)]) ?_
        refine r_iadd hX d_M_node_95 ?_
        refine r_top (y := lvF mf (opsN 12) (nI ja) (nI jb) c) (by rw [show opsN 12 = 3 from rfl]; simp [lvF, opN_nI (show ja < 2 ^ 31 by omega), opN_nI (show jb < 2 ^ 31 by omega)]; rw [Int32.add_comm]) ?_
        generalize hL : lvF mf (opsN 12) (nI ja) (nI jb) c = L
        refine r_istore hX d_M_node_96 (by decide) ?_
        refine r_aload_n (i := 0) hX d_M_node_98 rfl rfl ?_
        refine r_iload_n (i := 1) hX d_M_node_99 rfl rfl ?_
        refine r_iload_n (i := 2) hX d_M_node_100 rfl rfl ?_
        refine r_iload_n (i := 3) hX d_M_node_101 rfl rfl ?_
        refine r_iload hX d_M_node_102 rfl ?_
        refine r_callVwi (q0 := 0) hX d_M_node_104 cw_M_workOf ml_M_97 (c_M_workOf 12 (nI ja) (nI jb) c (by decide) hops) (Or.inl rfl) rfl rfl rfl rfl (by decide) (Nat.le_of_ble_eq_true rfl) (fun _ => rfl) (fun _ _ => ?_)
        generalize hW : wkF mf 12 (nI ja) (nI jb) c = W
        refine r_istore hX d_M_node_107 (by decide) ?_
        refine r_iload hX d_M_node_109 rfl ?_
        refine r_bipush (v := nI 64) hX d_M_node_111 (by decide) ?_
        refine r_icmp_gt 131 hX d_M_node_113 (by decide) (fun c113 => ?_) (fun c113 => ?_)
        · have hn : nodeOk nn mf (nI 12) (nI ja) (nI jb) c = false := by simp [nodeOk, hkk, hB, c113]
          refine r_iconst (v := -1) hX d_M_node_131 (by decide) ?_
          exact r_iret mf hX hF d_M_node_132 (bad hn) (by rw [hn]; rfl) (by rw [hn]; rfl)
        · refine r_iload hX d_M_node_116 rfl ?_
          refine r_sipush (v := nI 2000) hX d_M_node_118 (by decide) ?_
          refine r_icmp_gt 131 hX d_M_node_121 (by decide) (fun c121 => ?_) (fun c121 => ?_)
          · have hn : nodeOk nn mf (nI 12) (nI ja) (nI jb) c = false := by simp [nodeOk, hkk, hW, c121]
            refine r_iconst (v := -1) hX d_M_node_131 (by decide) ?_
            exact r_iret mf hX hF d_M_node_132 (bad hn) (by rw [hn]; rfl) (by rw [hn]; rfl)
          · refine r_iload hX d_M_node_124 rfl ?_
            refine r_bipush (v := nI 8) hX d_M_node_126 (by decide) ?_
            refine r_icmp_le 133 hX d_M_node_128 (by decide) (fun c128 => ?_) (fun c128 => ?_)
            · have hn : nodeOk nn mf (nI 12) (nI ja) (nI jb) c = true := by simp [nodeOk, hkk, hB, hW, hL, hx0, hx1, c113, c121, c128, hlt, hpl, hfit]
              refine r_aload_n (i := 0) hX d_M_node_133 rfl rfl ?_
              refine r_iload_n (i := 1) hX d_M_node_134 rfl rfl ?_
              refine r_callVwi (q0 := 0) hX d_M_node_135 cw_M_namesA ml_M_79 (c_M_namesA 12 (by decide)) (Or.inl rfl) rfl rfl rfl rfl (by decide) (Nat.le_of_ble_eq_true rfl) (fun _ => rfl) (fun _ _ => ?_)
              refine r_if_eq 148 hX d_M_node_138 (by decide) (fun c138 => absurd c138 (by decide)) (fun c138 => ?_)
              refine r_aload_n (i := 0) hX d_M_node_141 rfl rfl ?_
              refine r_get 0 12 hX d_M_node_142 rfl rfl fi_M (by decide) fl_M_47 rfl rfl ?_
              refine r_iload_n (i := 2) hX d_M_node_145 rfl rfl ?_
              refine r_iconst (v := nI 1) hX d_M_node_146 (by decide) ?_
              refine r_zast (y := nI 1) 9 1 (ja) hX d_M_node_147 rfl rfl rfl (by omega) (by decide) rfl ?_
              refine r_ws (ws' := WM am cI cZ tl nn rs ae dp tx (m7 mf (upd (mf 7) ja (nI 1))) rw sz nv ph tu sv) rfl ?_
              refine r_aload_n (i := 0) hX d_M_node_148 rfl rfl ?_
              refine r_iload_n (i := 1) hX d_M_node_149 rfl rfl ?_
              refine r_callVwi (q0 := 0) hX d_M_node_150 cw_M_namesB ml_M_82 (c_M_namesB 12 (by decide)) (Or.inl rfl) rfl rfl rfl rfl (by decide) (Nat.le_of_ble_eq_true rfl) (fun _ => rfl) (fun _ _ => ?_)
              refine r_if_eq 163 hX d_M_node_153 (by decide) (fun c153 => absurd c153 (by decide)) (fun c153 => ?_)
              refine r_aload_n (i := 0) hX d_M_node_156 rfl rfl ?_
              refine r_get 0 12 hX d_M_node_157 rfl rfl fi_M (by decide) fl_M_47 rfl rfl ?_
              refine r_iload_n (i := 3) hX d_M_node_160 rfl rfl ?_
              refine r_iconst (v := nI 1) hX d_M_node_161 (by decide) ?_
              refine r_zast (y := nI 1) 9 1 (jb) hX d_M_node_162 rfl rfl rfl (by omega) (by decide) rfl ?_
              refine r_iload_n (i := 1) hX d_M_node_163 rfl rfl ?_
              refine r_bipush (v := nI 19) hX d_M_node_164 (by decide) ?_
              refine r_icmp_ne 177 hX d_M_node_166 (by decide) (fun c166 => ?_) (fun c166 => absurd c166 (by decide))
              refine r_aload_n (i := 0) hX d_M_node_177 rfl rfl ?_
              refine r_get 0 5 hX d_M_node_178 rfl rfl fi_M (by decide) fl_M_26 rfl rfl ?_
              refine r_aload_n (i := 0) hX d_M_node_181 rfl rfl ?_
              refine r_get 0 1 hX d_M_node_182 rfl rfl fi_M (by decide) fl_M_13 rfl rfl ?_
              refine r_iload_n (i := 1) hX d_M_node_185 rfl rfl ?_
              refine r_iast 2 0 (nn) hX d_M_node_186 rfl rfl rfl (by omega) (by decide) ?_
              refine r_aload_n (i := 0) hX d_M_node_187 rfl rfl ?_
              refine r_get 0 6 hX d_M_node_188 rfl rfl fi_M (by decide) fl_M_29 rfl rfl ?_
              refine r_aload_n (i := 0) hX d_M_node_191 rfl rfl ?_
              refine r_get 0 1 hX d_M_node_192 rfl rfl fi_M (by decide) fl_M_13 rfl rfl ?_
              refine r_iload_n (i := 2) hX d_M_node_195 rfl rfl ?_
              refine r_iast 3 0 (nn) hX d_M_node_196 rfl rfl rfl (by omega) (by decide) ?_
              refine r_aload_n (i := 0) hX d_M_node_197 rfl rfl ?_
              refine r_get 0 7 hX d_M_node_198 rfl rfl fi_M (by decide) fl_M_32 rfl rfl ?_
              refine r_aload_n (i := 0) hX d_M_node_201 rfl rfl ?_
              refine r_get 0 1 hX d_M_node_202 rfl rfl fi_M (by decide) fl_M_13 rfl rfl ?_
              refine r_iload_n (i := 3) hX d_M_node_205 rfl rfl ?_
              refine r_iast 4 0 (nn) hX d_M_node_206 rfl rfl rfl (by omega) (by decide) ?_
              refine r_aload_n (i := 0) hX d_M_node_207 rfl rfl ?_
              refine r_get 0 8 hX d_M_node_208 rfl rfl fi_M (by decide) fl_M_35 rfl rfl ?_
              refine r_aload_n (i := 0) hX d_M_node_211 rfl rfl ?_
              refine r_get 0 1 hX d_M_node_212 rfl rfl fi_M (by decide) fl_M_13 rfl rfl ?_
              refine r_iload hX d_M_node_215 rfl ?_
              refine r_iast 5 0 (nn) hX d_M_node_217 rfl rfl rfl (by omega) (by decide) ?_
              refine r_aload_n (i := 0) hX d_M_node_218 rfl rfl ?_
              refine r_get 0 9 hX d_M_node_219 rfl rfl fi_M (by decide) fl_M_38 rfl rfl ?_
              refine r_aload_n (i := 0) hX d_M_node_222 rfl rfl ?_
              refine r_get 0 1 hX d_M_node_223 rfl rfl fi_M (by decide) fl_M_13 rfl rfl ?_
              refine r_iload hX d_M_node_226 rfl ?_
              refine r_iast 6 0 (nn) hX d_M_node_228 rfl rfl rfl (by omega) (by decide) ?_
              refine r_aload_n (i := 0) hX d_M_node_229 rfl rfl ?_
              refine r_get 0 11 hX d_M_node_230 rfl rfl fi_M (by decide) fl_M_44 rfl rfl ?_
              refine r_aload_n (i := 0) hX d_M_node_233 rfl rfl ?_
              refine r_get 0 1 hX d_M_node_234 rfl rfl fi_M (by decide) fl_M_13 rfl rfl ?_
              refine r_iload hX d_M_node_237 rfl ?_
              refine r_iast 8 0 (nn) hX d_M_node_239 rfl rfl rfl (by omega) (by decide) ?_
              refine r_aload_n (i := 0) hX d_M_node_240 rfl rfl ?_
              refine r_get 0 10 hX d_M_node_241 rfl rfl fi_M (by decide) fl_M_41 rfl rfl ?_
              refine r_aload_n (i := 0) hX d_M_node_244 rfl rfl ?_
              refine r_get 0 1 hX d_M_node_245 rfl rfl fi_M (by decide) fl_M_13 rfl rfl ?_
              refine r_iload hX d_M_node_248 rfl ?_
              refine r_iast 7 0 (nn) hX d_M_node_250 rfl rfl rfl (by omega) (by decide) ?_
              refine r_aload_n (i := 0) hX d_M_node_251 rfl rfl ?_
              refine r_get 0 12 hX d_M_node_252 rfl rfl fi_M (by decide) fl_M_47 rfl rfl ?_
              refine r_aload_n (i := 0) hX d_M_node_255 rfl rfl ?_
              refine r_get 0 1 hX d_M_node_256 rfl rfl fi_M (by decide) fl_M_13 rfl rfl ?_
              refine r_iconst (v := nI 0) hX d_M_node_259 (by decide) ?_
              refine r_zast (y := nI 0) 9 1 (nn) hX d_M_node_260 rfl rfl rfl (by omega) (by decide) rfl ?_
              refine r_aload_n (i := 0) hX d_M_node_261 rfl rfl ?_
              refine r_dup hX d_M_node_262 rfl ?_
              refine r_get 0 1 hX d_M_node_263 rfl rfl fi_M (by decide) fl_M_13 rfl rfl ?_
              refine r_iconst (v := nI 1) hX d_M_node_266 (by decide) ?_
              refine r_iadd hX d_M_node_267 ?_
              refine r_top (nI_add _ _) ?_
              refine r_put 0 1 hX d_M_node_268 rfl rfl fi_M ft_M_ok fn_M (by decide) fl_M_13 rfl rfl rfl rfl rfl (Nat.le_of_ble_eq_true rfl) ?_
              refine r_aload_n (i := 0) hX d_M_node_271 rfl rfl ?_
              refine r_get 0 1 hX d_M_node_272 rfl rfl fi_M (by decide) fl_M_13 rfl rfl ?_
              refine r_iconst (v := nI 1) hX d_M_node_275 (by decide) ?_
              refine r_isub hX d_M_node_276 ?_
              refine r_top (pk_sub (by omega)) ?_
              exact r_iret (mkU mf nn (nI 12) (nI ja) (nI jb) c B W L (upd (upd (mf 7) ja (nI 1)) jb (nI 1))) hX hF d_M_node_277 (mkU_post hn (by rw [hkk, hB]) (by rw [hkk, hW]) (by rw [hkk, hL]) (by rw [hkk, show opsN 12 = 3 from rfl]; simp [useN, nfU, opN_nI (show ja < 2 ^ 31 by omega), opN_nI (show jb < 2 ^ 31 by omega)])) (by rw [hn]; rfl) (by rw [hn]; rfl)
            · have hn : nodeOk nn mf (nI 12) (nI ja) (nI jb) c = false := by simp [nodeOk, hkk, hL, c128]
              refine r_iconst (v := -1) hX d_M_node_131 (by decide) ?_
              exact r_iret mf hX hF d_M_node_132 (bad hn) (by rw [hn]; rfl) (by rw [hn]; rfl)
      · have hn : nodeOk nn mf (nI 12) a b c = false := by
          have := (nI_eq (by omega) (by decide)).mp c28
          simp [nodeOk, this]
        refine r_iconst (v := -1) hX d_M_node_31 (by decide) ?_
        exact r_iret mf hX hF d_M_node_32 (bad hn) (by rw [hn]; rfl) (by rw [hn]; rfl)
  ·
    refine r_iload_n (i := 1) hX d_M_node_0 rfl rfl ?_
    refine r_if_lt 31 hX d_M_node_1 (by decide) (fun c1 => absurd c1 (by decide)) (fun c1 => ?_)
    refine r_iload_n (i := 1) hX d_M_node_4 rfl rfl ?_
    refine r_bipush (v := nI 21) hX d_M_node_5 (by decide) ?_
    refine r_icmp_gt 31 hX d_M_node_7 (by decide) (fun c7 => absurd c7 (by decide)) (fun c7 => ?_)
    refine r_aload_n (i := 0) hX d_M_node_10 rfl rfl ?_
    refine r_iload_n (i := 1) hX d_M_node_11 rfl rfl ?_
    refine r_iload_n (i := 2) hX d_M_node_12 rfl rfl ?_
    refine r_iload_n (i := 3) hX d_M_node_13 rfl rfl ?_
    refine r_iload hX d_M_node_14 rfl ?_
    refine r_callVwi (q0 := 0) hX d_M_node_16 cw_M_fits ml_M_85 (c_M_fits 13 a b c (by decide) hnn) (Or.inl rfl) rfl rfl rfl rfl (by decide) (Nat.le_of_ble_eq_true rfl) (fun _ => rfl) (fun _ _ => ?_)
    refine r_if_eq 31 hX d_M_node_19 (by decide) (fun c19 => ?_) (fun c19 => ?_)
    · have hn : nodeOk nn mf (nI 13) a b c = false := by
        have h9 := bI_0 c19
        simp only [fitK, Bool.and_eq_false_iff] at h9
        rcases h9 with h9 | h9 <;> simp [nodeOk, hkk, h9]
      refine r_iconst (v := -1) hX d_M_node_31 (by decide) ?_
      exact r_iret mf hX hF d_M_node_32 (bad hn) (by rw [hn]; rfl) (by rw [hn]; rfl)
    · refine r_aload_n (i := 0) hX d_M_node_22 rfl rfl ?_
      refine r_get 0 1 hX d_M_node_23 rfl rfl fi_M (by decide) fl_M_13 rfl rfl ?_
      refine r_bipush (v := nI 60) hX d_M_node_26 (by decide) ?_
      refine r_icmp_ne 33 hX d_M_node_28 (by decide) (fun c28 => ?_) (fun c28 => ?_)
      · have hlt : nn < 60 := by
          rcases Nat.lt_or_ge nn 60 with h | h
          · exact h
          · exact absurd (by rw [show nn = 60 by omega]) c28
        have h9 := bI_1 c19
        simp only [fitK, Bool.and_eq_true] at h9
        obtain ⟨hpl, hfit⟩ := h9
        have hoN := mfit_k (by decide) hfit hnn
        have hops := hoN.ops hnn
        obtain ⟨ja, hja, rfl⟩ := hoN.1 (by decide)
        obtain ⟨jb, hjb, rfl⟩ := hoN.2.1 (by decide)
        refine r_aload_n (i := 0) hX d_M_node_33 rfl rfl ?_
        refine r_iload_n (i := 1) hX d_M_node_34 rfl rfl ?_
        refine r_iload_n (i := 2) hX d_M_node_35 rfl rfl ?_
        refine r_iload_n (i := 3) hX d_M_node_36 rfl rfl ?_
        refine r_iload hX d_M_node_37 rfl ?_
        refine r_callVwi (q0 := 0) hX d_M_node_39 cw_M_boundOf ml_M_89 (c_M_boundOf 13 (nI ja) (nI jb) c (by decide) hops) (Or.inl rfl) rfl rfl rfl rfl (by decide) (Nat.le_of_ble_eq_true rfl) (fun _ => rfl) (fun _ _ => ?_)
        generalize hB : bndF mf 13 (nI ja) (nI jb) c = B
        refine r_istore hX d_M_node_42 (by decide) ?_
        refine r_iconst (v := nI 0) hX d_M_node_44 (by decide) ?_
        refine r_istore hX d_M_node_45 (by decide) ?_
        refine r_aload_n (i := 0) hX d_M_node_47 rfl rfl ?_
        refine r_iload hX d_M_node_48 rfl ?_
        refine r_aload_n (i := 0) hX d_M_node_50 rfl rfl ?_
        refine r_iload_n (i := 1) hX d_M_node_51 rfl rfl ?_
        refine r_callVwi (q0 := 0) hX d_M_node_52 cw_M_namesA ml_M_79 (c_M_namesA 13 (by decide)) (Or.inl rfl) rfl rfl rfl rfl (by decide) (Nat.le_of_ble_eq_true rfl) (fun _ => rfl) (fun _ _ => ?_)
        refine r_iload_n (i := 2) hX d_M_node_55 rfl rfl ?_
        refine r_callVwi (q0 := 0) hX d_M_node_56 cw_M_higher ml_M_93 (c_M_higher (nI 0) (nI ja) (nmA 13) (fun q => ⟨ja, by omega, rfl⟩)) (Or.inl rfl) rfl rfl rfl rfl (by decide) (Nat.le_of_ble_eq_true rfl) (fun _ => rfl) (fun _ _ => ?_)
        refine r_top (y := mx (nI 0) (mf 6 ja)) (by simp [nmA, opN_nI (show ja < 2 ^ 31 by omega), opN_nI (show jb < 2 ^ 31 by omega)]) ?_
        refine r_istore hX d_M_node_59 (by decide) ?_
        refine r_aload_n (i := 0) hX d_M_node_61 rfl rfl ?_
        refine r_iload hX d_M_node_62 rfl ?_
        refine r_aload_n (i := 0) hX d_M_node_64 rfl rfl ?_
        refine r_iload_n (i := 1) hX d_M_node_65 rfl rfl ?_
        refine r_callVwi (q0 := 0) hX d_M_node_66 cw_M_namesB ml_M_82 (c_M_namesB 13 (by decide)) (Or.inl rfl) rfl rfl rfl rfl (by decide) (Nat.le_of_ble_eq_true rfl) (fun _ => rfl) (fun _ _ => ?_)
        refine r_iload_n (i := 3) hX d_M_node_69 rfl rfl ?_
        refine r_callVwi (q0 := 0) hX d_M_node_70 cw_M_higher ml_M_93 (c_M_higher (mx (nI 0) (mf 6 ja)) (nI jb) (nmB 13) (fun q => ⟨jb, by omega, rfl⟩)) (Or.inl rfl) rfl rfl rfl rfl (by decide) (Nat.le_of_ble_eq_true rfl) (fun _ => rfl) (fun _ _ => ?_)
        refine r_top (y := mx (mx (nI 0) (mf 6 ja)) (mf 6 jb)) (by simp [nmB, opN_nI (show ja < 2 ^ 31 by omega), opN_nI (show jb < 2 ^ 31 by omega)]) ?_
        refine r_istore hX d_M_node_73 (by decide) ?_
        refine r_iconst (v := nI 1) hX d_M_node_75 (by decide) ?_
        refine r_aload_n (i := 0) hX d_M_node_76 rfl rfl ?_
        refine r_iload hX d_M_node_77 rfl ?_
        refine r_iload_n (i := 1) hX d_M_node_79 rfl rfl ?_
        refine r_bipush (v := nI 19) hX d_M_node_80 (by decide) ?_
        refine r_icmp_ne 89 hX d_M_node_82 (by decide) (fun c82 => ?_) (fun c82 => absurd c82 (by decide))
        refine r_iconst (v := nI 0) hX d_M_node_89 (by decide) ?_
        refine r_iload hX d_M_node_90 rfl ?_
        refine r_callVwi (q0 := 0) hX d_M_node_92 cw_M_higher ml_M_93 (c_M_higher (mx (mx (nI 0) (mf 6 ja)) (mf 6 jb)) c false (fun q => absurd q (by decide))) (Or.inl rfl) rfl rfl rfl rfl (by decide) (Nat.le_of_ble_eq_true rfl) (fun _ => rfl) (fun _ _ => ?_)
        refine r_top (y := mx (mx (nI 0) (mf 6 ja)) (mf 6 jb)) (by simp [opN_nI (show ja < 2 ^ 31 by omega), opN_nI (show jb < 2 ^ 31 by omega)]) ?_
        refine r_iadd hX d_M_node_95 ?_
        refine r_top (y := lvF mf (opsN 13) (nI ja) (nI jb) c) (by rw [show opsN 13 = 3 from rfl]; simp [lvF, opN_nI (show ja < 2 ^ 31 by omega), opN_nI (show jb < 2 ^ 31 by omega)]; rw [Int32.add_comm]) ?_
        generalize hL : lvF mf (opsN 13) (nI ja) (nI jb) c = L
        refine r_istore hX d_M_node_96 (by decide) ?_
        refine r_aload_n (i := 0) hX d_M_node_98 rfl rfl ?_
        refine r_iload_n (i := 1) hX d_M_node_99 rfl rfl ?_
        refine r_iload_n (i := 2) hX d_M_node_100 rfl rfl ?_
        refine r_iload_n (i := 3) hX d_M_node_101 rfl rfl ?_
        refine r_iload hX d_M_node_102 rfl ?_
        refine r_callVwi (q0 := 0) hX d_M_node_104 cw_M_workOf ml_M_97 (c_M_workOf 13 (nI ja) (nI jb) c (by decide) hops) (Or.inl rfl) rfl rfl rfl rfl (by decide) (Nat.le_of_ble_eq_true rfl) (fun _ => rfl) (fun _ _ => ?_)
        generalize hW : wkF mf 13 (nI ja) (nI jb) c = W
        refine r_istore hX d_M_node_107 (by decide) ?_
        refine r_iload hX d_M_node_109 rfl ?_
        refine r_bipush (v := nI 64) hX d_M_node_111 (by decide) ?_
        refine r_icmp_gt 131 hX d_M_node_113 (by decide) (fun c113 => ?_) (fun c113 => ?_)
        · have hn : nodeOk nn mf (nI 13) (nI ja) (nI jb) c = false := by simp [nodeOk, hkk, hB, c113]
          refine r_iconst (v := -1) hX d_M_node_131 (by decide) ?_
          exact r_iret mf hX hF d_M_node_132 (bad hn) (by rw [hn]; rfl) (by rw [hn]; rfl)
        · refine r_iload hX d_M_node_116 rfl ?_
          refine r_sipush (v := nI 2000) hX d_M_node_118 (by decide) ?_
          refine r_icmp_gt 131 hX d_M_node_121 (by decide) (fun c121 => ?_) (fun c121 => ?_)
          · have hn : nodeOk nn mf (nI 13) (nI ja) (nI jb) c = false := by simp [nodeOk, hkk, hW, c121]
            refine r_iconst (v := -1) hX d_M_node_131 (by decide) ?_
            exact r_iret mf hX hF d_M_node_132 (bad hn) (by rw [hn]; rfl) (by rw [hn]; rfl)
          · refine r_iload hX d_M_node_124 rfl ?_
            refine r_bipush (v := nI 8) hX d_M_node_126 (by decide) ?_
            refine r_icmp_le 133 hX d_M_node_128 (by decide) (fun c128 => ?_) (fun c128 => ?_)
            · have hn : nodeOk nn mf (nI 13) (nI ja) (nI jb) c = true := by simp [nodeOk, hkk, hB, hW, hL, hx0, hx1, c113, c121, c128, hlt, hpl, hfit]
              refine r_aload_n (i := 0) hX d_M_node_133 rfl rfl ?_
              refine r_iload_n (i := 1) hX d_M_node_134 rfl rfl ?_
              refine r_callVwi (q0 := 0) hX d_M_node_135 cw_M_namesA ml_M_79 (c_M_namesA 13 (by decide)) (Or.inl rfl) rfl rfl rfl rfl (by decide) (Nat.le_of_ble_eq_true rfl) (fun _ => rfl) (fun _ _ => ?_)
              refine r_if_eq 148 hX d_M_node_138 (by decide) (fun c138 => absurd c138 (by decide)) (fun c138 => ?_)
              refine r_aload_n (i := 0) hX d_M_node_141 rfl rfl ?_
              refine r_get 0 12 hX d_M_node_142 rfl rfl fi_M (by decide) fl_M_47 rfl rfl ?_
              refine r_iload_n (i := 2) hX d_M_node_145 rfl rfl ?_
              refine r_iconst (v := nI 1) hX d_M_node_146 (by decide) ?_
              refine r_zast (y := nI 1) 9 1 (ja) hX d_M_node_147 rfl rfl rfl (by omega) (by decide) rfl ?_
              refine r_ws (ws' := WM am cI cZ tl nn rs ae dp tx (m7 mf (upd (mf 7) ja (nI 1))) rw sz nv ph tu sv) rfl ?_
              refine r_aload_n (i := 0) hX d_M_node_148 rfl rfl ?_
              refine r_iload_n (i := 1) hX d_M_node_149 rfl rfl ?_
              refine r_callVwi (q0 := 0) hX d_M_node_150 cw_M_namesB ml_M_82 (c_M_namesB 13 (by decide)) (Or.inl rfl) rfl rfl rfl rfl (by decide) (Nat.le_of_ble_eq_true rfl) (fun _ => rfl) (fun _ _ => ?_)
              refine r_if_eq 163 hX d_M_node_153 (by decide) (fun c153 => absurd c153 (by decide)) (fun c153 => ?_)
              refine r_aload_n (i := 0) hX d_M_node_156 rfl rfl ?_
              refine r_get 0 12 hX d_M_node_157 rfl rfl fi_M (by decide) fl_M_47 rfl rfl ?_
              refine r_iload_n (i := 3) hX d_M_node_160 rfl rfl ?_
              refine r_iconst (v := nI 1) hX d_M_node_161 (by decide) ?_
              refine r_zast (y := nI 1) 9 1 (jb) hX d_M_node_162 rfl rfl rfl (by omega) (by decide) rfl ?_
              refine r_iload_n (i := 1) hX d_M_node_163 rfl rfl ?_
              refine r_bipush (v := nI 19) hX d_M_node_164 (by decide) ?_
              refine r_icmp_ne 177 hX d_M_node_166 (by decide) (fun c166 => ?_) (fun c166 => absurd c166 (by decide))
              refine r_aload_n (i := 0) hX d_M_node_177 rfl rfl ?_
              refine r_get 0 5 hX d_M_node_178 rfl rfl fi_M (by decide) fl_M_26 rfl rfl ?_
              refine r_aload_n (i := 0) hX d_M_node_181 rfl rfl ?_
              refine r_get 0 1 hX d_M_node_182 rfl rfl fi_M (by decide) fl_M_13 rfl rfl ?_
              refine r_iload_n (i := 1) hX d_M_node_185 rfl rfl ?_
              refine r_iast 2 0 (nn) hX d_M_node_186 rfl rfl rfl (by omega) (by decide) ?_
              refine r_aload_n (i := 0) hX d_M_node_187 rfl rfl ?_
              refine r_get 0 6 hX d_M_node_188 rfl rfl fi_M (by decide) fl_M_29 rfl rfl ?_
              refine r_aload_n (i := 0) hX d_M_node_191 rfl rfl ?_
              refine r_get 0 1 hX d_M_node_192 rfl rfl fi_M (by decide) fl_M_13 rfl rfl ?_
              refine r_iload_n (i := 2) hX d_M_node_195 rfl rfl ?_
              refine r_iast 3 0 (nn) hX d_M_node_196 rfl rfl rfl (by omega) (by decide) ?_
              refine r_aload_n (i := 0) hX d_M_node_197 rfl rfl ?_
              refine r_get 0 7 hX d_M_node_198 rfl rfl fi_M (by decide) fl_M_32 rfl rfl ?_
              refine r_aload_n (i := 0) hX d_M_node_201 rfl rfl ?_
              refine r_get 0 1 hX d_M_node_202 rfl rfl fi_M (by decide) fl_M_13 rfl rfl ?_
              refine r_iload_n (i := 3) hX d_M_node_205 rfl rfl ?_
              refine r_iast 4 0 (nn) hX d_M_node_206 rfl rfl rfl (by omega) (by decide) ?_
              refine r_aload_n (i := 0) hX d_M_node_207 rfl rfl ?_
              refine r_get 0 8 hX d_M_node_208 rfl rfl fi_M (by decide) fl_M_35 rfl rfl ?_
              refine r_aload_n (i := 0) hX d_M_node_211 rfl rfl ?_
              refine r_get 0 1 hX d_M_node_212 rfl rfl fi_M (by decide) fl_M_13 rfl rfl ?_
              refine r_iload hX d_M_node_215 rfl ?_
              refine r_iast 5 0 (nn) hX d_M_node_217 rfl rfl rfl (by omega) (by decide) ?_
              refine r_aload_n (i := 0) hX d_M_node_218 rfl rfl ?_
              refine r_get 0 9 hX d_M_node_219 rfl rfl fi_M (by decide) fl_M_38 rfl rfl ?_
              refine r_aload_n (i := 0) hX d_M_node_222 rfl rfl ?_
              refine r_get 0 1 hX d_M_node_223 rfl rfl fi_M (by decide) fl_M_13 rfl rfl ?_
              refine r_iload hX d_M_node_226 rfl ?_
              refine r_iast 6 0 (nn) hX d_M_node_228 rfl rfl rfl (by omega) (by decide) ?_
              refine r_aload_n (i := 0) hX d_M_node_229 rfl rfl ?_
              refine r_get 0 11 hX d_M_node_230 rfl rfl fi_M (by decide) fl_M_44 rfl rfl ?_
              refine r_aload_n (i := 0) hX d_M_node_233 rfl rfl ?_
              refine r_get 0 1 hX d_M_node_234 rfl rfl fi_M (by decide) fl_M_13 rfl rfl ?_
              refine r_iload hX d_M_node_237 rfl ?_
              refine r_iast 8 0 (nn) hX d_M_node_239 rfl rfl rfl (by omega) (by decide) ?_
              refine r_aload_n (i := 0) hX d_M_node_240 rfl rfl ?_
              refine r_get 0 10 hX d_M_node_241 rfl rfl fi_M (by decide) fl_M_41 rfl rfl ?_
              refine r_aload_n (i := 0) hX d_M_node_244 rfl rfl ?_
              refine r_get 0 1 hX d_M_node_245 rfl rfl fi_M (by decide) fl_M_13 rfl rfl ?_
              refine r_iload hX d_M_node_248 rfl ?_
              refine r_iast 7 0 (nn) hX d_M_node_250 rfl rfl rfl (by omega) (by decide) ?_
              refine r_aload_n (i := 0) hX d_M_node_251 rfl rfl ?_
              refine r_get 0 12 hX d_M_node_252 rfl rfl fi_M (by decide) fl_M_47 rfl rfl ?_
              refine r_aload_n (i := 0) hX d_M_node_255 rfl rfl ?_
              refine r_get 0 1 hX d_M_node_256 rfl rfl fi_M (by decide) fl_M_13 rfl rfl ?_
              refine r_iconst (v := nI 0) hX d_M_node_259 (by decide) ?_
              refine r_zast (y := nI 0) 9 1 (nn) hX d_M_node_260 rfl rfl rfl (by omega) (by decide) rfl ?_
              refine r_aload_n (i := 0) hX d_M_node_261 rfl rfl ?_
              refine r_dup hX d_M_node_262 rfl ?_
              refine r_get 0 1 hX d_M_node_263 rfl rfl fi_M (by decide) fl_M_13 rfl rfl ?_
              refine r_iconst (v := nI 1) hX d_M_node_266 (by decide) ?_
              refine r_iadd hX d_M_node_267 ?_
              refine r_top (nI_add _ _) ?_
              refine r_put 0 1 hX d_M_node_268 rfl rfl fi_M ft_M_ok fn_M (by decide) fl_M_13 rfl rfl rfl rfl rfl (Nat.le_of_ble_eq_true rfl) ?_
              refine r_aload_n (i := 0) hX d_M_node_271 rfl rfl ?_
              refine r_get 0 1 hX d_M_node_272 rfl rfl fi_M (by decide) fl_M_13 rfl rfl ?_
              refine r_iconst (v := nI 1) hX d_M_node_275 (by decide) ?_
              refine r_isub hX d_M_node_276 ?_
              refine r_top (pk_sub (by omega)) ?_
              exact r_iret (mkU mf nn (nI 13) (nI ja) (nI jb) c B W L (upd (upd (mf 7) ja (nI 1)) jb (nI 1))) hX hF d_M_node_277 (mkU_post hn (by rw [hkk, hB]) (by rw [hkk, hW]) (by rw [hkk, hL]) (by rw [hkk, show opsN 13 = 3 from rfl]; simp [useN, nfU, opN_nI (show ja < 2 ^ 31 by omega), opN_nI (show jb < 2 ^ 31 by omega)])) (by rw [hn]; rfl) (by rw [hn]; rfl)
            · have hn : nodeOk nn mf (nI 13) (nI ja) (nI jb) c = false := by simp [nodeOk, hkk, hL, c128]
              refine r_iconst (v := -1) hX d_M_node_131 (by decide) ?_
              exact r_iret mf hX hF d_M_node_132 (bad hn) (by rw [hn]; rfl) (by rw [hn]; rfl)
      · have hn : nodeOk nn mf (nI 13) a b c = false := by
          have := (nI_eq (by omega) (by decide)).mp c28
          simp [nodeOk, this]
        refine r_iconst (v := -1) hX d_M_node_31 (by decide) ?_
        exact r_iret mf hX hF d_M_node_32 (bad hn) (by rw [hn]; rfl) (by rw [hn]; rfl)
  ·
    refine r_iload_n (i := 1) hX d_M_node_0 rfl rfl ?_
    refine r_if_lt 31 hX d_M_node_1 (by decide) (fun c1 => absurd c1 (by decide)) (fun c1 => ?_)
    refine r_iload_n (i := 1) hX d_M_node_4 rfl rfl ?_
    refine r_bipush (v := nI 21) hX d_M_node_5 (by decide) ?_
    refine r_icmp_gt 31 hX d_M_node_7 (by decide) (fun c7 => absurd c7 (by decide)) (fun c7 => ?_)
    refine r_aload_n (i := 0) hX d_M_node_10 rfl rfl ?_
    refine r_iload_n (i := 1) hX d_M_node_11 rfl rfl ?_
    refine r_iload_n (i := 2) hX d_M_node_12 rfl rfl ?_
    refine r_iload_n (i := 3) hX d_M_node_13 rfl rfl ?_
    refine r_iload hX d_M_node_14 rfl ?_
    refine r_callVwi (q0 := 0) hX d_M_node_16 cw_M_fits ml_M_85 (c_M_fits 14 a b c (by decide) hnn) (Or.inl rfl) rfl rfl rfl rfl (by decide) (Nat.le_of_ble_eq_true rfl) (fun _ => rfl) (fun _ _ => ?_)
    refine r_if_eq 31 hX d_M_node_19 (by decide) (fun c19 => ?_) (fun c19 => ?_)
    · have hn : nodeOk nn mf (nI 14) a b c = false := by
        have h9 := bI_0 c19
        simp only [fitK, Bool.and_eq_false_iff] at h9
        rcases h9 with h9 | h9 <;> simp [nodeOk, hkk, h9]
      refine r_iconst (v := -1) hX d_M_node_31 (by decide) ?_
      exact r_iret mf hX hF d_M_node_32 (bad hn) (by rw [hn]; rfl) (by rw [hn]; rfl)
    · refine r_aload_n (i := 0) hX d_M_node_22 rfl rfl ?_
      refine r_get 0 1 hX d_M_node_23 rfl rfl fi_M (by decide) fl_M_13 rfl rfl ?_
      refine r_bipush (v := nI 60) hX d_M_node_26 (by decide) ?_
      refine r_icmp_ne 33 hX d_M_node_28 (by decide) (fun c28 => ?_) (fun c28 => ?_)
      · have hlt : nn < 60 := by
          rcases Nat.lt_or_ge nn 60 with h | h
          · exact h
          · exact absurd (by rw [show nn = 60 by omega]) c28
        have h9 := bI_1 c19
        simp only [fitK, Bool.and_eq_true] at h9
        obtain ⟨hpl, hfit⟩ := h9
        have hoN := mfit_k (by decide) hfit hnn
        have hops := hoN.ops hnn
        obtain ⟨ja, hja, rfl⟩ := hoN.1 (by decide)
        obtain ⟨jb, hjb, rfl⟩ := hoN.2.1 (by decide)
        refine r_aload_n (i := 0) hX d_M_node_33 rfl rfl ?_
        refine r_iload_n (i := 1) hX d_M_node_34 rfl rfl ?_
        refine r_iload_n (i := 2) hX d_M_node_35 rfl rfl ?_
        refine r_iload_n (i := 3) hX d_M_node_36 rfl rfl ?_
        refine r_iload hX d_M_node_37 rfl ?_
        refine r_callVwi (q0 := 0) hX d_M_node_39 cw_M_boundOf ml_M_89 (c_M_boundOf 14 (nI ja) (nI jb) c (by decide) hops) (Or.inl rfl) rfl rfl rfl rfl (by decide) (Nat.le_of_ble_eq_true rfl) (fun _ => rfl) (fun _ _ => ?_)
        generalize hB : bndF mf 14 (nI ja) (nI jb) c = B
        refine r_istore hX d_M_node_42 (by decide) ?_
        refine r_iconst (v := nI 0) hX d_M_node_44 (by decide) ?_
        refine r_istore hX d_M_node_45 (by decide) ?_
        refine r_aload_n (i := 0) hX d_M_node_47 rfl rfl ?_
        refine r_iload hX d_M_node_48 rfl ?_
        refine r_aload_n (i := 0) hX d_M_node_50 rfl rfl ?_
        refine r_iload_n (i := 1) hX d_M_node_51 rfl rfl ?_
        refine r_callVwi (q0 := 0) hX d_M_node_52 cw_M_namesA ml_M_79 (c_M_namesA 14 (by decide)) (Or.inl rfl) rfl rfl rfl rfl (by decide) (Nat.le_of_ble_eq_true rfl) (fun _ => rfl) (fun _ _ => ?_)
        refine r_iload_n (i := 2) hX d_M_node_55 rfl rfl ?_
        refine r_callVwi (q0 := 0) hX d_M_node_56 cw_M_higher ml_M_93 (c_M_higher (nI 0) (nI ja) (nmA 14) (fun q => ⟨ja, by omega, rfl⟩)) (Or.inl rfl) rfl rfl rfl rfl (by decide) (Nat.le_of_ble_eq_true rfl) (fun _ => rfl) (fun _ _ => ?_)
        refine r_top (y := mx (nI 0) (mf 6 ja)) (by simp [nmA, opN_nI (show ja < 2 ^ 31 by omega), opN_nI (show jb < 2 ^ 31 by omega)]) ?_
        refine r_istore hX d_M_node_59 (by decide) ?_
        refine r_aload_n (i := 0) hX d_M_node_61 rfl rfl ?_
        refine r_iload hX d_M_node_62 rfl ?_
        refine r_aload_n (i := 0) hX d_M_node_64 rfl rfl ?_
        refine r_iload_n (i := 1) hX d_M_node_65 rfl rfl ?_
        refine r_callVwi (q0 := 0) hX d_M_node_66 cw_M_namesB ml_M_82 (c_M_namesB 14 (by decide)) (Or.inl rfl) rfl rfl rfl rfl (by decide) (Nat.le_of_ble_eq_true rfl) (fun _ => rfl) (fun _ _ => ?_)
        refine r_iload_n (i := 3) hX d_M_node_69 rfl rfl ?_
        refine r_callVwi (q0 := 0) hX d_M_node_70 cw_M_higher ml_M_93 (c_M_higher (mx (nI 0) (mf 6 ja)) (nI jb) (nmB 14) (fun q => ⟨jb, by omega, rfl⟩)) (Or.inl rfl) rfl rfl rfl rfl (by decide) (Nat.le_of_ble_eq_true rfl) (fun _ => rfl) (fun _ _ => ?_)
        refine r_top (y := mx (mx (nI 0) (mf 6 ja)) (mf 6 jb)) (by simp [nmB, opN_nI (show ja < 2 ^ 31 by omega), opN_nI (show jb < 2 ^ 31 by omega)]) ?_
        refine r_istore hX d_M_node_73 (by decide) ?_
        refine r_iconst (v := nI 1) hX d_M_node_75 (by decide) ?_
        refine r_aload_n (i := 0) hX d_M_node_76 rfl rfl ?_
        refine r_iload hX d_M_node_77 rfl ?_
        refine r_iload_n (i := 1) hX d_M_node_79 rfl rfl ?_
        refine r_bipush (v := nI 19) hX d_M_node_80 (by decide) ?_
        refine r_icmp_ne 89 hX d_M_node_82 (by decide) (fun c82 => ?_) (fun c82 => absurd c82 (by decide))
        refine r_iconst (v := nI 0) hX d_M_node_89 (by decide) ?_
        refine r_iload hX d_M_node_90 rfl ?_
        refine r_callVwi (q0 := 0) hX d_M_node_92 cw_M_higher ml_M_93 (c_M_higher (mx (mx (nI 0) (mf 6 ja)) (mf 6 jb)) c false (fun q => absurd q (by decide))) (Or.inl rfl) rfl rfl rfl rfl (by decide) (Nat.le_of_ble_eq_true rfl) (fun _ => rfl) (fun _ _ => ?_)
        refine r_top (y := mx (mx (nI 0) (mf 6 ja)) (mf 6 jb)) (by simp [opN_nI (show ja < 2 ^ 31 by omega), opN_nI (show jb < 2 ^ 31 by omega)]) ?_
        refine r_iadd hX d_M_node_95 ?_
        refine r_top (y := lvF mf (opsN 14) (nI ja) (nI jb) c) (by rw [show opsN 14 = 3 from rfl]; simp [lvF, opN_nI (show ja < 2 ^ 31 by omega), opN_nI (show jb < 2 ^ 31 by omega)]; rw [Int32.add_comm]) ?_
        generalize hL : lvF mf (opsN 14) (nI ja) (nI jb) c = L
        refine r_istore hX d_M_node_96 (by decide) ?_
        refine r_aload_n (i := 0) hX d_M_node_98 rfl rfl ?_
        refine r_iload_n (i := 1) hX d_M_node_99 rfl rfl ?_
        refine r_iload_n (i := 2) hX d_M_node_100 rfl rfl ?_
        refine r_iload_n (i := 3) hX d_M_node_101 rfl rfl ?_
        refine r_iload hX d_M_node_102 rfl ?_
        refine r_callVwi (q0 := 0) hX d_M_node_104 cw_M_workOf ml_M_97 (c_M_workOf 14 (nI ja) (nI jb) c (by decide) hops) (Or.inl rfl) rfl rfl rfl rfl (by decide) (Nat.le_of_ble_eq_true rfl) (fun _ => rfl) (fun _ _ => ?_)
        generalize hW : wkF mf 14 (nI ja) (nI jb) c = W
        refine r_istore hX d_M_node_107 (by decide) ?_
        refine r_iload hX d_M_node_109 rfl ?_
        refine r_bipush (v := nI 64) hX d_M_node_111 (by decide) ?_
        refine r_icmp_gt 131 hX d_M_node_113 (by decide) (fun c113 => ?_) (fun c113 => ?_)
        · have hn : nodeOk nn mf (nI 14) (nI ja) (nI jb) c = false := by simp [nodeOk, hkk, hB, c113]
          refine r_iconst (v := -1) hX d_M_node_131 (by decide) ?_
          exact r_iret mf hX hF d_M_node_132 (bad hn) (by rw [hn]; rfl) (by rw [hn]; rfl)
        · refine r_iload hX d_M_node_116 rfl ?_
          refine r_sipush (v := nI 2000) hX d_M_node_118 (by decide) ?_
          refine r_icmp_gt 131 hX d_M_node_121 (by decide) (fun c121 => ?_) (fun c121 => ?_)
          · have hn : nodeOk nn mf (nI 14) (nI ja) (nI jb) c = false := by simp [nodeOk, hkk, hW, c121]
            refine r_iconst (v := -1) hX d_M_node_131 (by decide) ?_
            exact r_iret mf hX hF d_M_node_132 (bad hn) (by rw [hn]; rfl) (by rw [hn]; rfl)
          · refine r_iload hX d_M_node_124 rfl ?_
            refine r_bipush (v := nI 8) hX d_M_node_126 (by decide) ?_
            refine r_icmp_le 133 hX d_M_node_128 (by decide) (fun c128 => ?_) (fun c128 => ?_)
            · have hn : nodeOk nn mf (nI 14) (nI ja) (nI jb) c = true := by simp [nodeOk, hkk, hB, hW, hL, hx0, hx1, c113, c121, c128, hlt, hpl, hfit]
              refine r_aload_n (i := 0) hX d_M_node_133 rfl rfl ?_
              refine r_iload_n (i := 1) hX d_M_node_134 rfl rfl ?_
              refine r_callVwi (q0 := 0) hX d_M_node_135 cw_M_namesA ml_M_79 (c_M_namesA 14 (by decide)) (Or.inl rfl) rfl rfl rfl rfl (by decide) (Nat.le_of_ble_eq_true rfl) (fun _ => rfl) (fun _ _ => ?_)
              refine r_if_eq 148 hX d_M_node_138 (by decide) (fun c138 => absurd c138 (by decide)) (fun c138 => ?_)
              refine r_aload_n (i := 0) hX d_M_node_141 rfl rfl ?_
              refine r_get 0 12 hX d_M_node_142 rfl rfl fi_M (by decide) fl_M_47 rfl rfl ?_
              refine r_iload_n (i := 2) hX d_M_node_145 rfl rfl ?_
              refine r_iconst (v := nI 1) hX d_M_node_146 (by decide) ?_
              refine r_zast (y := nI 1) 9 1 (ja) hX d_M_node_147 rfl rfl rfl (by omega) (by decide) rfl ?_
              refine r_ws (ws' := WM am cI cZ tl nn rs ae dp tx (m7 mf (upd (mf 7) ja (nI 1))) rw sz nv ph tu sv) rfl ?_
              refine r_aload_n (i := 0) hX d_M_node_148 rfl rfl ?_
              refine r_iload_n (i := 1) hX d_M_node_149 rfl rfl ?_
              refine r_callVwi (q0 := 0) hX d_M_node_150 cw_M_namesB ml_M_82 (c_M_namesB 14 (by decide)) (Or.inl rfl) rfl rfl rfl rfl (by decide) (Nat.le_of_ble_eq_true rfl) (fun _ => rfl) (fun _ _ => ?_)
              refine r_if_eq 163 hX d_M_node_153 (by decide) (fun c153 => absurd c153 (by decide)) (fun c153 => ?_)
              refine r_aload_n (i := 0) hX d_M_node_156 rfl rfl ?_
              refine r_get 0 12 hX d_M_node_157 rfl rfl fi_M (by decide) fl_M_47 rfl rfl ?_
              refine r_iload_n (i := 3) hX d_M_node_160 rfl rfl ?_
              refine r_iconst (v := nI 1) hX d_M_node_161 (by decide) ?_
              refine r_zast (y := nI 1) 9 1 (jb) hX d_M_node_162 rfl rfl rfl (by omega) (by decide) rfl ?_
              refine r_iload_n (i := 1) hX d_M_node_163 rfl rfl ?_
              refine r_bipush (v := nI 19) hX d_M_node_164 (by decide) ?_
              refine r_icmp_ne 177 hX d_M_node_166 (by decide) (fun c166 => ?_) (fun c166 => absurd c166 (by decide))
              refine r_aload_n (i := 0) hX d_M_node_177 rfl rfl ?_
              refine r_get 0 5 hX d_M_node_178 rfl rfl fi_M (by decide) fl_M_26 rfl rfl ?_
              refine r_aload_n (i := 0) hX d_M_node_181 rfl rfl ?_
              refine r_get 0 1 hX d_M_node_182 rfl rfl fi_M (by decide) fl_M_13 rfl rfl ?_
              refine r_iload_n (i := 1) hX d_M_node_185 rfl rfl ?_
              refine r_iast 2 0 (nn) hX d_M_node_186 rfl rfl rfl (by omega) (by decide) ?_
              refine r_aload_n (i := 0) hX d_M_node_187 rfl rfl ?_
              refine r_get 0 6 hX d_M_node_188 rfl rfl fi_M (by decide) fl_M_29 rfl rfl ?_
              refine r_aload_n (i := 0) hX d_M_node_191 rfl rfl ?_
              refine r_get 0 1 hX d_M_node_192 rfl rfl fi_M (by decide) fl_M_13 rfl rfl ?_
              refine r_iload_n (i := 2) hX d_M_node_195 rfl rfl ?_
              refine r_iast 3 0 (nn) hX d_M_node_196 rfl rfl rfl (by omega) (by decide) ?_
              refine r_aload_n (i := 0) hX d_M_node_197 rfl rfl ?_
              refine r_get 0 7 hX d_M_node_198 rfl rfl fi_M (by decide) fl_M_32 rfl rfl ?_
              refine r_aload_n (i := 0) hX d_M_node_201 rfl rfl ?_
              refine r_get 0 1 hX d_M_node_202 rfl rfl fi_M (by decide) fl_M_13 rfl rfl ?_
              refine r_iload_n (i := 3) hX d_M_node_205 rfl rfl ?_
              refine r_iast 4 0 (nn) hX d_M_node_206 rfl rfl rfl (by omega) (by decide) ?_
              refine r_aload_n (i := 0) hX d_M_node_207 rfl rfl ?_
              refine r_get 0 8 hX d_M_node_208 rfl rfl fi_M (by decide) fl_M_35 rfl rfl ?_
              refine r_aload_n (i := 0) hX d_M_node_211 rfl rfl ?_
              refine r_get 0 1 hX d_M_node_212 rfl rfl fi_M (by decide) fl_M_13 rfl rfl ?_
              refine r_iload hX d_M_node_215 rfl ?_
              refine r_iast 5 0 (nn) hX d_M_node_217 rfl rfl rfl (by omega) (by decide) ?_
              refine r_aload_n (i := 0) hX d_M_node_218 rfl rfl ?_
              refine r_get 0 9 hX d_M_node_219 rfl rfl fi_M (by decide) fl_M_38 rfl rfl ?_
              refine r_aload_n (i := 0) hX d_M_node_222 rfl rfl ?_
              refine r_get 0 1 hX d_M_node_223 rfl rfl fi_M (by decide) fl_M_13 rfl rfl ?_
              refine r_iload hX d_M_node_226 rfl ?_
              refine r_iast 6 0 (nn) hX d_M_node_228 rfl rfl rfl (by omega) (by decide) ?_
              refine r_aload_n (i := 0) hX d_M_node_229 rfl rfl ?_
              refine r_get 0 11 hX d_M_node_230 rfl rfl fi_M (by decide) fl_M_44 rfl rfl ?_
              refine r_aload_n (i := 0) hX d_M_node_233 rfl rfl ?_
              refine r_get 0 1 hX d_M_node_234 rfl rfl fi_M (by decide) fl_M_13 rfl rfl ?_
              refine r_iload hX d_M_node_237 rfl ?_
              refine r_iast 8 0 (nn) hX d_M_node_239 rfl rfl rfl (by omega) (by decide) ?_
              refine r_aload_n (i := 0) hX d_M_node_240 rfl rfl ?_
              refine r_get 0 10 hX d_M_node_241 rfl rfl fi_M (by decide) fl_M_41 rfl rfl ?_
              refine r_aload_n (i := 0) hX d_M_node_244 rfl rfl ?_
              refine r_get 0 1 hX d_M_node_245 rfl rfl fi_M (by decide) fl_M_13 rfl rfl ?_
              refine r_iload hX d_M_node_248 rfl ?_
              refine r_iast 7 0 (nn) hX d_M_node_250 rfl rfl rfl (by omega) (by decide) ?_
              refine r_aload_n (i := 0) hX d_M_node_251 rfl rfl ?_
              refine r_get 0 12 hX d_M_node_252 rfl rfl fi_M (by decide) fl_M_47 rfl rfl ?_
              refine r_aload_n (i := 0) hX d_M_node_255 rfl rfl ?_
              refine r_get 0 1 hX d_M_node_256 rfl rfl fi_M (by decide) fl_M_13 rfl rfl ?_
              refine r_iconst (v := nI 0) hX d_M_node_259 (by decide) ?_
              refine r_zast (y := nI 0) 9 1 (nn) hX d_M_node_260 rfl rfl rfl (by omega) (by decide) rfl ?_
              refine r_aload_n (i := 0) hX d_M_node_261 rfl rfl ?_
              refine r_dup hX d_M_node_262 rfl ?_
              refine r_get 0 1 hX d_M_node_263 rfl rfl fi_M (by decide) fl_M_13 rfl rfl ?_
              refine r_iconst (v := nI 1) hX d_M_node_266 (by decide) ?_
              refine r_iadd hX d_M_node_267 ?_
              refine r_top (nI_add _ _) ?_
              refine r_put 0 1 hX d_M_node_268 rfl rfl fi_M ft_M_ok fn_M (by decide) fl_M_13 rfl rfl rfl rfl rfl (Nat.le_of_ble_eq_true rfl) ?_
              refine r_aload_n (i := 0) hX d_M_node_271 rfl rfl ?_
              refine r_get 0 1 hX d_M_node_272 rfl rfl fi_M (by decide) fl_M_13 rfl rfl ?_
              refine r_iconst (v := nI 1) hX d_M_node_275 (by decide) ?_
              refine r_isub hX d_M_node_276 ?_
              refine r_top (pk_sub (by omega)) ?_
              exact r_iret (mkU mf nn (nI 14) (nI ja) (nI jb) c B W L (upd (upd (mf 7) ja (nI 1)) jb (nI 1))) hX hF d_M_node_277 (mkU_post hn (by rw [hkk, hB]) (by rw [hkk, hW]) (by rw [hkk, hL]) (by rw [hkk, show opsN 14 = 3 from rfl]; simp [useN, nfU, opN_nI (show ja < 2 ^ 31 by omega), opN_nI (show jb < 2 ^ 31 by omega)])) (by rw [hn]; rfl) (by rw [hn]; rfl)
            · have hn : nodeOk nn mf (nI 14) (nI ja) (nI jb) c = false := by simp [nodeOk, hkk, hL, c128]
              refine r_iconst (v := -1) hX d_M_node_131 (by decide) ?_
              exact r_iret mf hX hF d_M_node_132 (bad hn) (by rw [hn]; rfl) (by rw [hn]; rfl)
      · have hn : nodeOk nn mf (nI 14) a b c = false := by
          have := (nI_eq (by omega) (by decide)).mp c28
          simp [nodeOk, this]
        refine r_iconst (v := -1) hX d_M_node_31 (by decide) ?_
        exact r_iret mf hX hF d_M_node_32 (bad hn) (by rw [hn]; rfl) (by rw [hn]; rfl)
  ·
    refine r_iload_n (i := 1) hX d_M_node_0 rfl rfl ?_
    refine r_if_lt 31 hX d_M_node_1 (by decide) (fun c1 => absurd c1 (by decide)) (fun c1 => ?_)
    refine r_iload_n (i := 1) hX d_M_node_4 rfl rfl ?_
    refine r_bipush (v := nI 21) hX d_M_node_5 (by decide) ?_
    refine r_icmp_gt 31 hX d_M_node_7 (by decide) (fun c7 => absurd c7 (by decide)) (fun c7 => ?_)
    refine r_aload_n (i := 0) hX d_M_node_10 rfl rfl ?_
    refine r_iload_n (i := 1) hX d_M_node_11 rfl rfl ?_
    refine r_iload_n (i := 2) hX d_M_node_12 rfl rfl ?_
    refine r_iload_n (i := 3) hX d_M_node_13 rfl rfl ?_
    refine r_iload hX d_M_node_14 rfl ?_
    refine r_callVwi (q0 := 0) hX d_M_node_16 cw_M_fits ml_M_85 (c_M_fits 15 a b c (by decide) hnn) (Or.inl rfl) rfl rfl rfl rfl (by decide) (Nat.le_of_ble_eq_true rfl) (fun _ => rfl) (fun _ _ => ?_)
    refine r_if_eq 31 hX d_M_node_19 (by decide) (fun c19 => ?_) (fun c19 => ?_)
    · have hn : nodeOk nn mf (nI 15) a b c = false := by
        have h9 := bI_0 c19
        simp only [fitK, Bool.and_eq_false_iff] at h9
        rcases h9 with h9 | h9 <;> simp [nodeOk, hkk, h9]
      refine r_iconst (v := -1) hX d_M_node_31 (by decide) ?_
      exact r_iret mf hX hF d_M_node_32 (bad hn) (by rw [hn]; rfl) (by rw [hn]; rfl)
    · refine r_aload_n (i := 0) hX d_M_node_22 rfl rfl ?_
      refine r_get 0 1 hX d_M_node_23 rfl rfl fi_M (by decide) fl_M_13 rfl rfl ?_
      refine r_bipush (v := nI 60) hX d_M_node_26 (by decide) ?_
      refine r_icmp_ne 33 hX d_M_node_28 (by decide) (fun c28 => ?_) (fun c28 => ?_)
      · have hlt : nn < 60 := by
          rcases Nat.lt_or_ge nn 60 with h | h
          · exact h
          · exact absurd (by rw [show nn = 60 by omega]) c28
        have h9 := bI_1 c19
        simp only [fitK, Bool.and_eq_true] at h9
        obtain ⟨hpl, hfit⟩ := h9
        have hoN := mfit_k (by decide) hfit hnn
        have hops := hoN.ops hnn
        obtain ⟨ja, hja, rfl⟩ := hoN.1 (by decide)
        obtain ⟨jb, hjb, rfl⟩ := hoN.2.1 (by decide)
        refine r_aload_n (i := 0) hX d_M_node_33 rfl rfl ?_
        refine r_iload_n (i := 1) hX d_M_node_34 rfl rfl ?_
        refine r_iload_n (i := 2) hX d_M_node_35 rfl rfl ?_
        refine r_iload_n (i := 3) hX d_M_node_36 rfl rfl ?_
        refine r_iload hX d_M_node_37 rfl ?_
        refine r_callVwi (q0 := 0) hX d_M_node_39 cw_M_boundOf ml_M_89 (c_M_boundOf 15 (nI ja) (nI jb) c (by decide) hops) (Or.inl rfl) rfl rfl rfl rfl (by decide) (Nat.le_of_ble_eq_true rfl) (fun _ => rfl) (fun _ _ => ?_)
        generalize hB : bndF mf 15 (nI ja) (nI jb) c = B
        refine r_istore hX d_M_node_42 (by decide) ?_
        refine r_iconst (v := nI 0) hX d_M_node_44 (by decide) ?_
        refine r_istore hX d_M_node_45 (by decide) ?_
        refine r_aload_n (i := 0) hX d_M_node_47 rfl rfl ?_
        refine r_iload hX d_M_node_48 rfl ?_
        refine r_aload_n (i := 0) hX d_M_node_50 rfl rfl ?_
        refine r_iload_n (i := 1) hX d_M_node_51 rfl rfl ?_
        refine r_callVwi (q0 := 0) hX d_M_node_52 cw_M_namesA ml_M_79 (c_M_namesA 15 (by decide)) (Or.inl rfl) rfl rfl rfl rfl (by decide) (Nat.le_of_ble_eq_true rfl) (fun _ => rfl) (fun _ _ => ?_)
        refine r_iload_n (i := 2) hX d_M_node_55 rfl rfl ?_
        refine r_callVwi (q0 := 0) hX d_M_node_56 cw_M_higher ml_M_93 (c_M_higher (nI 0) (nI ja) (nmA 15) (fun q => ⟨ja, by omega, rfl⟩)) (Or.inl rfl) rfl rfl rfl rfl (by decide) (Nat.le_of_ble_eq_true rfl) (fun _ => rfl) (fun _ _ => ?_)
        refine r_top (y := mx (nI 0) (mf 6 ja)) (by simp [nmA, opN_nI (show ja < 2 ^ 31 by omega), opN_nI (show jb < 2 ^ 31 by omega)]) ?_
        refine r_istore hX d_M_node_59 (by decide) ?_
        refine r_aload_n (i := 0) hX d_M_node_61 rfl rfl ?_
        refine r_iload hX d_M_node_62 rfl ?_
        refine r_aload_n (i := 0) hX d_M_node_64 rfl rfl ?_
        refine r_iload_n (i := 1) hX d_M_node_65 rfl rfl ?_
        refine r_callVwi (q0 := 0) hX d_M_node_66 cw_M_namesB ml_M_82 (c_M_namesB 15 (by decide)) (Or.inl rfl) rfl rfl rfl rfl (by decide) (Nat.le_of_ble_eq_true rfl) (fun _ => rfl) (fun _ _ => ?_)
        refine r_iload_n (i := 3) hX d_M_node_69 rfl rfl ?_
        refine r_callVwi (q0 := 0) hX d_M_node_70 cw_M_higher ml_M_93 (c_M_higher (mx (nI 0) (mf 6 ja)) (nI jb) (nmB 15) (fun q => ⟨jb, by omega, rfl⟩)) (Or.inl rfl) rfl rfl rfl rfl (by decide) (Nat.le_of_ble_eq_true rfl) (fun _ => rfl) (fun _ _ => ?_)
        refine r_top (y := mx (mx (nI 0) (mf 6 ja)) (mf 6 jb)) (by simp [nmB, opN_nI (show ja < 2 ^ 31 by omega), opN_nI (show jb < 2 ^ 31 by omega)]) ?_
        refine r_istore hX d_M_node_73 (by decide) ?_
        refine r_iconst (v := nI 1) hX d_M_node_75 (by decide) ?_
        refine r_aload_n (i := 0) hX d_M_node_76 rfl rfl ?_
        refine r_iload hX d_M_node_77 rfl ?_
        refine r_iload_n (i := 1) hX d_M_node_79 rfl rfl ?_
        refine r_bipush (v := nI 19) hX d_M_node_80 (by decide) ?_
        refine r_icmp_ne 89 hX d_M_node_82 (by decide) (fun c82 => ?_) (fun c82 => absurd c82 (by decide))
        refine r_iconst (v := nI 0) hX d_M_node_89 (by decide) ?_
        refine r_iload hX d_M_node_90 rfl ?_
        refine r_callVwi (q0 := 0) hX d_M_node_92 cw_M_higher ml_M_93 (c_M_higher (mx (mx (nI 0) (mf 6 ja)) (mf 6 jb)) c false (fun q => absurd q (by decide))) (Or.inl rfl) rfl rfl rfl rfl (by decide) (Nat.le_of_ble_eq_true rfl) (fun _ => rfl) (fun _ _ => ?_)
        refine r_top (y := mx (mx (nI 0) (mf 6 ja)) (mf 6 jb)) (by simp [opN_nI (show ja < 2 ^ 31 by omega), opN_nI (show jb < 2 ^ 31 by omega)]) ?_
        refine r_iadd hX d_M_node_95 ?_
        refine r_top (y := lvF mf (opsN 15) (nI ja) (nI jb) c) (by rw [show opsN 15 = 3 from rfl]; simp [lvF, opN_nI (show ja < 2 ^ 31 by omega), opN_nI (show jb < 2 ^ 31 by omega)]; rw [Int32.add_comm]) ?_
        generalize hL : lvF mf (opsN 15) (nI ja) (nI jb) c = L
        refine r_istore hX d_M_node_96 (by decide) ?_
        refine r_aload_n (i := 0) hX d_M_node_98 rfl rfl ?_
        refine r_iload_n (i := 1) hX d_M_node_99 rfl rfl ?_
        refine r_iload_n (i := 2) hX d_M_node_100 rfl rfl ?_
        refine r_iload_n (i := 3) hX d_M_node_101 rfl rfl ?_
        refine r_iload hX d_M_node_102 rfl ?_
        refine r_callVwi (q0 := 0) hX d_M_node_104 cw_M_workOf ml_M_97 (c_M_workOf 15 (nI ja) (nI jb) c (by decide) hops) (Or.inl rfl) rfl rfl rfl rfl (by decide) (Nat.le_of_ble_eq_true rfl) (fun _ => rfl) (fun _ _ => ?_)
        generalize hW : wkF mf 15 (nI ja) (nI jb) c = W
        refine r_istore hX d_M_node_107 (by decide) ?_
        refine r_iload hX d_M_node_109 rfl ?_
        refine r_bipush (v := nI 64) hX d_M_node_111 (by decide) ?_
        refine r_icmp_gt 131 hX d_M_node_113 (by decide) (fun c113 => ?_) (fun c113 => ?_)
        · have hn : nodeOk nn mf (nI 15) (nI ja) (nI jb) c = false := by simp [nodeOk, hkk, hB, c113]
          refine r_iconst (v := -1) hX d_M_node_131 (by decide) ?_
          exact r_iret mf hX hF d_M_node_132 (bad hn) (by rw [hn]; rfl) (by rw [hn]; rfl)
        · refine r_iload hX d_M_node_116 rfl ?_
          refine r_sipush (v := nI 2000) hX d_M_node_118 (by decide) ?_
          refine r_icmp_gt 131 hX d_M_node_121 (by decide) (fun c121 => ?_) (fun c121 => ?_)
          · have hn : nodeOk nn mf (nI 15) (nI ja) (nI jb) c = false := by simp [nodeOk, hkk, hW, c121]
            refine r_iconst (v := -1) hX d_M_node_131 (by decide) ?_
            exact r_iret mf hX hF d_M_node_132 (bad hn) (by rw [hn]; rfl) (by rw [hn]; rfl)
          · refine r_iload hX d_M_node_124 rfl ?_
            refine r_bipush (v := nI 8) hX d_M_node_126 (by decide) ?_
            refine r_icmp_le 133 hX d_M_node_128 (by decide) (fun c128 => ?_) (fun c128 => ?_)
            · have hn : nodeOk nn mf (nI 15) (nI ja) (nI jb) c = true := by simp [nodeOk, hkk, hB, hW, hL, hx0, hx1, c113, c121, c128, hlt, hpl, hfit]
              refine r_aload_n (i := 0) hX d_M_node_133 rfl rfl ?_
              refine r_iload_n (i := 1) hX d_M_node_134 rfl rfl ?_
              refine r_callVwi (q0 := 0) hX d_M_node_135 cw_M_namesA ml_M_79 (c_M_namesA 15 (by decide)) (Or.inl rfl) rfl rfl rfl rfl (by decide) (Nat.le_of_ble_eq_true rfl) (fun _ => rfl) (fun _ _ => ?_)
              refine r_if_eq 148 hX d_M_node_138 (by decide) (fun c138 => absurd c138 (by decide)) (fun c138 => ?_)
              refine r_aload_n (i := 0) hX d_M_node_141 rfl rfl ?_
              refine r_get 0 12 hX d_M_node_142 rfl rfl fi_M (by decide) fl_M_47 rfl rfl ?_
              refine r_iload_n (i := 2) hX d_M_node_145 rfl rfl ?_
              refine r_iconst (v := nI 1) hX d_M_node_146 (by decide) ?_
              refine r_zast (y := nI 1) 9 1 (ja) hX d_M_node_147 rfl rfl rfl (by omega) (by decide) rfl ?_
              refine r_ws (ws' := WM am cI cZ tl nn rs ae dp tx (m7 mf (upd (mf 7) ja (nI 1))) rw sz nv ph tu sv) rfl ?_
              refine r_aload_n (i := 0) hX d_M_node_148 rfl rfl ?_
              refine r_iload_n (i := 1) hX d_M_node_149 rfl rfl ?_
              refine r_callVwi (q0 := 0) hX d_M_node_150 cw_M_namesB ml_M_82 (c_M_namesB 15 (by decide)) (Or.inl rfl) rfl rfl rfl rfl (by decide) (Nat.le_of_ble_eq_true rfl) (fun _ => rfl) (fun _ _ => ?_)
              refine r_if_eq 163 hX d_M_node_153 (by decide) (fun c153 => absurd c153 (by decide)) (fun c153 => ?_)
              refine r_aload_n (i := 0) hX d_M_node_156 rfl rfl ?_
              refine r_get 0 12 hX d_M_node_157 rfl rfl fi_M (by decide) fl_M_47 rfl rfl ?_
              refine r_iload_n (i := 3) hX d_M_node_160 rfl rfl ?_
              refine r_iconst (v := nI 1) hX d_M_node_161 (by decide) ?_
              refine r_zast (y := nI 1) 9 1 (jb) hX d_M_node_162 rfl rfl rfl (by omega) (by decide) rfl ?_
              refine r_iload_n (i := 1) hX d_M_node_163 rfl rfl ?_
              refine r_bipush (v := nI 19) hX d_M_node_164 (by decide) ?_
              refine r_icmp_ne 177 hX d_M_node_166 (by decide) (fun c166 => ?_) (fun c166 => absurd c166 (by decide))
              refine r_aload_n (i := 0) hX d_M_node_177 rfl rfl ?_
              refine r_get 0 5 hX d_M_node_178 rfl rfl fi_M (by decide) fl_M_26 rfl rfl ?_
              refine r_aload_n (i := 0) hX d_M_node_181 rfl rfl ?_
              refine r_get 0 1 hX d_M_node_182 rfl rfl fi_M (by decide) fl_M_13 rfl rfl ?_
              refine r_iload_n (i := 1) hX d_M_node_185 rfl rfl ?_
              refine r_iast 2 0 (nn) hX d_M_node_186 rfl rfl rfl (by omega) (by decide) ?_
              refine r_aload_n (i := 0) hX d_M_node_187 rfl rfl ?_
              refine r_get 0 6 hX d_M_node_188 rfl rfl fi_M (by decide) fl_M_29 rfl rfl ?_
              refine r_aload_n (i := 0) hX d_M_node_191 rfl rfl ?_
              refine r_get 0 1 hX d_M_node_192 rfl rfl fi_M (by decide) fl_M_13 rfl rfl ?_
              refine r_iload_n (i := 2) hX d_M_node_195 rfl rfl ?_
              refine r_iast 3 0 (nn) hX d_M_node_196 rfl rfl rfl (by omega) (by decide) ?_
              refine r_aload_n (i := 0) hX d_M_node_197 rfl rfl ?_
              refine r_get 0 7 hX d_M_node_198 rfl rfl fi_M (by decide) fl_M_32 rfl rfl ?_
              refine r_aload_n (i := 0) hX d_M_node_201 rfl rfl ?_
              refine r_get 0 1 hX d_M_node_202 rfl rfl fi_M (by decide) fl_M_13 rfl rfl ?_
              refine r_iload_n (i := 3) hX d_M_node_205 rfl rfl ?_
              refine r_iast 4 0 (nn) hX d_M_node_206 rfl rfl rfl (by omega) (by decide) ?_
              refine r_aload_n (i := 0) hX d_M_node_207 rfl rfl ?_
              refine r_get 0 8 hX d_M_node_208 rfl rfl fi_M (by decide) fl_M_35 rfl rfl ?_
              refine r_aload_n (i := 0) hX d_M_node_211 rfl rfl ?_
              refine r_get 0 1 hX d_M_node_212 rfl rfl fi_M (by decide) fl_M_13 rfl rfl ?_
              refine r_iload hX d_M_node_215 rfl ?_
              refine r_iast 5 0 (nn) hX d_M_node_217 rfl rfl rfl (by omega) (by decide) ?_
              refine r_aload_n (i := 0) hX d_M_node_218 rfl rfl ?_
              refine r_get 0 9 hX d_M_node_219 rfl rfl fi_M (by decide) fl_M_38 rfl rfl ?_
              refine r_aload_n (i := 0) hX d_M_node_222 rfl rfl ?_
              refine r_get 0 1 hX d_M_node_223 rfl rfl fi_M (by decide) fl_M_13 rfl rfl ?_
              refine r_iload hX d_M_node_226 rfl ?_
              refine r_iast 6 0 (nn) hX d_M_node_228 rfl rfl rfl (by omega) (by decide) ?_
              refine r_aload_n (i := 0) hX d_M_node_229 rfl rfl ?_
              refine r_get 0 11 hX d_M_node_230 rfl rfl fi_M (by decide) fl_M_44 rfl rfl ?_
              refine r_aload_n (i := 0) hX d_M_node_233 rfl rfl ?_
              refine r_get 0 1 hX d_M_node_234 rfl rfl fi_M (by decide) fl_M_13 rfl rfl ?_
              refine r_iload hX d_M_node_237 rfl ?_
              refine r_iast 8 0 (nn) hX d_M_node_239 rfl rfl rfl (by omega) (by decide) ?_
              refine r_aload_n (i := 0) hX d_M_node_240 rfl rfl ?_
              refine r_get 0 10 hX d_M_node_241 rfl rfl fi_M (by decide) fl_M_41 rfl rfl ?_
              refine r_aload_n (i := 0) hX d_M_node_244 rfl rfl ?_
              refine r_get 0 1 hX d_M_node_245 rfl rfl fi_M (by decide) fl_M_13 rfl rfl ?_
              refine r_iload hX d_M_node_248 rfl ?_
              refine r_iast 7 0 (nn) hX d_M_node_250 rfl rfl rfl (by omega) (by decide) ?_
              refine r_aload_n (i := 0) hX d_M_node_251 rfl rfl ?_
              refine r_get 0 12 hX d_M_node_252 rfl rfl fi_M (by decide) fl_M_47 rfl rfl ?_
              refine r_aload_n (i := 0) hX d_M_node_255 rfl rfl ?_
              refine r_get 0 1 hX d_M_node_256 rfl rfl fi_M (by decide) fl_M_13 rfl rfl ?_
              refine r_iconst (v := nI 0) hX d_M_node_259 (by decide) ?_
              refine r_zast (y := nI 0) 9 1 (nn) hX d_M_node_260 rfl rfl rfl (by omega) (by decide) rfl ?_
              refine r_aload_n (i := 0) hX d_M_node_261 rfl rfl ?_
              refine r_dup hX d_M_node_262 rfl ?_
              refine r_get 0 1 hX d_M_node_263 rfl rfl fi_M (by decide) fl_M_13 rfl rfl ?_
              refine r_iconst (v := nI 1) hX d_M_node_266 (by decide) ?_
              refine r_iadd hX d_M_node_267 ?_
              refine r_top (nI_add _ _) ?_
              refine r_put 0 1 hX d_M_node_268 rfl rfl fi_M ft_M_ok fn_M (by decide) fl_M_13 rfl rfl rfl rfl rfl (Nat.le_of_ble_eq_true rfl) ?_
              refine r_aload_n (i := 0) hX d_M_node_271 rfl rfl ?_
              refine r_get 0 1 hX d_M_node_272 rfl rfl fi_M (by decide) fl_M_13 rfl rfl ?_
              refine r_iconst (v := nI 1) hX d_M_node_275 (by decide) ?_
              refine r_isub hX d_M_node_276 ?_
              refine r_top (pk_sub (by omega)) ?_
              exact r_iret (mkU mf nn (nI 15) (nI ja) (nI jb) c B W L (upd (upd (mf 7) ja (nI 1)) jb (nI 1))) hX hF d_M_node_277 (mkU_post hn (by rw [hkk, hB]) (by rw [hkk, hW]) (by rw [hkk, hL]) (by rw [hkk, show opsN 15 = 3 from rfl]; simp [useN, nfU, opN_nI (show ja < 2 ^ 31 by omega), opN_nI (show jb < 2 ^ 31 by omega)])) (by rw [hn]; rfl) (by rw [hn]; rfl)
            · have hn : nodeOk nn mf (nI 15) (nI ja) (nI jb) c = false := by simp [nodeOk, hkk, hL, c128]
              refine r_iconst (v := -1) hX d_M_node_131 (by decide) ?_
              exact r_iret mf hX hF d_M_node_132 (bad hn) (by rw [hn]; rfl) (by rw [hn]; rfl)
      · have hn : nodeOk nn mf (nI 15) a b c = false := by
          have := (nI_eq (by omega) (by decide)).mp c28
          simp [nodeOk, this]
        refine r_iconst (v := -1) hX d_M_node_31 (by decide) ?_
        exact r_iret mf hX hF d_M_node_32 (bad hn) (by rw [hn]; rfl) (by rw [hn]; rfl)
  ·
    refine r_iload_n (i := 1) hX d_M_node_0 rfl rfl ?_
    refine r_if_lt 31 hX d_M_node_1 (by decide) (fun c1 => absurd c1 (by decide)) (fun c1 => ?_)
    refine r_iload_n (i := 1) hX d_M_node_4 rfl rfl ?_
    refine r_bipush (v := nI 21) hX d_M_node_5 (by decide) ?_
    refine r_icmp_gt 31 hX d_M_node_7 (by decide) (fun c7 => absurd c7 (by decide)) (fun c7 => ?_)
    refine r_aload_n (i := 0) hX d_M_node_10 rfl rfl ?_
    refine r_iload_n (i := 1) hX d_M_node_11 rfl rfl ?_
    refine r_iload_n (i := 2) hX d_M_node_12 rfl rfl ?_
    refine r_iload_n (i := 3) hX d_M_node_13 rfl rfl ?_
    refine r_iload hX d_M_node_14 rfl ?_
    refine r_callVwi (q0 := 0) hX d_M_node_16 cw_M_fits ml_M_85 (c_M_fits 16 a b c (by decide) hnn) (Or.inl rfl) rfl rfl rfl rfl (by decide) (Nat.le_of_ble_eq_true rfl) (fun _ => rfl) (fun _ _ => ?_)
    refine r_if_eq 31 hX d_M_node_19 (by decide) (fun c19 => ?_) (fun c19 => ?_)
    · have hn : nodeOk nn mf (nI 16) a b c = false := by
        have h9 := bI_0 c19
        simp only [fitK, Bool.and_eq_false_iff] at h9
        rcases h9 with h9 | h9 <;> simp [nodeOk, hkk, h9]
      refine r_iconst (v := -1) hX d_M_node_31 (by decide) ?_
      exact r_iret mf hX hF d_M_node_32 (bad hn) (by rw [hn]; rfl) (by rw [hn]; rfl)
    · refine r_aload_n (i := 0) hX d_M_node_22 rfl rfl ?_
      refine r_get 0 1 hX d_M_node_23 rfl rfl fi_M (by decide) fl_M_13 rfl rfl ?_
      refine r_bipush (v := nI 60) hX d_M_node_26 (by decide) ?_
      refine r_icmp_ne 33 hX d_M_node_28 (by decide) (fun c28 => ?_) (fun c28 => ?_)
      · have hlt : nn < 60 := by
          rcases Nat.lt_or_ge nn 60 with h | h
          · exact h
          · exact absurd (by rw [show nn = 60 by omega]) c28
        have h9 := bI_1 c19
        simp only [fitK, Bool.and_eq_true] at h9
        obtain ⟨hpl, hfit⟩ := h9
        have hoN := mfit_k (by decide) hfit hnn
        have hops := hoN.ops hnn
        obtain ⟨ja, hja, rfl⟩ := hoN.1 (by decide)
        obtain ⟨jb, hjb, rfl⟩ := hoN.2.1 (by decide)
        refine r_aload_n (i := 0) hX d_M_node_33 rfl rfl ?_
        refine r_iload_n (i := 1) hX d_M_node_34 rfl rfl ?_
        refine r_iload_n (i := 2) hX d_M_node_35 rfl rfl ?_
        refine r_iload_n (i := 3) hX d_M_node_36 rfl rfl ?_
        refine r_iload hX d_M_node_37 rfl ?_
        refine r_callVwi (q0 := 0) hX d_M_node_39 cw_M_boundOf ml_M_89 (c_M_boundOf 16 (nI ja) (nI jb) c (by decide) hops) (Or.inl rfl) rfl rfl rfl rfl (by decide) (Nat.le_of_ble_eq_true rfl) (fun _ => rfl) (fun _ _ => ?_)
        generalize hB : bndF mf 16 (nI ja) (nI jb) c = B
        refine r_istore hX d_M_node_42 (by decide) ?_
        refine r_iconst (v := nI 0) hX d_M_node_44 (by decide) ?_
        refine r_istore hX d_M_node_45 (by decide) ?_
        refine r_aload_n (i := 0) hX d_M_node_47 rfl rfl ?_
        refine r_iload hX d_M_node_48 rfl ?_
        refine r_aload_n (i := 0) hX d_M_node_50 rfl rfl ?_
        refine r_iload_n (i := 1) hX d_M_node_51 rfl rfl ?_
        refine r_callVwi (q0 := 0) hX d_M_node_52 cw_M_namesA ml_M_79 (c_M_namesA 16 (by decide)) (Or.inl rfl) rfl rfl rfl rfl (by decide) (Nat.le_of_ble_eq_true rfl) (fun _ => rfl) (fun _ _ => ?_)
        refine r_iload_n (i := 2) hX d_M_node_55 rfl rfl ?_
        refine r_callVwi (q0 := 0) hX d_M_node_56 cw_M_higher ml_M_93 (c_M_higher (nI 0) (nI ja) (nmA 16) (fun q => ⟨ja, by omega, rfl⟩)) (Or.inl rfl) rfl rfl rfl rfl (by decide) (Nat.le_of_ble_eq_true rfl) (fun _ => rfl) (fun _ _ => ?_)
        refine r_top (y := mx (nI 0) (mf 6 ja)) (by simp [nmA, opN_nI (show ja < 2 ^ 31 by omega), opN_nI (show jb < 2 ^ 31 by omega)]) ?_
        refine r_istore hX d_M_node_59 (by decide) ?_
        refine r_aload_n (i := 0) hX d_M_node_61 rfl rfl ?_
        refine r_iload hX d_M_node_62 rfl ?_
        refine r_aload_n (i := 0) hX d_M_node_64 rfl rfl ?_
        refine r_iload_n (i := 1) hX d_M_node_65 rfl rfl ?_
        refine r_callVwi (q0 := 0) hX d_M_node_66 cw_M_namesB ml_M_82 (c_M_namesB 16 (by decide)) (Or.inl rfl) rfl rfl rfl rfl (by decide) (Nat.le_of_ble_eq_true rfl) (fun _ => rfl) (fun _ _ => ?_)
        refine r_iload_n (i := 3) hX d_M_node_69 rfl rfl ?_
        refine r_callVwi (q0 := 0) hX d_M_node_70 cw_M_higher ml_M_93 (c_M_higher (mx (nI 0) (mf 6 ja)) (nI jb) (nmB 16) (fun q => ⟨jb, by omega, rfl⟩)) (Or.inl rfl) rfl rfl rfl rfl (by decide) (Nat.le_of_ble_eq_true rfl) (fun _ => rfl) (fun _ _ => ?_)
        refine r_top (y := mx (mx (nI 0) (mf 6 ja)) (mf 6 jb)) (by simp [nmB, opN_nI (show ja < 2 ^ 31 by omega), opN_nI (show jb < 2 ^ 31 by omega)]) ?_
        refine r_istore hX d_M_node_73 (by decide) ?_
        refine r_iconst (v := nI 1) hX d_M_node_75 (by decide) ?_
        refine r_aload_n (i := 0) hX d_M_node_76 rfl rfl ?_
        refine r_iload hX d_M_node_77 rfl ?_
        refine r_iload_n (i := 1) hX d_M_node_79 rfl rfl ?_
        refine r_bipush (v := nI 19) hX d_M_node_80 (by decide) ?_
        refine r_icmp_ne 89 hX d_M_node_82 (by decide) (fun c82 => ?_) (fun c82 => absurd c82 (by decide))
        refine r_iconst (v := nI 0) hX d_M_node_89 (by decide) ?_
        refine r_iload hX d_M_node_90 rfl ?_
        refine r_callVwi (q0 := 0) hX d_M_node_92 cw_M_higher ml_M_93 (c_M_higher (mx (mx (nI 0) (mf 6 ja)) (mf 6 jb)) c false (fun q => absurd q (by decide))) (Or.inl rfl) rfl rfl rfl rfl (by decide) (Nat.le_of_ble_eq_true rfl) (fun _ => rfl) (fun _ _ => ?_)
        refine r_top (y := mx (mx (nI 0) (mf 6 ja)) (mf 6 jb)) (by simp [opN_nI (show ja < 2 ^ 31 by omega), opN_nI (show jb < 2 ^ 31 by omega)]) ?_
        refine r_iadd hX d_M_node_95 ?_
        refine r_top (y := lvF mf (opsN 16) (nI ja) (nI jb) c) (by rw [show opsN 16 = 3 from rfl]; simp [lvF, opN_nI (show ja < 2 ^ 31 by omega), opN_nI (show jb < 2 ^ 31 by omega)]; rw [Int32.add_comm]) ?_
        generalize hL : lvF mf (opsN 16) (nI ja) (nI jb) c = L
        refine r_istore hX d_M_node_96 (by decide) ?_
        refine r_aload_n (i := 0) hX d_M_node_98 rfl rfl ?_
        refine r_iload_n (i := 1) hX d_M_node_99 rfl rfl ?_
        refine r_iload_n (i := 2) hX d_M_node_100 rfl rfl ?_
        refine r_iload_n (i := 3) hX d_M_node_101 rfl rfl ?_
        refine r_iload hX d_M_node_102 rfl ?_
        refine r_callVwi (q0 := 0) hX d_M_node_104 cw_M_workOf ml_M_97 (c_M_workOf 16 (nI ja) (nI jb) c (by decide) hops) (Or.inl rfl) rfl rfl rfl rfl (by decide) (Nat.le_of_ble_eq_true rfl) (fun _ => rfl) (fun _ _ => ?_)
        generalize hW : wkF mf 16 (nI ja) (nI jb) c = W
        refine r_istore hX d_M_node_107 (by decide) ?_
        refine r_iload hX d_M_node_109 rfl ?_
        refine r_bipush (v := nI 64) hX d_M_node_111 (by decide) ?_
        refine r_icmp_gt 131 hX d_M_node_113 (by decide) (fun c113 => ?_) (fun c113 => ?_)
        · have hn : nodeOk nn mf (nI 16) (nI ja) (nI jb) c = false := by simp [nodeOk, hkk, hB, c113]
          refine r_iconst (v := -1) hX d_M_node_131 (by decide) ?_
          exact r_iret mf hX hF d_M_node_132 (bad hn) (by rw [hn]; rfl) (by rw [hn]; rfl)
        · refine r_iload hX d_M_node_116 rfl ?_
          refine r_sipush (v := nI 2000) hX d_M_node_118 (by decide) ?_
          refine r_icmp_gt 131 hX d_M_node_121 (by decide) (fun c121 => ?_) (fun c121 => ?_)
          · have hn : nodeOk nn mf (nI 16) (nI ja) (nI jb) c = false := by simp [nodeOk, hkk, hW, c121]
            refine r_iconst (v := -1) hX d_M_node_131 (by decide) ?_
            exact r_iret mf hX hF d_M_node_132 (bad hn) (by rw [hn]; rfl) (by rw [hn]; rfl)
          · refine r_iload hX d_M_node_124 rfl ?_
            refine r_bipush (v := nI 8) hX d_M_node_126 (by decide) ?_
            refine r_icmp_le 133 hX d_M_node_128 (by decide) (fun c128 => ?_) (fun c128 => ?_)
            · have hn : nodeOk nn mf (nI 16) (nI ja) (nI jb) c = true := by simp [nodeOk, hkk, hB, hW, hL, hx0, hx1, c113, c121, c128, hlt, hpl, hfit]
              refine r_aload_n (i := 0) hX d_M_node_133 rfl rfl ?_
              refine r_iload_n (i := 1) hX d_M_node_134 rfl rfl ?_
              refine r_callVwi (q0 := 0) hX d_M_node_135 cw_M_namesA ml_M_79 (c_M_namesA 16 (by decide)) (Or.inl rfl) rfl rfl rfl rfl (by decide) (Nat.le_of_ble_eq_true rfl) (fun _ => rfl) (fun _ _ => ?_)
              refine r_if_eq 148 hX d_M_node_138 (by decide) (fun c138 => absurd c138 (by decide)) (fun c138 => ?_)
              refine r_aload_n (i := 0) hX d_M_node_141 rfl rfl ?_
              refine r_get 0 12 hX d_M_node_142 rfl rfl fi_M (by decide) fl_M_47 rfl rfl ?_
              refine r_iload_n (i := 2) hX d_M_node_145 rfl rfl ?_
              refine r_iconst (v := nI 1) hX d_M_node_146 (by decide) ?_
              refine r_zast (y := nI 1) 9 1 (ja) hX d_M_node_147 rfl rfl rfl (by omega) (by decide) rfl ?_
              refine r_ws (ws' := WM am cI cZ tl nn rs ae dp tx (m7 mf (upd (mf 7) ja (nI 1))) rw sz nv ph tu sv) rfl ?_
              refine r_aload_n (i := 0) hX d_M_node_148 rfl rfl ?_
              refine r_iload_n (i := 1) hX d_M_node_149 rfl rfl ?_
              refine r_callVwi (q0 := 0) hX d_M_node_150 cw_M_namesB ml_M_82 (c_M_namesB 16 (by decide)) (Or.inl rfl) rfl rfl rfl rfl (by decide) (Nat.le_of_ble_eq_true rfl) (fun _ => rfl) (fun _ _ => ?_)
              refine r_if_eq 163 hX d_M_node_153 (by decide) (fun c153 => absurd c153 (by decide)) (fun c153 => ?_)
              refine r_aload_n (i := 0) hX d_M_node_156 rfl rfl ?_
              refine r_get 0 12 hX d_M_node_157 rfl rfl fi_M (by decide) fl_M_47 rfl rfl ?_
              refine r_iload_n (i := 3) hX d_M_node_160 rfl rfl ?_
              refine r_iconst (v := nI 1) hX d_M_node_161 (by decide) ?_
              refine r_zast (y := nI 1) 9 1 (jb) hX d_M_node_162 rfl rfl rfl (by omega) (by decide) rfl ?_
              refine r_iload_n (i := 1) hX d_M_node_163 rfl rfl ?_
              refine r_bipush (v := nI 19) hX d_M_node_164 (by decide) ?_
              refine r_icmp_ne 177 hX d_M_node_166 (by decide) (fun c166 => ?_) (fun c166 => absurd c166 (by decide))
              refine r_aload_n (i := 0) hX d_M_node_177 rfl rfl ?_
              refine r_get 0 5 hX d_M_node_178 rfl rfl fi_M (by decide) fl_M_26 rfl rfl ?_
              refine r_aload_n (i := 0) hX d_M_node_181 rfl rfl ?_
              refine r_get 0 1 hX d_M_node_182 rfl rfl fi_M (by decide) fl_M_13 rfl rfl ?_
              refine r_iload_n (i := 1) hX d_M_node_185 rfl rfl ?_
              refine r_iast 2 0 (nn) hX d_M_node_186 rfl rfl rfl (by omega) (by decide) ?_
              refine r_aload_n (i := 0) hX d_M_node_187 rfl rfl ?_
              refine r_get 0 6 hX d_M_node_188 rfl rfl fi_M (by decide) fl_M_29 rfl rfl ?_
              refine r_aload_n (i := 0) hX d_M_node_191 rfl rfl ?_
              refine r_get 0 1 hX d_M_node_192 rfl rfl fi_M (by decide) fl_M_13 rfl rfl ?_
              refine r_iload_n (i := 2) hX d_M_node_195 rfl rfl ?_
              refine r_iast 3 0 (nn) hX d_M_node_196 rfl rfl rfl (by omega) (by decide) ?_
              refine r_aload_n (i := 0) hX d_M_node_197 rfl rfl ?_
              refine r_get 0 7 hX d_M_node_198 rfl rfl fi_M (by decide) fl_M_32 rfl rfl ?_
              refine r_aload_n (i := 0) hX d_M_node_201 rfl rfl ?_
              refine r_get 0 1 hX d_M_node_202 rfl rfl fi_M (by decide) fl_M_13 rfl rfl ?_
              refine r_iload_n (i := 3) hX d_M_node_205 rfl rfl ?_
              refine r_iast 4 0 (nn) hX d_M_node_206 rfl rfl rfl (by omega) (by decide) ?_
              refine r_aload_n (i := 0) hX d_M_node_207 rfl rfl ?_
              refine r_get 0 8 hX d_M_node_208 rfl rfl fi_M (by decide) fl_M_35 rfl rfl ?_
              refine r_aload_n (i := 0) hX d_M_node_211 rfl rfl ?_
              refine r_get 0 1 hX d_M_node_212 rfl rfl fi_M (by decide) fl_M_13 rfl rfl ?_
              refine r_iload hX d_M_node_215 rfl ?_
              refine r_iast 5 0 (nn) hX d_M_node_217 rfl rfl rfl (by omega) (by decide) ?_
              refine r_aload_n (i := 0) hX d_M_node_218 rfl rfl ?_
              refine r_get 0 9 hX d_M_node_219 rfl rfl fi_M (by decide) fl_M_38 rfl rfl ?_
              refine r_aload_n (i := 0) hX d_M_node_222 rfl rfl ?_
              refine r_get 0 1 hX d_M_node_223 rfl rfl fi_M (by decide) fl_M_13 rfl rfl ?_
              refine r_iload hX d_M_node_226 rfl ?_
              refine r_iast 6 0 (nn) hX d_M_node_228 rfl rfl rfl (by omega) (by decide) ?_
              refine r_aload_n (i := 0) hX d_M_node_229 rfl rfl ?_
              refine r_get 0 11 hX d_M_node_230 rfl rfl fi_M (by decide) fl_M_44 rfl rfl ?_
              refine r_aload_n (i := 0) hX d_M_node_233 rfl rfl ?_
              refine r_get 0 1 hX d_M_node_234 rfl rfl fi_M (by decide) fl_M_13 rfl rfl ?_
              refine r_iload hX d_M_node_237 rfl ?_
              refine r_iast 8 0 (nn) hX d_M_node_239 rfl rfl rfl (by omega) (by decide) ?_
              refine r_aload_n (i := 0) hX d_M_node_240 rfl rfl ?_
              refine r_get 0 10 hX d_M_node_241 rfl rfl fi_M (by decide) fl_M_41 rfl rfl ?_
              refine r_aload_n (i := 0) hX d_M_node_244 rfl rfl ?_
              refine r_get 0 1 hX d_M_node_245 rfl rfl fi_M (by decide) fl_M_13 rfl rfl ?_
              refine r_iload hX d_M_node_248 rfl ?_
              refine r_iast 7 0 (nn) hX d_M_node_250 rfl rfl rfl (by omega) (by decide) ?_
              refine r_aload_n (i := 0) hX d_M_node_251 rfl rfl ?_
              refine r_get 0 12 hX d_M_node_252 rfl rfl fi_M (by decide) fl_M_47 rfl rfl ?_
              refine r_aload_n (i := 0) hX d_M_node_255 rfl rfl ?_
              refine r_get 0 1 hX d_M_node_256 rfl rfl fi_M (by decide) fl_M_13 rfl rfl ?_
              refine r_iconst (v := nI 0) hX d_M_node_259 (by decide) ?_
              refine r_zast (y := nI 0) 9 1 (nn) hX d_M_node_260 rfl rfl rfl (by omega) (by decide) rfl ?_
              refine r_aload_n (i := 0) hX d_M_node_261 rfl rfl ?_
              refine r_dup hX d_M_node_262 rfl ?_
              refine r_get 0 1 hX d_M_node_263 rfl rfl fi_M (by decide) fl_M_13 rfl rfl ?_
              refine r_iconst (v := nI 1) hX d_M_node_266 (by decide) ?_
              refine r_iadd hX d_M_node_267 ?_
              refine r_top (nI_add _ _) ?_
              refine r_put 0 1 hX d_M_node_268 rfl rfl fi_M ft_M_ok fn_M (by decide) fl_M_13 rfl rfl rfl rfl rfl (Nat.le_of_ble_eq_true rfl) ?_
              refine r_aload_n (i := 0) hX d_M_node_271 rfl rfl ?_
              refine r_get 0 1 hX d_M_node_272 rfl rfl fi_M (by decide) fl_M_13 rfl rfl ?_
              refine r_iconst (v := nI 1) hX d_M_node_275 (by decide) ?_
              refine r_isub hX d_M_node_276 ?_
              refine r_top (pk_sub (by omega)) ?_
              exact r_iret (mkU mf nn (nI 16) (nI ja) (nI jb) c B W L (upd (upd (mf 7) ja (nI 1)) jb (nI 1))) hX hF d_M_node_277 (mkU_post hn (by rw [hkk, hB]) (by rw [hkk, hW]) (by rw [hkk, hL]) (by rw [hkk, show opsN 16 = 3 from rfl]; simp [useN, nfU, opN_nI (show ja < 2 ^ 31 by omega), opN_nI (show jb < 2 ^ 31 by omega)])) (by rw [hn]; rfl) (by rw [hn]; rfl)
            · have hn : nodeOk nn mf (nI 16) (nI ja) (nI jb) c = false := by simp [nodeOk, hkk, hL, c128]
              refine r_iconst (v := -1) hX d_M_node_131 (by decide) ?_
              exact r_iret mf hX hF d_M_node_132 (bad hn) (by rw [hn]; rfl) (by rw [hn]; rfl)
      · have hn : nodeOk nn mf (nI 16) a b c = false := by
          have := (nI_eq (by omega) (by decide)).mp c28
          simp [nodeOk, this]
        refine r_iconst (v := -1) hX d_M_node_31 (by decide) ?_
        exact r_iret mf hX hF d_M_node_32 (bad hn) (by rw [hn]; rfl) (by rw [hn]; rfl)
  ·
    refine r_iload_n (i := 1) hX d_M_node_0 rfl rfl ?_
    refine r_if_lt 31 hX d_M_node_1 (by decide) (fun c1 => absurd c1 (by decide)) (fun c1 => ?_)
    refine r_iload_n (i := 1) hX d_M_node_4 rfl rfl ?_
    refine r_bipush (v := nI 21) hX d_M_node_5 (by decide) ?_
    refine r_icmp_gt 31 hX d_M_node_7 (by decide) (fun c7 => absurd c7 (by decide)) (fun c7 => ?_)
    refine r_aload_n (i := 0) hX d_M_node_10 rfl rfl ?_
    refine r_iload_n (i := 1) hX d_M_node_11 rfl rfl ?_
    refine r_iload_n (i := 2) hX d_M_node_12 rfl rfl ?_
    refine r_iload_n (i := 3) hX d_M_node_13 rfl rfl ?_
    refine r_iload hX d_M_node_14 rfl ?_
    refine r_callVwi (q0 := 0) hX d_M_node_16 cw_M_fits ml_M_85 (c_M_fits 17 a b c (by decide) hnn) (Or.inl rfl) rfl rfl rfl rfl (by decide) (Nat.le_of_ble_eq_true rfl) (fun _ => rfl) (fun _ _ => ?_)
    refine r_if_eq 31 hX d_M_node_19 (by decide) (fun c19 => ?_) (fun c19 => ?_)
    · have hn : nodeOk nn mf (nI 17) a b c = false := by
        have h9 := bI_0 c19
        simp only [fitK, Bool.and_eq_false_iff] at h9
        rcases h9 with h9 | h9 <;> simp [nodeOk, hkk, h9]
      refine r_iconst (v := -1) hX d_M_node_31 (by decide) ?_
      exact r_iret mf hX hF d_M_node_32 (bad hn) (by rw [hn]; rfl) (by rw [hn]; rfl)
    · refine r_aload_n (i := 0) hX d_M_node_22 rfl rfl ?_
      refine r_get 0 1 hX d_M_node_23 rfl rfl fi_M (by decide) fl_M_13 rfl rfl ?_
      refine r_bipush (v := nI 60) hX d_M_node_26 (by decide) ?_
      refine r_icmp_ne 33 hX d_M_node_28 (by decide) (fun c28 => ?_) (fun c28 => ?_)
      · have hlt : nn < 60 := by
          rcases Nat.lt_or_ge nn 60 with h | h
          · exact h
          · exact absurd (by rw [show nn = 60 by omega]) c28
        have h9 := bI_1 c19
        simp only [fitK, Bool.and_eq_true] at h9
        obtain ⟨hpl, hfit⟩ := h9
        have hoN := mfit_k (by decide) hfit hnn
        have hops := hoN.ops hnn
        obtain ⟨jb, hjb, rfl⟩ := hoN.2.1 (by decide)
        refine r_aload_n (i := 0) hX d_M_node_33 rfl rfl ?_
        refine r_iload_n (i := 1) hX d_M_node_34 rfl rfl ?_
        refine r_iload_n (i := 2) hX d_M_node_35 rfl rfl ?_
        refine r_iload_n (i := 3) hX d_M_node_36 rfl rfl ?_
        refine r_iload hX d_M_node_37 rfl ?_
        refine r_callVwi (q0 := 0) hX d_M_node_39 cw_M_boundOf ml_M_89 (c_M_boundOf 17 a (nI jb) c (by decide) hops) (Or.inl rfl) rfl rfl rfl rfl (by decide) (Nat.le_of_ble_eq_true rfl) (fun _ => rfl) (fun _ _ => ?_)
        generalize hB : bndF mf 17 a (nI jb) c = B
        refine r_istore hX d_M_node_42 (by decide) ?_
        refine r_iconst (v := nI 0) hX d_M_node_44 (by decide) ?_
        refine r_istore hX d_M_node_45 (by decide) ?_
        refine r_aload_n (i := 0) hX d_M_node_47 rfl rfl ?_
        refine r_iload hX d_M_node_48 rfl ?_
        refine r_aload_n (i := 0) hX d_M_node_50 rfl rfl ?_
        refine r_iload_n (i := 1) hX d_M_node_51 rfl rfl ?_
        refine r_callVwi (q0 := 0) hX d_M_node_52 cw_M_namesA ml_M_79 (c_M_namesA 17 (by decide)) (Or.inl rfl) rfl rfl rfl rfl (by decide) (Nat.le_of_ble_eq_true rfl) (fun _ => rfl) (fun _ _ => ?_)
        refine r_iload_n (i := 2) hX d_M_node_55 rfl rfl ?_
        refine r_callVwi (q0 := 0) hX d_M_node_56 cw_M_higher ml_M_93 (c_M_higher (nI 0) a (nmA 17) (fun q => absurd q (by decide))) (Or.inl rfl) rfl rfl rfl rfl (by decide) (Nat.le_of_ble_eq_true rfl) (fun _ => rfl) (fun _ _ => ?_)
        refine r_top (y := nI 0) (by simp [nmA, opN_nI (show jb < 2 ^ 31 by omega)]) ?_
        refine r_istore hX d_M_node_59 (by decide) ?_
        refine r_aload_n (i := 0) hX d_M_node_61 rfl rfl ?_
        refine r_iload hX d_M_node_62 rfl ?_
        refine r_aload_n (i := 0) hX d_M_node_64 rfl rfl ?_
        refine r_iload_n (i := 1) hX d_M_node_65 rfl rfl ?_
        refine r_callVwi (q0 := 0) hX d_M_node_66 cw_M_namesB ml_M_82 (c_M_namesB 17 (by decide)) (Or.inl rfl) rfl rfl rfl rfl (by decide) (Nat.le_of_ble_eq_true rfl) (fun _ => rfl) (fun _ _ => ?_)
        refine r_iload_n (i := 3) hX d_M_node_69 rfl rfl ?_
        refine r_callVwi (q0 := 0) hX d_M_node_70 cw_M_higher ml_M_93 (c_M_higher (nI 0) (nI jb) (nmB 17) (fun q => ⟨jb, by omega, rfl⟩)) (Or.inl rfl) rfl rfl rfl rfl (by decide) (Nat.le_of_ble_eq_true rfl) (fun _ => rfl) (fun _ _ => ?_)
        refine r_top (y := mx (nI 0) (mf 6 jb)) (by simp [nmB, opN_nI (show jb < 2 ^ 31 by omega)]) ?_
        refine r_istore hX d_M_node_73 (by decide) ?_
        refine r_iconst (v := nI 1) hX d_M_node_75 (by decide) ?_
        refine r_aload_n (i := 0) hX d_M_node_76 rfl rfl ?_
        refine r_iload hX d_M_node_77 rfl ?_
        refine r_iload_n (i := 1) hX d_M_node_79 rfl rfl ?_
        refine r_bipush (v := nI 19) hX d_M_node_80 (by decide) ?_
        refine r_icmp_ne 89 hX d_M_node_82 (by decide) (fun c82 => ?_) (fun c82 => absurd c82 (by decide))
        refine r_iconst (v := nI 0) hX d_M_node_89 (by decide) ?_
        refine r_iload hX d_M_node_90 rfl ?_
        refine r_callVwi (q0 := 0) hX d_M_node_92 cw_M_higher ml_M_93 (c_M_higher (mx (nI 0) (mf 6 jb)) c false (fun q => absurd q (by decide))) (Or.inl rfl) rfl rfl rfl rfl (by decide) (Nat.le_of_ble_eq_true rfl) (fun _ => rfl) (fun _ _ => ?_)
        refine r_top (y := mx (nI 0) (mf 6 jb)) (by simp [opN_nI (show jb < 2 ^ 31 by omega)]) ?_
        refine r_iadd hX d_M_node_95 ?_
        refine r_top (y := lvF mf (opsN 17) a (nI jb) c) (by rw [show opsN 17 = 2 from rfl]; simp [lvF, opN_nI (show jb < 2 ^ 31 by omega)]; rw [Int32.add_comm]) ?_
        generalize hL : lvF mf (opsN 17) a (nI jb) c = L
        refine r_istore hX d_M_node_96 (by decide) ?_
        refine r_aload_n (i := 0) hX d_M_node_98 rfl rfl ?_
        refine r_iload_n (i := 1) hX d_M_node_99 rfl rfl ?_
        refine r_iload_n (i := 2) hX d_M_node_100 rfl rfl ?_
        refine r_iload_n (i := 3) hX d_M_node_101 rfl rfl ?_
        refine r_iload hX d_M_node_102 rfl ?_
        refine r_callVwi (q0 := 0) hX d_M_node_104 cw_M_workOf ml_M_97 (c_M_workOf 17 a (nI jb) c (by decide) hops) (Or.inl rfl) rfl rfl rfl rfl (by decide) (Nat.le_of_ble_eq_true rfl) (fun _ => rfl) (fun _ _ => ?_)
        generalize hW : wkF mf 17 a (nI jb) c = W
        refine r_istore hX d_M_node_107 (by decide) ?_
        refine r_iload hX d_M_node_109 rfl ?_
        refine r_bipush (v := nI 64) hX d_M_node_111 (by decide) ?_
        refine r_icmp_gt 131 hX d_M_node_113 (by decide) (fun c113 => ?_) (fun c113 => ?_)
        · have hn : nodeOk nn mf (nI 17) a (nI jb) c = false := by simp [nodeOk, hkk, hB, c113]
          refine r_iconst (v := -1) hX d_M_node_131 (by decide) ?_
          exact r_iret mf hX hF d_M_node_132 (bad hn) (by rw [hn]; rfl) (by rw [hn]; rfl)
        · refine r_iload hX d_M_node_116 rfl ?_
          refine r_sipush (v := nI 2000) hX d_M_node_118 (by decide) ?_
          refine r_icmp_gt 131 hX d_M_node_121 (by decide) (fun c121 => ?_) (fun c121 => ?_)
          · have hn : nodeOk nn mf (nI 17) a (nI jb) c = false := by simp [nodeOk, hkk, hW, c121]
            refine r_iconst (v := -1) hX d_M_node_131 (by decide) ?_
            exact r_iret mf hX hF d_M_node_132 (bad hn) (by rw [hn]; rfl) (by rw [hn]; rfl)
          · refine r_iload hX d_M_node_124 rfl ?_
            refine r_bipush (v := nI 8) hX d_M_node_126 (by decide) ?_
            refine r_icmp_le 133 hX d_M_node_128 (by decide) (fun c128 => ?_) (fun c128 => ?_)
            · have hn : nodeOk nn mf (nI 17) a (nI jb) c = true := by simp [nodeOk, hkk, hB, hW, hL, hx0, hx1, c113, c121, c128, hlt, hpl, hfit]
              refine r_aload_n (i := 0) hX d_M_node_133 rfl rfl ?_
              refine r_iload_n (i := 1) hX d_M_node_134 rfl rfl ?_
              refine r_callVwi (q0 := 0) hX d_M_node_135 cw_M_namesA ml_M_79 (c_M_namesA 17 (by decide)) (Or.inl rfl) rfl rfl rfl rfl (by decide) (Nat.le_of_ble_eq_true rfl) (fun _ => rfl) (fun _ _ => ?_)
              refine r_if_eq 148 hX d_M_node_138 (by decide) (fun c138 => ?_) (fun c138 => absurd c138 (by decide))
              refine r_aload_n (i := 0) hX d_M_node_148 rfl rfl ?_
              refine r_iload_n (i := 1) hX d_M_node_149 rfl rfl ?_
              refine r_callVwi (q0 := 0) hX d_M_node_150 cw_M_namesB ml_M_82 (c_M_namesB 17 (by decide)) (Or.inl rfl) rfl rfl rfl rfl (by decide) (Nat.le_of_ble_eq_true rfl) (fun _ => rfl) (fun _ _ => ?_)
              refine r_if_eq 163 hX d_M_node_153 (by decide) (fun c153 => absurd c153 (by decide)) (fun c153 => ?_)
              refine r_aload_n (i := 0) hX d_M_node_156 rfl rfl ?_
              refine r_get 0 12 hX d_M_node_157 rfl rfl fi_M (by decide) fl_M_47 rfl rfl ?_
              refine r_iload_n (i := 3) hX d_M_node_160 rfl rfl ?_
              refine r_iconst (v := nI 1) hX d_M_node_161 (by decide) ?_
              refine r_zast (y := nI 1) 9 1 (jb) hX d_M_node_162 rfl rfl rfl (by omega) (by decide) rfl ?_
              refine r_iload_n (i := 1) hX d_M_node_163 rfl rfl ?_
              refine r_bipush (v := nI 19) hX d_M_node_164 (by decide) ?_
              refine r_icmp_ne 177 hX d_M_node_166 (by decide) (fun c166 => ?_) (fun c166 => absurd c166 (by decide))
              refine r_aload_n (i := 0) hX d_M_node_177 rfl rfl ?_
              refine r_get 0 5 hX d_M_node_178 rfl rfl fi_M (by decide) fl_M_26 rfl rfl ?_
              refine r_aload_n (i := 0) hX d_M_node_181 rfl rfl ?_
              refine r_get 0 1 hX d_M_node_182 rfl rfl fi_M (by decide) fl_M_13 rfl rfl ?_
              refine r_iload_n (i := 1) hX d_M_node_185 rfl rfl ?_
              refine r_iast 2 0 (nn) hX d_M_node_186 rfl rfl rfl (by omega) (by decide) ?_
              refine r_aload_n (i := 0) hX d_M_node_187 rfl rfl ?_
              refine r_get 0 6 hX d_M_node_188 rfl rfl fi_M (by decide) fl_M_29 rfl rfl ?_
              refine r_aload_n (i := 0) hX d_M_node_191 rfl rfl ?_
              refine r_get 0 1 hX d_M_node_192 rfl rfl fi_M (by decide) fl_M_13 rfl rfl ?_
              refine r_iload_n (i := 2) hX d_M_node_195 rfl rfl ?_
              refine r_iast 3 0 (nn) hX d_M_node_196 rfl rfl rfl (by omega) (by decide) ?_
              refine r_aload_n (i := 0) hX d_M_node_197 rfl rfl ?_
              refine r_get 0 7 hX d_M_node_198 rfl rfl fi_M (by decide) fl_M_32 rfl rfl ?_
              refine r_aload_n (i := 0) hX d_M_node_201 rfl rfl ?_
              refine r_get 0 1 hX d_M_node_202 rfl rfl fi_M (by decide) fl_M_13 rfl rfl ?_
              refine r_iload_n (i := 3) hX d_M_node_205 rfl rfl ?_
              refine r_iast 4 0 (nn) hX d_M_node_206 rfl rfl rfl (by omega) (by decide) ?_
              refine r_aload_n (i := 0) hX d_M_node_207 rfl rfl ?_
              refine r_get 0 8 hX d_M_node_208 rfl rfl fi_M (by decide) fl_M_35 rfl rfl ?_
              refine r_aload_n (i := 0) hX d_M_node_211 rfl rfl ?_
              refine r_get 0 1 hX d_M_node_212 rfl rfl fi_M (by decide) fl_M_13 rfl rfl ?_
              refine r_iload hX d_M_node_215 rfl ?_
              refine r_iast 5 0 (nn) hX d_M_node_217 rfl rfl rfl (by omega) (by decide) ?_
              refine r_aload_n (i := 0) hX d_M_node_218 rfl rfl ?_
              refine r_get 0 9 hX d_M_node_219 rfl rfl fi_M (by decide) fl_M_38 rfl rfl ?_
              refine r_aload_n (i := 0) hX d_M_node_222 rfl rfl ?_
              refine r_get 0 1 hX d_M_node_223 rfl rfl fi_M (by decide) fl_M_13 rfl rfl ?_
              refine r_iload hX d_M_node_226 rfl ?_
              refine r_iast 6 0 (nn) hX d_M_node_228 rfl rfl rfl (by omega) (by decide) ?_
              refine r_aload_n (i := 0) hX d_M_node_229 rfl rfl ?_
              refine r_get 0 11 hX d_M_node_230 rfl rfl fi_M (by decide) fl_M_44 rfl rfl ?_
              refine r_aload_n (i := 0) hX d_M_node_233 rfl rfl ?_
              refine r_get 0 1 hX d_M_node_234 rfl rfl fi_M (by decide) fl_M_13 rfl rfl ?_
              refine r_iload hX d_M_node_237 rfl ?_
              refine r_iast 8 0 (nn) hX d_M_node_239 rfl rfl rfl (by omega) (by decide) ?_
              refine r_aload_n (i := 0) hX d_M_node_240 rfl rfl ?_
              refine r_get 0 10 hX d_M_node_241 rfl rfl fi_M (by decide) fl_M_41 rfl rfl ?_
              refine r_aload_n (i := 0) hX d_M_node_244 rfl rfl ?_
              refine r_get 0 1 hX d_M_node_245 rfl rfl fi_M (by decide) fl_M_13 rfl rfl ?_
              refine r_iload hX d_M_node_248 rfl ?_
              refine r_iast 7 0 (nn) hX d_M_node_250 rfl rfl rfl (by omega) (by decide) ?_
              refine r_aload_n (i := 0) hX d_M_node_251 rfl rfl ?_
              refine r_get 0 12 hX d_M_node_252 rfl rfl fi_M (by decide) fl_M_47 rfl rfl ?_
              refine r_aload_n (i := 0) hX d_M_node_255 rfl rfl ?_
              refine r_get 0 1 hX d_M_node_256 rfl rfl fi_M (by decide) fl_M_13 rfl rfl ?_
              refine r_iconst (v := nI 0) hX d_M_node_259 (by decide) ?_
              refine r_zast (y := nI 0) 9 1 (nn) hX d_M_node_260 rfl rfl rfl (by omega) (by decide) rfl ?_
              refine r_aload_n (i := 0) hX d_M_node_261 rfl rfl ?_
              refine r_dup hX d_M_node_262 rfl ?_
              refine r_get 0 1 hX d_M_node_263 rfl rfl fi_M (by decide) fl_M_13 rfl rfl ?_
              refine r_iconst (v := nI 1) hX d_M_node_266 (by decide) ?_
              refine r_iadd hX d_M_node_267 ?_
              refine r_top (nI_add _ _) ?_
              refine r_put 0 1 hX d_M_node_268 rfl rfl fi_M ft_M_ok fn_M (by decide) fl_M_13 rfl rfl rfl rfl rfl (Nat.le_of_ble_eq_true rfl) ?_
              refine r_aload_n (i := 0) hX d_M_node_271 rfl rfl ?_
              refine r_get 0 1 hX d_M_node_272 rfl rfl fi_M (by decide) fl_M_13 rfl rfl ?_
              refine r_iconst (v := nI 1) hX d_M_node_275 (by decide) ?_
              refine r_isub hX d_M_node_276 ?_
              refine r_top (pk_sub (by omega)) ?_
              exact r_iret (mkU mf nn (nI 17) a (nI jb) c B W L (upd (mf 7) jb (nI 1))) hX hF d_M_node_277 (mkU_post hn (by rw [hkk, hB]) (by rw [hkk, hW]) (by rw [hkk, hL]) (by rw [hkk, show opsN 17 = 2 from rfl]; simp [useN, nfU, opN_nI (show jb < 2 ^ 31 by omega)])) (by rw [hn]; rfl) (by rw [hn]; rfl)
            · have hn : nodeOk nn mf (nI 17) a (nI jb) c = false := by simp [nodeOk, hkk, hL, c128]
              refine r_iconst (v := -1) hX d_M_node_131 (by decide) ?_
              exact r_iret mf hX hF d_M_node_132 (bad hn) (by rw [hn]; rfl) (by rw [hn]; rfl)
      · have hn : nodeOk nn mf (nI 17) a b c = false := by
          have := (nI_eq (by omega) (by decide)).mp c28
          simp [nodeOk, this]
        refine r_iconst (v := -1) hX d_M_node_31 (by decide) ?_
        exact r_iret mf hX hF d_M_node_32 (bad hn) (by rw [hn]; rfl) (by rw [hn]; rfl)
  ·
    refine r_iload_n (i := 1) hX d_M_node_0 rfl rfl ?_
    refine r_if_lt 31 hX d_M_node_1 (by decide) (fun c1 => absurd c1 (by decide)) (fun c1 => ?_)
    refine r_iload_n (i := 1) hX d_M_node_4 rfl rfl ?_
    refine r_bipush (v := nI 21) hX d_M_node_5 (by decide) ?_
    refine r_icmp_gt 31 hX d_M_node_7 (by decide) (fun c7 => absurd c7 (by decide)) (fun c7 => ?_)
    refine r_aload_n (i := 0) hX d_M_node_10 rfl rfl ?_
    refine r_iload_n (i := 1) hX d_M_node_11 rfl rfl ?_
    refine r_iload_n (i := 2) hX d_M_node_12 rfl rfl ?_
    refine r_iload_n (i := 3) hX d_M_node_13 rfl rfl ?_
    refine r_iload hX d_M_node_14 rfl ?_
    refine r_callVwi (q0 := 0) hX d_M_node_16 cw_M_fits ml_M_85 (c_M_fits 18 a b c (by decide) hnn) (Or.inl rfl) rfl rfl rfl rfl (by decide) (Nat.le_of_ble_eq_true rfl) (fun _ => rfl) (fun _ _ => ?_)
    refine r_if_eq 31 hX d_M_node_19 (by decide) (fun c19 => ?_) (fun c19 => ?_)
    · have hn : nodeOk nn mf (nI 18) a b c = false := by
        have h9 := bI_0 c19
        simp only [fitK, Bool.and_eq_false_iff] at h9
        rcases h9 with h9 | h9 <;> simp [nodeOk, hkk, h9]
      refine r_iconst (v := -1) hX d_M_node_31 (by decide) ?_
      exact r_iret mf hX hF d_M_node_32 (bad hn) (by rw [hn]; rfl) (by rw [hn]; rfl)
    · refine r_aload_n (i := 0) hX d_M_node_22 rfl rfl ?_
      refine r_get 0 1 hX d_M_node_23 rfl rfl fi_M (by decide) fl_M_13 rfl rfl ?_
      refine r_bipush (v := nI 60) hX d_M_node_26 (by decide) ?_
      refine r_icmp_ne 33 hX d_M_node_28 (by decide) (fun c28 => ?_) (fun c28 => ?_)
      · have hlt : nn < 60 := by
          rcases Nat.lt_or_ge nn 60 with h | h
          · exact h
          · exact absurd (by rw [show nn = 60 by omega]) c28
        have h9 := bI_1 c19
        simp only [fitK, Bool.and_eq_true] at h9
        obtain ⟨hpl, hfit⟩ := h9
        have hoN := mfit_k (by decide) hfit hnn
        have hops := hoN.ops hnn
        obtain ⟨jb, hjb, rfl⟩ := hoN.2.1 (by decide)
        refine r_aload_n (i := 0) hX d_M_node_33 rfl rfl ?_
        refine r_iload_n (i := 1) hX d_M_node_34 rfl rfl ?_
        refine r_iload_n (i := 2) hX d_M_node_35 rfl rfl ?_
        refine r_iload_n (i := 3) hX d_M_node_36 rfl rfl ?_
        refine r_iload hX d_M_node_37 rfl ?_
        refine r_callVwi (q0 := 0) hX d_M_node_39 cw_M_boundOf ml_M_89 (c_M_boundOf 18 a (nI jb) c (by decide) hops) (Or.inl rfl) rfl rfl rfl rfl (by decide) (Nat.le_of_ble_eq_true rfl) (fun _ => rfl) (fun _ _ => ?_)
        generalize hB : bndF mf 18 a (nI jb) c = B
        refine r_istore hX d_M_node_42 (by decide) ?_
        refine r_iconst (v := nI 0) hX d_M_node_44 (by decide) ?_
        refine r_istore hX d_M_node_45 (by decide) ?_
        refine r_aload_n (i := 0) hX d_M_node_47 rfl rfl ?_
        refine r_iload hX d_M_node_48 rfl ?_
        refine r_aload_n (i := 0) hX d_M_node_50 rfl rfl ?_
        refine r_iload_n (i := 1) hX d_M_node_51 rfl rfl ?_
        refine r_callVwi (q0 := 0) hX d_M_node_52 cw_M_namesA ml_M_79 (c_M_namesA 18 (by decide)) (Or.inl rfl) rfl rfl rfl rfl (by decide) (Nat.le_of_ble_eq_true rfl) (fun _ => rfl) (fun _ _ => ?_)
        refine r_iload_n (i := 2) hX d_M_node_55 rfl rfl ?_
        refine r_callVwi (q0 := 0) hX d_M_node_56 cw_M_higher ml_M_93 (c_M_higher (nI 0) a (nmA 18) (fun q => absurd q (by decide))) (Or.inl rfl) rfl rfl rfl rfl (by decide) (Nat.le_of_ble_eq_true rfl) (fun _ => rfl) (fun _ _ => ?_)
        refine r_top (y := nI 0) (by simp [nmA, opN_nI (show jb < 2 ^ 31 by omega)]) ?_
        refine r_istore hX d_M_node_59 (by decide) ?_
        refine r_aload_n (i := 0) hX d_M_node_61 rfl rfl ?_
        refine r_iload hX d_M_node_62 rfl ?_
        refine r_aload_n (i := 0) hX d_M_node_64 rfl rfl ?_
        refine r_iload_n (i := 1) hX d_M_node_65 rfl rfl ?_
        refine r_callVwi (q0 := 0) hX d_M_node_66 cw_M_namesB ml_M_82 (c_M_namesB 18 (by decide)) (Or.inl rfl) rfl rfl rfl rfl (by decide) (Nat.le_of_ble_eq_true rfl) (fun _ => rfl) (fun _ _ => ?_)
        refine r_iload_n (i := 3) hX d_M_node_69 rfl rfl ?_
        refine r_callVwi (q0 := 0) hX d_M_node_70 cw_M_higher ml_M_93 (c_M_higher (nI 0) (nI jb) (nmB 18) (fun q => ⟨jb, by omega, rfl⟩)) (Or.inl rfl) rfl rfl rfl rfl (by decide) (Nat.le_of_ble_eq_true rfl) (fun _ => rfl) (fun _ _ => ?_)
        refine r_top (y := mx (nI 0) (mf 6 jb)) (by simp [nmB, opN_nI (show jb < 2 ^ 31 by omega)]) ?_
        refine r_istore hX d_M_node_73 (by decide) ?_
        refine r_iconst (v := nI 1) hX d_M_node_75 (by decide) ?_
        refine r_aload_n (i := 0) hX d_M_node_76 rfl rfl ?_
        refine r_iload hX d_M_node_77 rfl ?_
        refine r_iload_n (i := 1) hX d_M_node_79 rfl rfl ?_
        refine r_bipush (v := nI 19) hX d_M_node_80 (by decide) ?_
        refine r_icmp_ne 89 hX d_M_node_82 (by decide) (fun c82 => ?_) (fun c82 => absurd c82 (by decide))
        refine r_iconst (v := nI 0) hX d_M_node_89 (by decide) ?_
        refine r_iload hX d_M_node_90 rfl ?_
        refine r_callVwi (q0 := 0) hX d_M_node_92 cw_M_higher ml_M_93 (c_M_higher (mx (nI 0) (mf 6 jb)) c false (fun q => absurd q (by decide))) (Or.inl rfl) rfl rfl rfl rfl (by decide) (Nat.le_of_ble_eq_true rfl) (fun _ => rfl) (fun _ _ => ?_)
        refine r_top (y := mx (nI 0) (mf 6 jb)) (by simp [opN_nI (show jb < 2 ^ 31 by omega)]) ?_
        refine r_iadd hX d_M_node_95 ?_
        refine r_top (y := lvF mf (opsN 18) a (nI jb) c) (by rw [show opsN 18 = 2 from rfl]; simp [lvF, opN_nI (show jb < 2 ^ 31 by omega)]; rw [Int32.add_comm]) ?_
        generalize hL : lvF mf (opsN 18) a (nI jb) c = L
        refine r_istore hX d_M_node_96 (by decide) ?_
        refine r_aload_n (i := 0) hX d_M_node_98 rfl rfl ?_
        refine r_iload_n (i := 1) hX d_M_node_99 rfl rfl ?_
        refine r_iload_n (i := 2) hX d_M_node_100 rfl rfl ?_
        refine r_iload_n (i := 3) hX d_M_node_101 rfl rfl ?_
        refine r_iload hX d_M_node_102 rfl ?_
        refine r_callVwi (q0 := 0) hX d_M_node_104 cw_M_workOf ml_M_97 (c_M_workOf 18 a (nI jb) c (by decide) hops) (Or.inl rfl) rfl rfl rfl rfl (by decide) (Nat.le_of_ble_eq_true rfl) (fun _ => rfl) (fun _ _ => ?_)
        generalize hW : wkF mf 18 a (nI jb) c = W
        refine r_istore hX d_M_node_107 (by decide) ?_
        refine r_iload hX d_M_node_109 rfl ?_
        refine r_bipush (v := nI 64) hX d_M_node_111 (by decide) ?_
        refine r_icmp_gt 131 hX d_M_node_113 (by decide) (fun c113 => ?_) (fun c113 => ?_)
        · have hn : nodeOk nn mf (nI 18) a (nI jb) c = false := by simp [nodeOk, hkk, hB, c113]
          refine r_iconst (v := -1) hX d_M_node_131 (by decide) ?_
          exact r_iret mf hX hF d_M_node_132 (bad hn) (by rw [hn]; rfl) (by rw [hn]; rfl)
        · refine r_iload hX d_M_node_116 rfl ?_
          refine r_sipush (v := nI 2000) hX d_M_node_118 (by decide) ?_
          refine r_icmp_gt 131 hX d_M_node_121 (by decide) (fun c121 => ?_) (fun c121 => ?_)
          · have hn : nodeOk nn mf (nI 18) a (nI jb) c = false := by simp [nodeOk, hkk, hW, c121]
            refine r_iconst (v := -1) hX d_M_node_131 (by decide) ?_
            exact r_iret mf hX hF d_M_node_132 (bad hn) (by rw [hn]; rfl) (by rw [hn]; rfl)
          · refine r_iload hX d_M_node_124 rfl ?_
            refine r_bipush (v := nI 8) hX d_M_node_126 (by decide) ?_
            refine r_icmp_le 133 hX d_M_node_128 (by decide) (fun c128 => ?_) (fun c128 => ?_)
            · have hn : nodeOk nn mf (nI 18) a (nI jb) c = true := by simp [nodeOk, hkk, hB, hW, hL, hx0, hx1, c113, c121, c128, hlt, hpl, hfit]
              refine r_aload_n (i := 0) hX d_M_node_133 rfl rfl ?_
              refine r_iload_n (i := 1) hX d_M_node_134 rfl rfl ?_
              refine r_callVwi (q0 := 0) hX d_M_node_135 cw_M_namesA ml_M_79 (c_M_namesA 18 (by decide)) (Or.inl rfl) rfl rfl rfl rfl (by decide) (Nat.le_of_ble_eq_true rfl) (fun _ => rfl) (fun _ _ => ?_)
              refine r_if_eq 148 hX d_M_node_138 (by decide) (fun c138 => ?_) (fun c138 => absurd c138 (by decide))
              refine r_aload_n (i := 0) hX d_M_node_148 rfl rfl ?_
              refine r_iload_n (i := 1) hX d_M_node_149 rfl rfl ?_
              refine r_callVwi (q0 := 0) hX d_M_node_150 cw_M_namesB ml_M_82 (c_M_namesB 18 (by decide)) (Or.inl rfl) rfl rfl rfl rfl (by decide) (Nat.le_of_ble_eq_true rfl) (fun _ => rfl) (fun _ _ => ?_)
              refine r_if_eq 163 hX d_M_node_153 (by decide) (fun c153 => absurd c153 (by decide)) (fun c153 => ?_)
              refine r_aload_n (i := 0) hX d_M_node_156 rfl rfl ?_
              refine r_get 0 12 hX d_M_node_157 rfl rfl fi_M (by decide) fl_M_47 rfl rfl ?_
              refine r_iload_n (i := 3) hX d_M_node_160 rfl rfl ?_
              refine r_iconst (v := nI 1) hX d_M_node_161 (by decide) ?_
              refine r_zast (y := nI 1) 9 1 (jb) hX d_M_node_162 rfl rfl rfl (by omega) (by decide) rfl ?_
              refine r_iload_n (i := 1) hX d_M_node_163 rfl rfl ?_
              refine r_bipush (v := nI 19) hX d_M_node_164 (by decide) ?_
              refine r_icmp_ne 177 hX d_M_node_166 (by decide) (fun c166 => ?_) (fun c166 => absurd c166 (by decide))
              refine r_aload_n (i := 0) hX d_M_node_177 rfl rfl ?_
              refine r_get 0 5 hX d_M_node_178 rfl rfl fi_M (by decide) fl_M_26 rfl rfl ?_
              refine r_aload_n (i := 0) hX d_M_node_181 rfl rfl ?_
              refine r_get 0 1 hX d_M_node_182 rfl rfl fi_M (by decide) fl_M_13 rfl rfl ?_
              refine r_iload_n (i := 1) hX d_M_node_185 rfl rfl ?_
              refine r_iast 2 0 (nn) hX d_M_node_186 rfl rfl rfl (by omega) (by decide) ?_
              refine r_aload_n (i := 0) hX d_M_node_187 rfl rfl ?_
              refine r_get 0 6 hX d_M_node_188 rfl rfl fi_M (by decide) fl_M_29 rfl rfl ?_
              refine r_aload_n (i := 0) hX d_M_node_191 rfl rfl ?_
              refine r_get 0 1 hX d_M_node_192 rfl rfl fi_M (by decide) fl_M_13 rfl rfl ?_
              refine r_iload_n (i := 2) hX d_M_node_195 rfl rfl ?_
              refine r_iast 3 0 (nn) hX d_M_node_196 rfl rfl rfl (by omega) (by decide) ?_
              refine r_aload_n (i := 0) hX d_M_node_197 rfl rfl ?_
              refine r_get 0 7 hX d_M_node_198 rfl rfl fi_M (by decide) fl_M_32 rfl rfl ?_
              refine r_aload_n (i := 0) hX d_M_node_201 rfl rfl ?_
              refine r_get 0 1 hX d_M_node_202 rfl rfl fi_M (by decide) fl_M_13 rfl rfl ?_
              refine r_iload_n (i := 3) hX d_M_node_205 rfl rfl ?_
              refine r_iast 4 0 (nn) hX d_M_node_206 rfl rfl rfl (by omega) (by decide) ?_
              refine r_aload_n (i := 0) hX d_M_node_207 rfl rfl ?_
              refine r_get 0 8 hX d_M_node_208 rfl rfl fi_M (by decide) fl_M_35 rfl rfl ?_
              refine r_aload_n (i := 0) hX d_M_node_211 rfl rfl ?_
              refine r_get 0 1 hX d_M_node_212 rfl rfl fi_M (by decide) fl_M_13 rfl rfl ?_
              refine r_iload hX d_M_node_215 rfl ?_
              refine r_iast 5 0 (nn) hX d_M_node_217 rfl rfl rfl (by omega) (by decide) ?_
              refine r_aload_n (i := 0) hX d_M_node_218 rfl rfl ?_
              refine r_get 0 9 hX d_M_node_219 rfl rfl fi_M (by decide) fl_M_38 rfl rfl ?_
              refine r_aload_n (i := 0) hX d_M_node_222 rfl rfl ?_
              refine r_get 0 1 hX d_M_node_223 rfl rfl fi_M (by decide) fl_M_13 rfl rfl ?_
              refine r_iload hX d_M_node_226 rfl ?_
              refine r_iast 6 0 (nn) hX d_M_node_228 rfl rfl rfl (by omega) (by decide) ?_
              refine r_aload_n (i := 0) hX d_M_node_229 rfl rfl ?_
              refine r_get 0 11 hX d_M_node_230 rfl rfl fi_M (by decide) fl_M_44 rfl rfl ?_
              refine r_aload_n (i := 0) hX d_M_node_233 rfl rfl ?_
              refine r_get 0 1 hX d_M_node_234 rfl rfl fi_M (by decide) fl_M_13 rfl rfl ?_
              refine r_iload hX d_M_node_237 rfl ?_
              refine r_iast 8 0 (nn) hX d_M_node_239 rfl rfl rfl (by omega) (by decide) ?_
              refine r_aload_n (i := 0) hX d_M_node_240 rfl rfl ?_
              refine r_get 0 10 hX d_M_node_241 rfl rfl fi_M (by decide) fl_M_41 rfl rfl ?_
              refine r_aload_n (i := 0) hX d_M_node_244 rfl rfl ?_
              refine r_get 0 1 hX d_M_node_245 rfl rfl fi_M (by decide) fl_M_13 rfl rfl ?_
              refine r_iload hX d_M_node_248 rfl ?_
              refine r_iast 7 0 (nn) hX d_M_node_250 rfl rfl rfl (by omega) (by decide) ?_
              refine r_aload_n (i := 0) hX d_M_node_251 rfl rfl ?_
              refine r_get 0 12 hX d_M_node_252 rfl rfl fi_M (by decide) fl_M_47 rfl rfl ?_
              refine r_aload_n (i := 0) hX d_M_node_255 rfl rfl ?_
              refine r_get 0 1 hX d_M_node_256 rfl rfl fi_M (by decide) fl_M_13 rfl rfl ?_
              refine r_iconst (v := nI 0) hX d_M_node_259 (by decide) ?_
              refine r_zast (y := nI 0) 9 1 (nn) hX d_M_node_260 rfl rfl rfl (by omega) (by decide) rfl ?_
              refine r_aload_n (i := 0) hX d_M_node_261 rfl rfl ?_
              refine r_dup hX d_M_node_262 rfl ?_
              refine r_get 0 1 hX d_M_node_263 rfl rfl fi_M (by decide) fl_M_13 rfl rfl ?_
              refine r_iconst (v := nI 1) hX d_M_node_266 (by decide) ?_
              refine r_iadd hX d_M_node_267 ?_
              refine r_top (nI_add _ _) ?_
              refine r_put 0 1 hX d_M_node_268 rfl rfl fi_M ft_M_ok fn_M (by decide) fl_M_13 rfl rfl rfl rfl rfl (Nat.le_of_ble_eq_true rfl) ?_
              refine r_aload_n (i := 0) hX d_M_node_271 rfl rfl ?_
              refine r_get 0 1 hX d_M_node_272 rfl rfl fi_M (by decide) fl_M_13 rfl rfl ?_
              refine r_iconst (v := nI 1) hX d_M_node_275 (by decide) ?_
              refine r_isub hX d_M_node_276 ?_
              refine r_top (pk_sub (by omega)) ?_
              exact r_iret (mkU mf nn (nI 18) a (nI jb) c B W L (upd (mf 7) jb (nI 1))) hX hF d_M_node_277 (mkU_post hn (by rw [hkk, hB]) (by rw [hkk, hW]) (by rw [hkk, hL]) (by rw [hkk, show opsN 18 = 2 from rfl]; simp [useN, nfU, opN_nI (show jb < 2 ^ 31 by omega)])) (by rw [hn]; rfl) (by rw [hn]; rfl)
            · have hn : nodeOk nn mf (nI 18) a (nI jb) c = false := by simp [nodeOk, hkk, hL, c128]
              refine r_iconst (v := -1) hX d_M_node_131 (by decide) ?_
              exact r_iret mf hX hF d_M_node_132 (bad hn) (by rw [hn]; rfl) (by rw [hn]; rfl)
      · have hn : nodeOk nn mf (nI 18) a b c = false := by
          have := (nI_eq (by omega) (by decide)).mp c28
          simp [nodeOk, this]
        refine r_iconst (v := -1) hX d_M_node_31 (by decide) ?_
        exact r_iret mf hX hF d_M_node_32 (bad hn) (by rw [hn]; rfl) (by rw [hn]; rfl)
  ·
    refine r_iload_n (i := 1) hX d_M_node_0 rfl rfl ?_
    refine r_if_lt 31 hX d_M_node_1 (by decide) (fun c1 => absurd c1 (by decide)) (fun c1 => ?_)
    refine r_iload_n (i := 1) hX d_M_node_4 rfl rfl ?_
    refine r_bipush (v := nI 21) hX d_M_node_5 (by decide) ?_
    refine r_icmp_gt 31 hX d_M_node_7 (by decide) (fun c7 => absurd c7 (by decide)) (fun c7 => ?_)
    refine r_aload_n (i := 0) hX d_M_node_10 rfl rfl ?_
    refine r_iload_n (i := 1) hX d_M_node_11 rfl rfl ?_
    refine r_iload_n (i := 2) hX d_M_node_12 rfl rfl ?_
    refine r_iload_n (i := 3) hX d_M_node_13 rfl rfl ?_
    refine r_iload hX d_M_node_14 rfl ?_
    refine r_callVwi (q0 := 0) hX d_M_node_16 cw_M_fits ml_M_85 (c_M_fits 19 a b c (by decide) hnn) (Or.inl rfl) rfl rfl rfl rfl (by decide) (Nat.le_of_ble_eq_true rfl) (fun _ => rfl) (fun _ _ => ?_)
    refine r_if_eq 31 hX d_M_node_19 (by decide) (fun c19 => ?_) (fun c19 => ?_)
    · have hn : nodeOk nn mf (nI 19) a b c = false := by
        have h9 := bI_0 c19
        simp only [fitK, Bool.and_eq_false_iff] at h9
        rcases h9 with h9 | h9 <;> simp [nodeOk, hkk, h9]
      refine r_iconst (v := -1) hX d_M_node_31 (by decide) ?_
      exact r_iret mf hX hF d_M_node_32 (bad hn) (by rw [hn]; rfl) (by rw [hn]; rfl)
    · refine r_aload_n (i := 0) hX d_M_node_22 rfl rfl ?_
      refine r_get 0 1 hX d_M_node_23 rfl rfl fi_M (by decide) fl_M_13 rfl rfl ?_
      refine r_bipush (v := nI 60) hX d_M_node_26 (by decide) ?_
      refine r_icmp_ne 33 hX d_M_node_28 (by decide) (fun c28 => ?_) (fun c28 => ?_)
      · have hlt : nn < 60 := by
          rcases Nat.lt_or_ge nn 60 with h | h
          · exact h
          · exact absurd (by rw [show nn = 60 by omega]) c28
        have h9 := bI_1 c19
        simp only [fitK, Bool.and_eq_true] at h9
        obtain ⟨hpl, hfit⟩ := h9
        have hoN := mfit_k (by decide) hfit hnn
        have hops := hoN.ops hnn
        obtain ⟨ja, hja, rfl⟩ := hoN.1 (by decide)
        obtain ⟨jb, hjb, rfl⟩ := hoN.2.1 (by decide)
        obtain ⟨jc, hjc, rfl⟩ := hoN.2.2 rfl
        refine r_aload_n (i := 0) hX d_M_node_33 rfl rfl ?_
        refine r_iload_n (i := 1) hX d_M_node_34 rfl rfl ?_
        refine r_iload_n (i := 2) hX d_M_node_35 rfl rfl ?_
        refine r_iload_n (i := 3) hX d_M_node_36 rfl rfl ?_
        refine r_iload hX d_M_node_37 rfl ?_
        refine r_callVwi (q0 := 0) hX d_M_node_39 cw_M_boundOf ml_M_89 (c_M_boundOf 19 (nI ja) (nI jb) (nI jc) (by decide) hops) (Or.inl rfl) rfl rfl rfl rfl (by decide) (Nat.le_of_ble_eq_true rfl) (fun _ => rfl) (fun _ _ => ?_)
        generalize hB : bndF mf 19 (nI ja) (nI jb) (nI jc) = B
        refine r_istore hX d_M_node_42 (by decide) ?_
        refine r_iconst (v := nI 0) hX d_M_node_44 (by decide) ?_
        refine r_istore hX d_M_node_45 (by decide) ?_
        refine r_aload_n (i := 0) hX d_M_node_47 rfl rfl ?_
        refine r_iload hX d_M_node_48 rfl ?_
        refine r_aload_n (i := 0) hX d_M_node_50 rfl rfl ?_
        refine r_iload_n (i := 1) hX d_M_node_51 rfl rfl ?_
        refine r_callVwi (q0 := 0) hX d_M_node_52 cw_M_namesA ml_M_79 (c_M_namesA 19 (by decide)) (Or.inl rfl) rfl rfl rfl rfl (by decide) (Nat.le_of_ble_eq_true rfl) (fun _ => rfl) (fun _ _ => ?_)
        refine r_iload_n (i := 2) hX d_M_node_55 rfl rfl ?_
        refine r_callVwi (q0 := 0) hX d_M_node_56 cw_M_higher ml_M_93 (c_M_higher (nI 0) (nI ja) (nmA 19) (fun q => ⟨ja, by omega, rfl⟩)) (Or.inl rfl) rfl rfl rfl rfl (by decide) (Nat.le_of_ble_eq_true rfl) (fun _ => rfl) (fun _ _ => ?_)
        refine r_top (y := mx (nI 0) (mf 6 ja)) (by simp [nmA, opN_nI (show ja < 2 ^ 31 by omega), opN_nI (show jb < 2 ^ 31 by omega), opN_nI (show jc < 2 ^ 31 by omega)]) ?_
        refine r_istore hX d_M_node_59 (by decide) ?_
        refine r_aload_n (i := 0) hX d_M_node_61 rfl rfl ?_
        refine r_iload hX d_M_node_62 rfl ?_
        refine r_aload_n (i := 0) hX d_M_node_64 rfl rfl ?_
        refine r_iload_n (i := 1) hX d_M_node_65 rfl rfl ?_
        refine r_callVwi (q0 := 0) hX d_M_node_66 cw_M_namesB ml_M_82 (c_M_namesB 19 (by decide)) (Or.inl rfl) rfl rfl rfl rfl (by decide) (Nat.le_of_ble_eq_true rfl) (fun _ => rfl) (fun _ _ => ?_)
        refine r_iload_n (i := 3) hX d_M_node_69 rfl rfl ?_
        refine r_callVwi (q0 := 0) hX d_M_node_70 cw_M_higher ml_M_93 (c_M_higher (mx (nI 0) (mf 6 ja)) (nI jb) (nmB 19) (fun q => ⟨jb, by omega, rfl⟩)) (Or.inl rfl) rfl rfl rfl rfl (by decide) (Nat.le_of_ble_eq_true rfl) (fun _ => rfl) (fun _ _ => ?_)
        refine r_top (y := mx (mx (nI 0) (mf 6 ja)) (mf 6 jb)) (by simp [nmB, opN_nI (show ja < 2 ^ 31 by omega), opN_nI (show jb < 2 ^ 31 by omega), opN_nI (show jc < 2 ^ 31 by omega)]) ?_
        refine r_istore hX d_M_node_73 (by decide) ?_
        refine r_iconst (v := nI 1) hX d_M_node_75 (by decide) ?_
        refine r_aload_n (i := 0) hX d_M_node_76 rfl rfl ?_
        refine r_iload hX d_M_node_77 rfl ?_
        refine r_iload_n (i := 1) hX d_M_node_79 rfl rfl ?_
        refine r_bipush (v := nI 19) hX d_M_node_80 (by decide) ?_
        refine r_icmp_ne 89 hX d_M_node_82 (by decide) (fun c82 => absurd c82 (by decide)) (fun c82 => ?_)
        refine r_iconst (v := nI 1) hX d_M_node_85 (by decide) ?_
        refine r_goto 90 hX d_M_node_86 (by decide) ?_
        refine r_iload hX d_M_node_90 rfl ?_
        refine r_callVwi (q0 := 0) hX d_M_node_92 cw_M_higher ml_M_93 (c_M_higher (mx (mx (nI 0) (mf 6 ja)) (mf 6 jb)) (nI jc) true (fun q => ⟨jc, by omega, rfl⟩)) (Or.inl rfl) rfl rfl rfl rfl (by decide) (Nat.le_of_ble_eq_true rfl) (fun _ => rfl) (fun _ _ => ?_)
        refine r_top (y := mx (mx (mx (nI 0) (mf 6 ja)) (mf 6 jb)) (mf 6 jc)) (by simp [opN_nI (show ja < 2 ^ 31 by omega), opN_nI (show jb < 2 ^ 31 by omega), opN_nI (show jc < 2 ^ 31 by omega)]) ?_
        refine r_iadd hX d_M_node_95 ?_
        refine r_top (y := lvF mf (opsN 19) (nI ja) (nI jb) (nI jc)) (by rw [show opsN 19 = 7 from rfl]; simp [lvF, opN_nI (show ja < 2 ^ 31 by omega), opN_nI (show jb < 2 ^ 31 by omega), opN_nI (show jc < 2 ^ 31 by omega)]; rw [Int32.add_comm]) ?_
        generalize hL : lvF mf (opsN 19) (nI ja) (nI jb) (nI jc) = L
        refine r_istore hX d_M_node_96 (by decide) ?_
        refine r_aload_n (i := 0) hX d_M_node_98 rfl rfl ?_
        refine r_iload_n (i := 1) hX d_M_node_99 rfl rfl ?_
        refine r_iload_n (i := 2) hX d_M_node_100 rfl rfl ?_
        refine r_iload_n (i := 3) hX d_M_node_101 rfl rfl ?_
        refine r_iload hX d_M_node_102 rfl ?_
        refine r_callVwi (q0 := 0) hX d_M_node_104 cw_M_workOf ml_M_97 (c_M_workOf 19 (nI ja) (nI jb) (nI jc) (by decide) hops) (Or.inl rfl) rfl rfl rfl rfl (by decide) (Nat.le_of_ble_eq_true rfl) (fun _ => rfl) (fun _ _ => ?_)
        generalize hW : wkF mf 19 (nI ja) (nI jb) (nI jc) = W
        refine r_istore hX d_M_node_107 (by decide) ?_
        refine r_iload hX d_M_node_109 rfl ?_
        refine r_bipush (v := nI 64) hX d_M_node_111 (by decide) ?_
        refine r_icmp_gt 131 hX d_M_node_113 (by decide) (fun c113 => ?_) (fun c113 => ?_)
        · have hn : nodeOk nn mf (nI 19) (nI ja) (nI jb) (nI jc) = false := by simp [nodeOk, hkk, hB, c113]
          refine r_iconst (v := -1) hX d_M_node_131 (by decide) ?_
          exact r_iret mf hX hF d_M_node_132 (bad hn) (by rw [hn]; rfl) (by rw [hn]; rfl)
        · refine r_iload hX d_M_node_116 rfl ?_
          refine r_sipush (v := nI 2000) hX d_M_node_118 (by decide) ?_
          refine r_icmp_gt 131 hX d_M_node_121 (by decide) (fun c121 => ?_) (fun c121 => ?_)
          · have hn : nodeOk nn mf (nI 19) (nI ja) (nI jb) (nI jc) = false := by simp [nodeOk, hkk, hW, c121]
            refine r_iconst (v := -1) hX d_M_node_131 (by decide) ?_
            exact r_iret mf hX hF d_M_node_132 (bad hn) (by rw [hn]; rfl) (by rw [hn]; rfl)
          · refine r_iload hX d_M_node_124 rfl ?_
            refine r_bipush (v := nI 8) hX d_M_node_126 (by decide) ?_
            refine r_icmp_le 133 hX d_M_node_128 (by decide) (fun c128 => ?_) (fun c128 => ?_)
            · have hn : nodeOk nn mf (nI 19) (nI ja) (nI jb) (nI jc) = true := by simp [nodeOk, hkk, hB, hW, hL, hx0, hx1, c113, c121, c128, hlt, hpl, hfit]
              refine r_aload_n (i := 0) hX d_M_node_133 rfl rfl ?_
              refine r_iload_n (i := 1) hX d_M_node_134 rfl rfl ?_
              refine r_callVwi (q0 := 0) hX d_M_node_135 cw_M_namesA ml_M_79 (c_M_namesA 19 (by decide)) (Or.inl rfl) rfl rfl rfl rfl (by decide) (Nat.le_of_ble_eq_true rfl) (fun _ => rfl) (fun _ _ => ?_)
              refine r_if_eq 148 hX d_M_node_138 (by decide) (fun c138 => absurd c138 (by decide)) (fun c138 => ?_)
              refine r_aload_n (i := 0) hX d_M_node_141 rfl rfl ?_
              refine r_get 0 12 hX d_M_node_142 rfl rfl fi_M (by decide) fl_M_47 rfl rfl ?_
              refine r_iload_n (i := 2) hX d_M_node_145 rfl rfl ?_
              refine r_iconst (v := nI 1) hX d_M_node_146 (by decide) ?_
              refine r_zast (y := nI 1) 9 1 (ja) hX d_M_node_147 rfl rfl rfl (by omega) (by decide) rfl ?_
              refine r_ws (ws' := WM am cI cZ tl nn rs ae dp tx (m7 mf (upd (mf 7) ja (nI 1))) rw sz nv ph tu sv) rfl ?_
              refine r_aload_n (i := 0) hX d_M_node_148 rfl rfl ?_
              refine r_iload_n (i := 1) hX d_M_node_149 rfl rfl ?_
              refine r_callVwi (q0 := 0) hX d_M_node_150 cw_M_namesB ml_M_82 (c_M_namesB 19 (by decide)) (Or.inl rfl) rfl rfl rfl rfl (by decide) (Nat.le_of_ble_eq_true rfl) (fun _ => rfl) (fun _ _ => ?_)
              refine r_if_eq 163 hX d_M_node_153 (by decide) (fun c153 => absurd c153 (by decide)) (fun c153 => ?_)
              refine r_aload_n (i := 0) hX d_M_node_156 rfl rfl ?_
              refine r_get 0 12 hX d_M_node_157 rfl rfl fi_M (by decide) fl_M_47 rfl rfl ?_
              refine r_iload_n (i := 3) hX d_M_node_160 rfl rfl ?_
              refine r_iconst (v := nI 1) hX d_M_node_161 (by decide) ?_
              refine r_zast (y := nI 1) 9 1 (jb) hX d_M_node_162 rfl rfl rfl (by omega) (by decide) rfl ?_
              refine r_iload_n (i := 1) hX d_M_node_163 rfl rfl ?_
              refine r_bipush (v := nI 19) hX d_M_node_164 (by decide) ?_
              refine r_icmp_ne 177 hX d_M_node_166 (by decide) (fun c166 => absurd c166 (by decide)) (fun c166 => ?_)
              refine r_aload_n (i := 0) hX d_M_node_169 rfl rfl ?_
              refine r_get 0 12 hX d_M_node_170 rfl rfl fi_M (by decide) fl_M_47 rfl rfl ?_
              refine r_iload hX d_M_node_173 rfl ?_
              refine r_iconst (v := nI 1) hX d_M_node_175 (by decide) ?_
              refine r_zast (y := nI 1) 9 1 (jc) hX d_M_node_176 rfl rfl rfl (by omega) (by decide) rfl ?_
              refine r_aload_n (i := 0) hX d_M_node_177 rfl rfl ?_
              refine r_get 0 5 hX d_M_node_178 rfl rfl fi_M (by decide) fl_M_26 rfl rfl ?_
              refine r_aload_n (i := 0) hX d_M_node_181 rfl rfl ?_
              refine r_get 0 1 hX d_M_node_182 rfl rfl fi_M (by decide) fl_M_13 rfl rfl ?_
              refine r_iload_n (i := 1) hX d_M_node_185 rfl rfl ?_
              refine r_iast 2 0 (nn) hX d_M_node_186 rfl rfl rfl (by omega) (by decide) ?_
              refine r_aload_n (i := 0) hX d_M_node_187 rfl rfl ?_
              refine r_get 0 6 hX d_M_node_188 rfl rfl fi_M (by decide) fl_M_29 rfl rfl ?_
              refine r_aload_n (i := 0) hX d_M_node_191 rfl rfl ?_
              refine r_get 0 1 hX d_M_node_192 rfl rfl fi_M (by decide) fl_M_13 rfl rfl ?_
              refine r_iload_n (i := 2) hX d_M_node_195 rfl rfl ?_
              refine r_iast 3 0 (nn) hX d_M_node_196 rfl rfl rfl (by omega) (by decide) ?_
              refine r_aload_n (i := 0) hX d_M_node_197 rfl rfl ?_
              refine r_get 0 7 hX d_M_node_198 rfl rfl fi_M (by decide) fl_M_32 rfl rfl ?_
              refine r_aload_n (i := 0) hX d_M_node_201 rfl rfl ?_
              refine r_get 0 1 hX d_M_node_202 rfl rfl fi_M (by decide) fl_M_13 rfl rfl ?_
              refine r_iload_n (i := 3) hX d_M_node_205 rfl rfl ?_
              refine r_iast 4 0 (nn) hX d_M_node_206 rfl rfl rfl (by omega) (by decide) ?_
              refine r_aload_n (i := 0) hX d_M_node_207 rfl rfl ?_
              refine r_get 0 8 hX d_M_node_208 rfl rfl fi_M (by decide) fl_M_35 rfl rfl ?_
              refine r_aload_n (i := 0) hX d_M_node_211 rfl rfl ?_
              refine r_get 0 1 hX d_M_node_212 rfl rfl fi_M (by decide) fl_M_13 rfl rfl ?_
              refine r_iload hX d_M_node_215 rfl ?_
              refine r_iast 5 0 (nn) hX d_M_node_217 rfl rfl rfl (by omega) (by decide) ?_
              refine r_aload_n (i := 0) hX d_M_node_218 rfl rfl ?_
              refine r_get 0 9 hX d_M_node_219 rfl rfl fi_M (by decide) fl_M_38 rfl rfl ?_
              refine r_aload_n (i := 0) hX d_M_node_222 rfl rfl ?_
              refine r_get 0 1 hX d_M_node_223 rfl rfl fi_M (by decide) fl_M_13 rfl rfl ?_
              refine r_iload hX d_M_node_226 rfl ?_
              refine r_iast 6 0 (nn) hX d_M_node_228 rfl rfl rfl (by omega) (by decide) ?_
              refine r_aload_n (i := 0) hX d_M_node_229 rfl rfl ?_
              refine r_get 0 11 hX d_M_node_230 rfl rfl fi_M (by decide) fl_M_44 rfl rfl ?_
              refine r_aload_n (i := 0) hX d_M_node_233 rfl rfl ?_
              refine r_get 0 1 hX d_M_node_234 rfl rfl fi_M (by decide) fl_M_13 rfl rfl ?_
              refine r_iload hX d_M_node_237 rfl ?_
              refine r_iast 8 0 (nn) hX d_M_node_239 rfl rfl rfl (by omega) (by decide) ?_
              refine r_aload_n (i := 0) hX d_M_node_240 rfl rfl ?_
              refine r_get 0 10 hX d_M_node_241 rfl rfl fi_M (by decide) fl_M_41 rfl rfl ?_
              refine r_aload_n (i := 0) hX d_M_node_244 rfl rfl ?_
              refine r_get 0 1 hX d_M_node_245 rfl rfl fi_M (by decide) fl_M_13 rfl rfl ?_
              refine r_iload hX d_M_node_248 rfl ?_
              refine r_iast 7 0 (nn) hX d_M_node_250 rfl rfl rfl (by omega) (by decide) ?_
              refine r_aload_n (i := 0) hX d_M_node_251 rfl rfl ?_
              refine r_get 0 12 hX d_M_node_252 rfl rfl fi_M (by decide) fl_M_47 rfl rfl ?_
              refine r_aload_n (i := 0) hX d_M_node_255 rfl rfl ?_
              refine r_get 0 1 hX d_M_node_256 rfl rfl fi_M (by decide) fl_M_13 rfl rfl ?_
              refine r_iconst (v := nI 0) hX d_M_node_259 (by decide) ?_
              refine r_zast (y := nI 0) 9 1 (nn) hX d_M_node_260 rfl rfl rfl (by omega) (by decide) rfl ?_
              refine r_aload_n (i := 0) hX d_M_node_261 rfl rfl ?_
              refine r_dup hX d_M_node_262 rfl ?_
              refine r_get 0 1 hX d_M_node_263 rfl rfl fi_M (by decide) fl_M_13 rfl rfl ?_
              refine r_iconst (v := nI 1) hX d_M_node_266 (by decide) ?_
              refine r_iadd hX d_M_node_267 ?_
              refine r_top (nI_add _ _) ?_
              refine r_put 0 1 hX d_M_node_268 rfl rfl fi_M ft_M_ok fn_M (by decide) fl_M_13 rfl rfl rfl rfl rfl (Nat.le_of_ble_eq_true rfl) ?_
              refine r_aload_n (i := 0) hX d_M_node_271 rfl rfl ?_
              refine r_get 0 1 hX d_M_node_272 rfl rfl fi_M (by decide) fl_M_13 rfl rfl ?_
              refine r_iconst (v := nI 1) hX d_M_node_275 (by decide) ?_
              refine r_isub hX d_M_node_276 ?_
              refine r_top (pk_sub (by omega)) ?_
              exact r_iret (mkU mf nn (nI 19) (nI ja) (nI jb) (nI jc) B W L (upd (upd (upd (mf 7) ja (nI 1)) jb (nI 1)) jc (nI 1))) hX hF d_M_node_277 (mkU_post hn (by rw [hkk, hB]) (by rw [hkk, hW]) (by rw [hkk, hL]) (by rw [hkk, show opsN 19 = 7 from rfl]; simp [useN, nfU, opN_nI (show ja < 2 ^ 31 by omega), opN_nI (show jb < 2 ^ 31 by omega), opN_nI (show jc < 2 ^ 31 by omega)])) (by rw [hn]; rfl) (by rw [hn]; rfl)
            · have hn : nodeOk nn mf (nI 19) (nI ja) (nI jb) (nI jc) = false := by simp [nodeOk, hkk, hL, c128]
              refine r_iconst (v := -1) hX d_M_node_131 (by decide) ?_
              exact r_iret mf hX hF d_M_node_132 (bad hn) (by rw [hn]; rfl) (by rw [hn]; rfl)
      · have hn : nodeOk nn mf (nI 19) a b c = false := by
          have := (nI_eq (by omega) (by decide)).mp c28
          simp [nodeOk, this]
        refine r_iconst (v := -1) hX d_M_node_31 (by decide) ?_
        exact r_iret mf hX hF d_M_node_32 (bad hn) (by rw [hn]; rfl) (by rw [hn]; rfl)
  ·
    refine r_iload_n (i := 1) hX d_M_node_0 rfl rfl ?_
    refine r_if_lt 31 hX d_M_node_1 (by decide) (fun c1 => absurd c1 (by decide)) (fun c1 => ?_)
    refine r_iload_n (i := 1) hX d_M_node_4 rfl rfl ?_
    refine r_bipush (v := nI 21) hX d_M_node_5 (by decide) ?_
    refine r_icmp_gt 31 hX d_M_node_7 (by decide) (fun c7 => absurd c7 (by decide)) (fun c7 => ?_)
    refine r_aload_n (i := 0) hX d_M_node_10 rfl rfl ?_
    refine r_iload_n (i := 1) hX d_M_node_11 rfl rfl ?_
    refine r_iload_n (i := 2) hX d_M_node_12 rfl rfl ?_
    refine r_iload_n (i := 3) hX d_M_node_13 rfl rfl ?_
    refine r_iload hX d_M_node_14 rfl ?_
    refine r_callVwi (q0 := 0) hX d_M_node_16 cw_M_fits ml_M_85 (c_M_fits 20 a b c (by decide) hnn) (Or.inl rfl) rfl rfl rfl rfl (by decide) (Nat.le_of_ble_eq_true rfl) (fun _ => rfl) (fun _ _ => ?_)
    refine r_if_eq 31 hX d_M_node_19 (by decide) (fun c19 => ?_) (fun c19 => ?_)
    · have hn : nodeOk nn mf (nI 20) a b c = false := by
        have h9 := bI_0 c19
        simp only [fitK, Bool.and_eq_false_iff] at h9
        rcases h9 with h9 | h9 <;> simp [nodeOk, hkk, h9]
      refine r_iconst (v := -1) hX d_M_node_31 (by decide) ?_
      exact r_iret mf hX hF d_M_node_32 (bad hn) (by rw [hn]; rfl) (by rw [hn]; rfl)
    · refine r_aload_n (i := 0) hX d_M_node_22 rfl rfl ?_
      refine r_get 0 1 hX d_M_node_23 rfl rfl fi_M (by decide) fl_M_13 rfl rfl ?_
      refine r_bipush (v := nI 60) hX d_M_node_26 (by decide) ?_
      refine r_icmp_ne 33 hX d_M_node_28 (by decide) (fun c28 => ?_) (fun c28 => ?_)
      · have hlt : nn < 60 := by
          rcases Nat.lt_or_ge nn 60 with h | h
          · exact h
          · exact absurd (by rw [show nn = 60 by omega]) c28
        have h9 := bI_1 c19
        simp only [fitK, Bool.and_eq_true] at h9
        obtain ⟨hpl, hfit⟩ := h9
        have hoN := mfit_k (by decide) hfit hnn
        have hops := hoN.ops hnn
        obtain ⟨ja, hja, rfl⟩ := hoN.1 (by decide)
        refine r_aload_n (i := 0) hX d_M_node_33 rfl rfl ?_
        refine r_iload_n (i := 1) hX d_M_node_34 rfl rfl ?_
        refine r_iload_n (i := 2) hX d_M_node_35 rfl rfl ?_
        refine r_iload_n (i := 3) hX d_M_node_36 rfl rfl ?_
        refine r_iload hX d_M_node_37 rfl ?_
        refine r_callVwi (q0 := 0) hX d_M_node_39 cw_M_boundOf ml_M_89 (c_M_boundOf 20 (nI ja) b c (by decide) hops) (Or.inl rfl) rfl rfl rfl rfl (by decide) (Nat.le_of_ble_eq_true rfl) (fun _ => rfl) (fun _ _ => ?_)
        generalize hB : bndF mf 20 (nI ja) b c = B
        refine r_istore hX d_M_node_42 (by decide) ?_
        refine r_iconst (v := nI 0) hX d_M_node_44 (by decide) ?_
        refine r_istore hX d_M_node_45 (by decide) ?_
        refine r_aload_n (i := 0) hX d_M_node_47 rfl rfl ?_
        refine r_iload hX d_M_node_48 rfl ?_
        refine r_aload_n (i := 0) hX d_M_node_50 rfl rfl ?_
        refine r_iload_n (i := 1) hX d_M_node_51 rfl rfl ?_
        refine r_callVwi (q0 := 0) hX d_M_node_52 cw_M_namesA ml_M_79 (c_M_namesA 20 (by decide)) (Or.inl rfl) rfl rfl rfl rfl (by decide) (Nat.le_of_ble_eq_true rfl) (fun _ => rfl) (fun _ _ => ?_)
        refine r_iload_n (i := 2) hX d_M_node_55 rfl rfl ?_
        refine r_callVwi (q0 := 0) hX d_M_node_56 cw_M_higher ml_M_93 (c_M_higher (nI 0) (nI ja) (nmA 20) (fun q => ⟨ja, by omega, rfl⟩)) (Or.inl rfl) rfl rfl rfl rfl (by decide) (Nat.le_of_ble_eq_true rfl) (fun _ => rfl) (fun _ _ => ?_)
        refine r_top (y := mx (nI 0) (mf 6 ja)) (by simp [nmA, opN_nI (show ja < 2 ^ 31 by omega)]) ?_
        refine r_istore hX d_M_node_59 (by decide) ?_
        refine r_aload_n (i := 0) hX d_M_node_61 rfl rfl ?_
        refine r_iload hX d_M_node_62 rfl ?_
        refine r_aload_n (i := 0) hX d_M_node_64 rfl rfl ?_
        refine r_iload_n (i := 1) hX d_M_node_65 rfl rfl ?_
        refine r_callVwi (q0 := 0) hX d_M_node_66 cw_M_namesB ml_M_82 (c_M_namesB 20 (by decide)) (Or.inl rfl) rfl rfl rfl rfl (by decide) (Nat.le_of_ble_eq_true rfl) (fun _ => rfl) (fun _ _ => ?_)
        refine r_iload_n (i := 3) hX d_M_node_69 rfl rfl ?_
        refine r_callVwi (q0 := 0) hX d_M_node_70 cw_M_higher ml_M_93 (c_M_higher (mx (nI 0) (mf 6 ja)) b (nmB 20) (fun q => absurd q (by decide))) (Or.inl rfl) rfl rfl rfl rfl (by decide) (Nat.le_of_ble_eq_true rfl) (fun _ => rfl) (fun _ _ => ?_)
        refine r_top (y := mx (nI 0) (mf 6 ja)) (by simp [nmB, opN_nI (show ja < 2 ^ 31 by omega)]) ?_
        refine r_istore hX d_M_node_73 (by decide) ?_
        refine r_iconst (v := nI 1) hX d_M_node_75 (by decide) ?_
        refine r_aload_n (i := 0) hX d_M_node_76 rfl rfl ?_
        refine r_iload hX d_M_node_77 rfl ?_
        refine r_iload_n (i := 1) hX d_M_node_79 rfl rfl ?_
        refine r_bipush (v := nI 19) hX d_M_node_80 (by decide) ?_
        refine r_icmp_ne 89 hX d_M_node_82 (by decide) (fun c82 => ?_) (fun c82 => absurd c82 (by decide))
        refine r_iconst (v := nI 0) hX d_M_node_89 (by decide) ?_
        refine r_iload hX d_M_node_90 rfl ?_
        refine r_callVwi (q0 := 0) hX d_M_node_92 cw_M_higher ml_M_93 (c_M_higher (mx (nI 0) (mf 6 ja)) c false (fun q => absurd q (by decide))) (Or.inl rfl) rfl rfl rfl rfl (by decide) (Nat.le_of_ble_eq_true rfl) (fun _ => rfl) (fun _ _ => ?_)
        refine r_top (y := mx (nI 0) (mf 6 ja)) (by simp [opN_nI (show ja < 2 ^ 31 by omega)]) ?_
        refine r_iadd hX d_M_node_95 ?_
        refine r_top (y := lvF mf (opsN 20) (nI ja) b c) (by rw [show opsN 20 = 1 from rfl]; simp [lvF, opN_nI (show ja < 2 ^ 31 by omega)]; rw [Int32.add_comm]) ?_
        generalize hL : lvF mf (opsN 20) (nI ja) b c = L
        refine r_istore hX d_M_node_96 (by decide) ?_
        refine r_aload_n (i := 0) hX d_M_node_98 rfl rfl ?_
        refine r_iload_n (i := 1) hX d_M_node_99 rfl rfl ?_
        refine r_iload_n (i := 2) hX d_M_node_100 rfl rfl ?_
        refine r_iload_n (i := 3) hX d_M_node_101 rfl rfl ?_
        refine r_iload hX d_M_node_102 rfl ?_
        refine r_callVwi (q0 := 0) hX d_M_node_104 cw_M_workOf ml_M_97 (c_M_workOf 20 (nI ja) b c (by decide) hops) (Or.inl rfl) rfl rfl rfl rfl (by decide) (Nat.le_of_ble_eq_true rfl) (fun _ => rfl) (fun _ _ => ?_)
        generalize hW : wkF mf 20 (nI ja) b c = W
        refine r_istore hX d_M_node_107 (by decide) ?_
        refine r_iload hX d_M_node_109 rfl ?_
        refine r_bipush (v := nI 64) hX d_M_node_111 (by decide) ?_
        refine r_icmp_gt 131 hX d_M_node_113 (by decide) (fun c113 => ?_) (fun c113 => ?_)
        · have hn : nodeOk nn mf (nI 20) (nI ja) b c = false := by simp [nodeOk, hkk, hB, c113]
          refine r_iconst (v := -1) hX d_M_node_131 (by decide) ?_
          exact r_iret mf hX hF d_M_node_132 (bad hn) (by rw [hn]; rfl) (by rw [hn]; rfl)
        · refine r_iload hX d_M_node_116 rfl ?_
          refine r_sipush (v := nI 2000) hX d_M_node_118 (by decide) ?_
          refine r_icmp_gt 131 hX d_M_node_121 (by decide) (fun c121 => ?_) (fun c121 => ?_)
          · have hn : nodeOk nn mf (nI 20) (nI ja) b c = false := by simp [nodeOk, hkk, hW, c121]
            refine r_iconst (v := -1) hX d_M_node_131 (by decide) ?_
            exact r_iret mf hX hF d_M_node_132 (bad hn) (by rw [hn]; rfl) (by rw [hn]; rfl)
          · refine r_iload hX d_M_node_124 rfl ?_
            refine r_bipush (v := nI 8) hX d_M_node_126 (by decide) ?_
            refine r_icmp_le 133 hX d_M_node_128 (by decide) (fun c128 => ?_) (fun c128 => ?_)
            · have hn : nodeOk nn mf (nI 20) (nI ja) b c = true := by simp [nodeOk, hkk, hB, hW, hL, hx0, hx1, c113, c121, c128, hlt, hpl, hfit]
              refine r_aload_n (i := 0) hX d_M_node_133 rfl rfl ?_
              refine r_iload_n (i := 1) hX d_M_node_134 rfl rfl ?_
              refine r_callVwi (q0 := 0) hX d_M_node_135 cw_M_namesA ml_M_79 (c_M_namesA 20 (by decide)) (Or.inl rfl) rfl rfl rfl rfl (by decide) (Nat.le_of_ble_eq_true rfl) (fun _ => rfl) (fun _ _ => ?_)
              refine r_if_eq 148 hX d_M_node_138 (by decide) (fun c138 => absurd c138 (by decide)) (fun c138 => ?_)
              refine r_aload_n (i := 0) hX d_M_node_141 rfl rfl ?_
              refine r_get 0 12 hX d_M_node_142 rfl rfl fi_M (by decide) fl_M_47 rfl rfl ?_
              refine r_iload_n (i := 2) hX d_M_node_145 rfl rfl ?_
              refine r_iconst (v := nI 1) hX d_M_node_146 (by decide) ?_
              refine r_zast (y := nI 1) 9 1 (ja) hX d_M_node_147 rfl rfl rfl (by omega) (by decide) rfl ?_
              refine r_ws (ws' := WM am cI cZ tl nn rs ae dp tx (m7 mf (upd (mf 7) ja (nI 1))) rw sz nv ph tu sv) rfl ?_
              refine r_aload_n (i := 0) hX d_M_node_148 rfl rfl ?_
              refine r_iload_n (i := 1) hX d_M_node_149 rfl rfl ?_
              refine r_callVwi (q0 := 0) hX d_M_node_150 cw_M_namesB ml_M_82 (c_M_namesB 20 (by decide)) (Or.inl rfl) rfl rfl rfl rfl (by decide) (Nat.le_of_ble_eq_true rfl) (fun _ => rfl) (fun _ _ => ?_)
              refine r_if_eq 163 hX d_M_node_153 (by decide) (fun c153 => ?_) (fun c153 => absurd c153 (by decide))
              refine r_iload_n (i := 1) hX d_M_node_163 rfl rfl ?_
              refine r_bipush (v := nI 19) hX d_M_node_164 (by decide) ?_
              refine r_icmp_ne 177 hX d_M_node_166 (by decide) (fun c166 => ?_) (fun c166 => absurd c166 (by decide))
              refine r_aload_n (i := 0) hX d_M_node_177 rfl rfl ?_
              refine r_get 0 5 hX d_M_node_178 rfl rfl fi_M (by decide) fl_M_26 rfl rfl ?_
              refine r_aload_n (i := 0) hX d_M_node_181 rfl rfl ?_
              refine r_get 0 1 hX d_M_node_182 rfl rfl fi_M (by decide) fl_M_13 rfl rfl ?_
              refine r_iload_n (i := 1) hX d_M_node_185 rfl rfl ?_
              refine r_iast 2 0 (nn) hX d_M_node_186 rfl rfl rfl (by omega) (by decide) ?_
              refine r_aload_n (i := 0) hX d_M_node_187 rfl rfl ?_
              refine r_get 0 6 hX d_M_node_188 rfl rfl fi_M (by decide) fl_M_29 rfl rfl ?_
              refine r_aload_n (i := 0) hX d_M_node_191 rfl rfl ?_
              refine r_get 0 1 hX d_M_node_192 rfl rfl fi_M (by decide) fl_M_13 rfl rfl ?_
              refine r_iload_n (i := 2) hX d_M_node_195 rfl rfl ?_
              refine r_iast 3 0 (nn) hX d_M_node_196 rfl rfl rfl (by omega) (by decide) ?_
              refine r_aload_n (i := 0) hX d_M_node_197 rfl rfl ?_
              refine r_get 0 7 hX d_M_node_198 rfl rfl fi_M (by decide) fl_M_32 rfl rfl ?_
              refine r_aload_n (i := 0) hX d_M_node_201 rfl rfl ?_
              refine r_get 0 1 hX d_M_node_202 rfl rfl fi_M (by decide) fl_M_13 rfl rfl ?_
              refine r_iload_n (i := 3) hX d_M_node_205 rfl rfl ?_
              refine r_iast 4 0 (nn) hX d_M_node_206 rfl rfl rfl (by omega) (by decide) ?_
              refine r_aload_n (i := 0) hX d_M_node_207 rfl rfl ?_
              refine r_get 0 8 hX d_M_node_208 rfl rfl fi_M (by decide) fl_M_35 rfl rfl ?_
              refine r_aload_n (i := 0) hX d_M_node_211 rfl rfl ?_
              refine r_get 0 1 hX d_M_node_212 rfl rfl fi_M (by decide) fl_M_13 rfl rfl ?_
              refine r_iload hX d_M_node_215 rfl ?_
              refine r_iast 5 0 (nn) hX d_M_node_217 rfl rfl rfl (by omega) (by decide) ?_
              refine r_aload_n (i := 0) hX d_M_node_218 rfl rfl ?_
              refine r_get 0 9 hX d_M_node_219 rfl rfl fi_M (by decide) fl_M_38 rfl rfl ?_
              refine r_aload_n (i := 0) hX d_M_node_222 rfl rfl ?_
              refine r_get 0 1 hX d_M_node_223 rfl rfl fi_M (by decide) fl_M_13 rfl rfl ?_
              refine r_iload hX d_M_node_226 rfl ?_
              refine r_iast 6 0 (nn) hX d_M_node_228 rfl rfl rfl (by omega) (by decide) ?_
              refine r_aload_n (i := 0) hX d_M_node_229 rfl rfl ?_
              refine r_get 0 11 hX d_M_node_230 rfl rfl fi_M (by decide) fl_M_44 rfl rfl ?_
              refine r_aload_n (i := 0) hX d_M_node_233 rfl rfl ?_
              refine r_get 0 1 hX d_M_node_234 rfl rfl fi_M (by decide) fl_M_13 rfl rfl ?_
              refine r_iload hX d_M_node_237 rfl ?_
              refine r_iast 8 0 (nn) hX d_M_node_239 rfl rfl rfl (by omega) (by decide) ?_
              refine r_aload_n (i := 0) hX d_M_node_240 rfl rfl ?_
              refine r_get 0 10 hX d_M_node_241 rfl rfl fi_M (by decide) fl_M_41 rfl rfl ?_
              refine r_aload_n (i := 0) hX d_M_node_244 rfl rfl ?_
              refine r_get 0 1 hX d_M_node_245 rfl rfl fi_M (by decide) fl_M_13 rfl rfl ?_
              refine r_iload hX d_M_node_248 rfl ?_
              refine r_iast 7 0 (nn) hX d_M_node_250 rfl rfl rfl (by omega) (by decide) ?_
              refine r_aload_n (i := 0) hX d_M_node_251 rfl rfl ?_
              refine r_get 0 12 hX d_M_node_252 rfl rfl fi_M (by decide) fl_M_47 rfl rfl ?_
              refine r_aload_n (i := 0) hX d_M_node_255 rfl rfl ?_
              refine r_get 0 1 hX d_M_node_256 rfl rfl fi_M (by decide) fl_M_13 rfl rfl ?_
              refine r_iconst (v := nI 0) hX d_M_node_259 (by decide) ?_
              refine r_zast (y := nI 0) 9 1 (nn) hX d_M_node_260 rfl rfl rfl (by omega) (by decide) rfl ?_
              refine r_aload_n (i := 0) hX d_M_node_261 rfl rfl ?_
              refine r_dup hX d_M_node_262 rfl ?_
              refine r_get 0 1 hX d_M_node_263 rfl rfl fi_M (by decide) fl_M_13 rfl rfl ?_
              refine r_iconst (v := nI 1) hX d_M_node_266 (by decide) ?_
              refine r_iadd hX d_M_node_267 ?_
              refine r_top (nI_add _ _) ?_
              refine r_put 0 1 hX d_M_node_268 rfl rfl fi_M ft_M_ok fn_M (by decide) fl_M_13 rfl rfl rfl rfl rfl (Nat.le_of_ble_eq_true rfl) ?_
              refine r_aload_n (i := 0) hX d_M_node_271 rfl rfl ?_
              refine r_get 0 1 hX d_M_node_272 rfl rfl fi_M (by decide) fl_M_13 rfl rfl ?_
              refine r_iconst (v := nI 1) hX d_M_node_275 (by decide) ?_
              refine r_isub hX d_M_node_276 ?_
              refine r_top (pk_sub (by omega)) ?_
              exact r_iret (mkU mf nn (nI 20) (nI ja) b c B W L (upd (mf 7) ja (nI 1))) hX hF d_M_node_277 (mkU_post hn (by rw [hkk, hB]) (by rw [hkk, hW]) (by rw [hkk, hL]) (by rw [hkk, show opsN 20 = 1 from rfl]; simp [useN, nfU, opN_nI (show ja < 2 ^ 31 by omega)])) (by rw [hn]; rfl) (by rw [hn]; rfl)
            · have hn : nodeOk nn mf (nI 20) (nI ja) b c = false := by simp [nodeOk, hkk, hL, c128]
              refine r_iconst (v := -1) hX d_M_node_131 (by decide) ?_
              exact r_iret mf hX hF d_M_node_132 (bad hn) (by rw [hn]; rfl) (by rw [hn]; rfl)
      · have hn : nodeOk nn mf (nI 20) a b c = false := by
          have := (nI_eq (by omega) (by decide)).mp c28
          simp [nodeOk, this]
        refine r_iconst (v := -1) hX d_M_node_31 (by decide) ?_
        exact r_iret mf hX hF d_M_node_32 (bad hn) (by rw [hn]; rfl) (by rw [hn]; rfl)
  ·
    refine r_iload_n (i := 1) hX d_M_node_0 rfl rfl ?_
    refine r_if_lt 31 hX d_M_node_1 (by decide) (fun c1 => absurd c1 (by decide)) (fun c1 => ?_)
    refine r_iload_n (i := 1) hX d_M_node_4 rfl rfl ?_
    refine r_bipush (v := nI 21) hX d_M_node_5 (by decide) ?_
    refine r_icmp_gt 31 hX d_M_node_7 (by decide) (fun c7 => absurd c7 (by decide)) (fun c7 => ?_)
    refine r_aload_n (i := 0) hX d_M_node_10 rfl rfl ?_
    refine r_iload_n (i := 1) hX d_M_node_11 rfl rfl ?_
    refine r_iload_n (i := 2) hX d_M_node_12 rfl rfl ?_
    refine r_iload_n (i := 3) hX d_M_node_13 rfl rfl ?_
    refine r_iload hX d_M_node_14 rfl ?_
    refine r_callVwi (q0 := 0) hX d_M_node_16 cw_M_fits ml_M_85 (c_M_fits 21 a b c (by decide) hnn) (Or.inl rfl) rfl rfl rfl rfl (by decide) (Nat.le_of_ble_eq_true rfl) (fun _ => rfl) (fun _ _ => ?_)
    refine r_if_eq 31 hX d_M_node_19 (by decide) (fun c19 => ?_) (fun c19 => ?_)
    · have hn : nodeOk nn mf (nI 21) a b c = false := by
        have h9 := bI_0 c19
        simp only [fitK, Bool.and_eq_false_iff] at h9
        rcases h9 with h9 | h9 <;> simp [nodeOk, hkk, h9]
      refine r_iconst (v := -1) hX d_M_node_31 (by decide) ?_
      exact r_iret mf hX hF d_M_node_32 (bad hn) (by rw [hn]; rfl) (by rw [hn]; rfl)
    · refine r_aload_n (i := 0) hX d_M_node_22 rfl rfl ?_
      refine r_get 0 1 hX d_M_node_23 rfl rfl fi_M (by decide) fl_M_13 rfl rfl ?_
      refine r_bipush (v := nI 60) hX d_M_node_26 (by decide) ?_
      refine r_icmp_ne 33 hX d_M_node_28 (by decide) (fun c28 => ?_) (fun c28 => ?_)
      · have hlt : nn < 60 := by
          rcases Nat.lt_or_ge nn 60 with h | h
          · exact h
          · exact absurd (by rw [show nn = 60 by omega]) c28
        have h9 := bI_1 c19
        simp only [fitK, Bool.and_eq_true] at h9
        obtain ⟨hpl, hfit⟩ := h9
        have hoN := mfit_k (by decide) hfit hnn
        have hops := hoN.ops hnn
        obtain ⟨ja, hja, rfl⟩ := hoN.1 (by decide)
        refine r_aload_n (i := 0) hX d_M_node_33 rfl rfl ?_
        refine r_iload_n (i := 1) hX d_M_node_34 rfl rfl ?_
        refine r_iload_n (i := 2) hX d_M_node_35 rfl rfl ?_
        refine r_iload_n (i := 3) hX d_M_node_36 rfl rfl ?_
        refine r_iload hX d_M_node_37 rfl ?_
        refine r_callVwi (q0 := 0) hX d_M_node_39 cw_M_boundOf ml_M_89 (c_M_boundOf 21 (nI ja) b c (by decide) hops) (Or.inl rfl) rfl rfl rfl rfl (by decide) (Nat.le_of_ble_eq_true rfl) (fun _ => rfl) (fun _ _ => ?_)
        generalize hB : bndF mf 21 (nI ja) b c = B
        refine r_istore hX d_M_node_42 (by decide) ?_
        refine r_iconst (v := nI 0) hX d_M_node_44 (by decide) ?_
        refine r_istore hX d_M_node_45 (by decide) ?_
        refine r_aload_n (i := 0) hX d_M_node_47 rfl rfl ?_
        refine r_iload hX d_M_node_48 rfl ?_
        refine r_aload_n (i := 0) hX d_M_node_50 rfl rfl ?_
        refine r_iload_n (i := 1) hX d_M_node_51 rfl rfl ?_
        refine r_callVwi (q0 := 0) hX d_M_node_52 cw_M_namesA ml_M_79 (c_M_namesA 21 (by decide)) (Or.inl rfl) rfl rfl rfl rfl (by decide) (Nat.le_of_ble_eq_true rfl) (fun _ => rfl) (fun _ _ => ?_)
        refine r_iload_n (i := 2) hX d_M_node_55 rfl rfl ?_
        refine r_callVwi (q0 := 0) hX d_M_node_56 cw_M_higher ml_M_93 (c_M_higher (nI 0) (nI ja) (nmA 21) (fun q => ⟨ja, by omega, rfl⟩)) (Or.inl rfl) rfl rfl rfl rfl (by decide) (Nat.le_of_ble_eq_true rfl) (fun _ => rfl) (fun _ _ => ?_)
        refine r_top (y := mx (nI 0) (mf 6 ja)) (by simp [nmA, opN_nI (show ja < 2 ^ 31 by omega)]) ?_
        refine r_istore hX d_M_node_59 (by decide) ?_
        refine r_aload_n (i := 0) hX d_M_node_61 rfl rfl ?_
        refine r_iload hX d_M_node_62 rfl ?_
        refine r_aload_n (i := 0) hX d_M_node_64 rfl rfl ?_
        refine r_iload_n (i := 1) hX d_M_node_65 rfl rfl ?_
        refine r_callVwi (q0 := 0) hX d_M_node_66 cw_M_namesB ml_M_82 (c_M_namesB 21 (by decide)) (Or.inl rfl) rfl rfl rfl rfl (by decide) (Nat.le_of_ble_eq_true rfl) (fun _ => rfl) (fun _ _ => ?_)
        refine r_iload_n (i := 3) hX d_M_node_69 rfl rfl ?_
        refine r_callVwi (q0 := 0) hX d_M_node_70 cw_M_higher ml_M_93 (c_M_higher (mx (nI 0) (mf 6 ja)) b (nmB 21) (fun q => absurd q (by decide))) (Or.inl rfl) rfl rfl rfl rfl (by decide) (Nat.le_of_ble_eq_true rfl) (fun _ => rfl) (fun _ _ => ?_)
        refine r_top (y := mx (nI 0) (mf 6 ja)) (by simp [nmB, opN_nI (show ja < 2 ^ 31 by omega)]) ?_
        refine r_istore hX d_M_node_73 (by decide) ?_
        refine r_iconst (v := nI 1) hX d_M_node_75 (by decide) ?_
        refine r_aload_n (i := 0) hX d_M_node_76 rfl rfl ?_
        refine r_iload hX d_M_node_77 rfl ?_
        refine r_iload_n (i := 1) hX d_M_node_79 rfl rfl ?_
        refine r_bipush (v := nI 19) hX d_M_node_80 (by decide) ?_
        refine r_icmp_ne 89 hX d_M_node_82 (by decide) (fun c82 => ?_) (fun c82 => absurd c82 (by decide))
        refine r_iconst (v := nI 0) hX d_M_node_89 (by decide) ?_
        refine r_iload hX d_M_node_90 rfl ?_
        refine r_callVwi (q0 := 0) hX d_M_node_92 cw_M_higher ml_M_93 (c_M_higher (mx (nI 0) (mf 6 ja)) c false (fun q => absurd q (by decide))) (Or.inl rfl) rfl rfl rfl rfl (by decide) (Nat.le_of_ble_eq_true rfl) (fun _ => rfl) (fun _ _ => ?_)
        refine r_top (y := mx (nI 0) (mf 6 ja)) (by simp [opN_nI (show ja < 2 ^ 31 by omega)]) ?_
        refine r_iadd hX d_M_node_95 ?_
        refine r_top (y := lvF mf (opsN 21) (nI ja) b c) (by rw [show opsN 21 = 1 from rfl]; simp [lvF, opN_nI (show ja < 2 ^ 31 by omega)]; rw [Int32.add_comm]) ?_
        generalize hL : lvF mf (opsN 21) (nI ja) b c = L
        refine r_istore hX d_M_node_96 (by decide) ?_
        refine r_aload_n (i := 0) hX d_M_node_98 rfl rfl ?_
        refine r_iload_n (i := 1) hX d_M_node_99 rfl rfl ?_
        refine r_iload_n (i := 2) hX d_M_node_100 rfl rfl ?_
        refine r_iload_n (i := 3) hX d_M_node_101 rfl rfl ?_
        refine r_iload hX d_M_node_102 rfl ?_
        refine r_callVwi (q0 := 0) hX d_M_node_104 cw_M_workOf ml_M_97 (c_M_workOf 21 (nI ja) b c (by decide) hops) (Or.inl rfl) rfl rfl rfl rfl (by decide) (Nat.le_of_ble_eq_true rfl) (fun _ => rfl) (fun _ _ => ?_)
        generalize hW : wkF mf 21 (nI ja) b c = W
        refine r_istore hX d_M_node_107 (by decide) ?_
        refine r_iload hX d_M_node_109 rfl ?_
        refine r_bipush (v := nI 64) hX d_M_node_111 (by decide) ?_
        refine r_icmp_gt 131 hX d_M_node_113 (by decide) (fun c113 => ?_) (fun c113 => ?_)
        · have hn : nodeOk nn mf (nI 21) (nI ja) b c = false := by simp [nodeOk, hkk, hB, c113]
          refine r_iconst (v := -1) hX d_M_node_131 (by decide) ?_
          exact r_iret mf hX hF d_M_node_132 (bad hn) (by rw [hn]; rfl) (by rw [hn]; rfl)
        · refine r_iload hX d_M_node_116 rfl ?_
          refine r_sipush (v := nI 2000) hX d_M_node_118 (by decide) ?_
          refine r_icmp_gt 131 hX d_M_node_121 (by decide) (fun c121 => ?_) (fun c121 => ?_)
          · have hn : nodeOk nn mf (nI 21) (nI ja) b c = false := by simp [nodeOk, hkk, hW, c121]
            refine r_iconst (v := -1) hX d_M_node_131 (by decide) ?_
            exact r_iret mf hX hF d_M_node_132 (bad hn) (by rw [hn]; rfl) (by rw [hn]; rfl)
          · refine r_iload hX d_M_node_124 rfl ?_
            refine r_bipush (v := nI 8) hX d_M_node_126 (by decide) ?_
            refine r_icmp_le 133 hX d_M_node_128 (by decide) (fun c128 => ?_) (fun c128 => ?_)
            · have hn : nodeOk nn mf (nI 21) (nI ja) b c = true := by simp [nodeOk, hkk, hB, hW, hL, hx0, hx1, c113, c121, c128, hlt, hpl, hfit]
              refine r_aload_n (i := 0) hX d_M_node_133 rfl rfl ?_
              refine r_iload_n (i := 1) hX d_M_node_134 rfl rfl ?_
              refine r_callVwi (q0 := 0) hX d_M_node_135 cw_M_namesA ml_M_79 (c_M_namesA 21 (by decide)) (Or.inl rfl) rfl rfl rfl rfl (by decide) (Nat.le_of_ble_eq_true rfl) (fun _ => rfl) (fun _ _ => ?_)
              refine r_if_eq 148 hX d_M_node_138 (by decide) (fun c138 => absurd c138 (by decide)) (fun c138 => ?_)
              refine r_aload_n (i := 0) hX d_M_node_141 rfl rfl ?_
              refine r_get 0 12 hX d_M_node_142 rfl rfl fi_M (by decide) fl_M_47 rfl rfl ?_
              refine r_iload_n (i := 2) hX d_M_node_145 rfl rfl ?_
              refine r_iconst (v := nI 1) hX d_M_node_146 (by decide) ?_
              refine r_zast (y := nI 1) 9 1 (ja) hX d_M_node_147 rfl rfl rfl (by omega) (by decide) rfl ?_
              refine r_ws (ws' := WM am cI cZ tl nn rs ae dp tx (m7 mf (upd (mf 7) ja (nI 1))) rw sz nv ph tu sv) rfl ?_
              refine r_aload_n (i := 0) hX d_M_node_148 rfl rfl ?_
              refine r_iload_n (i := 1) hX d_M_node_149 rfl rfl ?_
              refine r_callVwi (q0 := 0) hX d_M_node_150 cw_M_namesB ml_M_82 (c_M_namesB 21 (by decide)) (Or.inl rfl) rfl rfl rfl rfl (by decide) (Nat.le_of_ble_eq_true rfl) (fun _ => rfl) (fun _ _ => ?_)
              refine r_if_eq 163 hX d_M_node_153 (by decide) (fun c153 => ?_) (fun c153 => absurd c153 (by decide))
              refine r_iload_n (i := 1) hX d_M_node_163 rfl rfl ?_
              refine r_bipush (v := nI 19) hX d_M_node_164 (by decide) ?_
              refine r_icmp_ne 177 hX d_M_node_166 (by decide) (fun c166 => ?_) (fun c166 => absurd c166 (by decide))
              refine r_aload_n (i := 0) hX d_M_node_177 rfl rfl ?_
              refine r_get 0 5 hX d_M_node_178 rfl rfl fi_M (by decide) fl_M_26 rfl rfl ?_
              refine r_aload_n (i := 0) hX d_M_node_181 rfl rfl ?_
              refine r_get 0 1 hX d_M_node_182 rfl rfl fi_M (by decide) fl_M_13 rfl rfl ?_
              refine r_iload_n (i := 1) hX d_M_node_185 rfl rfl ?_
              refine r_iast 2 0 (nn) hX d_M_node_186 rfl rfl rfl (by omega) (by decide) ?_
              refine r_aload_n (i := 0) hX d_M_node_187 rfl rfl ?_
              refine r_get 0 6 hX d_M_node_188 rfl rfl fi_M (by decide) fl_M_29 rfl rfl ?_
              refine r_aload_n (i := 0) hX d_M_node_191 rfl rfl ?_
              refine r_get 0 1 hX d_M_node_192 rfl rfl fi_M (by decide) fl_M_13 rfl rfl ?_
              refine r_iload_n (i := 2) hX d_M_node_195 rfl rfl ?_
              refine r_iast 3 0 (nn) hX d_M_node_196 rfl rfl rfl (by omega) (by decide) ?_
              refine r_aload_n (i := 0) hX d_M_node_197 rfl rfl ?_
              refine r_get 0 7 hX d_M_node_198 rfl rfl fi_M (by decide) fl_M_32 rfl rfl ?_
              refine r_aload_n (i := 0) hX d_M_node_201 rfl rfl ?_
              refine r_get 0 1 hX d_M_node_202 rfl rfl fi_M (by decide) fl_M_13 rfl rfl ?_
              refine r_iload_n (i := 3) hX d_M_node_205 rfl rfl ?_
              refine r_iast 4 0 (nn) hX d_M_node_206 rfl rfl rfl (by omega) (by decide) ?_
              refine r_aload_n (i := 0) hX d_M_node_207 rfl rfl ?_
              refine r_get 0 8 hX d_M_node_208 rfl rfl fi_M (by decide) fl_M_35 rfl rfl ?_
              refine r_aload_n (i := 0) hX d_M_node_211 rfl rfl ?_
              refine r_get 0 1 hX d_M_node_212 rfl rfl fi_M (by decide) fl_M_13 rfl rfl ?_
              refine r_iload hX d_M_node_215 rfl ?_
              refine r_iast 5 0 (nn) hX d_M_node_217 rfl rfl rfl (by omega) (by decide) ?_
              refine r_aload_n (i := 0) hX d_M_node_218 rfl rfl ?_
              refine r_get 0 9 hX d_M_node_219 rfl rfl fi_M (by decide) fl_M_38 rfl rfl ?_
              refine r_aload_n (i := 0) hX d_M_node_222 rfl rfl ?_
              refine r_get 0 1 hX d_M_node_223 rfl rfl fi_M (by decide) fl_M_13 rfl rfl ?_
              refine r_iload hX d_M_node_226 rfl ?_
              refine r_iast 6 0 (nn) hX d_M_node_228 rfl rfl rfl (by omega) (by decide) ?_
              refine r_aload_n (i := 0) hX d_M_node_229 rfl rfl ?_
              refine r_get 0 11 hX d_M_node_230 rfl rfl fi_M (by decide) fl_M_44 rfl rfl ?_
              refine r_aload_n (i := 0) hX d_M_node_233 rfl rfl ?_
              refine r_get 0 1 hX d_M_node_234 rfl rfl fi_M (by decide) fl_M_13 rfl rfl ?_
              refine r_iload hX d_M_node_237 rfl ?_
              refine r_iast 8 0 (nn) hX d_M_node_239 rfl rfl rfl (by omega) (by decide) ?_
              refine r_aload_n (i := 0) hX d_M_node_240 rfl rfl ?_
              refine r_get 0 10 hX d_M_node_241 rfl rfl fi_M (by decide) fl_M_41 rfl rfl ?_
              refine r_aload_n (i := 0) hX d_M_node_244 rfl rfl ?_
              refine r_get 0 1 hX d_M_node_245 rfl rfl fi_M (by decide) fl_M_13 rfl rfl ?_
              refine r_iload hX d_M_node_248 rfl ?_
              refine r_iast 7 0 (nn) hX d_M_node_250 rfl rfl rfl (by omega) (by decide) ?_
              refine r_aload_n (i := 0) hX d_M_node_251 rfl rfl ?_
              refine r_get 0 12 hX d_M_node_252 rfl rfl fi_M (by decide) fl_M_47 rfl rfl ?_
              refine r_aload_n (i := 0) hX d_M_node_255 rfl rfl ?_
              refine r_get 0 1 hX d_M_node_256 rfl rfl fi_M (by decide) fl_M_13 rfl rfl ?_
              refine r_iconst (v := nI 0) hX d_M_node_259 (by decide) ?_
              refine r_zast (y := nI 0) 9 1 (nn) hX d_M_node_260 rfl rfl rfl (by omega) (by decide) rfl ?_
              refine r_aload_n (i := 0) hX d_M_node_261 rfl rfl ?_
              refine r_dup hX d_M_node_262 rfl ?_
              refine r_get 0 1 hX d_M_node_263 rfl rfl fi_M (by decide) fl_M_13 rfl rfl ?_
              refine r_iconst (v := nI 1) hX d_M_node_266 (by decide) ?_
              refine r_iadd hX d_M_node_267 ?_
              refine r_top (nI_add _ _) ?_
              refine r_put 0 1 hX d_M_node_268 rfl rfl fi_M ft_M_ok fn_M (by decide) fl_M_13 rfl rfl rfl rfl rfl (Nat.le_of_ble_eq_true rfl) ?_
              refine r_aload_n (i := 0) hX d_M_node_271 rfl rfl ?_
              refine r_get 0 1 hX d_M_node_272 rfl rfl fi_M (by decide) fl_M_13 rfl rfl ?_
              refine r_iconst (v := nI 1) hX d_M_node_275 (by decide) ?_
              refine r_isub hX d_M_node_276 ?_
              refine r_top (pk_sub (by omega)) ?_
              exact r_iret (mkU mf nn (nI 21) (nI ja) b c B W L (upd (mf 7) ja (nI 1))) hX hF d_M_node_277 (mkU_post hn (by rw [hkk, hB]) (by rw [hkk, hW]) (by rw [hkk, hL]) (by rw [hkk, show opsN 21 = 1 from rfl]; simp [useN, nfU, opN_nI (show ja < 2 ^ 31 by omega)])) (by rw [hn]; rfl) (by rw [hn]; rfl)
            · have hn : nodeOk nn mf (nI 21) (nI ja) b c = false := by simp [nodeOk, hkk, hL, c128]
              refine r_iconst (v := -1) hX d_M_node_131 (by decide) ?_
              exact r_iret mf hX hF d_M_node_132 (bad hn) (by rw [hn]; rfl) (by rw [hn]; rfl)
      · have hn : nodeOk nn mf (nI 21) a b c = false := by
          have := (nI_eq (by omega) (by decide)).mp c28
          simp [nodeOk, this]
        refine r_iconst (v := -1) hX d_M_node_31 (by decide) ?_
        exact r_iret mf hX hF d_M_node_32 (bad hn) (by rw [hn]; rfl) (by rw [hn]; rfl)
end ModelB
