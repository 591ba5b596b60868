/-! Rows: its two cells; contracts of its methods. -/
abbrev tyL (cI cZ cN : ClassId) : List (ClassId × FieldType) := [(cI, .int), (cZ, .boolean), (cN, .object "GoalScanner$Node")]
abbrev WRw (cI : ClassId) (o c N lim : Nat) (z : Int32) (f : Nat → Int32) : va_W := [(o, .inr (1, [.ref c, .int (nI lim), .int z])), (c, .inl (cI, N, .inl f))]
section RowsC
variable {l : Launch} {D : va_G} {cI cZ cN : ClassId} {o c N lim : Nat} {z : Int32} {f : Nat → Int32}
set_option maxRecDepth 100000 in
set_option maxHeartbeats 4000000 in
theorem c_R_has (r : Int32) : CT l D (tyL cI cZ cN) none y_R_has b_R_has 2 (some .boolean) 0 [.ref o, .int r] (WRw cI o c N lim z f) (fun _ : Unit => True) (fun _ => some (.int (if 0 ≤ r ∧ r < z then 1 else 0))) (fun _ => WRw cI o c N lim z f) := by
  refine CT.of (by decide) (Nat.le_of_ble_eq_true rfl) ?_
  intro X A hl hX hF
  refine r_iload_n (i := 1) hX d_R_has_0 rfl rfl ?_
  refine r_if_lt 16 hX d_R_has_1 (by decide) (fun c1 => ?_) (fun c1 => ?_)
  · have hn : ¬ (0 ≤ r ∧ r < z) := sorry
    refine r_iconst (v := nI 0) hX d_R_has_16 (by decide) ?_
    exact r_zret () hX hF d_R_has_17 rfl trivial sorry rfl
  · refine r_iload_n (i := 1) hX d_R_has_4 rfl rfl ?_
    refine r_aload_n (i := 0) hX d_R_has_5 rfl rfl ?_
    refine r_get 0 2 hX d_R_has_6 rfl rfl fi_R (by decide) fl_R_19 rfl rfl ?_
    refine r_icmp_ge 16 hX d_R_has_9 (by decide) (fun c9 => ?_) (fun c9 => ?_)
    · have hn : ¬ (0 ≤ r ∧ r < z) := sorry
      refine r_iconst (v := nI 0) hX d_R_has_16 (by decide) ?_
      exact r_zret () hX hF d_R_has_17 rfl trivial sorry rfl
    · refine r_iconst (v := nI 1) hX d_R_has_12 (by decide) ?_
      refine r_goto 17 hX d_R_has_13 (by decide) ?_
      exact r_zret () hX hF d_R_has_17 rfl trivial sorry rfl
set_option maxRecDepth 100000 in
set_option maxHeartbeats 4000000 in
theorem c_R_intAt (r : Nat) (hr : 6 * r < N) (hN : N < 2 ^ 31) : CT l D (tyL cI cZ cN) none y_R_intAt b_R_intAt 2 (some .int) 0 [.ref o, .int (nI r)] (WRw cI o c N lim z f) (fun _ : Unit => True) (fun _ => some (.int (f (6 * r)))) (fun _ => WRw cI o c N lim z f) := by
  refine CT.of (by decide) (Nat.le_of_ble_eq_true rfl) ?_
  intro X A hl hX hF
  refine r_aload_n (i := 0) hX d_R_intAt_0 rfl rfl ?_
  refine r_get 0 0 hX d_R_intAt_1 rfl rfl fi_R (by decide) fl_R_11 rfl rfl ?_
  refine r_iload_n (i := 1) hX d_R_intAt_4 rfl rfl ?_
  refine r_bipush (v := nI 6) hX d_R_intAt_5 (by decide) ?_
  refine r_imul hX d_R_intAt_7 ?_
  refine r_top (pk_mul _ _) ?_
  refine r_iald 1 0 (r * 6) hX d_R_intAt_8 rfl rfl rfl (by omega) hN ?_
  exact r_iret () hX hF d_R_intAt_9 trivial (by rw [Nat.mul_comm]) rfl
set_option maxRecDepth 100000 in
set_option maxHeartbeats 4000000 in
theorem c_R_copy (r q : Nat) (hr : 6 * r + 6 ≤ N) (hq : 6 * q + 6 ≤ N) (hN : N < 2 ^ 31) : CT l D (tyL cI cZ cN) none y_R_copy b_R_copy 3 none 1 [.ref o, .int (nI r), .int (nI q)] (WRw cI o c N lim z f) (fun _ : Unit => True) (fun _ => none) (fun _ => WRw cI o c N lim z (va_cpy f f (r * 6) (q * 6) 6)) := by
  refine CT.of (by decide) (Nat.le_of_ble_eq_true rfl) ?_
  intro X A hl hX hF
  refine r_aload_n (i := 0) hX d_R_copy_0 rfl rfl ?_
  refine r_get 0 0 hX d_R_copy_1 rfl rfl fi_R (by decide) fl_R_11 rfl rfl ?_
  refine r_iload_n (i := 1) hX d_R_copy_4 rfl rfl ?_
  refine r_bipush (v := nI 6) hX d_R_copy_5 (by decide) ?_
  refine r_imul hX d_R_copy_7 ?_
  refine r_top (pk_mul _ _) ?_
  refine r_aload_n (i := 0) hX d_R_copy_8 rfl rfl ?_
  refine r_get 0 0 hX d_R_copy_9 rfl rfl fi_R (by decide) fl_R_11 rfl rfl ?_
  refine r_iload_n (i := 2) hX d_R_copy_12 rfl rfl ?_
  refine r_bipush (v := nI 6) hX d_R_copy_13 (by decide) ?_
  refine r_imul hX d_R_copy_15 ?_
  refine r_top (pk_mul _ _) ?_
  refine r_bipush (v := nI 6) hX d_R_copy_16 (by decide) ?_
  refine r_copy 1 1 0 0 (r * 6) (q * 6) 6 hX d_R_copy_18 ml_R_29 tw_acn tw_acs tw_sys rfl rfl rfl rfl rfl rfl rfl (by omega) (by omega) hN hN (by decide) (Nat.le_of_ble_eq_true rfl) ?_
  exact r_vret () hX hF d_R_copy_21 trivial rfl rfl
set_option maxRecDepth 100000 in
set_option maxHeartbeats 4000000 in
theorem c_R_push (x : Int32) (r q : Nat) (hr : 6 * r + 6 ≤ N) (hq : 6 * q + 6 ≤ N) (hl1 : q < lim) (hl2 : lim < 2 ^ 31) (hN : N < 2 ^ 31) : CT l D (tyL cI cZ cN) none y_R_push b_R_push 3 none 2 [.ref o, .int x, .int (nI r)] (WRw cI o c N lim (nI q) f) (fun _ : Unit => True) (fun _ => none) (fun _ => WRw cI o c N lim (nI (q + 1)) (upd (va_cpy f f (r * 6) (q * 6) 6) (q * 6) x)) := by
  refine CT.of (by decide) (Nat.le_of_ble_eq_true rfl) ?_
  intro X A hl hX hF
  refine r_aload_n (i := 0) hX d_R_push_0 rfl rfl ?_
  refine r_get 0 2 hX d_R_push_1 rfl rfl fi_R (by decide) fl_R_19 rfl rfl ?_
  refine r_aload_n (i := 0) hX d_R_push_4 rfl rfl ?_
  refine r_get 0 1 hX d_R_push_5 rfl rfl fi_R (by decide) fl_R_15 rfl rfl ?_
  refine r_icmp_lt 12 hX d_R_push_8 (by decide) (fun c8 => ?_) (fun c8 => absurd (nI_lt hl1 hl2) c8)
  refine r_aload_n (i := 0) hX d_R_push_12 rfl rfl ?_
  refine r_iload_n (i := 2) hX d_R_push_13 rfl rfl ?_
  refine r_aload_n (i := 0) hX d_R_push_14 rfl rfl ?_
  refine r_get 0 2 hX d_R_push_15 rfl rfl fi_R (by decide) fl_R_19 rfl rfl ?_
  refine r_callVv (q0 := 0) [0, 1] hX d_R_push_18 cw_R_copy ml_R_22 (c_R_copy r q hr hq hN) (Or.inl rfl) rfl rfl rfl rfl (by decide) (Nat.le_of_ble_eq_true rfl) rfl (fun _ => rfl) rfl (fun _ _ => ?_)
  refine r_aload_n (i := 0) hX d_R_push_21 rfl rfl ?_
  refine r_get 0 0 hX d_R_push_22 rfl rfl fi_R (by decide) fl_R_11 rfl rfl ?_
  refine r_aload_n (i := 0) hX d_R_push_25 rfl rfl ?_
  refine r_get 0 2 hX d_R_push_26 rfl rfl fi_R (by decide) fl_R_19 rfl rfl ?_
  refine r_bipush (v := nI 6) hX d_R_push_29 (by decide) ?_
  refine r_imul hX d_R_push_31 ?_
  refine r_top (pk_mul _ _) ?_
  refine r_iload_n (i := 1) hX d_R_push_32 rfl rfl ?_
  refine r_iast 1 0 (q * 6) hX d_R_push_33 rfl rfl rfl (by omega) hN ?_
  refine r_aload_n (i := 0) hX d_R_push_34 rfl rfl ?_
  refine r_dup hX d_R_push_35 rfl ?_
  refine r_get 0 2 hX d_R_push_36 rfl rfl fi_R (by decide) fl_R_19 rfl rfl ?_
  refine r_iconst (v := nI 1) hX d_R_push_39 (by decide) ?_
  refine r_iadd hX d_R_push_40 ?_
  refine r_top (nI_add _ _) ?_
  refine r_put 0 2 hX d_R_push_41 rfl rfl fi_R ft_R_ok fn_R (by decide) fl_R_19 rfl rfl rfl rfl rfl (Nat.le_of_ble_eq_true rfl) ?_
  exact r_vret () hX hF d_R_push_44 trivial rfl rfl
end RowsC
