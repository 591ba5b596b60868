/-! Rows: its two cells; contracts of its methods. -/
abbrev tyL (cI cZ cN : ClassId) : List (ClassId × FieldType) := [(cI, .int), (cZ, .boolean), (cN, .object "GoalScanner$Node")]
abbrev WRw (cI : ClassId) (o c N lim : Nat) (z : Int32) (f : Nat → Int32) : va_W := [(o, .inr (1, [.ref c, .int (nI lim), .int z])), (c, .inl (cI, N, .inl f))]
/-- a truth value as the machine holds it -/
def bI (b : Bool) : Int32 := bif b then nI 1 else nI 0
theorem bI_0 {b : Bool} (h : bI b = 0) : b = false := by
  cases b with
  | false => rfl
  | true => exact absurd h (by decide)
theorem bI_1 {b : Bool} (h : ¬ bI b = 0) : b = true := by
  cases b with
  | false => exact absurd (by decide) h
  | true => rfl
theorem bI_nar (b : Bool) : narrow .boolean (.int (bI b)) = .int (bI b) := by cases b <;> rfl
theorem rx_min {a b : Nat} (ha : a < 2 ^ 31) (hb : b < 2 ^ 31) : (if nI b < nI a then nI b else nI a) = nI (min a b) := by
  by_cases h : b < a
  · rw [if_pos (nI_lt h ha), Nat.min_eq_right (by omega)]
  · rw [if_neg (nI_nlt (by omega) hb), Nat.min_eq_left (by omega)]
/-- the int names one of z rows -/
def inR (r z : Int32) : Bool := decide (¬ r < 0) && decide (¬ z ≤ r)
/-- how many of the first n rows have the place p -/
def cntP (f : Nat → Int32) (p : Int32) : Nat → Nat
  | 0 => 0
  | k + 1 => cntP f p k + if f (6 * k + 1) = p then 1 else 0
theorem cntP_t {f : Nat → Int32} {p : Int32} {k : Nat} (h : f (6 * k + 1) = p) : cntP f p (k + 1) = cntP f p k + 1 := by simp [cntP, h]
theorem cntP_f {f : Nat → Int32} {p : Int32} {k : Nat} (h : ¬ f (6 * k + 1) = p) : cntP f p (k + 1) = cntP f p k := by simp [cntP, h]
section RowsC
variable {l : Launch} {D : va_G} {cI cZ cN : ClassId} {o c N lim : Nat} {z : Int32} {f : Nat → Int32}
set_option maxRecDepth 100000 in
set_option maxHeartbeats 4000000 in
theorem c_R_has (r : Int32) : CT l D (tyL cI cZ cN) none y_R_has b_R_has 2 (some .boolean) 0 [.ref o, .int r] (WRw cI o c N lim z f) (fun _ : Unit => True) (fun _ => some (.int (bI (inR r z)))) (fun _ => WRw cI o c N lim z f) := by
  refine CT.of (by decide) (Nat.le_of_ble_eq_true rfl) ?_
  intro X A hl hX hF
  refine r_iload_n (i := 1) hX d_R_has_0 rfl rfl ?_
  refine r_if_lt 16 hX d_R_has_1 (by decide) (fun c1 => ?_) (fun c1 => ?_)
  · have hn : inR r z = false := by simp [inR, c1]
    refine r_iconst (v := nI 0) hX d_R_has_16 (by decide) ?_
    exact r_zret () hX hF d_R_has_17 rfl trivial (by rw [hn]; rfl) rfl
  · refine r_iload_n (i := 1) hX d_R_has_4 rfl rfl ?_
    refine r_aload_n (i := 0) hX d_R_has_5 rfl rfl ?_
    refine r_get 0 2 hX d_R_has_6 rfl rfl fi_R (by decide) fl_R_19 rfl rfl ?_
    refine r_icmp_ge 16 hX d_R_has_9 (by decide) (fun c9 => ?_) (fun c9 => ?_)
    · have hn : inR r z = false := by simp [inR, c1, c9]
      refine r_iconst (v := nI 0) hX d_R_has_16 (by decide) ?_
      exact r_zret () hX hF d_R_has_17 rfl trivial (by rw [hn]; rfl) rfl
    · have hn : inR r z = true := by simp [inR, c1, c9]
      refine r_iconst (v := nI 1) hX d_R_has_12 (by decide) ?_
      refine r_goto 17 hX d_R_has_13 (by decide) ?_
      exact r_zret () hX hF d_R_has_17 rfl trivial (by rw [hn]; rfl) rfl
set_option maxRecDepth 100000 in
set_option maxHeartbeats 4000000 in
theorem c_R_intAt (r : Nat) (hr : 6 * r < N) (hN : N < 2 ^ 31) : CT l D (tyL cI cZ cN) none y_R_intAt b_R_intAt 2 (some .int) 0 [.ref o, .int (nI r)] (WRw cI o c N lim z f) (fun _ : Unit => True) (fun _ => some (.int (f (6 * r)))) (fun _ => WRw cI o c N lim z f) := by
  refine CT.of (by decide) (Nat.le_of_ble_eq_true rfl) ?_
  intro X A hl hX hF
  refine r_aload_n (i := 0) hX d_R_intAt_0 rfl rfl ?_
  refine r_get 0 0 hX d_R_intAt_1 rfl rfl fi_R (by decide) fl_R_11 rfl rfl ?_
  refine r_iload_n (i := 1) hX d_R_intAt_4 rfl rfl ?_
  refine r_bipush (v := nI 6) hX d_R_intAt_5 (by decide) ?_
  refine r_imul hX d_R_intAt_7 ?_
  refine r_top (pk_mul _ _) ?_
  refine r_iald 1 0 (r * 6) hX d_R_intAt_8 rfl rfl rfl (by omega) hN ?_
  exact r_iret () hX hF d_R_intAt_9 trivial (by rw [Nat.mul_comm]) rfl
set_option maxRecDepth 100000 in
set_option maxHeartbeats 4000000 in
theorem c_R_placeAt (r : Nat) (hr : 6 * r + 1 < N) (hN : N < 2 ^ 31) : CT l D (tyL cI cZ cN) none y_R_placeAt b_R_placeAt 2 (some .int) 0 [.ref o, .int (nI r)] (WRw cI o c N lim z f) (fun _ : Unit => True) (fun _ => some (.int (f (6 * r + 1)))) (fun _ => WRw cI o c N lim z f) := by
  refine CT.of (by decide) (Nat.le_of_ble_eq_true rfl) ?_
  intro X A hl hX hF
  refine r_aload_n (i := 0) hX d_R_placeAt_0 rfl rfl ?_
  refine r_get 0 0 hX d_R_placeAt_1 rfl rfl fi_R (by decide) fl_R_11 rfl rfl ?_
  refine r_iload_n (i := 1) hX d_R_placeAt_4 rfl rfl ?_
  refine r_bipush (v := nI 6) hX d_R_placeAt_5 (by decide) ?_
  refine r_imul hX d_R_placeAt_7 ?_
  refine r_top (pk_mul _ _) ?_
  refine r_iconst (v := nI 1) hX d_R_placeAt_8 (by decide) ?_
  refine r_iadd hX d_R_placeAt_9 ?_
  refine r_top (nI_add _ _) ?_
  refine r_iald 1 0 (r * 6 + 1) hX d_R_placeAt_10 rfl rfl rfl (by omega) hN ?_
  exact r_iret () hX hF d_R_placeAt_11 trivial (by rw [Nat.mul_comm]) rfl
set_option maxRecDepth 100000 in
set_option maxHeartbeats 4000000 in
theorem c_R_variableAt (r v : Nat) (hr : 6 * r + 2 + v < N) (hN : N < 2 ^ 31) : CT l D (tyL cI cZ cN) none y_R_variableAt b_R_variableAt 3 (some .int) 0 [.ref o, .int (nI r), .int (nI v)] (WRw cI o c N lim z f) (fun _ : Unit => True) (fun _ => some (.int (f (6 * r + 2 + v)))) (fun _ => WRw cI o c N lim z f) := by
  refine CT.of (by decide) (Nat.le_of_ble_eq_true rfl) ?_
  intro X A hl hX hF
  refine r_aload_n (i := 0) hX d_R_variableAt_0 rfl rfl ?_
  refine r_get 0 0 hX d_R_variableAt_1 rfl rfl fi_R (by decide) fl_R_11 rfl rfl ?_
  refine r_iload_n (i := 1) hX d_R_variableAt_4 rfl rfl ?_
  refine r_bipush (v := nI 6) hX d_R_variableAt_5 (by decide) ?_
  refine r_imul hX d_R_variableAt_7 ?_
  refine r_top (pk_mul _ _) ?_
  refine r_iconst (v := nI 2) hX d_R_variableAt_8 (by decide) ?_
  refine r_iadd hX d_R_variableAt_9 ?_
  refine r_top (nI_add _ _) ?_
  refine r_iload_n (i := 2) hX d_R_variableAt_10 rfl rfl ?_
  refine r_iadd hX d_R_variableAt_11 ?_
  refine r_top (nI_add _ _) ?_
  refine r_iald 1 0 (r * 6 + 2 + v) hX d_R_variableAt_12 rfl rfl rfl (by omega) hN ?_
  exact r_iret () hX hF d_R_variableAt_13 trivial (by rw [Nat.mul_comm]) rfl
set_option maxRecDepth 100000 in
set_option maxHeartbeats 4000000 in
theorem c_R_putVariable (r v : Nat) (x : Int32) (hr : 6 * r + 2 + v < N) (hN : N < 2 ^ 31) : CT l D (tyL cI cZ cN) none y_R_putVariable b_R_putVariable 4 none 0 [.ref o, .int (nI r), .int (nI v), .int x] (WRw cI o c N lim z f) (fun _ : Unit => True) (fun _ => none) (fun _ => WRw cI o c N lim z (upd f (r * 6 + 2 + v) x)) := by
  refine CT.of (by decide) (Nat.le_of_ble_eq_true rfl) ?_
  intro X A hl hX hF
  refine r_aload_n (i := 0) hX d_R_putVariable_0 rfl rfl ?_
  refine r_get 0 0 hX d_R_putVariable_1 rfl rfl fi_R (by decide) fl_R_11 rfl rfl ?_
  refine r_iload_n (i := 1) hX d_R_putVariable_4 rfl rfl ?_
  refine r_bipush (v := nI 6) hX d_R_putVariable_5 (by decide) ?_
  refine r_imul hX d_R_putVariable_7 ?_
  refine r_top (pk_mul _ _) ?_
  refine r_iconst (v := nI 2) hX d_R_putVariable_8 (by decide) ?_
  refine r_iadd hX d_R_putVariable_9 ?_
  refine r_top (nI_add _ _) ?_
  refine r_iload_n (i := 2) hX d_R_putVariable_10 rfl rfl ?_
  refine r_iadd hX d_R_putVariable_11 ?_
  refine r_top (nI_add _ _) ?_
  refine r_iload_n (i := 3) hX d_R_putVariable_12 rfl rfl ?_
  refine r_iast 1 0 (r * 6 + 2 + v) hX d_R_putVariable_13 rfl rfl rfl (by omega) hN ?_
  exact r_vret () hX hF d_R_putVariable_14 trivial rfl rfl
set_option maxRecDepth 100000 in
set_option maxHeartbeats 4000000 in
theorem c_R_copy (r q : Nat) (hr : 6 * r + 6 ≤ N) (hq : 6 * q + 6 ≤ N) (hN : N < 2 ^ 31) : CT l D (tyL cI cZ cN) none y_R_copy b_R_copy 3 none 1 [.ref o, .int (nI r), .int (nI q)] (WRw cI o c N lim z f) (fun _ : Unit => True) (fun _ => none) (fun _ => WRw cI o c N lim z (va_cpy f f (r * 6) (q * 6) 6)) := by
  refine CT.of (by decide) (Nat.le_of_ble_eq_true rfl) ?_
  intro X A hl hX hF
  refine r_aload_n (i := 0) hX d_R_copy_0 rfl rfl ?_
  refine r_get 0 0 hX d_R_copy_1 rfl rfl fi_R (by decide) fl_R_11 rfl rfl ?_
  refine r_iload_n (i := 1) hX d_R_copy_4 rfl rfl ?_
  refine r_bipush (v := nI 6) hX d_R_copy_5 (by decide) ?_
  refine r_imul hX d_R_copy_7 ?_
  refine r_top (pk_mul _ _) ?_
  refine r_aload_n (i := 0) hX d_R_copy_8 rfl rfl ?_
  refine r_get 0 0 hX d_R_copy_9 rfl rfl fi_R (by decide) fl_R_11 rfl rfl ?_
  refine r_iload_n (i := 2) hX d_R_copy_12 rfl rfl ?_
  refine r_bipush (v := nI 6) hX d_R_copy_13 (by decide) ?_
  refine r_imul hX d_R_copy_15 ?_
  refine r_top (pk_mul _ _) ?_
  refine r_bipush (v := nI 6) hX d_R_copy_16 (by decide) ?_
  refine r_copy 1 1 0 0 (r * 6) (q * 6) 6 hX d_R_copy_18 ml_R_22 tw_acn tw_acs tw_sys rfl rfl rfl rfl rfl rfl rfl (by omega) (by omega) hN hN (by decide) (Nat.le_of_ble_eq_true rfl) ?_
  exact r_vret () hX hF d_R_copy_21 trivial rfl rfl
set_option maxRecDepth 100000 in
set_option maxHeartbeats 4000000 in
theorem c_R_push (x : Int32) (r q : Nat) (hr : 6 * r + 6 ≤ N) (hq : 6 * q + 6 ≤ N) (hl1 : q < lim) (hl2 : lim < 2 ^ 31) (hN : N < 2 ^ 31) : CT l D (tyL cI cZ cN) none y_R_push b_R_push 3 none 2 [.ref o, .int x, .int (nI r)] (WRw cI o c N lim (nI q) f) (fun _ : Unit => True) (fun _ => none) (fun _ => WRw cI o c N lim (nI (q + 1)) (pushF f r q x)) := by
  refine CT.of (by decide) (Nat.le_of_ble_eq_true rfl) ?_
  intro X A hl hX hF
  refine r_aload_n (i := 0) hX d_R_push_0 rfl rfl ?_
  refine r_get 0 2 hX d_R_push_1 rfl rfl fi_R (by decide) fl_R_19 rfl rfl ?_
  refine r_aload_n (i := 0) hX d_R_push_4 rfl rfl ?_
  refine r_get 0 1 hX d_R_push_5 rfl rfl fi_R (by decide) fl_R_15 rfl rfl ?_
  refine r_icmp_lt 12 hX d_R_push_8 (by decide) (fun c8 => ?_) (fun c8 => absurd (nI_lt hl1 hl2) c8)
  refine r_aload_n (i := 0) hX d_R_push_12 rfl rfl ?_
  refine r_get 0 0 hX d_R_push_13 rfl rfl fi_R (by decide) fl_R_11 rfl rfl ?_
  refine r_iload_n (i := 2) hX d_R_push_16 rfl rfl ?_
  refine r_bipush (v := nI 6) hX d_R_push_17 (by decide) ?_
  refine r_imul hX d_R_push_19 ?_
  refine r_top (pk_mul _ _) ?_
  refine r_aload_n (i := 0) hX d_R_push_20 rfl rfl ?_
  refine r_get 0 0 hX d_R_push_21 rfl rfl fi_R (by decide) fl_R_11 rfl rfl ?_
  refine r_aload_n (i := 0) hX d_R_push_24 rfl rfl ?_
  refine r_get 0 2 hX d_R_push_25 rfl rfl fi_R (by decide) fl_R_19 rfl rfl ?_
  refine r_bipush (v := nI 6) hX d_R_push_28 (by decide) ?_
  refine r_imul hX d_R_push_30 ?_
  refine r_top (pk_mul _ _) ?_
  refine r_bipush (v := nI 6) hX d_R_push_31 (by decide) ?_
  refine r_copy 1 1 0 0 (r * 6) (q * 6) 6 hX d_R_push_33 ml_R_22 tw_acn tw_acs tw_sys rfl rfl rfl rfl rfl rfl rfl (by omega) (by omega) hN hN (by decide) (Nat.le_of_ble_eq_true rfl) ?_
  refine r_aload_n (i := 0) hX d_R_push_36 rfl rfl ?_
  refine r_get 0 0 hX d_R_push_37 rfl rfl fi_R (by decide) fl_R_11 rfl rfl ?_
  refine r_aload_n (i := 0) hX d_R_push_40 rfl rfl ?_
  refine r_get 0 2 hX d_R_push_41 rfl rfl fi_R (by decide) fl_R_19 rfl rfl ?_
  refine r_bipush (v := nI 6) hX d_R_push_44 (by decide) ?_
  refine r_imul hX d_R_push_46 ?_
  refine r_top (pk_mul _ _) ?_
  refine r_iload_n (i := 1) hX d_R_push_47 rfl rfl ?_
  refine r_iast 1 0 (q * 6) hX d_R_push_48 rfl rfl rfl (by omega) hN ?_
  refine r_aload_n (i := 0) hX d_R_push_49 rfl rfl ?_
  refine r_dup hX d_R_push_50 rfl ?_
  refine r_get 0 2 hX d_R_push_51 rfl rfl fi_R (by decide) fl_R_19 rfl rfl ?_
  refine r_iconst (v := nI 1) hX d_R_push_54 (by decide) ?_
  refine r_iadd hX d_R_push_55 ?_
  refine r_top (nI_add _ _) ?_
  refine r_put 0 2 hX d_R_push_56 rfl rfl fi_R ft_R_ok fn_R (by decide) fl_R_19 rfl rfl rfl rfl rfl (Nat.le_of_ble_eq_true rfl) ?_
  exact r_vret () hX hF d_R_push_59 trivial rfl rfl
set_option maxRecDepth 100000 in
set_option maxHeartbeats 4000000 in
theorem c_R_pushAtPlace (x p : Int32) (r q : Nat) (hr : 6 * r + 6 ≤ N) (hq : 6 * q + 6 ≤ N) (hl1 : q < lim) (hl2 : lim < 2 ^ 31) (hN : N < 2 ^ 31) : CT l D (tyL cI cZ cN) none y_R_pushAtPlace b_R_pushAtPlace 5 none 3 [.ref o, .int x, .int p, .int (nI r)] (WRw cI o c N lim (nI q) f) (fun _ : Unit => True) (fun _ => none) (fun _ => WRw cI o c N lim (nI (q + 1)) (pushP f r q x p)) := by
  refine CT.of (by decide) (Nat.le_of_ble_eq_true rfl) ?_
  intro X A hl hX hF
  refine r_aload_n (i := 0) hX d_R_pushAtPlace_0 rfl rfl ?_
  refine r_get 0 2 hX d_R_pushAtPlace_1 rfl rfl fi_R (by decide) fl_R_19 rfl rfl ?_
  refine r_istore hX d_R_pushAtPlace_4 (by decide) ?_
  refine r_aload_n (i := 0) hX d_R_pushAtPlace_6 rfl rfl ?_
  refine r_iload_n (i := 1) hX d_R_pushAtPlace_7 rfl rfl ?_
  refine r_iload_n (i := 3) hX d_R_pushAtPlace_8 rfl rfl ?_
  refine r_callVv (q0 := 0) [0, 1] hX d_R_pushAtPlace_9 cw_R_push ml_R_28 (c_R_push x r q hr hq hl1 hl2 hN) (Or.inl rfl) rfl rfl rfl rfl (by decide) (Nat.le_of_ble_eq_true rfl) rfl (fun _ => rfl) rfl (fun _ _ => ?_)
  refine r_iload hX d_R_pushAtPlace_12 rfl ?_
  refine r_aload_n (i := 0) hX d_R_pushAtPlace_14 rfl rfl ?_
  refine r_get 0 2 hX d_R_pushAtPlace_15 rfl rfl fi_R (by decide) fl_R_19 rfl rfl ?_
  refine r_icmp_ge 34 hX d_R_pushAtPlace_18 (by decide) (fun c18 => absurd c18 (Int32.not_le.mpr (nI_lt (Nat.lt_succ_self q) (by omega)))) (fun c18 => ?_)
  refine r_aload_n (i := 0) hX d_R_pushAtPlace_21 rfl rfl ?_
  refine r_get 0 0 hX d_R_pushAtPlace_22 rfl rfl fi_R (by decide) fl_R_11 rfl rfl ?_
  refine r_iload hX d_R_pushAtPlace_25 rfl ?_
  refine r_bipush (v := nI 6) hX d_R_pushAtPlace_27 (by decide) ?_
  refine r_imul hX d_R_pushAtPlace_29 ?_
  refine r_top (pk_mul _ _) ?_
  refine r_iconst (v := nI 1) hX d_R_pushAtPlace_30 (by decide) ?_
  refine r_iadd hX d_R_pushAtPlace_31 ?_
  refine r_top (nI_add _ _) ?_
  refine r_iload_n (i := 2) hX d_R_pushAtPlace_32 rfl rfl ?_
  refine r_iast 1 0 (q * 6 + 1) hX d_R_pushAtPlace_33 rfl rfl rfl (by omega) hN ?_
  exact r_vret () hX hF d_R_pushAtPlace_34 trivial rfl rfl
set_option maxRecDepth 100000 in
set_option maxHeartbeats 4000000 in
theorem c_R_remove (lo hi q : Nat) (hlo : lo ≤ hi) (hhi : hi ≤ q) (hq : 6 * q ≤ N) (hN : N < 2 ^ 31) : CT l D (tyL cI cZ cN) none y_R_remove b_R_remove 3 none 1 [.ref o, .int (nI lo), .int (nI hi)] (WRw cI o c N lim (nI q) f) (fun _ : Unit => True) (fun _ => none) (fun _ => WRw cI o c N lim (nI (q - (hi - lo))) (remF f lo hi q)) := by
  refine CT.of (by decide) (Nat.le_of_ble_eq_true rfl) ?_
  intro X A hl hX hF
  refine r_aload_n (i := 0) hX d_R_remove_0 rfl rfl ?_
  refine r_get 0 0 hX d_R_remove_1 rfl rfl fi_R (by decide) fl_R_11 rfl rfl ?_
  refine r_iload_n (i := 2) hX d_R_remove_4 rfl rfl ?_
  refine r_bipush (v := nI 6) hX d_R_remove_5 (by decide) ?_
  refine r_imul hX d_R_remove_7 ?_
  refine r_top (pk_mul _ _) ?_
  refine r_aload_n (i := 0) hX d_R_remove_8 rfl rfl ?_
  refine r_get 0 0 hX d_R_remove_9 rfl rfl fi_R (by decide) fl_R_11 rfl rfl ?_
  refine r_iload_n (i := 1) hX d_R_remove_12 rfl rfl ?_
  refine r_bipush (v := nI 6) hX d_R_remove_13 (by decide) ?_
  refine r_imul hX d_R_remove_15 ?_
  refine r_top (pk_mul _ _) ?_
  refine r_aload_n (i := 0) hX d_R_remove_16 rfl rfl ?_
  refine r_get 0 2 hX d_R_remove_17 rfl rfl fi_R (by decide) fl_R_19 rfl rfl ?_
  refine r_iload_n (i := 2) hX d_R_remove_20 rfl rfl ?_
  refine r_isub hX d_R_remove_21 ?_
  refine r_top (pk_sub hhi) ?_
  refine r_bipush (v := nI 6) hX d_R_remove_22 (by decide) ?_
  refine r_imul hX d_R_remove_24 ?_
  refine r_top (pk_mul _ _) ?_
  refine r_copy 1 1 0 0 (hi * 6) (lo * 6) ((q - hi) * 6) hX d_R_remove_25 ml_R_22 tw_acn tw_acs tw_sys rfl rfl rfl rfl rfl rfl rfl (by omega) (by omega) hN hN (by decide) (Nat.le_of_ble_eq_true rfl) ?_
  refine r_aload_n (i := 0) hX d_R_remove_28 rfl rfl ?_
  refine r_dup hX d_R_remove_29 rfl ?_
  refine r_get 0 2 hX d_R_remove_30 rfl rfl fi_R (by decide) fl_R_19 rfl rfl ?_
  refine r_iload_n (i := 2) hX d_R_remove_33 rfl rfl ?_
  refine r_iload_n (i := 1) hX d_R_remove_34 rfl rfl ?_
  refine r_isub hX d_R_remove_35 ?_
  refine r_top (pk_sub hlo) ?_
  refine r_isub hX d_R_remove_36 ?_
  refine r_top (pk_sub (by omega)) ?_
  refine r_put 0 2 hX d_R_remove_37 rfl rfl fi_R ft_R_ok fn_R (by decide) fl_R_19 rfl rfl rfl rfl rfl (Nat.le_of_ble_eq_true rfl) ?_
  exact r_vret () hX hF d_R_remove_40 trivial rfl rfl
set_option maxRecDepth 100000 in
set_option maxHeartbeats 4000000 in
theorem c_R_takeFrom {o2 c2 N2 lim2 z2 : Nat} {f2 : Nat → Int32} (lo most n : Nat) (hn : min (min most lim) (z2 - lo) = n) (hlo : lo ≤ z2) (h2 : 6 * z2 ≤ N2) (h1 : 6 * n ≤ N) (hm : most < 2 ^ 31) (hlim : lim < 2 ^ 31) (hN : N < 2 ^ 31) (hN2 : N2 < 2 ^ 31) : CT l D (tyL cI cZ cN) none y_R_takeFrom b_R_takeFrom 4 none 1 [.ref o, .ref o2, .int (nI lo), .int (nI most)] (WRw cI o c N lim z f ++ WRw cI o2 c2 N2 lim2 (nI z2) f2) (fun _ : Unit => True) (fun _ => none) (fun _ => WRw cI o c N lim (nI n) (va_cpy f2 f (lo * 6) 0 (n * 6)) ++ WRw cI o2 c2 N2 lim2 (nI z2) f2) := by
  refine CT.of (by decide) (Nat.le_of_ble_eq_true rfl) ?_
  intro X A hl hX hF
  have hle : n ≤ z2 - lo := by omega
  refine r_aload_n (i := 0) hX d_R_takeFrom_0 rfl rfl ?_
  refine r_iload_n (i := 3) hX d_R_takeFrom_1 rfl rfl ?_
  refine r_aload_n (i := 0) hX d_R_takeFrom_2 rfl rfl ?_
  refine r_get 0 1 hX d_R_takeFrom_3 rfl rfl fi_R (by decide) fl_R_15 rfl rfl ?_
  refine r_min hX d_R_takeFrom_6 ml_R_32 tw_min_s tw_math tw_min_c (by decide) (Nat.le_of_ble_eq_true rfl) ?_
  refine r_top (rx_min hm hlim) ?_
  refine r_aload_n (i := 1) hX d_R_takeFrom_9 rfl rfl ?_
  refine r_get 2 2 hX d_R_takeFrom_10 rfl rfl fi_R (by decide) fl_R_19 rfl rfl ?_
  refine r_iload_n (i := 2) hX d_R_takeFrom_13 rfl rfl ?_
  refine r_isub hX d_R_takeFrom_14 ?_
  refine r_top (pk_sub hlo) ?_
  refine r_min hX d_R_takeFrom_15 ml_R_32 tw_min_s tw_math tw_min_c (by decide) (Nat.le_of_ble_eq_true rfl) ?_
  refine r_top (rx_min (by omega) (by omega)) ?_
  refine r_top (by rw [hn]) ?_
  refine r_put 0 2 hX d_R_takeFrom_18 rfl rfl fi_R ft_R_ok fn_R (by decide) fl_R_19 rfl rfl rfl rfl rfl (Nat.le_of_ble_eq_true rfl) ?_
  refine r_aload_n (i := 1) hX d_R_takeFrom_21 rfl rfl ?_
  refine r_get 2 0 hX d_R_takeFrom_22 rfl rfl fi_R (by decide) fl_R_11 rfl rfl ?_
  refine r_iload_n (i := 2) hX d_R_takeFrom_25 rfl rfl ?_
  refine r_bipush (v := nI 6) hX d_R_takeFrom_26 (by decide) ?_
  refine r_imul hX d_R_takeFrom_28 ?_
  refine r_top (pk_mul _ _) ?_
  refine r_aload_n (i := 0) hX d_R_takeFrom_29 rfl rfl ?_
  refine r_get 0 0 hX d_R_takeFrom_30 rfl rfl fi_R (by decide) fl_R_11 rfl rfl ?_
  refine r_iconst (v := nI 0) hX d_R_takeFrom_33 (by decide) ?_
  refine r_aload_n (i := 0) hX d_R_takeFrom_34 rfl rfl ?_
  refine r_get 0 2 hX d_R_takeFrom_35 rfl rfl fi_R (by decide) fl_R_19 rfl rfl ?_
  refine r_bipush (v := nI 6) hX d_R_takeFrom_38 (by decide) ?_
  refine r_imul hX d_R_takeFrom_40 ?_
  refine r_top (pk_mul _ _) ?_
  refine r_copy 3 1 0 0 (lo * 6) 0 (n * 6) hX d_R_takeFrom_41 ml_R_22 tw_acn tw_acs tw_sys rfl rfl rfl rfl rfl rfl rfl (by omega) (by omega) hN2 hN (by decide) (Nat.le_of_ble_eq_true rfl) ?_
  exact r_vret () hX hF d_R_takeFrom_44 trivial rfl rfl
set_option maxRecDepth 100000 in
set_option maxHeartbeats 4000000 in
theorem c_R_countAtPlace (p : Int32) (q : Nat) (hq : 6 * q ≤ N) (hN : N < 2 ^ 31) : CT l D (tyL cI cZ cN) none y_R_countAtPlace b_R_countAtPlace 4 (some .int) 1 [.ref o, .int p] (WRw cI o c N lim (nI q) f) (fun _ : Unit => True) (fun _ => some (.int (nI (cntP f p q)))) (fun _ => WRw cI o c N lim (nI q) f) := by
  refine CT.of (by decide) (Nat.le_of_ble_eq_true rfl) ?_
  intro X A hl hX hF
  have loop : ∀ n k, k + n = q → RR X 4 D A 0 0 (WRw cI o c N lim (nI q) f) [(0, .ref o), (1, .int p), (2, .int (nI (cntP f p k))), (3, .int (nI k))] 4 [] := by
    intro n
    induction n with
    | zero =>
      intro k hk
      have hk : k = q := by omega
      subst hk
      refine r_iload_n (i := 3) hX d_R_countAtPlace_4 rfl rfl ?_
      refine r_aload_n (i := 0) hX d_R_countAtPlace_5 rfl rfl ?_
      refine r_get 0 2 hX d_R_countAtPlace_6 rfl rfl fi_R (by decide) fl_R_19 rfl rfl ?_
      refine r_icmp_ge 30 hX d_R_countAtPlace_9 (by decide) (fun c9 => ?_) (fun c9 => absurd (nI_le (Nat.le_refl k) (by omega)) c9)
      refine r_iload_n (i := 2) hX d_R_countAtPlace_30 rfl rfl ?_
      exact r_iret () hX hF d_R_countAtPlace_31 trivial rfl rfl
    | succ n ih =>
      intro k hk
      refine r_iload_n (i := 3) hX d_R_countAtPlace_4 rfl rfl ?_
      refine r_aload_n (i := 0) hX d_R_countAtPlace_5 rfl rfl ?_
      refine r_get 0 2 hX d_R_countAtPlace_6 rfl rfl fi_R (by decide) fl_R_19 rfl rfl ?_
      refine r_icmp_ge 30 hX d_R_countAtPlace_9 (by decide) (fun c9 => absurd c9 (nI_ge (by omega) (by omega))) (fun c9 => ?_)
      refine r_aload_n (i := 0) hX d_R_countAtPlace_12 rfl rfl ?_
      refine r_iload_n (i := 3) hX d_R_countAtPlace_13 rfl rfl ?_
      refine r_callVi (q0 := 0) [0, 1] hX d_R_countAtPlace_14 cw_R_placeAt ml_R_38 (c_R_placeAt k (by omega) hN) (Or.inl rfl) rfl rfl rfl rfl (by decide) (Nat.le_of_ble_eq_true rfl) rfl (fun _ => rfl) rfl (fun _ _ => ?_)
      refine r_iload_n (i := 1) hX d_R_countAtPlace_17 rfl rfl ?_
      refine r_icmp_ne 24 hX d_R_countAtPlace_18 (by decide) (fun c18 => ?_) (fun c18 => ?_)
      · have hc := cntP_f c18
        refine r_iinc hX d_R_countAtPlace_24 rfl (rx_inc _) (by decide) ?_
        refine r_goto 4 hX d_R_countAtPlace_27 (by decide) ?_
        refine r_lv [0, 1, 2, 3] ?_
        have h := ih (k + 1) (by omega)
        rw [hc] at h
        exact h
      · have hc := cntP_t c18
        refine r_iinc hX d_R_countAtPlace_21 rfl (rx_inc _) (by decide) ?_
        refine r_iinc hX d_R_countAtPlace_24 rfl (rx_inc _) (by decide) ?_
        refine r_goto 4 hX d_R_countAtPlace_27 (by decide) ?_
        refine r_lv [0, 1, 2, 3] ?_
        have h := ih (k + 1) (by omega)
        rw [hc] at h
        exact h
  refine r_iconst (v := nI 0) hX d_R_countAtPlace_0 (by decide) ?_
  refine r_istore_n (i := 2) hX d_R_countAtPlace_1 rfl (by decide) ?_
  refine r_iconst (v := nI 0) hX d_R_countAtPlace_2 (by decide) ?_
  refine r_istore_n (i := 3) hX d_R_countAtPlace_3 rfl (by decide) ?_
  exact r_lv [0, 1, 2, 3] (loop q 0 (by omega))
end RowsC
