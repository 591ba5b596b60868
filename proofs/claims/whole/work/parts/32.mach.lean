/-! The reference's machine: rows by levels, 64 to a level. -/
def stOf (sv : Nat → Int32) (l : Nat) : St := fun c => sv (5 * l + c.val)
/-- one row more: nothing else changes -/
def pushM (f : Nat → Int32) (z : Nat) (r : Rs) (u : Nat → Int32) : Prop := (∀ j, (j < 6 * z ∨ 6 * z + 6 ≤ j) → u j = f j) ∧ gRow u z = r
/-- the copy of a STATE, c ints of it -/
def gvF (f : Nat → Int32) (q z : Nat) (x : Int32) (c : Nat) : Nat → Int32 := fun j => if j = 6 * z then x else if 6 * z + 1 ≤ j ∧ j < 6 * z + 1 + c then f (6 * q + 1 + (j - (6 * z + 1))) else f j
theorem gv_0 (f : Nat → Int32) (q z : Nat) (x : Int32) : gvF f q z x 0 = upd f (6 * z) x := by
  funext j
  unfold gvF upd
  by_cases h : j = 6 * z
  · rw [if_pos h, if_pos h]
  · rw [if_neg h, if_neg h, if_neg (by omega)]
theorem gv_rd {f : Nat → Int32} {q z c : Nat} {x : Int32} (hq : q ≠ z) (hc : c < 5) : gvF f q z x c (6 * q + 1 + c) = f (6 * q + 1 + c) := by
  unfold gvF
  rw [if_neg (by omega), if_neg (by omega)]
theorem gv_step {f : Nat → Int32} {q z c : Nat} {x : Int32} : upd (gvF f q z x c) (6 * z + 1 + c) (f (6 * q + 1 + c)) = gvF f q z x (c + 1) := by
  funext j
  unfold gvF upd
  by_cases h : j = 6 * z + 1 + c
  · rw [if_pos h, if_neg (by omega), if_pos (by omega)]
    congr 1
    omega
  · rw [if_neg h]
    dsimp only
    by_cases h2 : j = 6 * z
    · rw [if_pos h2, if_pos h2]
    · rw [if_neg h2, if_neg h2]
      by_cases h3 : 6 * z + 1 ≤ j ∧ j < 6 * z + 1 + c
      · rw [if_pos h3, if_pos (by omega)]
      · rw [if_neg h3, if_neg (by omega)]
theorem gv_5 {f : Nat → Int32} {q z : Nat} {x : Int32} : pushM f z (x, (gRow f q).2) (gvF f q z x 5) := by
  refine ⟨fun j hj => ?_, Prod.ext ?_ ?_⟩
  · unfold gvF
    rw [if_neg (by omega), if_neg (by omega)]
  · show gvF f q z x 5 (6 * z) = x
    unfold gvF
    rw [if_pos rfl]
  · funext c
    have hc := c.isLt
    show gvF f q z x 5 (6 * z + 1 + c.val) = f (6 * q + 1 + c.val)
    unfold gvF
    rw [if_neg (by omega), if_pos (by omega)]
    congr 1
    omega
/-- the copy of a level's STATE, but for its place: c ints looked at -/
def stF (f sv : Nat → Int32) (l z : Nat) (x : Int32) (c : Nat) : Nat → Int32 := fun j => if j = 6 * z then x else if 6 * z + 2 ≤ j ∧ j < 6 * z + 1 + c then sv (5 * l + (j - (6 * z + 1))) else f j
theorem sy_1 (f sv : Nat → Int32) (l z : Nat) (x : Int32) : stF f sv l z x 1 = upd f (6 * z) x := by
  funext j
  unfold stF upd
  by_cases h : j = 6 * z
  · rw [if_pos h, if_pos h]
  · rw [if_neg h, if_neg h, if_neg (by omega)]
theorem sy_step {f sv : Nat → Int32} {l z c : Nat} {x : Int32} (hc : 1 ≤ c) : upd (stF f sv l z x c) (6 * z + 1 + c) (sv (5 * l + c)) = stF f sv l z x (c + 1) := by
  funext j
  unfold stF upd
  by_cases h : j = 6 * z + 1 + c
  · rw [if_pos h, if_neg (by omega), if_pos (by omega)]
    congr 1
    omega
  · rw [if_neg h]
    dsimp only
    by_cases h2 : j = 6 * z
    · rw [if_pos h2, if_pos h2]
    · rw [if_neg h2, if_neg h2]
      by_cases h3 : 6 * z + 2 ≤ j ∧ j < 6 * z + 1 + c
      · rw [if_pos h3, if_pos (by omega)]
      · rw [if_neg h3, if_neg (by omega)]
theorem sy_5 {f sv : Nat → Int32} {l z : Nat} {x p : Int32} : pushM f z (x, stSet (stOf sv l) 0 p) (upd (stF f sv l z x 5) (6 * z + 1) p) := by
  refine ⟨fun j hj => ?_, Prod.ext ?_ ?_⟩
  · rw [pk_un (by omega)]
    unfold stF
    rw [if_neg (by omega), if_neg (by omega)]
  · show upd (stF f sv l z x 5) (6 * z + 1) p (6 * z) = x
    rw [pk_un (by omega)]
    unfold stF
    rw [if_pos rfl]
  · funext c
    have hc := c.isLt
    show upd (stF f sv l z x 5) (6 * z + 1) p (6 * z + 1 + c.val) = stSet (stOf sv l) 0 p c
    unfold stSet
    by_cases h : c.val = 0
    · rw [if_pos h, h]
      exact pk_us
    · rw [if_neg h, pk_un (by omega)]
      unfold stF
      rw [if_neg (by omega), if_pos (by omega)]
      show sv _ = sv _
      congr 1
      omega
section ModelC
variable {l : Launch} {D : va_G} {cI cZ cN : ClassId} {am : Nat → Nat} {tl nn rs ae dp : Nat} {tx rw sz nv ph tu sv : Nat → Int32} {mf : Nat → Nat → Int32}
set_option maxRecDepth 100000 in
set_option maxHeartbeats 4000000 in
theorem c_M_operand (i : Nat) : CT l D (tyL cI cZ cN) none y_M_operand b_M_operand 2 (some .int) 0 [.ref (am 0), .int (nI i)] (WM am cI cZ tl nn rs ae dp tx mf rw sz nv ph tu sv) (fun _ : Unit => True) (fun _ => some (.int (nI (6 * (64 * dp + i))))) (fun _ => (WM am cI cZ tl nn rs ae dp tx mf rw sz nv ph tu sv)) := by
  refine CT.of (by decide) (Nat.le_of_ble_eq_true rfl) ?_
  intro X A hl hX hF
  refine r_aload_n (i := 0) hX d_M_operand_0 rfl rfl ?_
  refine r_get 0 15 hX d_M_operand_1 rfl rfl fi_M (by decide) fl_M_57 rfl rfl ?_
  refine r_sipush (v := nI 384) hX d_M_operand_4 (by decide) ?_
  refine r_imul hX d_M_operand_7 ?_
  refine r_top (pk_mul _ _) ?_
  refine r_iload_n (i := 1) hX d_M_operand_8 rfl rfl ?_
  refine r_bipush (v := nI 6) hX d_M_operand_9 (by decide) ?_
  refine r_imul hX d_M_operand_11 ?_
  refine r_top (pk_mul _ _) ?_
  refine r_iadd hX d_M_operand_12 ?_
  refine r_top (nI_add _ _) ?_
  exact r_iret () hX hF d_M_operand_13 trivial (by rw [show 6 * (64 * dp + i) = dp * 384 + i * 6 by omega]) rfl
set_option maxRecDepth 100000 in
set_option maxHeartbeats 4000000 in
theorem c_M_give (x : Int32) (q v k : Nat) (hsz : sz v = nI k) (hk : k < 64) (hv : v < 8) (hq : q < 1088) (hne : q ≠ 64 * v + k) : CT l D (tyL cI cZ cN) none y_M_give b_M_give 6 none 0 [.ref (am 0), .int x, .int (nI (6 * q + 1))] (WM am cI cZ tl nn rs ae (v + 1) tx mf rw sz nv ph tu sv) (pushM rw (64 * v + k) (x, (gRow rw q).2)) (fun _ => none) (fun u => WM am cI cZ tl nn rs ae (v + 1) tx mf u (upd sz v (nI (k + 1))) nv ph tu sv) := by
  refine CT.of (by decide) (Nat.le_of_ble_eq_true rfl) ?_
  intro X A hl hX hF
  generalize hz : 64 * v + k = z at *
  have loop : ∀ n c, c + n = 5 → RR X 6 D A 0 0 (WM am cI cZ tl nn rs ae (v + 1) tx mf (gvF rw q z x c) sz nv ph tu sv) [(0, .ref (am 0)), (2, .int (nI (6 * q + 1))), (3, .int (nI v)), (4, .int (nI (6 * z))), (5, .int (nI c))] 35 [] := by
    intro n
    induction n with
    | zero =>
      intro c hc
      have hc : c = 5 := by omega
      subst hc
      refine r_iload hX d_M_give_35 rfl ?_
      refine r_iconst (v := nI 5) hX d_M_give_37 (by decide) ?_
      refine r_icmp_ge 68 hX d_M_give_38 (by decide) (fun c38 => ?_) (fun c38 => absurd c38 (by decide))
      refine r_aload_n (i := 0) hX d_M_give_68 rfl rfl ?_
      refine r_get 0 14 hX d_M_give_69 rfl rfl fi_M (by decide) fl_M_54 rfl rfl ?_
      refine r_iload_n (i := 3) hX d_M_give_72 rfl rfl ?_
      refine r_dup2 hX d_M_give_73 rfl rfl ?_
      refine r_iald 11 0 (v) hX d_M_give_74 rfl rfl rfl (by omega) (by decide) ?_
      refine r_top hsz ?_
      refine r_iconst (v := nI 1) hX d_M_give_75 (by decide) ?_
      refine r_iadd hX d_M_give_76 ?_
      refine r_top (nI_add _ _) ?_
      refine r_iast 11 0 (v) hX d_M_give_77 rfl rfl rfl (by omega) (by decide) ?_
      exact r_vret (gvF rw q z x 5) hX hF d_M_give_78 gv_5 rfl rfl
    | succ n ih =>
      intro c hc
      refine r_iload hX d_M_give_35 rfl ?_
      refine r_iconst (v := nI 5) hX d_M_give_37 (by decide) ?_
      refine r_icmp_ge 68 hX d_M_give_38 (by decide) (fun c38 => absurd c38 (nI_ge (a := c) (b := 5) (by omega) (by decide))) (fun c38 => ?_)
      refine r_aload_n (i := 0) hX d_M_give_41 rfl rfl ?_
      refine r_get 0 13 hX d_M_give_42 rfl rfl fi_M (by decide) fl_M_51 rfl rfl ?_
      refine r_iload hX d_M_give_45 rfl ?_
      refine r_iconst (v := nI 1) hX d_M_give_47 (by decide) ?_
      refine r_iadd hX d_M_give_48 ?_
      refine r_top (nI_add _ _) ?_
      refine r_iload hX d_M_give_49 rfl ?_
      refine r_iadd hX d_M_give_51 ?_
      refine r_top (nI_add _ _) ?_
      refine r_aload_n (i := 0) hX d_M_give_52 rfl rfl ?_
      refine r_get 0 13 hX d_M_give_53 rfl rfl fi_M (by decide) fl_M_51 rfl rfl ?_
      refine r_iload_n (i := 2) hX d_M_give_56 rfl rfl ?_
      refine r_iload hX d_M_give_57 rfl ?_
      refine r_iadd hX d_M_give_59 ?_
      refine r_top (nI_add _ _) ?_
      refine r_iald 10 0 (6 * q + 1 + c) hX d_M_give_60 rfl rfl rfl (by omega) (by decide) ?_
      refine r_top (gv_rd hne (by omega)) ?_
      refine r_iast 10 0 (6 * z + 1 + c) hX d_M_give_61 rfl rfl rfl (by omega) (by decide) ?_
      refine r_ws (ws' := WM am cI cZ tl nn rs ae (v + 1) tx mf (gvF rw q z x (c + 1)) sz nv ph tu sv) (by rw [← gv_step]; rfl) ?_
      refine r_iinc hX d_M_give_62 rfl (rx_inc _) (by decide) ?_
      refine r_goto 35 hX d_M_give_65 (by decide) ?_
      exact r_lv [0, 2, 3, 4, 5] (ih (c + 1) (by omega))
  refine r_aload_n (i := 0) hX d_M_give_0 rfl rfl ?_
  refine r_get 0 15 hX d_M_give_1 rfl rfl fi_M (by decide) fl_M_57 rfl rfl ?_
  refine r_iconst (v := nI 1) hX d_M_give_4 (by decide) ?_
  refine r_isub hX d_M_give_5 ?_
  refine r_top (pk_sub (by omega)) ?_
  refine r_top (by rw [Nat.add_sub_cancel]) ?_
  refine r_istore_n (i := 3) hX d_M_give_6 rfl (by decide) ?_
  refine r_iload_n (i := 3) hX d_M_give_7 rfl rfl ?_
  refine r_sipush (v := nI 384) hX d_M_give_8 (by decide) ?_
  refine r_imul hX d_M_give_11 ?_
  refine r_top (pk_mul _ _) ?_
  refine r_aload_n (i := 0) hX d_M_give_12 rfl rfl ?_
  refine r_get 0 14 hX d_M_give_13 rfl rfl fi_M (by decide) fl_M_54 rfl rfl ?_
  refine r_iload_n (i := 3) hX d_M_give_16 rfl rfl ?_
  refine r_iald 11 0 (v) hX d_M_give_17 rfl rfl rfl (by omega) (by decide) ?_
  refine r_top hsz ?_
  refine r_bipush (v := nI 6) hX d_M_give_18 (by decide) ?_
  refine r_imul hX d_M_give_20 ?_
  refine r_top (pk_mul _ _) ?_
  refine r_iadd hX d_M_give_21 ?_
  refine r_top (nI_add _ _) ?_
  refine r_top (congrArg nI (show v * 384 + k * 6 = 6 * z by omega)) ?_
  refine r_istore hX d_M_give_22 (by decide) ?_
  refine r_aload_n (i := 0) hX d_M_give_24 rfl rfl ?_
  refine r_get 0 13 hX d_M_give_25 rfl rfl fi_M (by decide) fl_M_51 rfl rfl ?_
  refine r_iload hX d_M_give_28 rfl ?_
  refine r_iload_n (i := 1) hX d_M_give_30 rfl rfl ?_
  refine r_iast 10 0 (6 * z) hX d_M_give_31 rfl rfl rfl (by omega) (by decide) ?_
  refine r_ws (ws' := WM am cI cZ tl nn rs ae (v + 1) tx mf (gvF rw q z x 0) sz nv ph tu sv) (by rw [gv_0]; rfl) ?_
  refine r_iconst (v := nI 0) hX d_M_give_32 (by decide) ?_
  refine r_istore hX d_M_give_33 (by decide) ?_
  exact r_lv [0, 2, 3, 4, 5] (loop 5 0 (by omega))
set_option maxRecDepth 100000 in
set_option maxHeartbeats 4000000 in
theorem c_M_stay (x p : Int32) (v k : Nat) (hsz : sz v = nI k) (hk : k < 64) (hv : v < 8) : CT l D (tyL cI cZ cN) none y_M_stay b_M_stay 6 none 0 [.ref (am 0), .int x, .int p] (WM am cI cZ tl nn rs ae (v + 1) tx mf rw sz nv ph tu sv) (pushM rw (64 * v + k) (x, stSet (stOf sv v) 0 p)) (fun _ => none) (fun u => WM am cI cZ tl nn rs ae (v + 1) tx mf u (upd sz v (nI (k + 1))) nv ph tu sv) := by
  refine CT.of (by decide) (Nat.le_of_ble_eq_true rfl) ?_
  intro X A hl hX hF
  generalize hz : 64 * v + k = z at *
  have loop : ∀ n c, c + n = 5 → 1 ≤ c → RR X 6 D A 0 0 (WM am cI cZ tl nn rs ae (v + 1) tx mf (stF rw sv v z x c) sz nv ph tu sv) [(0, .ref (am 0)), (2, .int p), (3, .int (nI v)), (4, .int (nI (6 * z))), (5, .int (nI c))] 35 [] := by
    intro n
    induction n with
    | zero =>
      intro c hc h1
      have hc : c = 5 := by omega
      subst hc
      refine r_iload hX d_M_stay_35 rfl ?_
      refine r_iconst (v := nI 5) hX d_M_stay_37 (by decide) ?_
      refine r_icmp_ge 70 hX d_M_stay_38 (by decide) (fun c38 => ?_) (fun c38 => absurd c38 (by decide))
      refine r_aload_n (i := 0) hX d_M_stay_70 rfl rfl ?_
      refine r_get 0 13 hX d_M_stay_71 rfl rfl fi_M (by decide) fl_M_51 rfl rfl ?_
      refine r_iload hX d_M_stay_74 rfl ?_
      refine r_iconst (v := nI 1) hX d_M_stay_76 (by decide) ?_
      refine r_iadd hX d_M_stay_77 ?_
      refine r_top (nI_add _ _) ?_
      refine r_iload_n (i := 2) hX d_M_stay_78 rfl rfl ?_
      refine r_iast 10 0 (6 * z + 1) hX d_M_stay_79 rfl rfl rfl (by omega) (by decide) ?_
      refine r_aload_n (i := 0) hX d_M_stay_80 rfl rfl ?_
      refine r_get 0 14 hX d_M_stay_81 rfl rfl fi_M (by decide) fl_M_54 rfl rfl ?_
      refine r_iload_n (i := 3) hX d_M_stay_84 rfl rfl ?_
      refine r_dup2 hX d_M_stay_85 rfl rfl ?_
      refine r_iald 11 0 (v) hX d_M_stay_86 rfl rfl rfl (by omega) (by decide) ?_
      refine r_top hsz ?_
      refine r_iconst (v := nI 1) hX d_M_stay_87 (by decide) ?_
      refine r_iadd hX d_M_stay_88 ?_
      refine r_top (nI_add _ _) ?_
      refine r_iast 11 0 (v) hX d_M_stay_89 rfl rfl rfl (by omega) (by decide) ?_
      exact r_vret (upd (stF rw sv v z x 5) (6 * z + 1) p) hX hF d_M_stay_90 sy_5 rfl rfl
    | succ n ih =>
      intro c hc h1
      refine r_iload hX d_M_stay_35 rfl ?_
      refine r_iconst (v := nI 5) hX d_M_stay_37 (by decide) ?_
      refine r_icmp_ge 70 hX d_M_stay_38 (by decide) (fun c38 => absurd c38 (nI_ge (a := c) (b := 5) (by omega) (by decide))) (fun c38 => ?_)
      refine r_aload_n (i := 0) hX d_M_stay_41 rfl rfl ?_
      refine r_get 0 13 hX d_M_stay_42 rfl rfl fi_M (by decide) fl_M_51 rfl rfl ?_
      refine r_iload hX d_M_stay_45 rfl ?_
      refine r_iconst (v := nI 1) hX d_M_stay_47 (by decide) ?_
      refine r_iadd hX d_M_stay_48 ?_
      refine r_top (nI_add _ _) ?_
      refine r_iload hX d_M_stay_49 rfl ?_
      refine r_iadd hX d_M_stay_51 ?_
      refine r_top (nI_add _ _) ?_
      refine r_aload_n (i := 0) hX d_M_stay_52 rfl rfl ?_
      refine r_get 0 19 hX d_M_stay_53 rfl rfl fi_M (by decide) fl_M_69 rfl rfl ?_
      refine r_iload_n (i := 3) hX d_M_stay_56 rfl rfl ?_
      refine r_iconst (v := nI 5) hX d_M_stay_57 (by decide) ?_
      refine r_imul hX d_M_stay_58 ?_
      refine r_top (pk_mul _ _) ?_
      refine r_iload hX d_M_stay_59 rfl ?_
      refine r_iadd hX d_M_stay_61 ?_
      refine r_top (nI_add _ _) ?_
      refine r_iald 15 0 (5 * v + c) hX d_M_stay_62 rfl rfl (by rw [Nat.mul_comm]) (by omega) (by decide) ?_
      refine r_iast 10 0 (6 * z + 1 + c) hX d_M_stay_63 rfl rfl rfl (by omega) (by decide) ?_
      refine r_ws (ws' := WM am cI cZ tl nn rs ae (v + 1) tx mf (stF rw sv v z x (c + 1)) sz nv ph tu sv) (by rw [← sy_step h1]; rfl) ?_
      refine r_iinc hX d_M_stay_64 rfl (rx_inc _) (by decide) ?_
      refine r_goto 35 hX d_M_stay_67 (by decide) ?_
      exact r_lv [0, 2, 3, 4, 5] (ih (c + 1) (by omega) (by omega))
  refine r_aload_n (i := 0) hX d_M_stay_0 rfl rfl ?_
  refine r_get 0 15 hX d_M_stay_1 rfl rfl fi_M (by decide) fl_M_57 rfl rfl ?_
  refine r_iconst (v := nI 1) hX d_M_stay_4 (by decide) ?_
  refine r_isub hX d_M_stay_5 ?_
  refine r_top (pk_sub (by omega)) ?_
  refine r_top (by rw [Nat.add_sub_cancel]) ?_
  refine r_istore_n (i := 3) hX d_M_stay_6 rfl (by decide) ?_
  refine r_iload_n (i := 3) hX d_M_stay_7 rfl rfl ?_
  refine r_sipush (v := nI 384) hX d_M_stay_8 (by decide) ?_
  refine r_imul hX d_M_stay_11 ?_
  refine r_top (pk_mul _ _) ?_
  refine r_aload_n (i := 0) hX d_M_stay_12 rfl rfl ?_
  refine r_get 0 14 hX d_M_stay_13 rfl rfl fi_M (by decide) fl_M_54 rfl rfl ?_
  refine r_iload_n (i := 3) hX d_M_stay_16 rfl rfl ?_
  refine r_iald 11 0 (v) hX d_M_stay_17 rfl rfl rfl (by omega) (by decide) ?_
  refine r_top hsz ?_
  refine r_bipush (v := nI 6) hX d_M_stay_18 (by decide) ?_
  refine r_imul hX d_M_stay_20 ?_
  refine r_top (pk_mul _ _) ?_
  refine r_iadd hX d_M_stay_21 ?_
  refine r_top (nI_add _ _) ?_
  refine r_top (congrArg nI (show v * 384 + k * 6 = 6 * z by omega)) ?_
  refine r_istore hX d_M_stay_22 (by decide) ?_
  refine r_aload_n (i := 0) hX d_M_stay_24 rfl rfl ?_
  refine r_get 0 13 hX d_M_stay_25 rfl rfl fi_M (by decide) fl_M_51 rfl rfl ?_
  refine r_iload hX d_M_stay_28 rfl ?_
  refine r_iload_n (i := 1) hX d_M_stay_30 rfl rfl ?_
  refine r_iast 10 0 (6 * z) hX d_M_stay_31 rfl rfl rfl (by omega) (by decide) ?_
  refine r_ws (ws' := WM am cI cZ tl nn rs ae (v + 1) tx mf (stF rw sv v z x 1) sz nv ph tu sv) (by rw [sy_1]; rfl) ?_
  refine r_iconst (v := nI 1) hX d_M_stay_32 (by decide) ?_
  refine r_istore hX d_M_stay_33 (by decide) ?_
  exact r_lv [0, 2, 3, 4, 5] (loop 4 1 (by omega) (by decide))
set_option maxRecDepth 100000 in
set_option maxHeartbeats 4000000 in
theorem c_M_isOf (a : Int32) (p : Nat) (hp : p < 2 ^ 31) (ht : tl ≤ 24) : CT l D (tyL cI cZ cN) none y_M_isOf b_M_isOf 6 (some .boolean) 0 [.ref (am 0), .int a, .int (nI p)] (WM am cI cZ tl nn rs ae dp tx mf rw sz nv ph tu sv) (fun _ : Unit => True) (fun _ => some (.int (bI (atSort tl tx a p)))) (fun _ => (WM am cI cZ tl nn rs ae dp tx mf rw sz nv ph tu sv)) := by
  refine CT.of (by decide) (Nat.le_of_ble_eq_true rfl) ?_
  intro X A hl hX hF
  have tail : ∀ (b1 b2 : Bool), p < tl → b1 = isDig (tx p) → b2 = isLet (tx p) → RR X 6 D A 0 0 (WM am cI cZ tl nn rs ae dp tx mf rw sz nv ph tu sv) [(0, .ref (am 0)), (1, .int a), (2, .int (nI p)), (3, .int (tx p)), (4, .int (bI b1)), (5, .int (bI b2))] 55 [] := by
    intro b1 b2 hlt h1 h2
    have hs : atSort tl tx a p = inSort (tx p) a := by simp [atSort, hlt]
    rw [hs] at hF
    rcases sw5 a with rfl | rfl | rfl | rfl | rfl | ⟨hq, h0, h1', h2', h3, h4⟩
    ·
      refine r_iload_n (i := 1) hX d_M_isOf_55 rfl rfl ?_
      refine r_if_ne 64 hX d_M_isOf_56 (by decide) (fun c56 => absurd c56 (by decide)) (fun c56 => ?_)
      refine r_iload hX d_M_isOf_59 rfl ?_
      refine r_goto 141 hX d_M_isOf_61 (by decide) ?_
      exact r_zret () hX hF d_M_isOf_141 (bI_nar _) trivial (by rw [h1]; simp [inSort]) rfl
    ·
      refine r_iload_n (i := 1) hX d_M_isOf_55 rfl rfl ?_
      refine r_if_ne 64 hX d_M_isOf_56 (by decide) (fun c56 => ?_) (fun c56 => absurd c56 (by decide))
      refine r_iload_n (i := 1) hX d_M_isOf_64 rfl rfl ?_
      refine r_iconst (v := nI 1) hX d_M_isOf_65 (by decide) ?_
      refine r_icmp_ne 74 hX d_M_isOf_66 (by decide) (fun c66 => absurd c66 (by decide)) (fun c66 => ?_)
      refine r_iload hX d_M_isOf_69 rfl ?_
      refine r_goto 141 hX d_M_isOf_71 (by decide) ?_
      exact r_zret () hX hF d_M_isOf_141 (bI_nar _) trivial (by rw [h2]; simp [inSort, show ¬ nI 1 = nI 0 by decide]) rfl
    ·
      refine r_iload_n (i := 1) hX d_M_isOf_55 rfl rfl ?_
      refine r_if_ne 64 hX d_M_isOf_56 (by decide) (fun c56 => ?_) (fun c56 => absurd c56 (by decide))
      refine r_iload_n (i := 1) hX d_M_isOf_64 rfl rfl ?_
      refine r_iconst (v := nI 1) hX d_M_isOf_65 (by decide) ?_
      refine r_icmp_ne 74 hX d_M_isOf_66 (by decide) (fun c66 => ?_) (fun c66 => absurd c66 (by decide))
      refine r_iload_n (i := 1) hX d_M_isOf_74 rfl rfl ?_
      refine r_iconst (v := nI 2) hX d_M_isOf_75 (by decide) ?_
      refine r_icmp_ne 97 hX d_M_isOf_76 (by decide) (fun c76 => absurd c76 (by decide)) (fun c76 => ?_)
      refine r_iload hX d_M_isOf_79 rfl ?_
      refine r_if_ne 89 hX d_M_isOf_81 (by decide) (fun c81 => ?_) (fun c81 => ?_)
      · have hn : inSort (tx p) (nI 2) = true := by
          have := bI_1 c81
          rw [h1] at this
          simp [inSort, this, show ¬ nI 2 = nI 0 by decide, show ¬ nI 2 = nI 1 by decide]
        refine r_iconst (v := nI 1) hX d_M_isOf_89 (by decide) ?_
        refine r_goto 141 hX d_M_isOf_90 (by decide) ?_
        exact r_zret () hX hF d_M_isOf_141 rfl trivial (by rw [hn]; rfl) rfl
      · refine r_iload hX d_M_isOf_84 rfl ?_
        refine r_if_eq 93 hX d_M_isOf_86 (by decide) (fun c86 => ?_) (fun c86 => ?_)
        · have hn : inSort (tx p) (nI 2) = false := by
            have h5 := bI_0 c81
            have h6 := bI_0 c86
            rw [h1] at h5
            rw [h2] at h6
            simp [inSort, h5, h6, show ¬ nI 2 = nI 0 by decide, show ¬ nI 2 = nI 1 by decide]
          refine r_iconst (v := nI 0) hX d_M_isOf_93 (by decide) ?_
          refine r_goto 141 hX d_M_isOf_94 (by decide) ?_
          exact r_zret () hX hF d_M_isOf_141 rfl trivial (by rw [hn]; rfl) rfl
        · have hn : inSort (tx p) (nI 2) = true := by
            have h6 := bI_1 c86
            rw [h2] at h6
            simp [inSort, h6, show ¬ nI 2 = nI 0 by decide, show ¬ nI 2 = nI 1 by decide]
          refine r_iconst (v := nI 1) hX d_M_isOf_89 (by decide) ?_
          refine r_goto 141 hX d_M_isOf_90 (by decide) ?_
          exact r_zret () hX hF d_M_isOf_141 rfl trivial (by rw [hn]; rfl) rfl
    ·
      refine r_iload_n (i := 1) hX d_M_isOf_55 rfl rfl ?_
      refine r_if_ne 64 hX d_M_isOf_56 (by decide) (fun c56 => ?_) (fun c56 => absurd c56 (by decide))
      refine r_iload_n (i := 1) hX d_M_isOf_64 rfl rfl ?_
      refine r_iconst (v := nI 1) hX d_M_isOf_65 (by decide) ?_
      refine r_icmp_ne 74 hX d_M_isOf_66 (by decide) (fun c66 => ?_) (fun c66 => absurd c66 (by decide))
      refine r_iload_n (i := 1) hX d_M_isOf_74 rfl rfl ?_
      refine r_iconst (v := nI 2) hX d_M_isOf_75 (by decide) ?_
      refine r_icmp_ne 97 hX d_M_isOf_76 (by decide) (fun c76 => ?_) (fun c76 => absurd c76 (by decide))
      refine r_iload_n (i := 1) hX d_M_isOf_97 rfl rfl ?_
      refine r_iconst (v := nI 3) hX d_M_isOf_98 (by decide) ?_
      refine r_icmp_ne 122 hX d_M_isOf_99 (by decide) (fun c99 => absurd c99 (by decide)) (fun c99 => ?_)
      refine r_iload_n (i := 3) hX d_M_isOf_102 rfl rfl ?_
      refine r_bipush (v := nI 32) hX d_M_isOf_103 (by decide) ?_
      refine r_icmp_eq 114 hX d_M_isOf_105 (by decide) (fun c105 => ?_) (fun c105 => ?_)
      · have hn : inSort (tx p) (nI 3) = true := by simp [inSort, c105, show ¬ nI 3 = nI 0 by decide, show ¬ nI 3 = nI 1 by decide, show ¬ nI 3 = nI 2 by decide]
        refine r_iconst (v := nI 1) hX d_M_isOf_114 (by decide) ?_
        refine r_goto 141 hX d_M_isOf_115 (by decide) ?_
        exact r_zret () hX hF d_M_isOf_141 rfl trivial (by rw [hn]; rfl) rfl
      · refine r_iload_n (i := 3) hX d_M_isOf_108 rfl rfl ?_
        refine r_bipush (v := nI 9) hX d_M_isOf_109 (by decide) ?_
        refine r_icmp_ne 118 hX d_M_isOf_111 (by decide) (fun c111 => ?_) (fun c111 => ?_)
        · have hn : inSort (tx p) (nI 3) = false := by simp [inSort, c105, c111, show ¬ nI 3 = nI 0 by decide, show ¬ nI 3 = nI 1 by decide, show ¬ nI 3 = nI 2 by decide]
          refine r_iconst (v := nI 0) hX d_M_isOf_118 (by decide) ?_
          refine r_goto 141 hX d_M_isOf_119 (by decide) ?_
          exact r_zret () hX hF d_M_isOf_141 rfl trivial (by rw [hn]; rfl) rfl
        · have hn : inSort (tx p) (nI 3) = true := by simp [inSort, c111, show ¬ nI 3 = nI 0 by decide, show ¬ nI 3 = nI 1 by decide, show ¬ nI 3 = nI 2 by decide]
          refine r_iconst (v := nI 1) hX d_M_isOf_114 (by decide) ?_
          refine r_goto 141 hX d_M_isOf_115 (by decide) ?_
          exact r_zret () hX hF d_M_isOf_141 rfl trivial (by rw [hn]; rfl) rfl
    ·
      refine r_iload_n (i := 1) hX d_M_isOf_55 rfl rfl ?_
      refine r_if_ne 64 hX d_M_isOf_56 (by decide) (fun c56 => ?_) (fun c56 => absurd c56 (by decide))
      refine r_iload_n (i := 1) hX d_M_isOf_64 rfl rfl ?_
      refine r_iconst (v := nI 1) hX d_M_isOf_65 (by decide) ?_
      refine r_icmp_ne 74 hX d_M_isOf_66 (by decide) (fun c66 => ?_) (fun c66 => absurd c66 (by decide))
      refine r_iload_n (i := 1) hX d_M_isOf_74 rfl rfl ?_
      refine r_iconst (v := nI 2) hX d_M_isOf_75 (by decide) ?_
      refine r_icmp_ne 97 hX d_M_isOf_76 (by decide) (fun c76 => ?_) (fun c76 => absurd c76 (by decide))
      refine r_iload_n (i := 1) hX d_M_isOf_97 rfl rfl ?_
      refine r_iconst (v := nI 3) hX d_M_isOf_98 (by decide) ?_
      refine r_icmp_ne 122 hX d_M_isOf_99 (by decide) (fun c99 => ?_) (fun c99 => absurd c99 (by decide))
      refine r_iload_n (i := 1) hX d_M_isOf_122 rfl rfl ?_
      refine r_iconst (v := nI 4) hX d_M_isOf_123 (by decide) ?_
      refine r_icmp_eq 136 hX d_M_isOf_124 (by decide) (fun c124 => ?_) (fun c124 => absurd c124 (by decide))
      refine r_iconst (v := nI 1) hX d_M_isOf_136 (by decide) ?_
      refine r_goto 141 hX d_M_isOf_137 (by decide) ?_
      exact r_zret () hX hF d_M_isOf_141 rfl trivial (by simp [inSort, show ¬ nI 4 = nI 0 by decide, show ¬ nI 4 = nI 1 by decide, show ¬ nI 4 = nI 2 by decide, show ¬ nI 4 = nI 3 by decide]; rfl) rfl
    ·
      refine r_iload_n (i := 1) hX d_M_isOf_55 rfl rfl ?_
      refine r_if_ne 64 hX d_M_isOf_56 (by decide) (fun c56 => ?_) (fun c56 => absurd c56 h0)
      refine r_iload_n (i := 1) hX d_M_isOf_64 rfl rfl ?_
      refine r_iconst (v := nI 1) hX d_M_isOf_65 (by decide) ?_
      refine r_icmp_ne 74 hX d_M_isOf_66 (by decide) (fun c66 => ?_) (fun c66 => absurd c66 h1')
      refine r_iload_n (i := 1) hX d_M_isOf_74 rfl rfl ?_
      refine r_iconst (v := nI 2) hX d_M_isOf_75 (by decide) ?_
      refine r_icmp_ne 97 hX d_M_isOf_76 (by decide) (fun c76 => ?_) (fun c76 => absurd c76 h2')
      refine r_iload_n (i := 1) hX d_M_isOf_97 rfl rfl ?_
      refine r_iconst (v := nI 3) hX d_M_isOf_98 (by decide) ?_
      refine r_icmp_ne 122 hX d_M_isOf_99 (by decide) (fun c99 => ?_) (fun c99 => absurd c99 h3)
      refine r_iload_n (i := 1) hX d_M_isOf_122 rfl rfl ?_
      refine r_iconst (v := nI 4) hX d_M_isOf_123 (by decide) ?_
      refine r_icmp_eq 136 hX d_M_isOf_124 (by decide) (fun c124 => absurd c124 h4) (fun c124 => ?_)
      refine r_iload_n (i := 3) hX d_M_isOf_127 rfl rfl ?_
      refine r_iload_n (i := 1) hX d_M_isOf_128 rfl rfl ?_
      refine r_sipush (v := nI 256) hX d_M_isOf_129 (by decide) ?_
      refine r_isub hX d_M_isOf_132 ?_
      refine r_icmp_ne 140 hX d_M_isOf_133 (by decide) (fun c133 => ?_) (fun c133 => ?_)
      · have hn : inSort (tx p) a = false := by simp [inSort, c133, h0, h1', h2', h3, h4]
        refine r_iconst (v := nI 0) hX d_M_isOf_140 (by decide) ?_
        exact r_zret () hX hF d_M_isOf_141 rfl trivial (by rw [hn]; rfl) rfl
      · have hn : inSort (tx p) a = true := by simp [inSort, c133, h0, h1', h2', h3, h4]
        refine r_iconst (v := nI 1) hX d_M_isOf_136 (by decide) ?_
        refine r_goto 141 hX d_M_isOf_137 (by decide) ?_
        exact r_zret () hX hF d_M_isOf_141 rfl trivial (by rw [hn]; rfl) rfl
  have mid : ∀ (b1 : Bool), p < tl → b1 = isDig (tx p) → RR X 6 D A 0 0 (WM am cI cZ tl nn rs ae dp tx mf rw sz nv ph tu sv) [(0, .ref (am 0)), (1, .int a), (2, .int (nI p)), (3, .int (tx p)), (4, .int (bI b1))] 36 [] := by
    intro b1 hlt h1
    refine r_iload_n (i := 3) hX d_M_isOf_36 rfl rfl ?_
    refine r_bipush (v := nI 96) hX d_M_isOf_37 (by decide) ?_
    refine r_icmp_le 52 hX d_M_isOf_39 (by decide) (fun c39 => ?_) (fun c39 => ?_)
    · have hn : false = isLet (tx p) := by
        have := (i32_pred (n := 96) (by decide)).mpr c39
        simp [isLet, this]
      refine r_iconst (v := nI 0) hX d_M_isOf_52 (by decide) ?_
      refine r_istore hX d_M_isOf_53 (by decide) ?_
      exact r_lv [0, 1, 2, 3, 4, 5] (tail b1 _ hlt h1 hn)
    · refine r_iload_n (i := 3) hX d_M_isOf_42 rfl rfl ?_
      refine r_bipush (v := nI 123) hX d_M_isOf_43 (by decide) ?_
      refine r_icmp_ge 52 hX d_M_isOf_45 (by decide) (fun c45 => ?_) (fun c45 => ?_)
      · have hn : false = isLet (tx p) := by
          have := (i32_succ (n := 122) (by decide)).mp c45
          simp [isLet, this]
        refine r_iconst (v := nI 0) hX d_M_isOf_52 (by decide) ?_
        refine r_istore hX d_M_isOf_53 (by decide) ?_
        exact r_lv [0, 1, 2, 3, 4, 5] (tail b1 _ hlt h1 hn)
      · have hn : true = isLet (tx p) := by
          have h5 : ¬ tx p < nI 97 := fun h => c39 ((i32_pred (n := 96) (by decide)).mp h)
          have h6 : ¬ nI 122 < tx p := fun h => c45 ((i32_succ (n := 122) (by decide)).mpr h)
          simp [isLet, h5, h6]
        refine r_iconst (v := nI 1) hX d_M_isOf_48 (by decide) ?_
        refine r_goto 53 hX d_M_isOf_49 (by decide) ?_
        refine r_istore hX d_M_isOf_53 (by decide) ?_
        exact r_lv [0, 1, 2, 3, 4, 5] (tail b1 _ hlt h1 hn)
  refine r_iload_n (i := 2) hX d_M_isOf_0 rfl rfl ?_
  refine r_aload_n (i := 0) hX d_M_isOf_1 rfl rfl ?_
  refine r_get 0 0 hX d_M_isOf_2 rfl rfl fi_M (by decide) fl_M_7 rfl rfl ?_
  refine r_icmp_lt 10 hX d_M_isOf_5 (by decide) (fun c5 => ?_) (fun c5 => ?_)
  · have hlt := (nI_ltI (by omega) (by omega)).mp c5
    refine r_aload_n (i := 0) hX d_M_isOf_10 rfl rfl ?_
    refine r_get 0 4 hX d_M_isOf_11 rfl rfl fi_M (by decide) fl_M_22 rfl rfl ?_
    refine r_iload_n (i := 2) hX d_M_isOf_14 rfl rfl ?_
    refine r_iald 1 0 (p) hX d_M_isOf_15 rfl rfl rfl (by omega) (by decide) ?_
    refine r_istore_n (i := 3) hX d_M_isOf_16 rfl (by decide) ?_
    refine r_iload_n (i := 3) hX d_M_isOf_17 rfl rfl ?_
    refine r_bipush (v := nI 47) hX d_M_isOf_18 (by decide) ?_
    refine r_icmp_le 33 hX d_M_isOf_20 (by decide) (fun c20 => ?_) (fun c20 => ?_)
    · have hn : false = isDig (tx p) := by
        have := (i32_pred (n := 47) (by decide)).mpr c20
        simp [isDig, this]
      refine r_iconst (v := nI 0) hX d_M_isOf_33 (by decide) ?_
      refine r_istore hX d_M_isOf_34 (by decide) ?_
      exact r_lv [0, 1, 2, 3, 4] (mid _ hlt hn)
    · refine r_iload_n (i := 3) hX d_M_isOf_23 rfl rfl ?_
      refine r_bipush (v := nI 58) hX d_M_isOf_24 (by decide) ?_
      refine r_icmp_ge 33 hX d_M_isOf_26 (by decide) (fun c26 => ?_) (fun c26 => ?_)
      · have hn : false = isDig (tx p) := by
          have := (i32_succ (n := 57) (by decide)).mp c26
          simp [isDig, this]
        refine r_iconst (v := nI 0) hX d_M_isOf_33 (by decide) ?_
        refine r_istore hX d_M_isOf_34 (by decide) ?_
        exact r_lv [0, 1, 2, 3, 4] (mid _ hlt hn)
      · have hn : true = isDig (tx p) := by
          have h5 : ¬ tx p < nI 48 := fun h => c20 ((i32_pred (n := 47) (by decide)).mp h)
          have h6 : ¬ nI 57 < tx p := fun h => c26 ((i32_succ (n := 57) (by decide)).mpr h)
          simp [isDig, h5, h6]
        refine r_iconst (v := nI 1) hX d_M_isOf_29 (by decide) ?_
        refine r_goto 34 hX d_M_isOf_30 (by decide) ?_
        refine r_istore hX d_M_isOf_34 (by decide) ?_
        exact r_lv [0, 1, 2, 3, 4] (mid _ hlt hn)
  · have hn : atSort tl tx a p = false := by
      have : ¬ p < tl := fun h => c5 (nI_lt h (by omega))
      simp [atSort, this]
    refine r_iconst (v := nI 0) hX d_M_isOf_8 (by decide) ?_
    exact r_zret () hX hF d_M_isOf_9 rfl trivial (by rw [hn]; rfl) rfl
set_option maxRecDepth 100000 in
set_option maxHeartbeats 4000000 in
theorem c_M_runFrom (a : Int32) (p most : Nat) (hp : p ≤ tl) (hm : most ≤ 24) (ht : tl ≤ 24) : CT l D (tyL cI cZ cN) none y_M_runFrom b_M_runFrom 5 (some .int) 1 [.ref (am 0), .int a, .int (nI p), .int (nI most)] (WM am cI cZ tl nn rs ae dp tx mf rw sz nv ph tu sv) (fun _ : Unit => True) (fun _ => some (.int (nI (runL (atSort tl tx a) most p)))) (fun _ => (WM am cI cZ tl nn rs ae dp tx mf rw sz nv ph tu sv)) := by
  refine CT.of (by decide) (Nat.le_of_ble_eq_true rfl) ?_
  intro X A hl hX hF
  have loop : ∀ n k, k + n = most → runL (atSort tl tx a) n (p + k) = runL (atSort tl tx a) most p → RR X 5 D A 0 0 (WM am cI cZ tl nn rs ae dp tx mf rw sz nv ph tu sv) [(0, .ref (am 0)), (1, .int a), (2, .int (nI p)), (3, .int (nI most)), (4, .int (nI (p + k)))] 3 [] := by
    intro n
    induction n with
    | zero =>
      intro k hk hr
      have hk : k = most := by omega
      subst hk
      refine r_iload hX d_M_runFrom_3 rfl ?_
      refine r_iload_n (i := 2) hX d_M_runFrom_5 rfl rfl ?_
      refine r_isub hX d_M_runFrom_6 ?_
      refine r_top (pk_sub (by omega)) ?_
      refine r_top (by rw [Nat.add_sub_cancel_left]) ?_
      refine r_iload_n (i := 3) hX d_M_runFrom_7 rfl rfl ?_
      refine r_icmp_ge 27 hX d_M_runFrom_8 (by decide) (fun c8 => ?_) (fun c8 => absurd (nI_le (Nat.le_refl k) (by omega)) c8)
      refine r_iload hX d_M_runFrom_27 rfl ?_
      exact r_iret () hX hF d_M_runFrom_29 trivial (by rw [← hr]; rfl) rfl
    | succ n ih =>
      intro k hk hr
      refine r_iload hX d_M_runFrom_3 rfl ?_
      refine r_iload_n (i := 2) hX d_M_runFrom_5 rfl rfl ?_
      refine r_isub hX d_M_runFrom_6 ?_
      refine r_top (pk_sub (by omega)) ?_
      refine r_top (by rw [Nat.add_sub_cancel_left]) ?_
      refine r_iload_n (i := 3) hX d_M_runFrom_7 rfl rfl ?_
      refine r_icmp_ge 27 hX d_M_runFrom_8 (by decide) (fun c8 => absurd c8 (nI_ge (by omega) (by omega))) (fun c8 => ?_)
      refine r_aload_n (i := 0) hX d_M_runFrom_11 rfl rfl ?_
      refine r_iload_n (i := 1) hX d_M_runFrom_12 rfl rfl ?_
      refine r_iload hX d_M_runFrom_13 rfl ?_
      refine r_callVwi (q0 := 0) hX d_M_runFrom_15 cw_M_isOf ml_M_100 (c_M_isOf a (p + k) (by omega) ht) (Or.inl rfl) rfl rfl rfl rfl (by decide) (Nat.le_of_ble_eq_true rfl) (fun _ => rfl) (fun _ _ => ?_)
      refine r_if_eq 27 hX d_M_runFrom_18 (by decide) (fun c18 => ?_) (fun c18 => ?_)
      · have hb := bI_0 c18
        refine r_iload hX d_M_runFrom_27 rfl ?_
        exact r_iret () hX hF d_M_runFrom_29 trivial (by rw [← hr, runL_stop hb]) rfl
      · have hb := bI_1 c18
        refine r_iinc hX d_M_runFrom_21 rfl (rx_inc _) (by decide) ?_
        refine r_goto 3 hX d_M_runFrom_24 (by decide) ?_
        exact r_lv [0, 1, 2, 3, 4] (ih (k + 1) (by omega) (by rw [← hr, runL_go hb]; rfl))
  refine r_iload_n (i := 2) hX d_M_runFrom_0 rfl rfl ?_
  refine r_istore hX d_M_runFrom_1 (by decide) ?_
  exact r_lv [0, 1, 2, 3, 4] (loop most 0 (by omega) rfl)
end ModelC
