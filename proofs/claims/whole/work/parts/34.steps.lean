/-! The steps of OR, IF and the pairs, phase by phase. -/
section ModelE
variable {l : Launch} {D : va_G} {cI cZ cN : ClassId} {am : Nat → Nat} {tl nn rs ae dp : Nat} {tx rw sz nv ph tu sv : Nat → Int32} {mf : Nat → Nat → Int32}
set_option maxRecDepth 100000 in
set_option maxHeartbeats 4000000 in
theorem c_M_stepOr0 (i v ja : Nat) (hi : i < 60) (hv : v + 1 < 8) (hph : ph v = nI 0) (ha : mf 1 i = nI ja) : CT l D (tyL cI cZ cN) none y_M_stepOr b_M_stepOr 3 none 2 [.ref (am 0), .int (nI i)] (WM am cI cZ tl nn rs ae (v + 1) tx mf rw sz nv ph tu sv) (svP sv (v + 1) (stOf sv v)) (fun _ => none) (fun u => WM am cI cZ tl nn rs ae (v + 1 + 1) tx mf rw (upd sz (v + 1) (nI 0)) (upd nv (v + 1) (nI ja)) (upd (upd ph v (nI 1)) (v + 1) (nI 0)) tu u) := by
  refine CT.of (by decide) (Nat.le_of_ble_eq_true rfl) ?_
  intro X A hl hX hF
  refine r_aload_n (i := 0) hX d_M_stepOr_0 rfl rfl ?_
  refine r_get 0 17 hX d_M_stepOr_1 rfl rfl fi_M (by decide) fl_M_63 rfl rfl ?_
  refine r_aload_n (i := 0) hX d_M_stepOr_4 rfl rfl ?_
  refine r_get 0 15 hX d_M_stepOr_5 rfl rfl fi_M (by decide) fl_M_57 rfl rfl ?_
  refine r_iconst (v := nI 1) hX d_M_stepOr_8 (by decide) ?_
  refine r_isub hX d_M_stepOr_9 ?_
  refine r_top (pk_sub (by omega)) ?_
  refine r_top (by rw [Nat.add_sub_cancel]) ?_
  refine r_iald 13 0 (v) hX d_M_stepOr_10 rfl rfl rfl (by omega) (by decide) ?_
  refine r_top hph ?_
  refine r_istore_n (i := 2) hX d_M_stepOr_11 rfl (by decide) ?_
  refine r_aload_n (i := 0) hX d_M_stepOr_12 rfl rfl ?_
  refine r_get 0 17 hX d_M_stepOr_13 rfl rfl fi_M (by decide) fl_M_63 rfl rfl ?_
  refine r_aload_n (i := 0) hX d_M_stepOr_16 rfl rfl ?_
  refine r_get 0 15 hX d_M_stepOr_17 rfl rfl fi_M (by decide) fl_M_57 rfl rfl ?_
  refine r_iconst (v := nI 1) hX d_M_stepOr_20 (by decide) ?_
  refine r_isub hX d_M_stepOr_21 ?_
  refine r_top (pk_sub (by omega)) ?_
  refine r_top (by rw [Nat.add_sub_cancel]) ?_
  refine r_dup2 hX d_M_stepOr_22 rfl rfl ?_
  refine r_iald 13 0 (v) hX d_M_stepOr_23 rfl rfl rfl (by omega) (by decide) ?_
  refine r_top hph ?_
  refine r_iconst (v := nI 1) hX d_M_stepOr_24 (by decide) ?_
  refine r_iadd hX d_M_stepOr_25 ?_
  refine r_top (nI_add _ _) ?_
  refine r_iast 13 0 (v) hX d_M_stepOr_26 rfl rfl rfl (by omega) (by decide) ?_
  refine r_ws (ws' := WM am cI cZ tl nn rs ae (v + 1) tx mf rw sz nv (upd ph v (nI 1)) tu sv) rfl ?_
  refine r_iload_n (i := 2) hX d_M_stepOr_27 rfl rfl ?_
  refine r_if_le 35 hX d_M_stepOr_28 (by decide) (fun c28 => ?_) (fun c28 => absurd c28 (by decide))
  refine r_iload_n (i := 2) hX d_M_stepOr_35 rfl rfl ?_
  refine r_iconst (v := nI 2) hX d_M_stepOr_36 (by decide) ?_
  refine r_icmp_ge 67 hX d_M_stepOr_37 (by decide) (fun c37 => absurd c37 (by decide)) (fun c37 => ?_)
  refine r_aload_n (i := 0) hX d_M_stepOr_40 rfl rfl ?_
  refine r_iload_n (i := 2) hX d_M_stepOr_41 rfl rfl ?_
  refine r_if_ne 54 hX d_M_stepOr_42 (by decide) (fun c42 => absurd c42 (by decide)) (fun c42 => ?_)
  refine r_aload_n (i := 0) hX d_M_stepOr_45 rfl rfl ?_
  refine r_get 0 6 hX d_M_stepOr_46 rfl rfl fi_M (by decide) fl_M_29 rfl rfl ?_
  refine r_iload_n (i := 1) hX d_M_stepOr_49 rfl rfl ?_
  refine r_iald 3 0 (i) hX d_M_stepOr_50 rfl rfl rfl (by omega) (by decide) ?_
  refine r_top ha ?_
  refine r_goto 60 hX d_M_stepOr_51 (by decide) ?_
  refine r_iconst (v := -1) hX d_M_stepOr_60 (by decide) ?_
  refine r_callVwv (q0 := 0) hX d_M_stepOr_61 cw_M_begin ml_M_112 (c_M_begin_up (nI ja) (v + 1) (by omega) (by omega)) (Or.inl rfl) rfl rfl rfl rfl (by decide) (Nat.le_of_ble_eq_true rfl) (fun _ => rfl) (fun u hu => ?_)
  refine r_goto 77 hX d_M_stepOr_64 (by decide) ?_
  exact r_vret u hX hF d_M_stepOr_77 hu rfl rfl
set_option maxRecDepth 100000 in
set_option maxHeartbeats 4000000 in
theorem c_M_stepOr1 (i v jb : Nat) (L : List Rs) (hi : i < 60) (hv : v + 1 < 8) (hph : ph v = nI 1) (hb : mf 2 i = nI jb) (hsv : sz v = nI 0) (hsd : sz (v + 1) = nI L.length) (hL : Holds rw (64 * (v + 1)) L) (hlen : L.length ≤ 64) : CT l D (tyL cI cZ cN) none y_M_stepOr b_M_stepOr 3 none 2 [.ref (am 0), .int (nI i)] (WM am cI cZ tl nn rs ae (v + 1) tx mf rw sz nv ph tu sv) (fun u : (Nat → Int32) × (Nat → Int32) => mP rw (64 * v) L u.1 ∧ svP sv (v + 1) (stOf sv v) u.2) (fun _ => none) (fun u => WM am cI cZ tl nn rs ae (v + 1 + 1) tx mf u.1 (upd (upd sz v (nI L.length)) (v + 1) (nI 0)) (upd nv (v + 1) (nI jb)) (upd (upd ph v (nI (1 + 1))) (v + 1) (nI 0)) tu u.2) := by
  refine CT.of (by decide) (Nat.le_of_ble_eq_true rfl) ?_
  intro X A hl hX hF
  refine r_aload_n (i := 0) hX d_M_stepOr_0 rfl rfl ?_
  refine r_get 0 17 hX d_M_stepOr_1 rfl rfl fi_M (by decide) fl_M_63 rfl rfl ?_
  refine r_aload_n (i := 0) hX d_M_stepOr_4 rfl rfl ?_
  refine r_get 0 15 hX d_M_stepOr_5 rfl rfl fi_M (by decide) fl_M_57 rfl rfl ?_
  refine r_iconst (v := nI 1) hX d_M_stepOr_8 (by decide) ?_
  refine r_isub hX d_M_stepOr_9 ?_
  refine r_top (pk_sub (by omega)) ?_
  refine r_top (by rw [Nat.add_sub_cancel]) ?_
  refine r_iald 13 0 (v) hX d_M_stepOr_10 rfl rfl rfl (by omega) (by decide) ?_
  refine r_top hph ?_
  refine r_istore_n (i := 2) hX d_M_stepOr_11 rfl (by decide) ?_
  refine r_aload_n (i := 0) hX d_M_stepOr_12 rfl rfl ?_
  refine r_get 0 17 hX d_M_stepOr_13 rfl rfl fi_M (by decide) fl_M_63 rfl rfl ?_
  refine r_aload_n (i := 0) hX d_M_stepOr_16 rfl rfl ?_
  refine r_get 0 15 hX d_M_stepOr_17 rfl rfl fi_M (by decide) fl_M_57 rfl rfl ?_
  refine r_iconst (v := nI 1) hX d_M_stepOr_20 (by decide) ?_
  refine r_isub hX d_M_stepOr_21 ?_
  refine r_top (pk_sub (by omega)) ?_
  refine r_top (by rw [Nat.add_sub_cancel]) ?_
  refine r_dup2 hX d_M_stepOr_22 rfl rfl ?_
  refine r_iald 13 0 (v) hX d_M_stepOr_23 rfl rfl rfl (by omega) (by decide) ?_
  refine r_top hph ?_
  refine r_iconst (v := nI 1) hX d_M_stepOr_24 (by decide) ?_
  refine r_iadd hX d_M_stepOr_25 ?_
  refine r_top (nI_add _ _) ?_
  refine r_iast 13 0 (v) hX d_M_stepOr_26 rfl rfl rfl (by omega) (by decide) ?_
  refine r_ws (ws' := WM am cI cZ tl nn rs ae (v + 1) tx mf rw sz nv (upd ph v (nI (1 + 1))) tu sv) rfl ?_
  refine r_iload_n (i := 2) hX d_M_stepOr_27 rfl rfl ?_
  refine r_if_le 35 hX d_M_stepOr_28 (by decide) (fun c28 => absurd c28 (by decide)) (fun c28 => ?_)
  refine r_aload_n (i := 0) hX d_M_stepOr_31 rfl rfl ?_
  refine r_callVwv (q0 := 0) hX d_M_stepOr_32 cw_M_giveAll ml_M_122 (c_M_giveAll v [] L hv hsv hsd (Holds.nil _ _) hL (by simpa using hlen)) (Or.inl rfl) rfl rfl rfl rfl (by decide) (Nat.le_of_ble_eq_true rfl) (fun _ => rfl) (fun f hf => ?_)
  refine r_iload_n (i := 2) hX d_M_stepOr_35 rfl rfl ?_
  refine r_iconst (v := nI 2) hX d_M_stepOr_36 (by decide) ?_
  refine r_icmp_ge 67 hX d_M_stepOr_37 (by decide) (fun c37 => absurd c37 (by decide)) (fun c37 => ?_)
  refine r_aload_n (i := 0) hX d_M_stepOr_40 rfl rfl ?_
  refine r_iload_n (i := 2) hX d_M_stepOr_41 rfl rfl ?_
  refine r_if_ne 54 hX d_M_stepOr_42 (by decide) (fun c42 => ?_) (fun c42 => absurd c42 (by decide))
  refine r_aload_n (i := 0) hX d_M_stepOr_54 rfl rfl ?_
  refine r_get 0 7 hX d_M_stepOr_55 rfl rfl fi_M (by decide) fl_M_32 rfl rfl ?_
  refine r_iload_n (i := 1) hX d_M_stepOr_58 rfl rfl ?_
  refine r_iald 4 0 (i) hX d_M_stepOr_59 rfl rfl rfl (by omega) (by decide) ?_
  refine r_top hb ?_
  refine r_iconst (v := -1) hX d_M_stepOr_60 (by decide) ?_
  refine r_callVwv (q0 := 0) hX d_M_stepOr_61 cw_M_begin ml_M_112 (c_M_begin_up (nI jb) (v + 1) (by omega) (by omega)) (Or.inl rfl) rfl rfl rfl rfl (by decide) (Nat.le_of_ble_eq_true rfl) (fun _ => rfl) (fun u hu => ?_)
  refine r_goto 77 hX d_M_stepOr_64 (by decide) ?_
  exact r_vret (f, u) hX hF d_M_stepOr_77 ⟨hf, hu⟩ rfl rfl
set_option maxRecDepth 100000 in
set_option maxHeartbeats 4000000 in
theorem c_M_stepOr2 (i v : Nat) (K L : List Rs) (hi : i < 60) (hv : v + 1 < 8) (hph : ph v = nI 2) (hsv : sz v = nI K.length) (hsd : sz (v + 1) = nI L.length) (hK : Holds rw (64 * v) K) (hL : Holds rw (64 * (v + 1)) L) (hlen : K.length + L.length ≤ 64) : CT l D (tyL cI cZ cN) none y_M_stepOr b_M_stepOr 3 none 2 [.ref (am 0), .int (nI i)] (WM am cI cZ tl nn rs ae (v + 1) tx mf rw sz nv ph tu sv) (mP rw (64 * v) (K ++ L)) (fun _ => none) (fun u => WM am cI cZ tl nn rs ae v tx mf u (upd sz v (nI (K ++ L).length)) nv (upd ph v (nI (2 + 1))) tu sv) := by
  refine CT.of (by decide) (Nat.le_of_ble_eq_true rfl) ?_
  intro X A hl hX hF
  refine r_aload_n (i := 0) hX d_M_stepOr_0 rfl rfl ?_
  refine r_get 0 17 hX d_M_stepOr_1 rfl rfl fi_M (by decide) fl_M_63 rfl rfl ?_
  refine r_aload_n (i := 0) hX d_M_stepOr_4 rfl rfl ?_
  refine r_get 0 15 hX d_M_stepOr_5 rfl rfl fi_M (by decide) fl_M_57 rfl rfl ?_
  refine r_iconst (v := nI 1) hX d_M_stepOr_8 (by decide) ?_
  refine r_isub hX d_M_stepOr_9 ?_
  refine r_top (pk_sub (by omega)) ?_
  refine r_top (by rw [Nat.add_sub_cancel]) ?_
  refine r_iald 13 0 (v) hX d_M_stepOr_10 rfl rfl rfl (by omega) (by decide) ?_
  refine r_top hph ?_
  refine r_istore_n (i := 2) hX d_M_stepOr_11 rfl (by decide) ?_
  refine r_aload_n (i := 0) hX d_M_stepOr_12 rfl rfl ?_
  refine r_get 0 17 hX d_M_stepOr_13 rfl rfl fi_M (by decide) fl_M_63 rfl rfl ?_
  refine r_aload_n (i := 0) hX d_M_stepOr_16 rfl rfl ?_
  refine r_get 0 15 hX d_M_stepOr_17 rfl rfl fi_M (by decide) fl_M_57 rfl rfl ?_
  refine r_iconst (v := nI 1) hX d_M_stepOr_20 (by decide) ?_
  refine r_isub hX d_M_stepOr_21 ?_
  refine r_top (pk_sub (by omega)) ?_
  refine r_top (by rw [Nat.add_sub_cancel]) ?_
  refine r_dup2 hX d_M_stepOr_22 rfl rfl ?_
  refine r_iald 13 0 (v) hX d_M_stepOr_23 rfl rfl rfl (by omega) (by decide) ?_
  refine r_top hph ?_
  refine r_iconst (v := nI 1) hX d_M_stepOr_24 (by decide) ?_
  refine r_iadd hX d_M_stepOr_25 ?_
  refine r_top (nI_add _ _) ?_
  refine r_iast 13 0 (v) hX d_M_stepOr_26 rfl rfl rfl (by omega) (by decide) ?_
  refine r_ws (ws' := WM am cI cZ tl nn rs ae (v + 1) tx mf rw sz nv (upd ph v (nI (2 + 1))) tu sv) rfl ?_
  refine r_iload_n (i := 2) hX d_M_stepOr_27 rfl rfl ?_
  refine r_if_le 35 hX d_M_stepOr_28 (by decide) (fun c28 => absurd c28 (by decide)) (fun c28 => ?_)
  refine r_aload_n (i := 0) hX d_M_stepOr_31 rfl rfl ?_
  refine r_callVwv (q0 := 0) hX d_M_stepOr_32 cw_M_giveAll ml_M_122 (c_M_giveAll v K L hv hsv hsd hK hL hlen) (Or.inl rfl) rfl rfl rfl rfl (by decide) (Nat.le_of_ble_eq_true rfl) (fun _ => rfl) (fun u hu => ?_)
  refine r_iload_n (i := 2) hX d_M_stepOr_35 rfl rfl ?_
  refine r_iconst (v := nI 2) hX d_M_stepOr_36 (by decide) ?_
  refine r_icmp_ge 67 hX d_M_stepOr_37 (by decide) (fun c37 => ?_) (fun c37 => absurd c37 (by decide))
  refine r_aload_n (i := 0) hX d_M_stepOr_67 rfl rfl ?_
  refine r_dup hX d_M_stepOr_68 rfl ?_
  refine r_get 0 15 hX d_M_stepOr_69 rfl rfl fi_M (by decide) fl_M_57 rfl rfl ?_
  refine r_iconst (v := nI 1) hX d_M_stepOr_72 (by decide) ?_
  refine r_isub hX d_M_stepOr_73 ?_
  refine r_top (pk_sub (by omega)) ?_
  refine r_put 0 15 hX d_M_stepOr_74 rfl rfl fi_M ft_M_ok fn_M (by decide) fl_M_57 rfl rfl rfl rfl rfl (Nat.le_of_ble_eq_true rfl) ?_
  exact r_vret u hX hF d_M_stepOr_77 hu rfl (by rw [Nat.add_sub_cancel]; rfl)
set_option maxRecDepth 100000 in
set_option maxHeartbeats 4000000 in
theorem c_M_stepIf0 (i v ja : Nat) (hi : i < 60) (hv : v + 1 < 8) (hph : ph v = nI 0) (ha : mf 1 i = nI ja) : CT l D (tyL cI cZ cN) none y_M_stepIf b_M_stepIf 3 none 2 [.ref (am 0), .int (nI i)] (WM am cI cZ tl nn rs ae (v + 1) tx mf rw sz nv ph tu sv) (svP sv (v + 1) (stOf sv v)) (fun _ => none) (fun u => WM am cI cZ tl nn rs ae (v + 1 + 1) tx mf rw (upd sz (v + 1) (nI 0)) (upd nv (v + 1) (nI ja)) (upd (upd ph v (nI 1)) (v + 1) (nI 0)) tu u) := by
  refine CT.of (by decide) (Nat.le_of_ble_eq_true rfl) ?_
  intro X A hl hX hF
  refine r_aload_n (i := 0) hX d_M_stepIf_0 rfl rfl ?_
  refine r_get 0 17 hX d_M_stepIf_1 rfl rfl fi_M (by decide) fl_M_63 rfl rfl ?_
  refine r_aload_n (i := 0) hX d_M_stepIf_4 rfl rfl ?_
  refine r_get 0 15 hX d_M_stepIf_5 rfl rfl fi_M (by decide) fl_M_57 rfl rfl ?_
  refine r_iconst (v := nI 1) hX d_M_stepIf_8 (by decide) ?_
  refine r_isub hX d_M_stepIf_9 ?_
  refine r_top (pk_sub (by omega)) ?_
  refine r_top (by rw [Nat.add_sub_cancel]) ?_
  refine r_iald 13 0 (v) hX d_M_stepIf_10 rfl rfl rfl (by omega) (by decide) ?_
  refine r_top hph ?_
  refine r_istore_n (i := 2) hX d_M_stepIf_11 rfl (by decide) ?_
  refine r_aload_n (i := 0) hX d_M_stepIf_12 rfl rfl ?_
  refine r_get 0 17 hX d_M_stepIf_13 rfl rfl fi_M (by decide) fl_M_63 rfl rfl ?_
  refine r_aload_n (i := 0) hX d_M_stepIf_16 rfl rfl ?_
  refine r_get 0 15 hX d_M_stepIf_17 rfl rfl fi_M (by decide) fl_M_57 rfl rfl ?_
  refine r_iconst (v := nI 1) hX d_M_stepIf_20 (by decide) ?_
  refine r_isub hX d_M_stepIf_21 ?_
  refine r_top (pk_sub (by omega)) ?_
  refine r_top (by rw [Nat.add_sub_cancel]) ?_
  refine r_dup2 hX d_M_stepIf_22 rfl rfl ?_
  refine r_iald 13 0 (v) hX d_M_stepIf_23 rfl rfl rfl (by omega) (by decide) ?_
  refine r_top hph ?_
  refine r_iconst (v := nI 1) hX d_M_stepIf_24 (by decide) ?_
  refine r_iadd hX d_M_stepIf_25 ?_
  refine r_top (nI_add _ _) ?_
  refine r_iast 13 0 (v) hX d_M_stepIf_26 rfl rfl rfl (by omega) (by decide) ?_
  refine r_ws (ws' := WM am cI cZ tl nn rs ae (v + 1) tx mf rw sz nv (upd ph v (nI 1)) tu sv) rfl ?_
  refine r_iload_n (i := 2) hX d_M_stepIf_27 rfl rfl ?_
  refine r_if_ne 45 hX d_M_stepIf_28 (by decide) (fun c28 => absurd c28 (by decide)) (fun c28 => ?_)
  refine r_aload_n (i := 0) hX d_M_stepIf_31 rfl rfl ?_
  refine r_aload_n (i := 0) hX d_M_stepIf_32 rfl rfl ?_
  refine r_get 0 6 hX d_M_stepIf_33 rfl rfl fi_M (by decide) fl_M_29 rfl rfl ?_
  refine r_iload_n (i := 1) hX d_M_stepIf_36 rfl rfl ?_
  refine r_iald 3 0 (i) hX d_M_stepIf_37 rfl rfl rfl (by omega) (by decide) ?_
  refine r_top ha ?_
  refine r_iconst (v := -1) hX d_M_stepIf_38 (by decide) ?_
  refine r_callVwv (q0 := 0) hX d_M_stepIf_39 cw_M_begin ml_M_112 (c_M_begin_up (nI ja) (v + 1) (by omega) (by omega)) (Or.inl rfl) rfl rfl rfl rfl (by decide) (Nat.le_of_ble_eq_true rfl) (fun _ => rfl) (fun u hu => ?_)
  refine r_goto 115 hX d_M_stepIf_42 (by decide) ?_
  exact r_vret u hX hF d_M_stepIf_115 hu rfl rfl
set_option maxRecDepth 100000 in
set_option maxHeartbeats 4000000 in
theorem c_M_stepIf1a (i v jb n : Nat) (hi : i < 60) (hv : v + 1 < 8) (hph : ph v = nI 1) (hb : mf 2 i = nI jb) (hsd : sz (v + 1) = nI n) (hn : 1 ≤ n) (hn2 : n ≤ 64) : CT l D (tyL cI cZ cN) none y_M_stepIf b_M_stepIf 3 none 2 [.ref (am 0), .int (nI i)] (WM am cI cZ tl nn rs ae (v + 1) tx mf rw sz nv ph tu sv) (svP sv (v + 1) (gRow rw (64 * (v + 1) + 0)).2) (fun _ => none) (fun u => WM am cI cZ tl nn rs ae (v + 1 + 1) tx mf rw (upd sz (v + 1) (nI 0)) (upd nv (v + 1) (nI jb)) (upd (upd ph v (nI (1 + 1))) (v + 1) (nI 0)) tu u) := by
  refine CT.of (by decide) (Nat.le_of_ble_eq_true rfl) ?_
  intro X A hl hX hF
  refine r_aload_n (i := 0) hX d_M_stepIf_0 rfl rfl ?_
  refine r_get 0 17 hX d_M_stepIf_1 rfl rfl fi_M (by decide) fl_M_63 rfl rfl ?_
  refine r_aload_n (i := 0) hX d_M_stepIf_4 rfl rfl ?_
  refine r_get 0 15 hX d_M_stepIf_5 rfl rfl fi_M (by decide) fl_M_57 rfl rfl ?_
  refine r_iconst (v := nI 1) hX d_M_stepIf_8 (by decide) ?_
  refine r_isub hX d_M_stepIf_9 ?_
  refine r_top (pk_sub (by omega)) ?_
  refine r_top (by rw [Nat.add_sub_cancel]) ?_
  refine r_iald 13 0 (v) hX d_M_stepIf_10 rfl rfl rfl (by omega) (by decide) ?_
  refine r_top hph ?_
  refine r_istore_n (i := 2) hX d_M_stepIf_11 rfl (by decide) ?_
  refine r_aload_n (i := 0) hX d_M_stepIf_12 rfl rfl ?_
  refine r_get 0 17 hX d_M_stepIf_13 rfl rfl fi_M (by decide) fl_M_63 rfl rfl ?_
  refine r_aload_n (i := 0) hX d_M_stepIf_16 rfl rfl ?_
  refine r_get 0 15 hX d_M_stepIf_17 rfl rfl fi_M (by decide) fl_M_57 rfl rfl ?_
  refine r_iconst (v := nI 1) hX d_M_stepIf_20 (by decide) ?_
  refine r_isub hX d_M_stepIf_21 ?_
  refine r_top (pk_sub (by omega)) ?_
  refine r_top (by rw [Nat.add_sub_cancel]) ?_
  refine r_dup2 hX d_M_stepIf_22 rfl rfl ?_
  refine r_iald 13 0 (v) hX d_M_stepIf_23 rfl rfl rfl (by omega) (by decide) ?_
  refine r_top hph ?_
  refine r_iconst (v := nI 1) hX d_M_stepIf_24 (by decide) ?_
  refine r_iadd hX d_M_stepIf_25 ?_
  refine r_top (nI_add _ _) ?_
  refine r_iast 13 0 (v) hX d_M_stepIf_26 rfl rfl rfl (by omega) (by decide) ?_
  refine r_ws (ws' := WM am cI cZ tl nn rs ae (v + 1) tx mf rw sz nv (upd ph v (nI (1 + 1))) tu sv) rfl ?_
  refine r_iload_n (i := 2) hX d_M_stepIf_27 rfl rfl ?_
  refine r_if_ne 45 hX d_M_stepIf_28 (by decide) (fun c28 => ?_) (fun c28 => absurd c28 (by decide))
  refine r_iload_n (i := 2) hX d_M_stepIf_45 rfl rfl ?_
  refine r_iconst (v := nI 1) hX d_M_stepIf_46 (by decide) ?_
  refine r_icmp_ne 82 hX d_M_stepIf_47 (by decide) (fun c47 => absurd c47 (by decide)) (fun c47 => ?_)
  refine r_aload_n (i := 0) hX d_M_stepIf_50 rfl rfl ?_
  refine r_get 0 14 hX d_M_stepIf_51 rfl rfl fi_M (by decide) fl_M_54 rfl rfl ?_
  refine r_aload_n (i := 0) hX d_M_stepIf_54 rfl rfl ?_
  refine r_get 0 15 hX d_M_stepIf_55 rfl rfl fi_M (by decide) fl_M_57 rfl rfl ?_
  refine r_iald 11 0 (v + 1) hX d_M_stepIf_58 rfl rfl rfl (by omega) (by decide) ?_
  refine r_top hsd ?_
  refine r_if_le 82 hX d_M_stepIf_59 (by decide) (fun c59 => absurd c59 (nI_nle (by omega) (by omega))) (fun c59 => ?_)
  refine r_aload_n (i := 0) hX d_M_stepIf_62 rfl rfl ?_
  refine r_aload_n (i := 0) hX d_M_stepIf_63 rfl rfl ?_
  refine r_get 0 7 hX d_M_stepIf_64 rfl rfl fi_M (by decide) fl_M_32 rfl rfl ?_
  refine r_iload_n (i := 1) hX d_M_stepIf_67 rfl rfl ?_
  refine r_iald 4 0 (i) hX d_M_stepIf_68 rfl rfl rfl (by omega) (by decide) ?_
  refine r_top hb ?_
  refine r_aload_n (i := 0) hX d_M_stepIf_69 rfl rfl ?_
  refine r_iconst (v := nI 0) hX d_M_stepIf_70 (by decide) ?_
  refine r_callVwi (q0 := 0) hX d_M_stepIf_71 cw_M_operand ml_M_115 (c_M_operand 0) (Or.inl rfl) rfl rfl rfl rfl (by decide) (Nat.le_of_ble_eq_true rfl) (fun _ => rfl) (fun _ _ => ?_)
  refine r_iconst (v := nI 1) hX d_M_stepIf_74 (by decide) ?_
  refine r_iadd hX d_M_stepIf_75 ?_
  refine r_top (nI_add _ _) ?_
  refine r_callVwv (q0 := 0) hX d_M_stepIf_76 cw_M_begin ml_M_112 (c_M_begin_row (nI jb) (v + 1) (64 * (v + 1) + 0) (by omega) (by omega)) (Or.inl rfl) rfl rfl rfl rfl (by decide) (Nat.le_of_ble_eq_true rfl) (fun _ => rfl) (fun u hu => ?_)
  refine r_goto 115 hX d_M_stepIf_79 (by decide) ?_
  exact r_vret u hX hF d_M_stepIf_115 hu rfl rfl
set_option maxRecDepth 100000 in
set_option maxHeartbeats 4000000 in
theorem c_M_stepIf1b (i v jc : Nat) (hi : i < 60) (hv : v + 1 < 8) (hph : ph v = nI 1) (hc : mf 3 i = nI jc) (hsd : sz (v + 1) = nI 0) : CT l D (tyL cI cZ cN) none y_M_stepIf b_M_stepIf 3 none 2 [.ref (am 0), .int (nI i)] (WM am cI cZ tl nn rs ae (v + 1) tx mf rw sz nv ph tu sv) (svP sv (v + 1) (stOf sv v)) (fun _ => none) (fun u => WM am cI cZ tl nn rs ae (v + 1 + 1) tx mf rw (upd sz (v + 1) (nI 0)) (upd nv (v + 1) (nI jc)) (upd (upd ph v (nI (1 + 1))) (v + 1) (nI 0)) tu u) := by
  refine CT.of (by decide) (Nat.le_of_ble_eq_true rfl) ?_
  intro X A hl hX hF
  refine r_aload_n (i := 0) hX d_M_stepIf_0 rfl rfl ?_
  refine r_get 0 17 hX d_M_stepIf_1 rfl rfl fi_M (by decide) fl_M_63 rfl rfl ?_
  refine r_aload_n (i := 0) hX d_M_stepIf_4 rfl rfl ?_
  refine r_get 0 15 hX d_M_stepIf_5 rfl rfl fi_M (by decide) fl_M_57 rfl rfl ?_
  refine r_iconst (v := nI 1) hX d_M_stepIf_8 (by decide) ?_
  refine r_isub hX d_M_stepIf_9 ?_
  refine r_top (pk_sub (by omega)) ?_
  refine r_top (by rw [Nat.add_sub_cancel]) ?_
  refine r_iald 13 0 (v) hX d_M_stepIf_10 rfl rfl rfl (by omega) (by decide) ?_
  refine r_top hph ?_
  refine r_istore_n (i := 2) hX d_M_stepIf_11 rfl (by decide) ?_
  refine r_aload_n (i := 0) hX d_M_stepIf_12 rfl rfl ?_
  refine r_get 0 17 hX d_M_stepIf_13 rfl rfl fi_M (by decide) fl_M_63 rfl rfl ?_
  refine r_aload_n (i := 0) hX d_M_stepIf_16 rfl rfl ?_
  refine r_get 0 15 hX d_M_stepIf_17 rfl rfl fi_M (by decide) fl_M_57 rfl rfl ?_
  refine r_iconst (v := nI 1) hX d_M_stepIf_20 (by decide) ?_
  refine r_isub hX d_M_stepIf_21 ?_
  refine r_top (pk_sub (by omega)) ?_
  refine r_top (by rw [Nat.add_sub_cancel]) ?_
  refine r_dup2 hX d_M_stepIf_22 rfl rfl ?_
  refine r_iald 13 0 (v) hX d_M_stepIf_23 rfl rfl rfl (by omega) (by decide) ?_
  refine r_top hph ?_
  refine r_iconst (v := nI 1) hX d_M_stepIf_24 (by decide) ?_
  refine r_iadd hX d_M_stepIf_25 ?_
  refine r_top (nI_add _ _) ?_
  refine r_iast 13 0 (v) hX d_M_stepIf_26 rfl rfl rfl (by omega) (by decide) ?_
  refine r_ws (ws' := WM am cI cZ tl nn rs ae (v + 1) tx mf rw sz nv (upd ph v (nI (1 + 1))) tu sv) rfl ?_
  refine r_iload_n (i := 2) hX d_M_stepIf_27 rfl rfl ?_
  refine r_if_ne 45 hX d_M_stepIf_28 (by decide) (fun c28 => ?_) (fun c28 => absurd c28 (by decide))
  refine r_iload_n (i := 2) hX d_M_stepIf_45 rfl rfl ?_
  refine r_iconst (v := nI 1) hX d_M_stepIf_46 (by decide) ?_
  refine r_icmp_ne 82 hX d_M_stepIf_47 (by decide) (fun c47 => absurd c47 (by decide)) (fun c47 => ?_)
  refine r_aload_n (i := 0) hX d_M_stepIf_50 rfl rfl ?_
  refine r_get 0 14 hX d_M_stepIf_51 rfl rfl fi_M (by decide) fl_M_54 rfl rfl ?_
  refine r_aload_n (i := 0) hX d_M_stepIf_54 rfl rfl ?_
  refine r_get 0 15 hX d_M_stepIf_55 rfl rfl fi_M (by decide) fl_M_57 rfl rfl ?_
  refine r_iald 11 0 (v + 1) hX d_M_stepIf_58 rfl rfl rfl (by omega) (by decide) ?_
  refine r_top hsd ?_
  refine r_if_le 82 hX d_M_stepIf_59 (by decide) (fun c59 => ?_) (fun c59 => absurd c59 (by decide))
  refine r_iload_n (i := 2) hX d_M_stepIf_82 rfl rfl ?_
  refine r_iconst (v := nI 1) hX d_M_stepIf_83 (by decide) ?_
  refine r_icmp_ne 101 hX d_M_stepIf_84 (by decide) (fun c84 => absurd c84 (by decide)) (fun c84 => ?_)
  refine r_aload_n (i := 0) hX d_M_stepIf_87 rfl rfl ?_
  refine r_aload_n (i := 0) hX d_M_stepIf_88 rfl rfl ?_
  refine r_get 0 8 hX d_M_stepIf_89 rfl rfl fi_M (by decide) fl_M_35 rfl rfl ?_
  refine r_iload_n (i := 1) hX d_M_stepIf_92 rfl rfl ?_
  refine r_iald 5 0 (i) hX d_M_stepIf_93 rfl rfl rfl (by omega) (by decide) ?_
  refine r_top hc ?_
  refine r_iconst (v := -1) hX d_M_stepIf_94 (by decide) ?_
  refine r_callVwv (q0 := 0) hX d_M_stepIf_95 cw_M_begin ml_M_112 (c_M_begin_up (nI jc) (v + 1) (by omega) (by omega)) (Or.inl rfl) rfl rfl rfl rfl (by decide) (Nat.le_of_ble_eq_true rfl) (fun _ => rfl) (fun u hu => ?_)
  refine r_goto 115 hX d_M_stepIf_98 (by decide) ?_
  exact r_vret u hX hF d_M_stepIf_115 hu rfl rfl
set_option maxRecDepth 100000 in
set_option maxHeartbeats 4000000 in
theorem c_M_stepIf2 (i v : Nat) (L : List Rs) (hi : i < 60) (hv : v + 1 < 8) (hph : ph v = nI 2) (hsv : sz v = nI 0) (hsd : sz (v + 1) = nI L.length) (hL : Holds rw (64 * (v + 1)) L) (hlen : L.length ≤ 64) : CT l D (tyL cI cZ cN) none y_M_stepIf b_M_stepIf 3 none 2 [.ref (am 0), .int (nI i)] (WM am cI cZ tl nn rs ae (v + 1) tx mf rw sz nv ph tu sv) (mP rw (64 * v) L) (fun _ => none) (fun u => WM am cI cZ tl nn rs ae v tx mf u (upd sz v (nI L.length)) nv (upd ph v (nI (2 + 1))) tu sv) := by
  refine CT.of (by decide) (Nat.le_of_ble_eq_true rfl) ?_
  intro X A hl hX hF
  refine r_aload_n (i := 0) hX d_M_stepIf_0 rfl rfl ?_
  refine r_get 0 17 hX d_M_stepIf_1 rfl rfl fi_M (by decide) fl_M_63 rfl rfl ?_
  refine r_aload_n (i := 0) hX d_M_stepIf_4 rfl rfl ?_
  refine r_get 0 15 hX d_M_stepIf_5 rfl rfl fi_M (by decide) fl_M_57 rfl rfl ?_
  refine r_iconst (v := nI 1) hX d_M_stepIf_8 (by decide) ?_
  refine r_isub hX d_M_stepIf_9 ?_
  refine r_top (pk_sub (by omega)) ?_
  refine r_top (by rw [Nat.add_sub_cancel]) ?_
  refine r_iald 13 0 (v) hX d_M_stepIf_10 rfl rfl rfl (by omega) (by decide) ?_
  refine r_top hph ?_
  refine r_istore_n (i := 2) hX d_M_stepIf_11 rfl (by decide) ?_
  refine r_aload_n (i := 0) hX d_M_stepIf_12 rfl rfl ?_
  refine r_get 0 17 hX d_M_stepIf_13 rfl rfl fi_M (by decide) fl_M_63 rfl rfl ?_
  refine r_aload_n (i := 0) hX d_M_stepIf_16 rfl rfl ?_
  refine r_get 0 15 hX d_M_stepIf_17 rfl rfl fi_M (by decide) fl_M_57 rfl rfl ?_
  refine r_iconst (v := nI 1) hX d_M_stepIf_20 (by decide) ?_
  refine r_isub hX d_M_stepIf_21 ?_
  refine r_top (pk_sub (by omega)) ?_
  refine r_top (by rw [Nat.add_sub_cancel]) ?_
  refine r_dup2 hX d_M_stepIf_22 rfl rfl ?_
  refine r_iald 13 0 (v) hX d_M_stepIf_23 rfl rfl rfl (by omega) (by decide) ?_
  refine r_top hph ?_
  refine r_iconst (v := nI 1) hX d_M_stepIf_24 (by decide) ?_
  refine r_iadd hX d_M_stepIf_25 ?_
  refine r_top (nI_add _ _) ?_
  refine r_iast 13 0 (v) hX d_M_stepIf_26 rfl rfl rfl (by omega) (by decide) ?_
  refine r_ws (ws' := WM am cI cZ tl nn rs ae (v + 1) tx mf rw sz nv (upd ph v (nI (2 + 1))) tu sv) rfl ?_
  refine r_iload_n (i := 2) hX d_M_stepIf_27 rfl rfl ?_
  refine r_if_ne 45 hX d_M_stepIf_28 (by decide) (fun c28 => ?_) (fun c28 => absurd c28 (by decide))
  refine r_iload_n (i := 2) hX d_M_stepIf_45 rfl rfl ?_
  refine r_iconst (v := nI 1) hX d_M_stepIf_46 (by decide) ?_
  refine r_icmp_ne 82 hX d_M_stepIf_47 (by decide) (fun c47 => ?_) (fun c47 => absurd c47 (by decide))
  refine r_iload_n (i := 2) hX d_M_stepIf_82 rfl rfl ?_
  refine r_iconst (v := nI 1) hX d_M_stepIf_83 (by decide) ?_
  refine r_icmp_ne 101 hX d_M_stepIf_84 (by decide) (fun c84 => ?_) (fun c84 => absurd c84 (by decide))
  refine r_aload_n (i := 0) hX d_M_stepIf_101 rfl rfl ?_
  refine r_callVwv (q0 := 0) hX d_M_stepIf_102 cw_M_giveAll ml_M_122 (c_M_giveAll v [] L hv hsv hsd (Holds.nil _ _) hL (by simpa using hlen)) (Or.inl rfl) rfl rfl rfl rfl (by decide) (Nat.le_of_ble_eq_true rfl) (fun _ => rfl) (fun u hu => ?_)
  refine r_aload_n (i := 0) hX d_M_stepIf_105 rfl rfl ?_
  refine r_dup hX d_M_stepIf_106 rfl ?_
  refine r_get 0 15 hX d_M_stepIf_107 rfl rfl fi_M (by decide) fl_M_57 rfl rfl ?_
  refine r_iconst (v := nI 1) hX d_M_stepIf_110 (by decide) ?_
  refine r_isub hX d_M_stepIf_111 ?_
  refine r_top (pk_sub (by omega)) ?_
  refine r_put 0 15 hX d_M_stepIf_112 rfl rfl fi_M ft_M_ok fn_M (by decide) fl_M_57 rfl rfl rfl rfl rfl (Nat.le_of_ble_eq_true rfl) ?_
  exact r_vret u hX hF d_M_stepIf_115 hu rfl (by rw [Nat.add_sub_cancel]; rfl)
set_option maxRecDepth 100000 in
set_option maxHeartbeats 4000000 in
theorem c_M_stepPairs0 (i v ja k : Nat) (hi : i < 60) (hv : v + 1 < 8) (hph : ph v = nI 0) (ha : mf 1 i = nI ja) : CT l D (tyL cI cZ cN) none y_M_stepPairs b_M_stepPairs 6 none 2 [.ref (am 0), .int (nI i), .int (nI k)] (WM am cI cZ tl nn rs ae (v + 1) tx mf rw sz nv ph tu sv) (svP sv (v + 1) (stOf sv v)) (fun _ => none) (fun u => WM am cI cZ tl nn rs ae (v + 1 + 1) tx mf rw (upd sz (v + 1) (nI 0)) (upd nv (v + 1) (nI ja)) (upd (upd ph v (nI 1)) (v + 1) (nI 0)) tu u) := by
  refine CT.of (by decide) (Nat.le_of_ble_eq_true rfl) ?_
  intro X A hl hX hF
  refine r_aload_n (i := 0) hX d_M_stepPairs_0 rfl rfl ?_
  refine r_get 0 15 hX d_M_stepPairs_1 rfl rfl fi_M (by decide) fl_M_57 rfl rfl ?_
  refine r_iconst (v := nI 1) hX d_M_stepPairs_4 (by decide) ?_
  refine r_isub hX d_M_stepPairs_5 ?_
  refine r_top (pk_sub (by omega)) ?_
  refine r_top (by rw [Nat.add_sub_cancel]) ?_
  refine r_istore_n (i := 3) hX d_M_stepPairs_6 rfl (by decide) ?_
  refine r_bipush (v := nI 8) hX d_M_stepPairs_7 (by decide) ?_
  refine r_iload_n (i := 3) hX d_M_stepPairs_9 rfl rfl ?_
  refine r_iadd hX d_M_stepPairs_10 ?_
  refine r_top (nI_add _ _) ?_
  refine r_sipush (v := nI 384) hX d_M_stepPairs_11 (by decide) ?_
  refine r_imul hX d_M_stepPairs_14 ?_
  refine r_top (pk_mul _ _) ?_
  refine r_top (congrArg nI (show (8 + v) * 384 = 6 * (64 * (8 + v)) by omega)) ?_
  refine r_istore hX d_M_stepPairs_15 (by decide) ?_
  refine r_aload_n (i := 0) hX d_M_stepPairs_17 rfl rfl ?_
  refine r_get 0 17 hX d_M_stepPairs_18 rfl rfl fi_M (by decide) fl_M_63 rfl rfl ?_
  refine r_iload_n (i := 3) hX d_M_stepPairs_21 rfl rfl ?_
  refine r_iald 13 0 (v) hX d_M_stepPairs_22 rfl rfl rfl (by omega) (by decide) ?_
  refine r_top hph ?_
  refine r_if_ne 45 hX d_M_stepPairs_23 (by decide) (fun c23 => absurd c23 (by decide)) (fun c23 => ?_)
  refine r_aload_n (i := 0) hX d_M_stepPairs_26 rfl rfl ?_
  refine r_get 0 17 hX d_M_stepPairs_27 rfl rfl fi_M (by decide) fl_M_63 rfl rfl ?_
  refine r_iload_n (i := 3) hX d_M_stepPairs_30 rfl rfl ?_
  refine r_iconst (v := nI 1) hX d_M_stepPairs_31 (by decide) ?_
  refine r_iast 13 0 (v) hX d_M_stepPairs_32 rfl rfl rfl (by omega) (by decide) ?_
  refine r_ws (ws' := WM am cI cZ tl nn rs ae (v + 1) tx mf rw sz nv (upd ph v (nI 1)) tu sv) rfl ?_
  refine r_aload_n (i := 0) hX d_M_stepPairs_33 rfl rfl ?_
  refine r_aload_n (i := 0) hX d_M_stepPairs_34 rfl rfl ?_
  refine r_get 0 6 hX d_M_stepPairs_35 rfl rfl fi_M (by decide) fl_M_29 rfl rfl ?_
  refine r_iload_n (i := 1) hX d_M_stepPairs_38 rfl rfl ?_
  refine r_iald 3 0 (i) hX d_M_stepPairs_39 rfl rfl rfl (by omega) (by decide) ?_
  refine r_top ha ?_
  refine r_iconst (v := -1) hX d_M_stepPairs_40 (by decide) ?_
  refine r_callVwv (q0 := 0) hX d_M_stepPairs_41 cw_M_begin ml_M_112 (c_M_begin_up (nI ja) (v + 1) (by omega) (by omega)) (Or.inl rfl) rfl rfl rfl rfl (by decide) (Nat.le_of_ble_eq_true rfl) (fun _ => rfl) (fun u hu => ?_)
  exact r_vret u hX hF d_M_stepPairs_44 hu rfl rfl
/-- c ints of the rows from row p on, laid from row q on -/
def cpF (f : Nat → Int32) (p q c : Nat) : Nat → Int32 := fun j => if 6 * q ≤ j ∧ j < 6 * q + c then f (6 * p + (j - 6 * q)) else f j
theorem cp_0 (f : Nat → Int32) (p q : Nat) : cpF f p q 0 = f := by
  funext j
  unfold cpF
  rw [if_neg (by omega)]
theorem cp_rd {f : Nat → Int32} {p q c j : Nat} (h : j < 6 * q) : cpF f p q c j = f j := by
  unfold cpF
  rw [if_neg (by omega)]
theorem cp_step {f : Nat → Int32} {p q c : Nat} : upd (cpF f p q c) (6 * q + c) (f (6 * p + c)) = cpF f p q (c + 1) := by
  funext j
  unfold cpF upd
  by_cases h : j = 6 * q + c
  · rw [if_pos h, if_pos (by omega)]
    congr 1
    omega
  · rw [if_neg h]
    dsimp only
    by_cases h3 : 6 * q ≤ j ∧ j < 6 * q + c
    · rw [if_pos h3, if_pos (by omega)]
    · rw [if_neg h3, if_neg (by omega)]
theorem cp_row {f : Nat → Int32} {p q n r : Nat} (h : r < n) : gRow (cpF f p q (n * 6)) (q + r) = gRow f (p + r) := by
  refine gRow_ext fun c hc => ?_
  unfold cpF
  rw [if_pos (by omega)]
  congr 1
  omega
theorem cp_off {f : Nat → Int32} {p q n j : Nat} (h : j < 6 * q ∨ 6 * q + n * 6 ≤ j) : cpF f p q (n * 6) j = f j := by
  unfold cpF
  rw [if_neg (by omega)]
set_option maxRecDepth 100000 in
set_option maxHeartbeats 4000000 in
theorem c_M_stepPairs1a (i v k n : Nat) (hi : i < 60) (hv : v + 1 < 8) (hph : ph v = nI 1) (hsd : sz (v + 1) = nI n) (hn : n ≤ 64) (hn1 : 1 ≤ n) (jb : Nat) (hb : mf 2 i = nI jb) : CT l D (tyL cI cZ cN) none y_M_stepPairs b_M_stepPairs 6 none 2 [.ref (am 0), .int (nI i), .int (nI k)] (WM am cI cZ tl nn rs ae (v + 1) tx mf rw sz nv ph tu sv) (svP sv (v + 1) (gRow (cpF rw (64 * (v + 1)) (64 * (8 + v)) (n * 6)) (64 * (8 + v) + 0)).2) (fun _ => none) (fun u => WM am cI cZ tl nn rs ae (v + 1 + 1) tx mf (cpF rw (64 * (v + 1)) (64 * (8 + v)) (n * 6)) (upd (upd sz (8 + v) (nI n)) (v + 1) (nI 0)) (upd nv (v + 1) (nI jb)) (upd (upd ph v (nI 2)) (v + 1) (nI 0)) (upd tu v (nI 0)) u) := by
  refine CT.of (by decide) (Nat.le_of_ble_eq_true rfl) ?_
  intro X A hl hX hF
  have loop : ∀ m c, c + m = n * 6 → RR X 6 D A 0 0 (WM am cI cZ tl nn rs ae (v + 1) tx mf (cpF rw (64 * (v + 1)) (64 * (8 + v)) c) (upd sz (8 + v) (nI n)) nv ph tu sv) [(0, .ref (am 0)), (1, .int (nI i)), (3, .int (nI v)), (4, .int (nI (6 * (64 * (8 + v))))), (5, .int (nI c))] 76 [] := by
    intro m
    induction m with
    | zero =>
      intro c hc
      have hc : c = n * 6 := by omega
      subst hc
      refine r_iload hX d_M_stepPairs_76 rfl ?_
      refine r_aload_n (i := 0) hX d_M_stepPairs_78 rfl rfl ?_
      refine r_get 0 14 hX d_M_stepPairs_79 rfl rfl fi_M (by decide) fl_M_54 rfl rfl ?_
      refine r_aload_n (i := 0) hX d_M_stepPairs_82 rfl rfl ?_
      refine r_get 0 15 hX d_M_stepPairs_83 rfl rfl fi_M (by decide) fl_M_57 rfl rfl ?_
      refine r_iald 11 0 (v + 1) hX d_M_stepPairs_86 rfl rfl rfl (by omega) (by decide) ?_
      refine r_top ((pk_un (by omega)).trans hsd) ?_
      refine r_bipush (v := nI 6) hX d_M_stepPairs_87 (by decide) ?_
      refine r_imul hX d_M_stepPairs_89 ?_
      refine r_top (pk_mul _ _) ?_
      refine r_icmp_ge 125 hX d_M_stepPairs_90 (by decide) (fun c90 => ?_) (fun c90 => absurd (nI_le (Nat.le_refl _) (by omega)) c90)
      refine r_aload_n (i := 0) hX d_M_stepPairs_125 rfl rfl ?_
      refine r_get 0 18 hX d_M_stepPairs_126 rfl rfl fi_M (by decide) fl_M_66 rfl rfl ?_
      refine r_iload_n (i := 3) hX d_M_stepPairs_129 rfl rfl ?_
      refine r_iconst (v := nI 0) hX d_M_stepPairs_130 (by decide) ?_
      refine r_iast 14 0 (v) hX d_M_stepPairs_131 rfl rfl rfl (by omega) (by decide) ?_
      refine r_aload_n (i := 0) hX d_M_stepPairs_132 rfl rfl ?_
      refine r_get 0 17 hX d_M_stepPairs_133 rfl rfl fi_M (by decide) fl_M_63 rfl rfl ?_
      refine r_iload_n (i := 3) hX d_M_stepPairs_136 rfl rfl ?_
      refine r_iconst (v := nI 2) hX d_M_stepPairs_137 (by decide) ?_
      refine r_iast 13 0 (v) hX d_M_stepPairs_138 rfl rfl rfl (by omega) (by decide) ?_
      refine r_ws (ws' := WM am cI cZ tl nn rs ae (v + 1) tx mf (cpF rw (64 * (v + 1)) (64 * (8 + v)) (n * 6)) (upd sz (8 + v) (nI n)) nv (upd ph v (nI 2)) (upd tu v (nI 0)) sv) rfl ?_
      refine r_goto 199 hX d_M_stepPairs_139 (by decide) ?_
      refine r_aload_n (i := 0) hX d_M_stepPairs_199 rfl rfl ?_
      refine r_get 0 18 hX d_M_stepPairs_200 rfl rfl fi_M (by decide) fl_M_66 rfl rfl ?_
      refine r_iload_n (i := 3) hX d_M_stepPairs_203 rfl rfl ?_
      refine r_iald 14 0 (v) hX d_M_stepPairs_204 rfl rfl rfl (by omega) (by decide) ?_
      refine r_top pk_us ?_
      refine r_aload_n (i := 0) hX d_M_stepPairs_205 rfl rfl ?_
      refine r_get 0 14 hX d_M_stepPairs_206 rfl rfl fi_M (by decide) fl_M_54 rfl rfl ?_
      refine r_bipush (v := nI 8) hX d_M_stepPairs_209 (by decide) ?_
      refine r_iload_n (i := 3) hX d_M_stepPairs_211 rfl rfl ?_
      refine r_iadd hX d_M_stepPairs_212 ?_
      refine r_top (nI_add _ _) ?_
      refine r_iald 11 0 (8 + v) hX d_M_stepPairs_213 rfl rfl rfl (by omega) (by decide) ?_
      refine r_top pk_us ?_
      refine r_icmp_ge 244 hX d_M_stepPairs_214 (by decide) (fun c214 => absurd c214 (nI_ge (a := 0) (b := n) (by omega) (by omega))) (fun c214 => ?_)
      refine r_aload_n (i := 0) hX d_M_stepPairs_217 rfl rfl ?_
      refine r_aload_n (i := 0) hX d_M_stepPairs_218 rfl rfl ?_
      refine r_get 0 7 hX d_M_stepPairs_219 rfl rfl fi_M (by decide) fl_M_32 rfl rfl ?_
      refine r_iload_n (i := 1) hX d_M_stepPairs_222 rfl rfl ?_
      refine r_iald 4 0 (i) hX d_M_stepPairs_223 rfl rfl rfl (by omega) (by decide) ?_
      refine r_top hb ?_
      refine r_iload hX d_M_stepPairs_224 rfl ?_
      refine r_aload_n (i := 0) hX d_M_stepPairs_226 rfl rfl ?_
      refine r_get 0 18 hX d_M_stepPairs_227 rfl rfl fi_M (by decide) fl_M_66 rfl rfl ?_
      refine r_iload_n (i := 3) hX d_M_stepPairs_230 rfl rfl ?_
      refine r_iald 14 0 (v) hX d_M_stepPairs_231 rfl rfl rfl (by omega) (by decide) ?_
      refine r_top pk_us ?_
      refine r_bipush (v := nI 6) hX d_M_stepPairs_232 (by decide) ?_
      refine r_imul hX d_M_stepPairs_234 ?_
      refine r_top (pk_mul _ _) ?_
      refine r_iadd hX d_M_stepPairs_235 ?_
      refine r_top (nI_add _ _) ?_
      refine r_top (congrArg nI (show 6 * (64 * (8 + v)) + 0 * 6 = 6 * (64 * (8 + v) + 0) by omega)) ?_
      refine r_iconst (v := nI 1) hX d_M_stepPairs_236 (by decide) ?_
      refine r_iadd hX d_M_stepPairs_237 ?_
      refine r_top (nI_add _ _) ?_
      refine r_callVwv (q0 := 0) hX d_M_stepPairs_238 cw_M_begin ml_M_112 (c_M_begin_row (nI jb) (v + 1) (64 * (8 + v) + 0) (by omega) (by omega)) (Or.inl rfl) rfl rfl rfl rfl (by decide) (Nat.le_of_ble_eq_true rfl) (fun _ => rfl) (fun u hu => ?_)
      refine r_goto 254 hX d_M_stepPairs_241 (by decide) ?_
      exact r_vret u hX hF d_M_stepPairs_254 hu rfl rfl
    | succ m ih =>
      intro c hc
      refine r_iload hX d_M_stepPairs_76 rfl ?_
      refine r_aload_n (i := 0) hX d_M_stepPairs_78 rfl rfl ?_
      refine r_get 0 14 hX d_M_stepPairs_79 rfl rfl fi_M (by decide) fl_M_54 rfl rfl ?_
      refine r_aload_n (i := 0) hX d_M_stepPairs_82 rfl rfl ?_
      refine r_get 0 15 hX d_M_stepPairs_83 rfl rfl fi_M (by decide) fl_M_57 rfl rfl ?_
      refine r_iald 11 0 (v + 1) hX d_M_stepPairs_86 rfl rfl rfl (by omega) (by decide) ?_
      refine r_top ((pk_un (by omega)).trans hsd) ?_
      refine r_bipush (v := nI 6) hX d_M_stepPairs_87 (by decide) ?_
      refine r_imul hX d_M_stepPairs_89 ?_
      refine r_top (pk_mul _ _) ?_
      refine r_icmp_ge 125 hX d_M_stepPairs_90 (by decide) (fun c90 => absurd c90 (nI_ge (by omega) (by omega))) (fun c90 => ?_)
      refine r_aload_n (i := 0) hX d_M_stepPairs_93 rfl rfl ?_
      refine r_get 0 13 hX d_M_stepPairs_94 rfl rfl fi_M (by decide) fl_M_51 rfl rfl ?_
      refine r_iload hX d_M_stepPairs_97 rfl ?_
      refine r_iload hX d_M_stepPairs_99 rfl ?_
      refine r_iadd hX d_M_stepPairs_101 ?_
      refine r_top (nI_add _ _) ?_
      refine r_aload_n (i := 0) hX d_M_stepPairs_102 rfl rfl ?_
      refine r_get 0 13 hX d_M_stepPairs_103 rfl rfl fi_M (by decide) fl_M_51 rfl rfl ?_
      refine r_aload_n (i := 0) hX d_M_stepPairs_106 rfl rfl ?_
      refine r_get 0 15 hX d_M_stepPairs_107 rfl rfl fi_M (by decide) fl_M_57 rfl rfl ?_
      refine r_sipush (v := nI 384) hX d_M_stepPairs_110 (by decide) ?_
      refine r_imul hX d_M_stepPairs_113 ?_
      refine r_top (pk_mul _ _) ?_
      refine r_iload hX d_M_stepPairs_114 rfl ?_
      refine r_iadd hX d_M_stepPairs_116 ?_
      refine r_top (nI_add _ _) ?_
      refine r_iald 10 0 (6 * (64 * (v + 1)) + c) hX d_M_stepPairs_117 rfl rfl (congrArg nI (by omega)) (by omega) (by decide) ?_
      refine r_top (cp_rd (by omega)) ?_
      refine r_iast 10 0 (6 * (64 * (8 + v)) + c) hX d_M_stepPairs_118 rfl rfl rfl (by omega) (by decide) ?_
      refine r_ws (ws' := WM am cI cZ tl nn rs ae (v + 1) tx mf (cpF rw (64 * (v + 1)) (64 * (8 + v)) (c + 1)) (upd sz (8 + v) (nI n)) nv ph tu sv) (by rw [← cp_step]; rfl) ?_
      refine r_iinc hX d_M_stepPairs_119 rfl (rx_inc _) (by decide) ?_
      refine r_goto 76 hX d_M_stepPairs_122 (by decide) ?_
      exact r_lv [0, 1, 3, 4, 5] (ih (c + 1) (by omega))
  refine r_aload_n (i := 0) hX d_M_stepPairs_0 rfl rfl ?_
  refine r_get 0 15 hX d_M_stepPairs_1 rfl rfl fi_M (by decide) fl_M_57 rfl rfl ?_
  refine r_iconst (v := nI 1) hX d_M_stepPairs_4 (by decide) ?_
  refine r_isub hX d_M_stepPairs_5 ?_
  refine r_top (pk_sub (by omega)) ?_
  refine r_top (by rw [Nat.add_sub_cancel]) ?_
  refine r_istore_n (i := 3) hX d_M_stepPairs_6 rfl (by decide) ?_
  refine r_bipush (v := nI 8) hX d_M_stepPairs_7 (by decide) ?_
  refine r_iload_n (i := 3) hX d_M_stepPairs_9 rfl rfl ?_
  refine r_iadd hX d_M_stepPairs_10 ?_
  refine r_top (nI_add _ _) ?_
  refine r_sipush (v := nI 384) hX d_M_stepPairs_11 (by decide) ?_
  refine r_imul hX d_M_stepPairs_14 ?_
  refine r_top (pk_mul _ _) ?_
  refine r_top (congrArg nI (show (8 + v) * 384 = 6 * (64 * (8 + v)) by omega)) ?_
  refine r_istore hX d_M_stepPairs_15 (by decide) ?_
  refine r_aload_n (i := 0) hX d_M_stepPairs_17 rfl rfl ?_
  refine r_get 0 17 hX d_M_stepPairs_18 rfl rfl fi_M (by decide) fl_M_63 rfl rfl ?_
  refine r_iload_n (i := 3) hX d_M_stepPairs_21 rfl rfl ?_
  refine r_iald 13 0 (v) hX d_M_stepPairs_22 rfl rfl rfl (by omega) (by decide) ?_
  refine r_top hph ?_
  refine r_if_ne 45 hX d_M_stepPairs_23 (by decide) (fun c23 => ?_) (fun c23 => absurd c23 (by decide))
  refine r_aload_n (i := 0) hX d_M_stepPairs_45 rfl rfl ?_
  refine r_get 0 17 hX d_M_stepPairs_46 rfl rfl fi_M (by decide) fl_M_63 rfl rfl ?_
  refine r_iload_n (i := 3) hX d_M_stepPairs_49 rfl rfl ?_
  refine r_iald 13 0 (v) hX d_M_stepPairs_50 rfl rfl rfl (by omega) (by decide) ?_
  refine r_top hph ?_
  refine r_iconst (v := nI 1) hX d_M_stepPairs_51 (by decide) ?_
  refine r_icmp_ne 142 hX d_M_stepPairs_52 (by decide) (fun c52 => absurd c52 (by decide)) (fun c52 => ?_)
  refine r_aload_n (i := 0) hX d_M_stepPairs_55 rfl rfl ?_
  refine r_get 0 14 hX d_M_stepPairs_56 rfl rfl fi_M (by decide) fl_M_54 rfl rfl ?_
  refine r_bipush (v := nI 8) hX d_M_stepPairs_59 (by decide) ?_
  refine r_iload_n (i := 3) hX d_M_stepPairs_61 rfl rfl ?_
  refine r_iadd hX d_M_stepPairs_62 ?_
  refine r_top (nI_add _ _) ?_
  refine r_aload_n (i := 0) hX d_M_stepPairs_63 rfl rfl ?_
  refine r_get 0 14 hX d_M_stepPairs_64 rfl rfl fi_M (by decide) fl_M_54 rfl rfl ?_
  refine r_aload_n (i := 0) hX d_M_stepPairs_67 rfl rfl ?_
  refine r_get 0 15 hX d_M_stepPairs_68 rfl rfl fi_M (by decide) fl_M_57 rfl rfl ?_
  refine r_iald 11 0 (v + 1) hX d_M_stepPairs_71 rfl rfl rfl (by omega) (by decide) ?_
  refine r_top hsd ?_
  refine r_iast 11 0 (8 + v) hX d_M_stepPairs_72 rfl rfl rfl (by omega) (by decide) ?_
  refine r_ws (ws' := WM am cI cZ tl nn rs ae (v + 1) tx mf (cpF rw (64 * (v + 1)) (64 * (8 + v)) 0) (upd sz (8 + v) (nI n)) nv ph tu sv) (by rw [cp_0]; rfl) ?_
  refine r_iconst (v := nI 0) hX d_M_stepPairs_73 (by decide) ?_
  refine r_istore hX d_M_stepPairs_74 (by decide) ?_
  exact r_lv [0, 1, 3, 4, 5] (loop (n * 6) 0 (by omega))
set_option maxRecDepth 100000 in
set_option maxHeartbeats 4000000 in
theorem c_M_stepPairs1b (i v k n : Nat) (hi : i < 60) (hv : v + 1 < 8) (hph : ph v = nI 1) (hsd : sz (v + 1) = nI n) (hn : n ≤ 64) (hn1 : n = 0) : CT l D (tyL cI cZ cN) none y_M_stepPairs b_M_stepPairs 6 none 2 [.ref (am 0), .int (nI i), .int (nI k)] (WM am cI cZ tl nn rs ae (v + 1) tx mf rw sz nv ph tu sv) (fun _ : Unit => True) (fun _ => none) (fun _ => WM am cI cZ tl nn rs ae v tx mf (cpF rw (64 * (v + 1)) (64 * (8 + v)) (n * 6)) (upd sz (8 + v) (nI n)) nv (upd ph v (nI 2)) (upd tu v (nI 0)) sv) := by
  refine CT.of (by decide) (Nat.le_of_ble_eq_true rfl) ?_
  intro X A hl hX hF
  have loop : ∀ m c, c + m = n * 6 → RR X 6 D A 0 0 (WM am cI cZ tl nn rs ae (v + 1) tx mf (cpF rw (64 * (v + 1)) (64 * (8 + v)) c) (upd sz (8 + v) (nI n)) nv ph tu sv) [(0, .ref (am 0)), (1, .int (nI i)), (3, .int (nI v)), (4, .int (nI (6 * (64 * (8 + v))))), (5, .int (nI c))] 76 [] := by
    intro m
    induction m with
    | zero =>
      intro c hc
      have hc : c = n * 6 := by omega
      subst hc
      refine r_iload hX d_M_stepPairs_76 rfl ?_
      refine r_aload_n (i := 0) hX d_M_stepPairs_78 rfl rfl ?_
      refine r_get 0 14 hX d_M_stepPairs_79 rfl rfl fi_M (by decide) fl_M_54 rfl rfl ?_
      refine r_aload_n (i := 0) hX d_M_stepPairs_82 rfl rfl ?_
      refine r_get 0 15 hX d_M_stepPairs_83 rfl rfl fi_M (by decide) fl_M_57 rfl rfl ?_
      refine r_iald 11 0 (v + 1) hX d_M_stepPairs_86 rfl rfl rfl (by omega) (by decide) ?_
      refine r_top ((pk_un (by omega)).trans hsd) ?_
      refine r_bipush (v := nI 6) hX d_M_stepPairs_87 (by decide) ?_
      refine r_imul hX d_M_stepPairs_89 ?_
      refine r_top (pk_mul _ _) ?_
      refine r_icmp_ge 125 hX d_M_stepPairs_90 (by decide) (fun c90 => ?_) (fun c90 => absurd (nI_le (Nat.le_refl _) (by omega)) c90)
      refine r_aload_n (i := 0) hX d_M_stepPairs_125 rfl rfl ?_
      refine r_get 0 18 hX d_M_stepPairs_126 rfl rfl fi_M (by decide) fl_M_66 rfl rfl ?_
      refine r_iload_n (i := 3) hX d_M_stepPairs_129 rfl rfl ?_
      refine r_iconst (v := nI 0) hX d_M_stepPairs_130 (by decide) ?_
      refine r_iast 14 0 (v) hX d_M_stepPairs_131 rfl rfl rfl (by omega) (by decide) ?_
      refine r_aload_n (i := 0) hX d_M_stepPairs_132 rfl rfl ?_
      refine r_get 0 17 hX d_M_stepPairs_133 rfl rfl fi_M (by decide) fl_M_63 rfl rfl ?_
      refine r_iload_n (i := 3) hX d_M_stepPairs_136 rfl rfl ?_
      refine r_iconst (v := nI 2) hX d_M_stepPairs_137 (by decide) ?_
      refine r_iast 13 0 (v) hX d_M_stepPairs_138 rfl rfl rfl (by omega) (by decide) ?_
      refine r_ws (ws' := WM am cI cZ tl nn rs ae (v + 1) tx mf (cpF rw (64 * (v + 1)) (64 * (8 + v)) (n * 6)) (upd sz (8 + v) (nI n)) nv (upd ph v (nI 2)) (upd tu v (nI 0)) sv) rfl ?_
      refine r_goto 199 hX d_M_stepPairs_139 (by decide) ?_
      refine r_aload_n (i := 0) hX d_M_stepPairs_199 rfl rfl ?_
      refine r_get 0 18 hX d_M_stepPairs_200 rfl rfl fi_M (by decide) fl_M_66 rfl rfl ?_
      refine r_iload_n (i := 3) hX d_M_stepPairs_203 rfl rfl ?_
      refine r_iald 14 0 (v) hX d_M_stepPairs_204 rfl rfl rfl (by omega) (by decide) ?_
      refine r_top pk_us ?_
      refine r_aload_n (i := 0) hX d_M_stepPairs_205 rfl rfl ?_
      refine r_get 0 14 hX d_M_stepPairs_206 rfl rfl fi_M (by decide) fl_M_54 rfl rfl ?_
      refine r_bipush (v := nI 8) hX d_M_stepPairs_209 (by decide) ?_
      refine r_iload_n (i := 3) hX d_M_stepPairs_211 rfl rfl ?_
      refine r_iadd hX d_M_stepPairs_212 ?_
      refine r_top (nI_add _ _) ?_
      refine r_iald 11 0 (8 + v) hX d_M_stepPairs_213 rfl rfl rfl (by omega) (by decide) ?_
      refine r_top pk_us ?_
      refine r_icmp_ge 244 hX d_M_stepPairs_214 (by decide) (fun c214 => ?_) (fun c214 => absurd (nI_le (a := n) (b := 0) (by omega) (by decide)) c214)
      refine r_aload_n (i := 0) hX d_M_stepPairs_244 rfl rfl ?_
      refine r_dup hX d_M_stepPairs_245 rfl ?_
      refine r_get 0 15 hX d_M_stepPairs_246 rfl rfl fi_M (by decide) fl_M_57 rfl rfl ?_
      refine r_iconst (v := nI 1) hX d_M_stepPairs_249 (by decide) ?_
      refine r_isub hX d_M_stepPairs_250 ?_
      refine r_top (pk_sub (by omega)) ?_
      refine r_put 0 15 hX d_M_stepPairs_251 rfl rfl fi_M ft_M_ok fn_M (by decide) fl_M_57 rfl rfl rfl rfl rfl (Nat.le_of_ble_eq_true rfl) ?_
      exact r_vret () hX hF d_M_stepPairs_254 trivial rfl (by rw [Nat.add_sub_cancel]; rfl)
    | succ m ih =>
      intro c hc
      refine r_iload hX d_M_stepPairs_76 rfl ?_
      refine r_aload_n (i := 0) hX d_M_stepPairs_78 rfl rfl ?_
      refine r_get 0 14 hX d_M_stepPairs_79 rfl rfl fi_M (by decide) fl_M_54 rfl rfl ?_
      refine r_aload_n (i := 0) hX d_M_stepPairs_82 rfl rfl ?_
      refine r_get 0 15 hX d_M_stepPairs_83 rfl rfl fi_M (by decide) fl_M_57 rfl rfl ?_
      refine r_iald 11 0 (v + 1) hX d_M_stepPairs_86 rfl rfl rfl (by omega) (by decide) ?_
      refine r_top ((pk_un (by omega)).trans hsd) ?_
      refine r_bipush (v := nI 6) hX d_M_stepPairs_87 (by decide) ?_
      refine r_imul hX d_M_stepPairs_89 ?_
      refine r_top (pk_mul _ _) ?_
      refine r_icmp_ge 125 hX d_M_stepPairs_90 (by decide) (fun c90 => absurd c90 (nI_ge (by omega) (by omega))) (fun c90 => ?_)
      refine r_aload_n (i := 0) hX d_M_stepPairs_93 rfl rfl ?_
      refine r_get 0 13 hX d_M_stepPairs_94 rfl rfl fi_M (by decide) fl_M_51 rfl rfl ?_
      refine r_iload hX d_M_stepPairs_97 rfl ?_
      refine r_iload hX d_M_stepPairs_99 rfl ?_
      refine r_iadd hX d_M_stepPairs_101 ?_
      refine r_top (nI_add _ _) ?_
      refine r_aload_n (i := 0) hX d_M_stepPairs_102 rfl rfl ?_
      refine r_get 0 13 hX d_M_stepPairs_103 rfl rfl fi_M (by decide) fl_M_51 rfl rfl ?_
      refine r_aload_n (i := 0) hX d_M_stepPairs_106 rfl rfl ?_
      refine r_get 0 15 hX d_M_stepPairs_107 rfl rfl fi_M (by decide) fl_M_57 rfl rfl ?_
      refine r_sipush (v := nI 384) hX d_M_stepPairs_110 (by decide) ?_
      refine r_imul hX d_M_stepPairs_113 ?_
      refine r_top (pk_mul _ _) ?_
      refine r_iload hX d_M_stepPairs_114 rfl ?_
      refine r_iadd hX d_M_stepPairs_116 ?_
      refine r_top (nI_add _ _) ?_
      refine r_iald 10 0 (6 * (64 * (v + 1)) + c) hX d_M_stepPairs_117 rfl rfl (congrArg nI (by omega)) (by omega) (by decide) ?_
      refine r_top (cp_rd (by omega)) ?_
      refine r_iast 10 0 (6 * (64 * (8 + v)) + c) hX d_M_stepPairs_118 rfl rfl rfl (by omega) (by decide) ?_
      refine r_ws (ws' := WM am cI cZ tl nn rs ae (v + 1) tx mf (cpF rw (64 * (v + 1)) (64 * (8 + v)) (c + 1)) (upd sz (8 + v) (nI n)) nv ph tu sv) (by rw [← cp_step]; rfl) ?_
      refine r_iinc hX d_M_stepPairs_119 rfl (rx_inc _) (by decide) ?_
      refine r_goto 76 hX d_M_stepPairs_122 (by decide) ?_
      exact r_lv [0, 1, 3, 4, 5] (ih (c + 1) (by omega))
  refine r_aload_n (i := 0) hX d_M_stepPairs_0 rfl rfl ?_
  refine r_get 0 15 hX d_M_stepPairs_1 rfl rfl fi_M (by decide) fl_M_57 rfl rfl ?_
  refine r_iconst (v := nI 1) hX d_M_stepPairs_4 (by decide) ?_
  refine r_isub hX d_M_stepPairs_5 ?_
  refine r_top (pk_sub (by omega)) ?_
  refine r_top (by rw [Nat.add_sub_cancel]) ?_
  refine r_istore_n (i := 3) hX d_M_stepPairs_6 rfl (by decide) ?_
  refine r_bipush (v := nI 8) hX d_M_stepPairs_7 (by decide) ?_
  refine r_iload_n (i := 3) hX d_M_stepPairs_9 rfl rfl ?_
  refine r_iadd hX d_M_stepPairs_10 ?_
  refine r_top (nI_add _ _) ?_
  refine r_sipush (v := nI 384) hX d_M_stepPairs_11 (by decide) ?_
  refine r_imul hX d_M_stepPairs_14 ?_
  refine r_top (pk_mul _ _) ?_
  refine r_top (congrArg nI (show (8 + v) * 384 = 6 * (64 * (8 + v)) by omega)) ?_
  refine r_istore hX d_M_stepPairs_15 (by decide) ?_
  refine r_aload_n (i := 0) hX d_M_stepPairs_17 rfl rfl ?_
  refine r_get 0 17 hX d_M_stepPairs_18 rfl rfl fi_M (by decide) fl_M_63 rfl rfl ?_
  refine r_iload_n (i := 3) hX d_M_stepPairs_21 rfl rfl ?_
  refine r_iald 13 0 (v) hX d_M_stepPairs_22 rfl rfl rfl (by omega) (by decide) ?_
  refine r_top hph ?_
  refine r_if_ne 45 hX d_M_stepPairs_23 (by decide) (fun c23 => ?_) (fun c23 => absurd c23 (by decide))
  refine r_aload_n (i := 0) hX d_M_stepPairs_45 rfl rfl ?_
  refine r_get 0 17 hX d_M_stepPairs_46 rfl rfl fi_M (by decide) fl_M_63 rfl rfl ?_
  refine r_iload_n (i := 3) hX d_M_stepPairs_49 rfl rfl ?_
  refine r_iald 13 0 (v) hX d_M_stepPairs_50 rfl rfl rfl (by omega) (by decide) ?_
  refine r_top hph ?_
  refine r_iconst (v := nI 1) hX d_M_stepPairs_51 (by decide) ?_
  refine r_icmp_ne 142 hX d_M_stepPairs_52 (by decide) (fun c52 => absurd c52 (by decide)) (fun c52 => ?_)
  refine r_aload_n (i := 0) hX d_M_stepPairs_55 rfl rfl ?_
  refine r_get 0 14 hX d_M_stepPairs_56 rfl rfl fi_M (by decide) fl_M_54 rfl rfl ?_
  refine r_bipush (v := nI 8) hX d_M_stepPairs_59 (by decide) ?_
  refine r_iload_n (i := 3) hX d_M_stepPairs_61 rfl rfl ?_
  refine r_iadd hX d_M_stepPairs_62 ?_
  refine r_top (nI_add _ _) ?_
  refine r_aload_n (i := 0) hX d_M_stepPairs_63 rfl rfl ?_
  refine r_get 0 14 hX d_M_stepPairs_64 rfl rfl fi_M (by decide) fl_M_54 rfl rfl ?_
  refine r_aload_n (i := 0) hX d_M_stepPairs_67 rfl rfl ?_
  refine r_get 0 15 hX d_M_stepPairs_68 rfl rfl fi_M (by decide) fl_M_57 rfl rfl ?_
  refine r_iald 11 0 (v + 1) hX d_M_stepPairs_71 rfl rfl rfl (by omega) (by decide) ?_
  refine r_top hsd ?_
  refine r_iast 11 0 (8 + v) hX d_M_stepPairs_72 rfl rfl rfl (by omega) (by decide) ?_
  refine r_ws (ws' := WM am cI cZ tl nn rs ae (v + 1) tx mf (cpF rw (64 * (v + 1)) (64 * (8 + v)) 0) (upd sz (8 + v) (nI n)) nv ph tu sv) (by rw [cp_0]; rfl) ?_
  refine r_iconst (v := nI 0) hX d_M_stepPairs_73 (by decide) ?_
  refine r_istore hX d_M_stepPairs_74 (by decide) ?_
  exact r_lv [0, 1, 3, 4, 5] (loop (n * 6) 0 (by omega))
set_option maxRecDepth 100000 in
set_option maxHeartbeats 4000000 in
theorem c_M_stepPairs2a (i v k n t : Nat) (x : Rs) (K Y : List Rs) (hi : i < 60) (hv : v + 1 < 8) (hph : ph v = nI 2) (hk : (9 ≤ k ∧ k ≤ 14) ∨ k = 16) (htu : tu v = nI t) (hn : n ≤ 64) (hs8 : sz (8 + v) = nI n) (hx : gRow rw (64 * (8 + v) + t) = x) (hsv : sz v = nI K.length) (hK : Holds rw (64 * v) K) (hsd : sz (v + 1) = nI Y.length) (hY : Holds rw (64 * (v + 1)) Y) (hYl : Y.length ≤ 64) (hlen : K.length + (Y.flatMap (gP k x)).length ≤ 64) (hn1 : t + 1 < n) (jb : Nat) (hb : mf 2 i = nI jb) : CT l D (tyL cI cZ cN) none y_M_stepPairs b_M_stepPairs 6 none 2 [.ref (am 0), .int (nI i), .int (nI k)] (WM am cI cZ tl nn rs ae (v + 1) tx mf rw sz nv ph tu sv) (fun u : (Nat → Int32) × (Nat → Int32) => mP rw (64 * v) (K ++ Y.flatMap (gP k x)) u.1 ∧ svP sv (v + 1) (gRow u.1 (64 * (8 + v) + (t + 1))).2 u.2) (fun _ => none) (fun u => WM am cI cZ tl nn rs ae (v + 1 + 1) tx mf u.1 (upd (upd sz v (nI (K ++ Y.flatMap (gP k x)).length)) (v + 1) (nI 0)) (upd nv (v + 1) (nI jb)) (upd ph (v + 1) (nI 0)) (upd tu v (nI (t + 1))) u.2) := by
  refine CT.of (by decide) (Nat.le_of_ble_eq_true rfl) ?_
  intro X A hl hX hF
  have htn : t < n := by omega
  have loop : ∀ (Q P : List Rs) (f : Nat → Int32), Y = P ++ Q → mP rw (64 * v) (K ++ P.flatMap (gP k x)) f → RR X 6 D A 0 0 (WM am cI cZ tl nn rs ae (v + 1) tx mf f (upd sz v (nI (K ++ P.flatMap (gP k x)).length)) nv ph tu sv) [(0, .ref (am 0)), (1, .int (nI i)), (2, .int (nI k)), (3, .int (nI v)), (4, .int (nI (6 * (64 * (8 + v))))), (5, .int (nI P.length))] 145 [] := by
    intro Q
    induction Q with
    | nil =>
      intro P f hP hs
      have hP : Y = P := by rw [hP, List.append_nil]
      subst hP
      refine r_iload hX d_M_stepPairs_145 rfl ?_
      refine r_aload_n (i := 0) hX d_M_stepPairs_147 rfl rfl ?_
      refine r_get 0 14 hX d_M_stepPairs_148 rfl rfl fi_M (by decide) fl_M_54 rfl rfl ?_
      refine r_aload_n (i := 0) hX d_M_stepPairs_151 rfl rfl ?_
      refine r_get 0 15 hX d_M_stepPairs_152 rfl rfl fi_M (by decide) fl_M_57 rfl rfl ?_
      refine r_iald 11 0 (v + 1) hX d_M_stepPairs_155 rfl rfl rfl (by omega) (by decide) ?_
      refine r_top ((pk_un (by omega)).trans hsd) ?_
      refine r_icmp_ge 189 hX d_M_stepPairs_156 (by decide) (fun c156 => ?_) (fun c156 => absurd (nI_le (Nat.le_refl _) (by omega)) c156)
      refine r_aload_n (i := 0) hX d_M_stepPairs_189 rfl rfl ?_
      refine r_get 0 18 hX d_M_stepPairs_190 rfl rfl fi_M (by decide) fl_M_66 rfl rfl ?_
      refine r_iload_n (i := 3) hX d_M_stepPairs_193 rfl rfl ?_
      refine r_dup2 hX d_M_stepPairs_194 rfl rfl ?_
      refine r_iald 14 0 (v) hX d_M_stepPairs_195 rfl rfl rfl (by omega) (by decide) ?_
      refine r_top htu ?_
      refine r_iconst (v := nI 1) hX d_M_stepPairs_196 (by decide) ?_
      refine r_iadd hX d_M_stepPairs_197 ?_
      refine r_top (nI_add _ _) ?_
      refine r_iast 14 0 (v) hX d_M_stepPairs_198 rfl rfl rfl (by omega) (by decide) ?_
      refine r_ws (ws' := WM am cI cZ tl nn rs ae (v + 1) tx mf f (upd sz v (nI (K ++ Y.flatMap (gP k x)).length)) nv ph (upd tu v (nI (t + 1))) sv) rfl ?_
      refine r_aload_n (i := 0) hX d_M_stepPairs_199 rfl rfl ?_
      refine r_get 0 18 hX d_M_stepPairs_200 rfl rfl fi_M (by decide) fl_M_66 rfl rfl ?_
      refine r_iload_n (i := 3) hX d_M_stepPairs_203 rfl rfl ?_
      refine r_iald 14 0 (v) hX d_M_stepPairs_204 rfl rfl rfl (by omega) (by decide) ?_
      refine r_top pk_us ?_
      refine r_aload_n (i := 0) hX d_M_stepPairs_205 rfl rfl ?_
      refine r_get 0 14 hX d_M_stepPairs_206 rfl rfl fi_M (by decide) fl_M_54 rfl rfl ?_
      refine r_bipush (v := nI 8) hX d_M_stepPairs_209 (by decide) ?_
      refine r_iload_n (i := 3) hX d_M_stepPairs_211 rfl rfl ?_
      refine r_iadd hX d_M_stepPairs_212 ?_
      refine r_top (nI_add _ _) ?_
      refine r_iald 11 0 (8 + v) hX d_M_stepPairs_213 rfl rfl rfl (by omega) (by decide) ?_
      refine r_top ((pk_un (by omega)).trans hs8) ?_
      refine r_icmp_ge 244 hX d_M_stepPairs_214 (by decide) (fun c214 => absurd c214 (nI_ge (by omega) (by omega))) (fun c214 => ?_)
      refine r_aload_n (i := 0) hX d_M_stepPairs_217 rfl rfl ?_
      refine r_aload_n (i := 0) hX d_M_stepPairs_218 rfl rfl ?_
      refine r_get 0 7 hX d_M_stepPairs_219 rfl rfl fi_M (by decide) fl_M_32 rfl rfl ?_
      refine r_iload_n (i := 1) hX d_M_stepPairs_222 rfl rfl ?_
      refine r_iald 4 0 (i) hX d_M_stepPairs_223 rfl rfl rfl (by omega) (by decide) ?_
      refine r_top hb ?_
      refine r_iload hX d_M_stepPairs_224 rfl ?_
      refine r_aload_n (i := 0) hX d_M_stepPairs_226 rfl rfl ?_
      refine r_get 0 18 hX d_M_stepPairs_227 rfl rfl fi_M (by decide) fl_M_66 rfl rfl ?_
      refine r_iload_n (i := 3) hX d_M_stepPairs_230 rfl rfl ?_
      refine r_iald 14 0 (v) hX d_M_stepPairs_231 rfl rfl rfl (by omega) (by decide) ?_
      refine r_top pk_us ?_
      refine r_bipush (v := nI 6) hX d_M_stepPairs_232 (by decide) ?_
      refine r_imul hX d_M_stepPairs_234 ?_
      refine r_top (pk_mul _ _) ?_
      refine r_iadd hX d_M_stepPairs_235 ?_
      refine r_top (nI_add _ _) ?_
      refine r_top (congrArg nI (show 6 * (64 * (8 + v)) + (t + 1) * 6 = 6 * (64 * (8 + v) + (t + 1)) by omega)) ?_
      refine r_iconst (v := nI 1) hX d_M_stepPairs_236 (by decide) ?_
      refine r_iadd hX d_M_stepPairs_237 ?_
      refine r_top (nI_add _ _) ?_
      refine r_callVwv (q0 := 0) hX d_M_stepPairs_238 cw_M_begin ml_M_112 (c_M_begin_row (nI jb) (v + 1) (64 * (8 + v) + (t + 1)) (by omega) (by omega)) (Or.inl rfl) rfl rfl rfl rfl (by decide) (Nat.le_of_ble_eq_true rfl) (fun _ => rfl) (fun u hu => ?_)
      refine r_goto 254 hX d_M_stepPairs_241 (by decide) ?_
      exact r_vret (f, u) hX hF d_M_stepPairs_254 ⟨hs, hu⟩ rfl rfl
    | cons y Q ih =>
      intro P f hP hs
      have hYL : Y.length = P.length + (Q.length + 1) := by rw [hP]; simp
      have hFL : (Y.flatMap (gP k x)).length = (P.flatMap (gP k x)).length + ((gP k x y).length + (Q.flatMap (gP k x)).length) := by rw [hP]; simp
      have hKP : (K ++ P.flatMap (gP k x)).length = K.length + (P.flatMap (gP k x)).length := List.length_append
      have hgl : (gP k x y).length = (pairL k x.1 y.1).length := by simp [gP]
      have hrow : gRow f (64 * (v + 1) + P.length) = y := by
        rw [hs.row (by omega)]
        exact Holds.mid (hP ▸ hY)
      have hxr : gRow f (64 * (8 + v) + t) = x := by rw [hs.row (by omega)]; exact hx
      have hx1 : f (6 * (64 * (8 + v) + t)) = x.1 := congrArg Prod.fst hxr
      refine r_iload hX d_M_stepPairs_145 rfl ?_
      refine r_aload_n (i := 0) hX d_M_stepPairs_147 rfl rfl ?_
      refine r_get 0 14 hX d_M_stepPairs_148 rfl rfl fi_M (by decide) fl_M_54 rfl rfl ?_
      refine r_aload_n (i := 0) hX d_M_stepPairs_151 rfl rfl ?_
      refine r_get 0 15 hX d_M_stepPairs_152 rfl rfl fi_M (by decide) fl_M_57 rfl rfl ?_
      refine r_iald 11 0 (v + 1) hX d_M_stepPairs_155 rfl rfl rfl (by omega) (by decide) ?_
      refine r_top ((pk_un (by omega)).trans hsd) ?_
      refine r_icmp_ge 189 hX d_M_stepPairs_156 (by decide) (fun c156 => absurd c156 (nI_ge (by omega) (by omega))) (fun c156 => ?_)
      refine r_aload_n (i := 0) hX d_M_stepPairs_159 rfl rfl ?_
      refine r_iload_n (i := 2) hX d_M_stepPairs_160 rfl rfl ?_
      refine r_aload_n (i := 0) hX d_M_stepPairs_161 rfl rfl ?_
      refine r_get 0 13 hX d_M_stepPairs_162 rfl rfl fi_M (by decide) fl_M_51 rfl rfl ?_
      refine r_iload hX d_M_stepPairs_165 rfl ?_
      refine r_aload_n (i := 0) hX d_M_stepPairs_167 rfl rfl ?_
      refine r_get 0 18 hX d_M_stepPairs_168 rfl rfl fi_M (by decide) fl_M_66 rfl rfl ?_
      refine r_iload_n (i := 3) hX d_M_stepPairs_171 rfl rfl ?_
      refine r_iald 14 0 (v) hX d_M_stepPairs_172 rfl rfl rfl (by omega) (by decide) ?_
      refine r_top htu ?_
      refine r_bipush (v := nI 6) hX d_M_stepPairs_173 (by decide) ?_
      refine r_imul hX d_M_stepPairs_175 ?_
      refine r_top (pk_mul _ _) ?_
      refine r_iadd hX d_M_stepPairs_176 ?_
      refine r_top (nI_add _ _) ?_
      refine r_iald 10 0 (6 * (64 * (8 + v) + t)) hX d_M_stepPairs_177 rfl rfl (congrArg nI (by omega)) (by omega) (by decide) ?_
      refine r_top hx1 ?_
      refine r_iload hX d_M_stepPairs_178 rfl ?_
      refine r_callVwv (q0 := 0) hX d_M_stepPairs_180 cw_M_pair ml_M_127 (c_M_pair k P.length v x.1 y (K ++ P.flatMap (gP k x)) hk hv (by omega) pk_us hs.2 hrow (by omega)) (Or.inl rfl) rfl rfl rfl rfl (by decide) (Nat.le_of_ble_eq_true rfl) (fun _ => rfl) (fun g hg => ?_)
      refine r_iinc hX d_M_stepPairs_183 rfl (rx_inc _) (by decide) ?_
      refine r_goto 145 hX d_M_stepPairs_186 (by decide) ?_
      have hg2 : mP f (64 * v) (K ++ (P ++ [y]).flatMap (gP k x)) g := by rw [flat_snoc, ← List.append_assoc]; exact hg
      have h := ih (P ++ [y]) g (by rw [hP]; simp) ⟨fun j hj => (hg2.1 j hj).trans (hs.1 j hj), hg2.2⟩
      rw [show (P ++ [y]).length = P.length + 1 by simp, ← upd_uu sz v (nI (K ++ P.flatMap (gP k x)).length), flat_snoc, ← List.append_assoc] at h
      exact r_lv [0, 1, 2, 3, 4, 5] h
  refine r_aload_n (i := 0) hX d_M_stepPairs_0 rfl rfl ?_
  refine r_get 0 15 hX d_M_stepPairs_1 rfl rfl fi_M (by decide) fl_M_57 rfl rfl ?_
  refine r_iconst (v := nI 1) hX d_M_stepPairs_4 (by decide) ?_
  refine r_isub hX d_M_stepPairs_5 ?_
  refine r_top (pk_sub (by omega)) ?_
  refine r_top (by rw [Nat.add_sub_cancel]) ?_
  refine r_istore_n (i := 3) hX d_M_stepPairs_6 rfl (by decide) ?_
  refine r_bipush (v := nI 8) hX d_M_stepPairs_7 (by decide) ?_
  refine r_iload_n (i := 3) hX d_M_stepPairs_9 rfl rfl ?_
  refine r_iadd hX d_M_stepPairs_10 ?_
  refine r_top (nI_add _ _) ?_
  refine r_sipush (v := nI 384) hX d_M_stepPairs_11 (by decide) ?_
  refine r_imul hX d_M_stepPairs_14 ?_
  refine r_top (pk_mul _ _) ?_
  refine r_top (congrArg nI (show (8 + v) * 384 = 6 * (64 * (8 + v)) by omega)) ?_
  refine r_istore hX d_M_stepPairs_15 (by decide) ?_
  refine r_aload_n (i := 0) hX d_M_stepPairs_17 rfl rfl ?_
  refine r_get 0 17 hX d_M_stepPairs_18 rfl rfl fi_M (by decide) fl_M_63 rfl rfl ?_
  refine r_iload_n (i := 3) hX d_M_stepPairs_21 rfl rfl ?_
  refine r_iald 13 0 (v) hX d_M_stepPairs_22 rfl rfl rfl (by omega) (by decide) ?_
  refine r_top hph ?_
  refine r_if_ne 45 hX d_M_stepPairs_23 (by decide) (fun c23 => ?_) (fun c23 => absurd c23 (by decide))
  refine r_aload_n (i := 0) hX d_M_stepPairs_45 rfl rfl ?_
  refine r_get 0 17 hX d_M_stepPairs_46 rfl rfl fi_M (by decide) fl_M_63 rfl rfl ?_
  refine r_iload_n (i := 3) hX d_M_stepPairs_49 rfl rfl ?_
  refine r_iald 13 0 (v) hX d_M_stepPairs_50 rfl rfl rfl (by omega) (by decide) ?_
  refine r_top hph ?_
  refine r_iconst (v := nI 1) hX d_M_stepPairs_51 (by decide) ?_
  refine r_icmp_ne 142 hX d_M_stepPairs_52 (by decide) (fun c52 => ?_) (fun c52 => absurd c52 (by decide))
  refine r_iconst (v := nI 0) hX d_M_stepPairs_142 (by decide) ?_
  refine r_istore hX d_M_stepPairs_143 (by decide) ?_
  have h := loop Y [] rw rfl (by simp; exact mP.rf hK)
  rw [show (K ++ ([] : List Rs).flatMap (gP k x)).length = K.length by simp, upd_id hsv] at h
  exact r_lv [0, 1, 2, 3, 4, 5] h
set_option maxRecDepth 100000 in
set_option maxHeartbeats 4000000 in
theorem c_M_stepPairs2b (i v k n t : Nat) (x : Rs) (K Y : List Rs) (hi : i < 60) (hv : v + 1 < 8) (hph : ph v = nI 2) (hk : (9 ≤ k ∧ k ≤ 14) ∨ k = 16) (htu : tu v = nI t) (hn : n ≤ 64) (hs8 : sz (8 + v) = nI n) (hx : gRow rw (64 * (8 + v) + t) = x) (hsv : sz v = nI K.length) (hK : Holds rw (64 * v) K) (hsd : sz (v + 1) = nI Y.length) (hY : Holds rw (64 * (v + 1)) Y) (hYl : Y.length ≤ 64) (hlen : K.length + (Y.flatMap (gP k x)).length ≤ 64) (hn1 : t + 1 = n) : CT l D (tyL cI cZ cN) none y_M_stepPairs b_M_stepPairs 6 none 2 [.ref (am 0), .int (nI i), .int (nI k)] (WM am cI cZ tl nn rs ae (v + 1) tx mf rw sz nv ph tu sv) (mP rw (64 * v) (K ++ Y.flatMap (gP k x))) (fun _ => none) (fun u => WM am cI cZ tl nn rs ae v tx mf u (upd sz v (nI (K ++ Y.flatMap (gP k x)).length)) nv ph (upd tu v (nI (t + 1))) sv) := by
  refine CT.of (by decide) (Nat.le_of_ble_eq_true rfl) ?_
  intro X A hl hX hF
  have htn : t < n := by omega
  have loop : ∀ (Q P : List Rs) (f : Nat → Int32), Y = P ++ Q → mP rw (64 * v) (K ++ P.flatMap (gP k x)) f → RR X 6 D A 0 0 (WM am cI cZ tl nn rs ae (v + 1) tx mf f (upd sz v (nI (K ++ P.flatMap (gP k x)).length)) nv ph tu sv) [(0, .ref (am 0)), (1, .int (nI i)), (2, .int (nI k)), (3, .int (nI v)), (4, .int (nI (6 * (64 * (8 + v))))), (5, .int (nI P.length))] 145 [] := by
    intro Q
    induction Q with
    | nil =>
      intro P f hP hs
      have hP : Y = P := by rw [hP, List.append_nil]
      subst hP
      refine r_iload hX d_M_stepPairs_145 rfl ?_
      refine r_aload_n (i := 0) hX d_M_stepPairs_147 rfl rfl ?_
      refine r_get 0 14 hX d_M_stepPairs_148 rfl rfl fi_M (by decide) fl_M_54 rfl rfl ?_
      refine r_aload_n (i := 0) hX d_M_stepPairs_151 rfl rfl ?_
      refine r_get 0 15 hX d_M_stepPairs_152 rfl rfl fi_M (by decide) fl_M_57 rfl rfl ?_
      refine r_iald 11 0 (v + 1) hX d_M_stepPairs_155 rfl rfl rfl (by omega) (by decide) ?_
      refine r_top ((pk_un (by omega)).trans hsd) ?_
      refine r_icmp_ge 189 hX d_M_stepPairs_156 (by decide) (fun c156 => ?_) (fun c156 => absurd (nI_le (Nat.le_refl _) (by omega)) c156)
      refine r_aload_n (i := 0) hX d_M_stepPairs_189 rfl rfl ?_
      refine r_get 0 18 hX d_M_stepPairs_190 rfl rfl fi_M (by decide) fl_M_66 rfl rfl ?_
      refine r_iload_n (i := 3) hX d_M_stepPairs_193 rfl rfl ?_
      refine r_dup2 hX d_M_stepPairs_194 rfl rfl ?_
      refine r_iald 14 0 (v) hX d_M_stepPairs_195 rfl rfl rfl (by omega) (by decide) ?_
      refine r_top htu ?_
      refine r_iconst (v := nI 1) hX d_M_stepPairs_196 (by decide) ?_
      refine r_iadd hX d_M_stepPairs_197 ?_
      refine r_top (nI_add _ _) ?_
      refine r_iast 14 0 (v) hX d_M_stepPairs_198 rfl rfl rfl (by omega) (by decide) ?_
      refine r_ws (ws' := WM am cI cZ tl nn rs ae (v + 1) tx mf f (upd sz v (nI (K ++ Y.flatMap (gP k x)).length)) nv ph (upd tu v (nI (t + 1))) sv) rfl ?_
      refine r_aload_n (i := 0) hX d_M_stepPairs_199 rfl rfl ?_
      refine r_get 0 18 hX d_M_stepPairs_200 rfl rfl fi_M (by decide) fl_M_66 rfl rfl ?_
      refine r_iload_n (i := 3) hX d_M_stepPairs_203 rfl rfl ?_
      refine r_iald 14 0 (v) hX d_M_stepPairs_204 rfl rfl rfl (by omega) (by decide) ?_
      refine r_top pk_us ?_
      refine r_aload_n (i := 0) hX d_M_stepPairs_205 rfl rfl ?_
      refine r_get 0 14 hX d_M_stepPairs_206 rfl rfl fi_M (by decide) fl_M_54 rfl rfl ?_
      refine r_bipush (v := nI 8) hX d_M_stepPairs_209 (by decide) ?_
      refine r_iload_n (i := 3) hX d_M_stepPairs_211 rfl rfl ?_
      refine r_iadd hX d_M_stepPairs_212 ?_
      refine r_top (nI_add _ _) ?_
      refine r_iald 11 0 (8 + v) hX d_M_stepPairs_213 rfl rfl rfl (by omega) (by decide) ?_
      refine r_top ((pk_un (by omega)).trans hs8) ?_
      refine r_icmp_ge 244 hX d_M_stepPairs_214 (by decide) (fun c214 => ?_) (fun c214 => absurd (nI_le (by omega) (by omega)) c214)
      refine r_aload_n (i := 0) hX d_M_stepPairs_244 rfl rfl ?_
      refine r_dup hX d_M_stepPairs_245 rfl ?_
      refine r_get 0 15 hX d_M_stepPairs_246 rfl rfl fi_M (by decide) fl_M_57 rfl rfl ?_
      refine r_iconst (v := nI 1) hX d_M_stepPairs_249 (by decide) ?_
      refine r_isub hX d_M_stepPairs_250 ?_
      refine r_top (pk_sub (by omega)) ?_
      refine r_put 0 15 hX d_M_stepPairs_251 rfl rfl fi_M ft_M_ok fn_M (by decide) fl_M_57 rfl rfl rfl rfl rfl (Nat.le_of_ble_eq_true rfl) ?_
      exact r_vret f hX hF d_M_stepPairs_254 hs rfl (by rw [Nat.add_sub_cancel]; rfl)
    | cons y Q ih =>
      intro P f hP hs
      have hYL : Y.length = P.length + (Q.length + 1) := by rw [hP]; simp
      have hFL : (Y.flatMap (gP k x)).length = (P.flatMap (gP k x)).length + ((gP k x y).length + (Q.flatMap (gP k x)).length) := by rw [hP]; simp
      have hKP : (K ++ P.flatMap (gP k x)).length = K.length + (P.flatMap (gP k x)).length := List.length_append
      have hgl : (gP k x y).length = (pairL k x.1 y.1).length := by simp [gP]
      have hrow : gRow f (64 * (v + 1) + P.length) = y := by
        rw [hs.row (by omega)]
        exact Holds.mid (hP ▸ hY)
      have hxr : gRow f (64 * (8 + v) + t) = x := by rw [hs.row (by omega)]; exact hx
      have hx1 : f (6 * (64 * (8 + v) + t)) = x.1 := congrArg Prod.fst hxr
      refine r_iload hX d_M_stepPairs_145 rfl ?_
      refine r_aload_n (i := 0) hX d_M_stepPairs_147 rfl rfl ?_
      refine r_get 0 14 hX d_M_stepPairs_148 rfl rfl fi_M (by decide) fl_M_54 rfl rfl ?_
      refine r_aload_n (i := 0) hX d_M_stepPairs_151 rfl rfl ?_
      refine r_get 0 15 hX d_M_stepPairs_152 rfl rfl fi_M (by decide) fl_M_57 rfl rfl ?_
      refine r_iald 11 0 (v + 1) hX d_M_stepPairs_155 rfl rfl rfl (by omega) (by decide) ?_
      refine r_top ((pk_un (by omega)).trans hsd) ?_
      refine r_icmp_ge 189 hX d_M_stepPairs_156 (by decide) (fun c156 => absurd c156 (nI_ge (by omega) (by omega))) (fun c156 => ?_)
      refine r_aload_n (i := 0) hX d_M_stepPairs_159 rfl rfl ?_
      refine r_iload_n (i := 2) hX d_M_stepPairs_160 rfl rfl ?_
      refine r_aload_n (i := 0) hX d_M_stepPairs_161 rfl rfl ?_
      refine r_get 0 13 hX d_M_stepPairs_162 rfl rfl fi_M (by decide) fl_M_51 rfl rfl ?_
      refine r_iload hX d_M_stepPairs_165 rfl ?_
      refine r_aload_n (i := 0) hX d_M_stepPairs_167 rfl rfl ?_
      refine r_get 0 18 hX d_M_stepPairs_168 rfl rfl fi_M (by decide) fl_M_66 rfl rfl ?_
      refine r_iload_n (i := 3) hX d_M_stepPairs_171 rfl rfl ?_
      refine r_iald 14 0 (v) hX d_M_stepPairs_172 rfl rfl rfl (by omega) (by decide) ?_
      refine r_top htu ?_
      refine r_bipush (v := nI 6) hX d_M_stepPairs_173 (by decide) ?_
      refine r_imul hX d_M_stepPairs_175 ?_
      refine r_top (pk_mul _ _) ?_
      refine r_iadd hX d_M_stepPairs_176 ?_
      refine r_top (nI_add _ _) ?_
      refine r_iald 10 0 (6 * (64 * (8 + v) + t)) hX d_M_stepPairs_177 rfl rfl (congrArg nI (by omega)) (by omega) (by decide) ?_
      refine r_top hx1 ?_
      refine r_iload hX d_M_stepPairs_178 rfl ?_
      refine r_callVwv (q0 := 0) hX d_M_stepPairs_180 cw_M_pair ml_M_127 (c_M_pair k P.length v x.1 y (K ++ P.flatMap (gP k x)) hk hv (by omega) pk_us hs.2 hrow (by omega)) (Or.inl rfl) rfl rfl rfl rfl (by decide) (Nat.le_of_ble_eq_true rfl) (fun _ => rfl) (fun g hg => ?_)
      refine r_iinc hX d_M_stepPairs_183 rfl (rx_inc _) (by decide) ?_
      refine r_goto 145 hX d_M_stepPairs_186 (by decide) ?_
      have hg2 : mP f (64 * v) (K ++ (P ++ [y]).flatMap (gP k x)) g := by rw [flat_snoc, ← List.append_assoc]; exact hg
      have h := ih (P ++ [y]) g (by rw [hP]; simp) ⟨fun j hj => (hg2.1 j hj).trans (hs.1 j hj), hg2.2⟩
      rw [show (P ++ [y]).length = P.length + 1 by simp, ← upd_uu sz v (nI (K ++ P.flatMap (gP k x)).length), flat_snoc, ← List.append_assoc] at h
      exact r_lv [0, 1, 2, 3, 4, 5] h
  refine r_aload_n (i := 0) hX d_M_stepPairs_0 rfl rfl ?_
  refine r_get 0 15 hX d_M_stepPairs_1 rfl rfl fi_M (by decide) fl_M_57 rfl rfl ?_
  refine r_iconst (v := nI 1) hX d_M_stepPairs_4 (by decide) ?_
  refine r_isub hX d_M_stepPairs_5 ?_
  refine r_top (pk_sub (by omega)) ?_
  refine r_top (by rw [Nat.add_sub_cancel]) ?_
  refine r_istore_n (i := 3) hX d_M_stepPairs_6 rfl (by decide) ?_
  refine r_bipush (v := nI 8) hX d_M_stepPairs_7 (by decide) ?_
  refine r_iload_n (i := 3) hX d_M_stepPairs_9 rfl rfl ?_
  refine r_iadd hX d_M_stepPairs_10 ?_
  refine r_top (nI_add _ _) ?_
  refine r_sipush (v := nI 384) hX d_M_stepPairs_11 (by decide) ?_
  refine r_imul hX d_M_stepPairs_14 ?_
  refine r_top (pk_mul _ _) ?_
  refine r_top (congrArg nI (show (8 + v) * 384 = 6 * (64 * (8 + v)) by omega)) ?_
  refine r_istore hX d_M_stepPairs_15 (by decide) ?_
  refine r_aload_n (i := 0) hX d_M_stepPairs_17 rfl rfl ?_
  refine r_get 0 17 hX d_M_stepPairs_18 rfl rfl fi_M (by decide) fl_M_63 rfl rfl ?_
  refine r_iload_n (i := 3) hX d_M_stepPairs_21 rfl rfl ?_
  refine r_iald 13 0 (v) hX d_M_stepPairs_22 rfl rfl rfl (by omega) (by decide) ?_
  refine r_top hph ?_
  refine r_if_ne 45 hX d_M_stepPairs_23 (by decide) (fun c23 => ?_) (fun c23 => absurd c23 (by decide))
  refine r_aload_n (i := 0) hX d_M_stepPairs_45 rfl rfl ?_
  refine r_get 0 17 hX d_M_stepPairs_46 rfl rfl fi_M (by decide) fl_M_63 rfl rfl ?_
  refine r_iload_n (i := 3) hX d_M_stepPairs_49 rfl rfl ?_
  refine r_iald 13 0 (v) hX d_M_stepPairs_50 rfl rfl rfl (by omega) (by decide) ?_
  refine r_top hph ?_
  refine r_iconst (v := nI 1) hX d_M_stepPairs_51 (by decide) ?_
  refine r_icmp_ne 142 hX d_M_stepPairs_52 (by decide) (fun c52 => ?_) (fun c52 => absurd c52 (by decide))
  refine r_iconst (v := nI 0) hX d_M_stepPairs_142 (by decide) ?_
  refine r_istore hX d_M_stepPairs_143 (by decide) ?_
  have h := loop Y [] rw rfl (by simp; exact mP.rf hK)
  rw [show (K ++ ([] : List Rs).flatMap (gP k x)).length = K.length by simp, upd_id hsv] at h
  exact r_lv [0, 1, 2, 3, 4, 5] h
end ModelE
