/-! The steps of the kinds with one operand. -/
theorem pushM.set {f u : Nat → Int32} {z c : Nat} {x w : Int32} {s : St} (h : pushM f z (x, s) u) (hc : c < 5) : pushM f z (x, stSet s c w) (upd u (6 * z + 1 + c) w) := by
  refine ⟨fun j hj => (pk_un (by omega)).trans (h.1 j hj), Prod.ext ?_ ?_⟩
  · show upd u (6 * z + 1 + c) w (6 * z) = x
    rw [pk_un (by omega)]
    exact congrArg Prod.fst h.2
  · funext d
    have h2 := congrFun (congrArg Prod.snd h.2) d
    show upd u (6 * z + 1 + c) w (6 * z + 1 + d.val) = stSet s c w d
    unfold stSet
    by_cases e : d.val = c
    · rw [if_pos e, e]
      exact pk_us
    · rw [if_neg e, pk_un (by omega)]
      exact h2
def mostL : List Rs → List Rs
  | [] => []
  | x :: l => [bestL x l]
theorem bestL_snoc : ∀ (l : List Rs) (b x : Rs), bestL b (l ++ [x]) = if (bestL b l).1 < x.1 then x else bestL b l
  | [], b, x => rfl
  | r :: l, b, x => bestL_snoc l _ x
section ModelF
variable {l : Launch} {D : va_G} {cI cZ cN : ClassId} {am : Nat → Nat} {tl nn rs ae dp : Nat} {tx rw sz nv ph tu sv : Nat → Int32} {mf : Nat → Nat → Int32}
set_option maxRecDepth 100000 in
set_option maxHeartbeats 4000000 in
theorem c_M_stepOne0A (i v j k : Nat) (hi : i < 60) (hv : v + 1 < 8) (hk : k = 8 ∨ k = 20 ∨ k = 21) (hph : ph v = nI 0) (ha : mf 1 i = nI j) : CT l D (tyL cI cZ cN) none y_M_stepOne b_M_stepOne 8 none 2 [.ref (am 0), .int (nI i), .int (nI k)] (WM am cI cZ tl nn rs ae (v + 1) tx mf rw sz nv ph tu sv) (svP sv (v + 1) (stOf sv v)) (fun _ => none) (fun u => WM am cI cZ tl nn rs ae (v + 1 + 1) tx mf rw (upd sz (v + 1) (nI 0)) (upd nv (v + 1) (nI j)) (upd (upd ph v (nI 1)) (v + 1) (nI 0)) tu u) := by
  refine CT.of (by decide) (Nat.le_of_ble_eq_true rfl) ?_
  intro X A hl hX hF
  rcases hk with rfl | rfl | rfl
  ·
    refine r_aload_n (i := 0) hX d_M_stepOne_0 rfl rfl ?_
    refine r_get 0 17 hX d_M_stepOne_1 rfl rfl fi_M (by decide) fl_M_63 rfl rfl ?_
    refine r_aload_n (i := 0) hX d_M_stepOne_4 rfl rfl ?_
    refine r_get 0 15 hX d_M_stepOne_5 rfl rfl fi_M (by decide) fl_M_57 rfl rfl ?_
    refine r_iconst (v := nI 1) hX d_M_stepOne_8 (by decide) ?_
    refine r_isub hX d_M_stepOne_9 ?_
    refine r_top (pk_sub (by omega)) ?_
    refine r_top (by rw [Nat.add_sub_cancel]) ?_
    refine r_iald 13 0 (v) hX d_M_stepOne_10 rfl rfl rfl (by omega) (by decide) ?_
    refine r_top hph ?_
    refine r_if_ne 59 hX d_M_stepOne_11 (by decide) (fun c11 => absurd c11 (by decide)) (fun c11 => ?_)
    refine r_aload_n (i := 0) hX d_M_stepOne_14 rfl rfl ?_
    refine r_get 0 17 hX d_M_stepOne_15 rfl rfl fi_M (by decide) fl_M_63 rfl rfl ?_
    refine r_aload_n (i := 0) hX d_M_stepOne_18 rfl rfl ?_
    refine r_get 0 15 hX d_M_stepOne_19 rfl rfl fi_M (by decide) fl_M_57 rfl rfl ?_
    refine r_iconst (v := nI 1) hX d_M_stepOne_22 (by decide) ?_
    refine r_isub hX d_M_stepOne_23 ?_
    refine r_top (pk_sub (by omega)) ?_
    refine r_top (by rw [Nat.add_sub_cancel]) ?_
    refine r_iconst (v := nI 1) hX d_M_stepOne_24 (by decide) ?_
    refine r_iast 13 0 (v) hX d_M_stepOne_25 rfl rfl rfl (by omega) (by decide) ?_
    refine r_ws (ws' := WM am cI cZ tl nn rs ae (v + 1) tx mf rw sz nv (upd ph v (nI 1)) tu sv) rfl ?_
    refine r_aload_n (i := 0) hX d_M_stepOne_26 rfl rfl ?_
    refine r_iload_n (i := 2) hX d_M_stepOne_27 rfl rfl ?_
    refine r_bipush (v := nI 17) hX d_M_stepOne_28 (by decide) ?_
    refine r_icmp_eq 39 hX d_M_stepOne_30 (by decide) (fun c30 => absurd c30 (by decide)) (fun c30 => ?_)
    refine r_iload_n (i := 2) hX d_M_stepOne_33 rfl rfl ?_
    refine r_bipush (v := nI 18) hX d_M_stepOne_34 (by decide) ?_
    refine r_icmp_ne 48 hX d_M_stepOne_36 (by decide) (fun c36 => ?_) (fun c36 => absurd c36 (by decide))
    refine r_aload_n (i := 0) hX d_M_stepOne_48 rfl rfl ?_
    refine r_get 0 6 hX d_M_stepOne_49 rfl rfl fi_M (by decide) fl_M_29 rfl rfl ?_
    refine r_iload_n (i := 1) hX d_M_stepOne_52 rfl rfl ?_
    refine r_iald 3 0 (i) hX d_M_stepOne_53 rfl rfl rfl (by omega) (by decide) ?_
    refine r_top ha ?_
    refine r_iconst (v := -1) hX d_M_stepOne_54 (by decide) ?_
    refine r_callVwv (q0 := 0) hX d_M_stepOne_55 cw_M_begin ml_M_112 (c_M_begin_up (nI j) (v + 1) (by omega) (by omega)) (Or.inl rfl) rfl rfl rfl rfl (by decide) (Nat.le_of_ble_eq_true rfl) (fun _ => rfl) (fun u hu => ?_)
    exact r_vret u hX hF d_M_stepOne_58 hu rfl rfl
  ·
    refine r_aload_n (i := 0) hX d_M_stepOne_0 rfl rfl ?_
    refine r_get 0 17 hX d_M_stepOne_1 rfl rfl fi_M (by decide) fl_M_63 rfl rfl ?_
    refine r_aload_n (i := 0) hX d_M_stepOne_4 rfl rfl ?_
    refine r_get 0 15 hX d_M_stepOne_5 rfl rfl fi_M (by decide) fl_M_57 rfl rfl ?_
    refine r_iconst (v := nI 1) hX d_M_stepOne_8 (by decide) ?_
    refine r_isub hX d_M_stepOne_9 ?_
    refine r_top (pk_sub (by omega)) ?_
    refine r_top (by rw [Nat.add_sub_cancel]) ?_
    refine r_iald 13 0 (v) hX d_M_stepOne_10 rfl rfl rfl (by omega) (by decide) ?_
    refine r_top hph ?_
    refine r_if_ne 59 hX d_M_stepOne_11 (by decide) (fun c11 => absurd c11 (by decide)) (fun c11 => ?_)
    refine r_aload_n (i := 0) hX d_M_stepOne_14 rfl rfl ?_
    refine r_get 0 17 hX d_M_stepOne_15 rfl rfl fi_M (by decide) fl_M_63 rfl rfl ?_
    refine r_aload_n (i := 0) hX d_M_stepOne_18 rfl rfl ?_
    refine r_get 0 15 hX d_M_stepOne_19 rfl rfl fi_M (by decide) fl_M_57 rfl rfl ?_
    refine r_iconst (v := nI 1) hX d_M_stepOne_22 (by decide) ?_
    refine r_isub hX d_M_stepOne_23 ?_
    refine r_top (pk_sub (by omega)) ?_
    refine r_top (by rw [Nat.add_sub_cancel]) ?_
    refine r_iconst (v := nI 1) hX d_M_stepOne_24 (by decide) ?_
    refine r_iast 13 0 (v) hX d_M_stepOne_25 rfl rfl rfl (by omega) (by decide) ?_
    refine r_ws (ws' := WM am cI cZ tl nn rs ae (v + 1) tx mf rw sz nv (upd ph v (nI 1)) tu sv) rfl ?_
    refine r_aload_n (i := 0) hX d_M_stepOne_26 rfl rfl ?_
    refine r_iload_n (i := 2) hX d_M_stepOne_27 rfl rfl ?_
    refine r_bipush (v := nI 17) hX d_M_stepOne_28 (by decide) ?_
    refine r_icmp_eq 39 hX d_M_stepOne_30 (by decide) (fun c30 => absurd c30 (by decide)) (fun c30 => ?_)
    refine r_iload_n (i := 2) hX d_M_stepOne_33 rfl rfl ?_
    refine r_bipush (v := nI 18) hX d_M_stepOne_34 (by decide) ?_
    refine r_icmp_ne 48 hX d_M_stepOne_36 (by decide) (fun c36 => ?_) (fun c36 => absurd c36 (by decide))
    refine r_aload_n (i := 0) hX d_M_stepOne_48 rfl rfl ?_
    refine r_get 0 6 hX d_M_stepOne_49 rfl rfl fi_M (by decide) fl_M_29 rfl rfl ?_
    refine r_iload_n (i := 1) hX d_M_stepOne_52 rfl rfl ?_
    refine r_iald 3 0 (i) hX d_M_stepOne_53 rfl rfl rfl (by omega) (by decide) ?_
    refine r_top ha ?_
    refine r_iconst (v := -1) hX d_M_stepOne_54 (by decide) ?_
    refine r_callVwv (q0 := 0) hX d_M_stepOne_55 cw_M_begin ml_M_112 (c_M_begin_up (nI j) (v + 1) (by omega) (by omega)) (Or.inl rfl) rfl rfl rfl rfl (by decide) (Nat.le_of_ble_eq_true rfl) (fun _ => rfl) (fun u hu => ?_)
    exact r_vret u hX hF d_M_stepOne_58 hu rfl rfl
  ·
    refine r_aload_n (i := 0) hX d_M_stepOne_0 rfl rfl ?_
    refine r_get 0 17 hX d_M_stepOne_1 rfl rfl fi_M (by decide) fl_M_63 rfl rfl ?_
    refine r_aload_n (i := 0) hX d_M_stepOne_4 rfl rfl ?_
    refine r_get 0 15 hX d_M_stepOne_5 rfl rfl fi_M (by decide) fl_M_57 rfl rfl ?_
    refine r_iconst (v := nI 1) hX d_M_stepOne_8 (by decide) ?_
    refine r_isub hX d_M_stepOne_9 ?_
    refine r_top (pk_sub (by omega)) ?_
    refine r_top (by rw [Nat.add_sub_cancel]) ?_
    refine r_iald 13 0 (v) hX d_M_stepOne_10 rfl rfl rfl (by omega) (by decide) ?_
    refine r_top hph ?_
    refine r_if_ne 59 hX d_M_stepOne_11 (by decide) (fun c11 => absurd c11 (by decide)) (fun c11 => ?_)
    refine r_aload_n (i := 0) hX d_M_stepOne_14 rfl rfl ?_
    refine r_get 0 17 hX d_M_stepOne_15 rfl rfl fi_M (by decide) fl_M_63 rfl rfl ?_
    refine r_aload_n (i := 0) hX d_M_stepOne_18 rfl rfl ?_
    refine r_get 0 15 hX d_M_stepOne_19 rfl rfl fi_M (by decide) fl_M_57 rfl rfl ?_
    refine r_iconst (v := nI 1) hX d_M_stepOne_22 (by decide) ?_
    refine r_isub hX d_M_stepOne_23 ?_
    refine r_top (pk_sub (by omega)) ?_
    refine r_top (by rw [Nat.add_sub_cancel]) ?_
    refine r_iconst (v := nI 1) hX d_M_stepOne_24 (by decide) ?_
    refine r_iast 13 0 (v) hX d_M_stepOne_25 rfl rfl rfl (by omega) (by decide) ?_
    refine r_ws (ws' := WM am cI cZ tl nn rs ae (v + 1) tx mf rw sz nv (upd ph v (nI 1)) tu sv) rfl ?_
    refine r_aload_n (i := 0) hX d_M_stepOne_26 rfl rfl ?_
    refine r_iload_n (i := 2) hX d_M_stepOne_27 rfl rfl ?_
    refine r_bipush (v := nI 17) hX d_M_stepOne_28 (by decide) ?_
    refine r_icmp_eq 39 hX d_M_stepOne_30 (by decide) (fun c30 => absurd c30 (by decide)) (fun c30 => ?_)
    refine r_iload_n (i := 2) hX d_M_stepOne_33 rfl rfl ?_
    refine r_bipush (v := nI 18) hX d_M_stepOne_34 (by decide) ?_
    refine r_icmp_ne 48 hX d_M_stepOne_36 (by decide) (fun c36 => ?_) (fun c36 => absurd c36 (by decide))
    refine r_aload_n (i := 0) hX d_M_stepOne_48 rfl rfl ?_
    refine r_get 0 6 hX d_M_stepOne_49 rfl rfl fi_M (by decide) fl_M_29 rfl rfl ?_
    refine r_iload_n (i := 1) hX d_M_stepOne_52 rfl rfl ?_
    refine r_iald 3 0 (i) hX d_M_stepOne_53 rfl rfl rfl (by omega) (by decide) ?_
    refine r_top ha ?_
    refine r_iconst (v := -1) hX d_M_stepOne_54 (by decide) ?_
    refine r_callVwv (q0 := 0) hX d_M_stepOne_55 cw_M_begin ml_M_112 (c_M_begin_up (nI j) (v + 1) (by omega) (by omega)) (Or.inl rfl) rfl rfl rfl rfl (by decide) (Nat.le_of_ble_eq_true rfl) (fun _ => rfl) (fun u hu => ?_)
    exact r_vret u hX hF d_M_stepOne_58 hu rfl rfl
set_option maxRecDepth 100000 in
set_option maxHeartbeats 4000000 in
theorem c_M_stepOne0B (i v j k : Nat) (hi : i < 60) (hv : v + 1 < 8) (hk : k = 17 ∨ k = 18) (hph : ph v = nI 0) (ha : mf 2 i = nI j) : CT l D (tyL cI cZ cN) none y_M_stepOne b_M_stepOne 8 none 2 [.ref (am 0), .int (nI i), .int (nI k)] (WM am cI cZ tl nn rs ae (v + 1) tx mf rw sz nv ph tu sv) (svP sv (v + 1) (stOf sv v)) (fun _ => none) (fun u => WM am cI cZ tl nn rs ae (v + 1 + 1) tx mf rw (upd sz (v + 1) (nI 0)) (upd nv (v + 1) (nI j)) (upd (upd ph v (nI 1)) (v + 1) (nI 0)) tu u) := by
  refine CT.of (by decide) (Nat.le_of_ble_eq_true rfl) ?_
  intro X A hl hX hF
  rcases hk with rfl | rfl
  ·
    refine r_aload_n (i := 0) hX d_M_stepOne_0 rfl rfl ?_
    refine r_get 0 17 hX d_M_stepOne_1 rfl rfl fi_M (by decide) fl_M_63 rfl rfl ?_
    refine r_aload_n (i := 0) hX d_M_stepOne_4 rfl rfl ?_
    refine r_get 0 15 hX d_M_stepOne_5 rfl rfl fi_M (by decide) fl_M_57 rfl rfl ?_
    refine r_iconst (v := nI 1) hX d_M_stepOne_8 (by decide) ?_
    refine r_isub hX d_M_stepOne_9 ?_
    refine r_top (pk_sub (by omega)) ?_
    refine r_top (by rw [Nat.add_sub_cancel]) ?_
    refine r_iald 13 0 (v) hX d_M_stepOne_10 rfl rfl rfl (by omega) (by decide) ?_
    refine r_top hph ?_
    refine r_if_ne 59 hX d_M_stepOne_11 (by decide) (fun c11 => absurd c11 (by decide)) (fun c11 => ?_)
    refine r_aload_n (i := 0) hX d_M_stepOne_14 rfl rfl ?_
    refine r_get 0 17 hX d_M_stepOne_15 rfl rfl fi_M (by decide) fl_M_63 rfl rfl ?_
    refine r_aload_n (i := 0) hX d_M_stepOne_18 rfl rfl ?_
    refine r_get 0 15 hX d_M_stepOne_19 rfl rfl fi_M (by decide) fl_M_57 rfl rfl ?_
    refine r_iconst (v := nI 1) hX d_M_stepOne_22 (by decide) ?_
    refine r_isub hX d_M_stepOne_23 ?_
    refine r_top (pk_sub (by omega)) ?_
    refine r_top (by rw [Nat.add_sub_cancel]) ?_
    refine r_iconst (v := nI 1) hX d_M_stepOne_24 (by decide) ?_
    refine r_iast 13 0 (v) hX d_M_stepOne_25 rfl rfl rfl (by omega) (by decide) ?_
    refine r_ws (ws' := WM am cI cZ tl nn rs ae (v + 1) tx mf rw sz nv (upd ph v (nI 1)) tu sv) rfl ?_
    refine r_aload_n (i := 0) hX d_M_stepOne_26 rfl rfl ?_
    refine r_iload_n (i := 2) hX d_M_stepOne_27 rfl rfl ?_
    refine r_bipush (v := nI 17) hX d_M_stepOne_28 (by decide) ?_
    refine r_icmp_eq 39 hX d_M_stepOne_30 (by decide) (fun c30 => ?_) (fun c30 => absurd c30 (by decide))
    refine r_aload_n (i := 0) hX d_M_stepOne_39 rfl rfl ?_
    refine r_get 0 7 hX d_M_stepOne_40 rfl rfl fi_M (by decide) fl_M_32 rfl rfl ?_
    refine r_iload_n (i := 1) hX d_M_stepOne_43 rfl rfl ?_
    refine r_iald 4 0 (i) hX d_M_stepOne_44 rfl rfl rfl (by omega) (by decide) ?_
    refine r_top ha ?_
    refine r_goto 54 hX d_M_stepOne_45 (by decide) ?_
    refine r_iconst (v := -1) hX d_M_stepOne_54 (by decide) ?_
    refine r_callVwv (q0 := 0) hX d_M_stepOne_55 cw_M_begin ml_M_112 (c_M_begin_up (nI j) (v + 1) (by omega) (by omega)) (Or.inl rfl) rfl rfl rfl rfl (by decide) (Nat.le_of_ble_eq_true rfl) (fun _ => rfl) (fun u hu => ?_)
    exact r_vret u hX hF d_M_stepOne_58 hu rfl rfl
  ·
    refine r_aload_n (i := 0) hX d_M_stepOne_0 rfl rfl ?_
    refine r_get 0 17 hX d_M_stepOne_1 rfl rfl fi_M (by decide) fl_M_63 rfl rfl ?_
    refine r_aload_n (i := 0) hX d_M_stepOne_4 rfl rfl ?_
    refine r_get 0 15 hX d_M_stepOne_5 rfl rfl fi_M (by decide) fl_M_57 rfl rfl ?_
    refine r_iconst (v := nI 1) hX d_M_stepOne_8 (by decide) ?_
    refine r_isub hX d_M_stepOne_9 ?_
    refine r_top (pk_sub (by omega)) ?_
    refine r_top (by rw [Nat.add_sub_cancel]) ?_
    refine r_iald 13 0 (v) hX d_M_stepOne_10 rfl rfl rfl (by omega) (by decide) ?_
    refine r_top hph ?_
    refine r_if_ne 59 hX d_M_stepOne_11 (by decide) (fun c11 => absurd c11 (by decide)) (fun c11 => ?_)
    refine r_aload_n (i := 0) hX d_M_stepOne_14 rfl rfl ?_
    refine r_get 0 17 hX d_M_stepOne_15 rfl rfl fi_M (by decide) fl_M_63 rfl rfl ?_
    refine r_aload_n (i := 0) hX d_M_stepOne_18 rfl rfl ?_
    refine r_get 0 15 hX d_M_stepOne_19 rfl rfl fi_M (by decide) fl_M_57 rfl rfl ?_
    refine r_iconst (v := nI 1) hX d_M_stepOne_22 (by decide) ?_
    refine r_isub hX d_M_stepOne_23 ?_
    refine r_top (pk_sub (by omega)) ?_
    refine r_top (by rw [Nat.add_sub_cancel]) ?_
    refine r_iconst (v := nI 1) hX d_M_stepOne_24 (by decide) ?_
    refine r_iast 13 0 (v) hX d_M_stepOne_25 rfl rfl rfl (by omega) (by decide) ?_
    refine r_ws (ws' := WM am cI cZ tl nn rs ae (v + 1) tx mf rw sz nv (upd ph v (nI 1)) tu sv) rfl ?_
    refine r_aload_n (i := 0) hX d_M_stepOne_26 rfl rfl ?_
    refine r_iload_n (i := 2) hX d_M_stepOne_27 rfl rfl ?_
    refine r_bipush (v := nI 17) hX d_M_stepOne_28 (by decide) ?_
    refine r_icmp_eq 39 hX d_M_stepOne_30 (by decide) (fun c30 => absurd c30 (by decide)) (fun c30 => ?_)
    refine r_iload_n (i := 2) hX d_M_stepOne_33 rfl rfl ?_
    refine r_bipush (v := nI 18) hX d_M_stepOne_34 (by decide) ?_
    refine r_icmp_ne 48 hX d_M_stepOne_36 (by decide) (fun c36 => absurd c36 (by decide)) (fun c36 => ?_)
    refine r_aload_n (i := 0) hX d_M_stepOne_39 rfl rfl ?_
    refine r_get 0 7 hX d_M_stepOne_40 rfl rfl fi_M (by decide) fl_M_32 rfl rfl ?_
    refine r_iload_n (i := 1) hX d_M_stepOne_43 rfl rfl ?_
    refine r_iald 4 0 (i) hX d_M_stepOne_44 rfl rfl rfl (by omega) (by decide) ?_
    refine r_top ha ?_
    refine r_goto 54 hX d_M_stepOne_45 (by decide) ?_
    refine r_iconst (v := -1) hX d_M_stepOne_54 (by decide) ?_
    refine r_callVwv (q0 := 0) hX d_M_stepOne_55 cw_M_begin ml_M_112 (c_M_begin_up (nI j) (v + 1) (by omega) (by omega)) (Or.inl rfl) rfl rfl rfl rfl (by decide) (Nat.le_of_ble_eq_true rfl) (fun _ => rfl) (fun u hu => ?_)
    exact r_vret u hX hF d_M_stepOne_58 hu rfl rfl
set_option maxRecDepth 100000 in
set_option maxHeartbeats 4000000 in
theorem c_M_stepOne_8 (i v : Nat) (L : List Rs) (ht : tl ≤ 24) (hi : i < 60) (hv : v + 1 < 8) (hph : ph v = nI 1) (hsv : sz v = nI 0) (hsd : sz (v + 1) = nI L.length) (hL : Holds rw (64 * (v + 1)) L) (hlen : L.length ≤ 64) : CT l D (tyL cI cZ cN) none y_M_stepOne b_M_stepOne 8 none 2 [.ref (am 0), .int (nI i), .int (nI 8)] (WM am cI cZ tl nn rs ae (v + 1) tx mf rw sz nv ph tu sv) (mP rw (64 * v) (L.flatMap (goL tl))) (fun _ => none) (fun u => WM am cI cZ tl nn rs ae v tx mf u (upd sz v (nI (L.flatMap (goL tl)).length)) nv ph tu sv) := by
  refine CT.of (by decide) (Nat.le_of_ble_eq_true rfl) ?_
  intro X A hl hX hF
  have loop : ∀ (Q P : List Rs) (f : Nat → Int32) (g : Nat), L = P ++ Q → mP rw (64 * v) (P.flatMap (goL tl)) f → (g ≤ P.length) → RR X 8 D A 0 0 (WM am cI cZ tl nn rs ae (v + 1) tx mf f (upd sz v (nI (P.flatMap (goL tl)).length)) nv ph tu sv) [(0, .ref (am 0)), (1, .int (nI i)), (2, .int (nI 8)), (3, .int (nI L.length)), (4, .int (nI g)), (5, .int (nI v)), (6, .int (nI P.length))] 83 [] := by
    intro Q
    induction Q with
    | nil =>
      intro P f g hP hs hg
      have hP : L = P := by rw [hP, List.append_nil]
      subst hP
      refine r_iload hX d_M_stepOne_83 rfl ?_
      refine r_iload_n (i := 3) hX d_M_stepOne_85 rfl rfl ?_
      refine r_icmp_ge 276 hX d_M_stepOne_86 (by decide) (fun c86 => ?_) (fun c86 => absurd (nI_le (Nat.le_refl _) (by omega)) c86)
      refine r_iload_n (i := 2) hX d_M_stepOne_276 rfl rfl ?_
      refine r_bipush (v := nI 20) hX d_M_stepOne_277 (by decide) ?_
      refine r_icmp_ne 300 hX d_M_stepOne_279 (by decide) (fun c279 => ?_) (fun c279 => absurd c279 (by decide))
      refine r_iload_n (i := 2) hX d_M_stepOne_300 rfl rfl ?_
      refine r_bipush (v := nI 21) hX d_M_stepOne_301 (by decide) ?_
      refine r_icmp_ne 333 hX d_M_stepOne_303 (by decide) (fun c303 => ?_) (fun c303 => absurd c303 (by decide))
      refine r_aload_n (i := 0) hX d_M_stepOne_333 rfl rfl ?_
      refine r_dup hX d_M_stepOne_334 rfl ?_
      refine r_get 0 15 hX d_M_stepOne_335 rfl rfl fi_M (by decide) fl_M_57 rfl rfl ?_
      refine r_iconst (v := nI 1) hX d_M_stepOne_338 (by decide) ?_
      refine r_isub hX d_M_stepOne_339 ?_
      refine r_top (pk_sub (by omega)) ?_
      refine r_put 0 15 hX d_M_stepOne_340 rfl rfl fi_M ft_M_ok fn_M (by decide) fl_M_57 rfl rfl rfl rfl rfl (Nat.le_of_ble_eq_true rfl) ?_
      exact r_vret f hX hF d_M_stepOne_343 hs rfl (by rw [Nat.add_sub_cancel]; rfl)
    | cons x Q ih =>
      intro P f g hP hs hg
      have hPL : L.length = P.length + (Q.length + 1) := by rw [hP]; simp
      have hrow : gRow f (64 * (v + 1) + P.length) = x := by
        rw [hs.row (by omega)]
        exact Holds.mid (hP ▸ hL)
      have hx1 : f (6 * (64 * (v + 1) + P.length)) = x.1 := congrArg Prod.fst hrow
      have fromB : ∀ f', mP rw (64 * v) ((P ++ [x]).flatMap (goL tl)) f' → RR X 8 D A 0 0 (WM am cI cZ tl nn rs ae (v + 1) tx mf f' (upd sz v (nI ((P ++ [x]).flatMap (goL tl)).length)) nv ph tu sv) [(0, .ref (am 0)), (1, .int (nI i)), (2, .int (nI 8)), (3, .int (nI L.length)), (4, .int (nI g)), (5, .int (nI v)), (6, .int (nI P.length)), (7, .int x.1)] 250 [] := by
        intro f' hs' 
        refine r_iload hX d_M_stepOne_250 rfl ?_
        refine r_aload_n (i := 0) hX d_M_stepOne_252 rfl rfl ?_
        refine r_get 0 13 hX d_M_stepOne_253 rfl rfl fi_M (by decide) fl_M_51 rfl rfl ?_
        refine r_aload_n (i := 0) hX d_M_stepOne_256 rfl rfl ?_
        refine r_iload hX d_M_stepOne_257 rfl ?_
        refine r_callVwi (q0 := 0) hX d_M_stepOne_259 cw_M_operand ml_M_115 (c_M_operand g) (Or.inl rfl) rfl rfl rfl rfl (by decide) (Nat.le_of_ble_eq_true rfl) (fun _ => rfl) (fun _ _ => ?_)
        refine r_iald 10 0 (6 * (64 * (v + 1) + g)) hX d_M_stepOne_262 rfl rfl rfl (by omega) (by decide) ?_
        refine r_icmp_le 270 hX d_M_stepOne_263 (by decide) (fun c263 => ?_) (fun c263 => ?_)
        · have h := ih (P ++ [x]) f' g (by rw [hP]; simp) hs' (by rw [List.length_append, List.length_singleton]; omega)
          rw [show (P ++ [x]).length = P.length + 1 by simp] at h
          have hE := h
          refine r_iinc hX d_M_stepOne_270 rfl (rx_inc _) (by decide) ?_
          refine r_goto 83 hX d_M_stepOne_273 (by decide) ?_
          exact r_lv [0, 1, 2, 3, 4, 5, 6] hE
        · have h := ih (P ++ [x]) f' P.length (by rw [hP]; simp) hs' (by rw [List.length_append, List.length_singleton]; omega)
          rw [show (P ++ [x]).length = P.length + 1 by simp] at h
          have hE := h
          refine r_iload hX d_M_stepOne_266 rfl ?_
          refine r_istore hX d_M_stepOne_268 (by decide) ?_
          refine r_iinc hX d_M_stepOne_270 rfl (rx_inc _) (by decide) ?_
          refine r_goto 83 hX d_M_stepOne_273 (by decide) ?_
          exact r_lv [0, 1, 2, 3, 4, 5, 6] hE
      have hPl := flat_len (goL tl) 1 (goL_len tl) P
      refine r_iload hX d_M_stepOne_83 rfl ?_
      refine r_iload_n (i := 3) hX d_M_stepOne_85 rfl rfl ?_
      refine r_icmp_ge 276 hX d_M_stepOne_86 (by decide) (fun c86 => absurd c86 (nI_ge (by omega) (by omega))) (fun c86 => ?_)
      refine r_aload_n (i := 0) hX d_M_stepOne_89 rfl rfl ?_
      refine r_get 0 13 hX d_M_stepOne_90 rfl rfl fi_M (by decide) fl_M_51 rfl rfl ?_
      refine r_aload_n (i := 0) hX d_M_stepOne_93 rfl rfl ?_
      refine r_iload hX d_M_stepOne_94 rfl ?_
      refine r_callVwi (q0 := 0) hX d_M_stepOne_96 cw_M_operand ml_M_115 (c_M_operand P.length) (Or.inl rfl) rfl rfl rfl rfl (by decide) (Nat.le_of_ble_eq_true rfl) (fun _ => rfl) (fun _ _ => ?_)
      refine r_iald 10 0 (6 * (64 * (v + 1) + P.length)) hX d_M_stepOne_99 rfl rfl rfl (by omega) (by decide) ?_
      refine r_top hx1 ?_
      refine r_istore hX d_M_stepOne_100 (by decide) ?_
      refine r_iload_n (i := 2) hX d_M_stepOne_102 rfl rfl ?_
      refine r_bipush (v := nI 8) hX d_M_stepOne_103 (by decide) ?_
      refine r_icmp_ne 164 hX d_M_stepOne_105 (by decide) (fun c105 => absurd c105 (by decide)) (fun c105 => ?_)
      refine r_iload hX d_M_stepOne_108 rfl ?_
      refine r_if_lt 164 hX d_M_stepOne_110 (by decide) (fun c110 => ?_) (fun c110 => ?_)
      · have hgo : goL tl x = [] := by simp [goL, c110]
        have hN := fromB f (by rw [flat_snoc, hgo, List.append_nil]; exact hs)
        rw [flat_snoc, hgo, List.append_nil] at hN
        refine r_iload_n (i := 2) hX d_M_stepOne_164 rfl rfl ?_
        refine r_bipush (v := nI 17) hX d_M_stepOne_165 (by decide) ?_
        refine r_icmp_ne 219 hX d_M_stepOne_167 (by decide) (fun c167 => ?_) (fun c167 => absurd c167 (by decide))
        refine r_iload_n (i := 2) hX d_M_stepOne_219 rfl rfl ?_
        refine r_bipush (v := nI 18) hX d_M_stepOne_220 (by decide) ?_
        refine r_icmp_ne 250 hX d_M_stepOne_222 (by decide) (fun c222 => ?_) (fun c222 => absurd c222 (by decide))
        exact r_lv [0, 1, 2, 3, 4, 5, 6, 7] hN
      · refine r_iload hX d_M_stepOne_113 rfl ?_
        refine r_aload_n (i := 0) hX d_M_stepOne_115 rfl rfl ?_
        refine r_get 0 0 hX d_M_stepOne_116 rfl rfl fi_M (by decide) fl_M_7 rfl rfl ?_
        refine r_icmp_gt 164 hX d_M_stepOne_119 (by decide) (fun c119 => ?_) (fun c119 => ?_)
        · have hgo : goL tl x = [] := by simp [goL, Int32.not_le.mpr c119]
          have hN := fromB f (by rw [flat_snoc, hgo, List.append_nil]; exact hs)
          rw [flat_snoc, hgo, List.append_nil] at hN
          refine r_iload_n (i := 2) hX d_M_stepOne_164 rfl rfl ?_
          refine r_bipush (v := nI 17) hX d_M_stepOne_165 (by decide) ?_
          refine r_icmp_ne 219 hX d_M_stepOne_167 (by decide) (fun c167 => ?_) (fun c167 => absurd c167 (by decide))
          refine r_iload_n (i := 2) hX d_M_stepOne_219 rfl rfl ?_
          refine r_bipush (v := nI 18) hX d_M_stepOne_220 (by decide) ?_
          refine r_icmp_ne 250 hX d_M_stepOne_222 (by decide) (fun c222 => ?_) (fun c222 => absurd c222 (by decide))
          exact r_lv [0, 1, 2, 3, 4, 5, 6, 7] hN
        · have hgo : goL tl x = [(x.1, stSet x.2 0 x.1)] := by simp [goL, c110, Int32.not_lt.mp c119]
          refine r_aload_n (i := 0) hX d_M_stepOne_122 rfl rfl ?_
          refine r_iload hX d_M_stepOne_123 rfl ?_
          refine r_aload_n (i := 0) hX d_M_stepOne_125 rfl rfl ?_
          refine r_iload hX d_M_stepOne_126 rfl ?_
          refine r_callVwi (q0 := 0) hX d_M_stepOne_128 cw_M_operand ml_M_115 (c_M_operand P.length) (Or.inl rfl) rfl rfl rfl rfl (by decide) (Nat.le_of_ble_eq_true rfl) (fun _ => rfl) (fun _ _ => ?_)
          refine r_iconst (v := nI 1) hX d_M_stepOne_131 (by decide) ?_
          refine r_iadd hX d_M_stepOne_132 ?_
          refine r_top (nI_add _ _) ?_
          refine r_callVwv (q0 := 0) hX d_M_stepOne_133 cw_M_give ml_M_119 (c_M_give x.1 (64 * (v + 1) + P.length) v (P.flatMap (goL tl)).length pk_us (by omega) (by omega) (by omega) (by omega)) (Or.inl rfl) rfl rfl rfl rfl (by decide) (Nat.le_of_ble_eq_true rfl) (fun _ => rfl) (fun u hu => ?_)
          refine r_aload_n (i := 0) hX d_M_stepOne_136 rfl rfl ?_
          refine r_get 0 13 hX d_M_stepOne_137 rfl rfl fi_M (by decide) fl_M_51 rfl rfl ?_
          refine r_iload hX d_M_stepOne_140 rfl ?_
          refine r_sipush (v := nI 384) hX d_M_stepOne_142 (by decide) ?_
          refine r_imul hX d_M_stepOne_145 ?_
          refine r_top (pk_mul _ _) ?_
          refine r_aload_n (i := 0) hX d_M_stepOne_146 rfl rfl ?_
          refine r_get 0 14 hX d_M_stepOne_147 rfl rfl fi_M (by decide) fl_M_54 rfl rfl ?_
          refine r_iload hX d_M_stepOne_150 rfl ?_
          refine r_iald 11 0 (v) hX d_M_stepOne_152 rfl rfl rfl (by omega) (by decide) ?_
          refine r_top pk_us ?_
          refine r_iconst (v := nI 1) hX d_M_stepOne_153 (by decide) ?_
          refine r_isub hX d_M_stepOne_154 ?_
          refine r_top (pk_sub (by omega)) ?_
          refine r_bipush (v := nI 6) hX d_M_stepOne_155 (by decide) ?_
          refine r_imul hX d_M_stepOne_157 ?_
          refine r_top (pk_mul _ _) ?_
          refine r_iadd hX d_M_stepOne_158 ?_
          refine r_top (nI_add _ _) ?_
          refine r_iconst (v := nI 1) hX d_M_stepOne_159 (by decide) ?_
          refine r_iadd hX d_M_stepOne_160 ?_
          refine r_top (nI_add _ _) ?_
          refine r_iload hX d_M_stepOne_161 rfl ?_
          refine r_iast 10 0 (6 * (64 * v + (P.flatMap (goL tl)).length) + 1 + 0) hX d_M_stepOne_163 rfl rfl (congrArg nI (by omega)) (by omega) (by decide) ?_
          have hu2 : pushM f (64 * v + (P.flatMap (goL tl)).length) (x.1, x.2) u := by rw [hrow] at hu; exact hu
          have hN := fromB _ (by rw [flat_snoc, hgo]; exact hs.push (hu2.set (c := 0) (w := x.1) (by decide)) rfl (by omega))
          rw [flat_snoc, hgo, show (P.flatMap (goL tl) ++ [(x.1, stSet x.2 0 x.1)]).length = (P.flatMap (goL tl)).length + 1 by simp, ← upd_uu sz v (nI (P.flatMap (goL tl)).length)] at hN
          refine r_iload_n (i := 2) hX d_M_stepOne_164 rfl rfl ?_
          refine r_bipush (v := nI 17) hX d_M_stepOne_165 (by decide) ?_
          refine r_icmp_ne 219 hX d_M_stepOne_167 (by decide) (fun c167 => ?_) (fun c167 => absurd c167 (by decide))
          refine r_iload_n (i := 2) hX d_M_stepOne_219 rfl rfl ?_
          refine r_bipush (v := nI 18) hX d_M_stepOne_220 (by decide) ?_
          refine r_icmp_ne 250 hX d_M_stepOne_222 (by decide) (fun c222 => ?_) (fun c222 => absurd c222 (by decide))
          exact r_lv [0, 1, 2, 3, 4, 5, 6, 7] hN
  refine r_aload_n (i := 0) hX d_M_stepOne_0 rfl rfl ?_
  refine r_get 0 17 hX d_M_stepOne_1 rfl rfl fi_M (by decide) fl_M_63 rfl rfl ?_
  refine r_aload_n (i := 0) hX d_M_stepOne_4 rfl rfl ?_
  refine r_get 0 15 hX d_M_stepOne_5 rfl rfl fi_M (by decide) fl_M_57 rfl rfl ?_
  refine r_iconst (v := nI 1) hX d_M_stepOne_8 (by decide) ?_
  refine r_isub hX d_M_stepOne_9 ?_
  refine r_top (pk_sub (by omega)) ?_
  refine r_top (by rw [Nat.add_sub_cancel]) ?_
  refine r_iald 13 0 (v) hX d_M_stepOne_10 rfl rfl rfl (by omega) (by decide) ?_
  refine r_top hph ?_
  refine r_if_ne 59 hX d_M_stepOne_11 (by decide) (fun c11 => ?_) (fun c11 => absurd c11 (by decide))
  refine r_aload_n (i := 0) hX d_M_stepOne_59 rfl rfl ?_
  refine r_get 0 14 hX d_M_stepOne_60 rfl rfl fi_M (by decide) fl_M_54 rfl rfl ?_
  refine r_aload_n (i := 0) hX d_M_stepOne_63 rfl rfl ?_
  refine r_get 0 15 hX d_M_stepOne_64 rfl rfl fi_M (by decide) fl_M_57 rfl rfl ?_
  refine r_iald 11 0 (v + 1) hX d_M_stepOne_67 rfl rfl rfl (by omega) (by decide) ?_
  refine r_top hsd ?_
  refine r_istore_n (i := 3) hX d_M_stepOne_68 rfl (by decide) ?_
  refine r_iconst (v := nI 0) hX d_M_stepOne_69 (by decide) ?_
  refine r_istore hX d_M_stepOne_70 (by decide) ?_
  refine r_aload_n (i := 0) hX d_M_stepOne_72 rfl rfl ?_
  refine r_get 0 15 hX d_M_stepOne_73 rfl rfl fi_M (by decide) fl_M_57 rfl rfl ?_
  refine r_iconst (v := nI 1) hX d_M_stepOne_76 (by decide) ?_
  refine r_isub hX d_M_stepOne_77 ?_
  refine r_top (pk_sub (by omega)) ?_
  refine r_top (by rw [Nat.add_sub_cancel]) ?_
  refine r_istore hX d_M_stepOne_78 (by decide) ?_
  refine r_iconst (v := nI 0) hX d_M_stepOne_80 (by decide) ?_
  refine r_istore hX d_M_stepOne_81 (by decide) ?_
  have h := loop L [] rw 0 rfl (mP.rf (Holds.nil _ _)) (Nat.zero_le _)
  rw [show nI (([] : List Rs).flatMap (goL tl)).length = nI 0 by simp, upd_id hsv] at h
  exact r_lv [0, 1, 2, 3, 4, 5, 6] h
set_option maxRecDepth 100000 in
set_option maxHeartbeats 4000000 in
theorem c_M_stepOne_17 (i v : Nat) (L : List Rs) (va : Nat) (hva : va < 4) (ha : mf 1 i = nI va) (hi : i < 60) (hv : v + 1 < 8) (hph : ph v = nI 1) (hsv : sz v = nI 0) (hsd : sz (v + 1) = nI L.length) (hL : Holds rw (64 * (v + 1)) L) (hlen : L.length ≤ 64) : CT l D (tyL cI cZ cN) none y_M_stepOne b_M_stepOne 8 none 2 [.ref (am 0), .int (nI i), .int (nI 17)] (WM am cI cZ tl nn rs ae (v + 1) tx mf rw sz nv ph tu sv) (mP rw (64 * v) (L.map (fun r => (r.1, stSet r.2 (1 + va) r.1)))) (fun _ => none) (fun u => WM am cI cZ tl nn rs ae v tx mf u (upd sz v (nI (L.map (fun r => (r.1, stSet r.2 (1 + va) r.1))).length)) nv ph tu sv) := by
  refine CT.of (by decide) (Nat.le_of_ble_eq_true rfl) ?_
  intro X A hl hX hF
  have loop : ∀ (Q P : List Rs) (f : Nat → Int32) (g : Nat), L = P ++ Q → mP rw (64 * v) (P.map (fun r => (r.1, stSet r.2 (1 + va) r.1))) f → (g ≤ P.length) → RR X 8 D A 0 0 (WM am cI cZ tl nn rs ae (v + 1) tx mf f (upd sz v (nI (P.map (fun r => (r.1, stSet r.2 (1 + va) r.1))).length)) nv ph tu sv) [(0, .ref (am 0)), (1, .int (nI i)), (2, .int (nI 17)), (3, .int (nI L.length)), (4, .int (nI g)), (5, .int (nI v)), (6, .int (nI P.length))] 83 [] := by
    intro Q
    induction Q with
    | nil =>
      intro P f g hP hs hg
      have hP : L = P := by rw [hP, List.append_nil]
      subst hP
      refine r_iload hX d_M_stepOne_83 rfl ?_
      refine r_iload_n (i := 3) hX d_M_stepOne_85 rfl rfl ?_
      refine r_icmp_ge 276 hX d_M_stepOne_86 (by decide) (fun c86 => ?_) (fun c86 => absurd (nI_le (Nat.le_refl _) (by omega)) c86)
      refine r_iload_n (i := 2) hX d_M_stepOne_276 rfl rfl ?_
      refine r_bipush (v := nI 20) hX d_M_stepOne_277 (by decide) ?_
      refine r_icmp_ne 300 hX d_M_stepOne_279 (by decide) (fun c279 => ?_) (fun c279 => absurd c279 (by decide))
      refine r_iload_n (i := 2) hX d_M_stepOne_300 rfl rfl ?_
      refine r_bipush (v := nI 21) hX d_M_stepOne_301 (by decide) ?_
      refine r_icmp_ne 333 hX d_M_stepOne_303 (by decide) (fun c303 => ?_) (fun c303 => absurd c303 (by decide))
      refine r_aload_n (i := 0) hX d_M_stepOne_333 rfl rfl ?_
      refine r_dup hX d_M_stepOne_334 rfl ?_
      refine r_get 0 15 hX d_M_stepOne_335 rfl rfl fi_M (by decide) fl_M_57 rfl rfl ?_
      refine r_iconst (v := nI 1) hX d_M_stepOne_338 (by decide) ?_
      refine r_isub hX d_M_stepOne_339 ?_
      refine r_top (pk_sub (by omega)) ?_
      refine r_put 0 15 hX d_M_stepOne_340 rfl rfl fi_M ft_M_ok fn_M (by decide) fl_M_57 rfl rfl rfl rfl rfl (Nat.le_of_ble_eq_true rfl) ?_
      exact r_vret f hX hF d_M_stepOne_343 hs rfl (by rw [Nat.add_sub_cancel]; rfl)
    | cons x Q ih =>
      intro P f g hP hs hg
      have hPL : L.length = P.length + (Q.length + 1) := by rw [hP]; simp
      have hrow : gRow f (64 * (v + 1) + P.length) = x := by
        rw [hs.row (by omega)]
        exact Holds.mid (hP ▸ hL)
      have hx1 : f (6 * (64 * (v + 1) + P.length)) = x.1 := congrArg Prod.fst hrow
      have fromB : ∀ f', mP rw (64 * v) ((P ++ [x]).map (fun r => (r.1, stSet r.2 (1 + va) r.1))) f' → RR X 8 D A 0 0 (WM am cI cZ tl nn rs ae (v + 1) tx mf f' (upd sz v (nI ((P ++ [x]).map (fun r => (r.1, stSet r.2 (1 + va) r.1))).length)) nv ph tu sv) [(0, .ref (am 0)), (1, .int (nI i)), (2, .int (nI 17)), (3, .int (nI L.length)), (4, .int (nI g)), (5, .int (nI v)), (6, .int (nI P.length)), (7, .int x.1)] 250 [] := by
        intro f' hs' 
        refine r_iload hX d_M_stepOne_250 rfl ?_
        refine r_aload_n (i := 0) hX d_M_stepOne_252 rfl rfl ?_
        refine r_get 0 13 hX d_M_stepOne_253 rfl rfl fi_M (by decide) fl_M_51 rfl rfl ?_
        refine r_aload_n (i := 0) hX d_M_stepOne_256 rfl rfl ?_
        refine r_iload hX d_M_stepOne_257 rfl ?_
        refine r_callVwi (q0 := 0) hX d_M_stepOne_259 cw_M_operand ml_M_115 (c_M_operand g) (Or.inl rfl) rfl rfl rfl rfl (by decide) (Nat.le_of_ble_eq_true rfl) (fun _ => rfl) (fun _ _ => ?_)
        refine r_iald 10 0 (6 * (64 * (v + 1) + g)) hX d_M_stepOne_262 rfl rfl rfl (by omega) (by decide) ?_
        refine r_icmp_le 270 hX d_M_stepOne_263 (by decide) (fun c263 => ?_) (fun c263 => ?_)
        · have h := ih (P ++ [x]) f' g (by rw [hP]; simp) hs' (by rw [List.length_append, List.length_singleton]; omega)
          rw [show (P ++ [x]).length = P.length + 1 by simp] at h
          have hE := h
          refine r_iinc hX d_M_stepOne_270 rfl (rx_inc _) (by decide) ?_
          refine r_goto 83 hX d_M_stepOne_273 (by decide) ?_
          exact r_lv [0, 1, 2, 3, 4, 5, 6] hE
        · have h := ih (P ++ [x]) f' P.length (by rw [hP]; simp) hs' (by rw [List.length_append, List.length_singleton]; omega)
          rw [show (P ++ [x]).length = P.length + 1 by simp] at h
          have hE := h
          refine r_iload hX d_M_stepOne_266 rfl ?_
          refine r_istore hX d_M_stepOne_268 (by decide) ?_
          refine r_iinc hX d_M_stepOne_270 rfl (rx_inc _) (by decide) ?_
          refine r_goto 83 hX d_M_stepOne_273 (by decide) ?_
          exact r_lv [0, 1, 2, 3, 4, 5, 6] hE
      refine r_iload hX d_M_stepOne_83 rfl ?_
      refine r_iload_n (i := 3) hX d_M_stepOne_85 rfl rfl ?_
      refine r_icmp_ge 276 hX d_M_stepOne_86 (by decide) (fun c86 => absurd c86 (nI_ge (by omega) (by omega))) (fun c86 => ?_)
      refine r_aload_n (i := 0) hX d_M_stepOne_89 rfl rfl ?_
      refine r_get 0 13 hX d_M_stepOne_90 rfl rfl fi_M (by decide) fl_M_51 rfl rfl ?_
      refine r_aload_n (i := 0) hX d_M_stepOne_93 rfl rfl ?_
      refine r_iload hX d_M_stepOne_94 rfl ?_
      refine r_callVwi (q0 := 0) hX d_M_stepOne_96 cw_M_operand ml_M_115 (c_M_operand P.length) (Or.inl rfl) rfl rfl rfl rfl (by decide) (Nat.le_of_ble_eq_true rfl) (fun _ => rfl) (fun _ _ => ?_)
      refine r_iald 10 0 (6 * (64 * (v + 1) + P.length)) hX d_M_stepOne_99 rfl rfl rfl (by omega) (by decide) ?_
      refine r_top hx1 ?_
      refine r_istore hX d_M_stepOne_100 (by decide) ?_
      refine r_iload_n (i := 2) hX d_M_stepOne_102 rfl rfl ?_
      refine r_bipush (v := nI 8) hX d_M_stepOne_103 (by decide) ?_
      refine r_icmp_ne 164 hX d_M_stepOne_105 (by decide) (fun c105 => ?_) (fun c105 => absurd c105 (by decide))
      refine r_iload_n (i := 2) hX d_M_stepOne_164 rfl rfl ?_
      refine r_bipush (v := nI 17) hX d_M_stepOne_165 (by decide) ?_
      refine r_icmp_ne 219 hX d_M_stepOne_167 (by decide) (fun c167 => absurd c167 (by decide)) (fun c167 => ?_)
      refine r_aload_n (i := 0) hX d_M_stepOne_170 rfl rfl ?_
      refine r_iload hX d_M_stepOne_171 rfl ?_
      refine r_aload_n (i := 0) hX d_M_stepOne_173 rfl rfl ?_
      refine r_iload hX d_M_stepOne_174 rfl ?_
      refine r_callVwi (q0 := 0) hX d_M_stepOne_176 cw_M_operand ml_M_115 (c_M_operand P.length) (Or.inl rfl) rfl rfl rfl rfl (by decide) (Nat.le_of_ble_eq_true rfl) (fun _ => rfl) (fun _ _ => ?_)
      refine r_iconst (v := nI 1) hX d_M_stepOne_179 (by decide) ?_
      refine r_iadd hX d_M_stepOne_180 ?_
      refine r_top (nI_add _ _) ?_
      refine r_callVwv (q0 := 0) hX d_M_stepOne_181 cw_M_give ml_M_119 (c_M_give x.1 (64 * (v + 1) + P.length) v (P.map (fun r => (r.1, stSet r.2 (1 + va) r.1))).length pk_us (by simp; omega) (by omega) (by omega) (by simp; omega)) (Or.inl rfl) rfl rfl rfl rfl (by decide) (Nat.le_of_ble_eq_true rfl) (fun _ => rfl) (fun u hu => ?_)
      refine r_aload_n (i := 0) hX d_M_stepOne_184 rfl rfl ?_
      refine r_get 0 13 hX d_M_stepOne_185 rfl rfl fi_M (by decide) fl_M_51 rfl rfl ?_
      refine r_iload hX d_M_stepOne_188 rfl ?_
      refine r_sipush (v := nI 384) hX d_M_stepOne_190 (by decide) ?_
      refine r_imul hX d_M_stepOne_193 ?_
      refine r_top (pk_mul _ _) ?_
      refine r_aload_n (i := 0) hX d_M_stepOne_194 rfl rfl ?_
      refine r_get 0 14 hX d_M_stepOne_195 rfl rfl fi_M (by decide) fl_M_54 rfl rfl ?_
      refine r_iload hX d_M_stepOne_198 rfl ?_
      refine r_iald 11 0 (v) hX d_M_stepOne_200 rfl rfl rfl (by omega) (by decide) ?_
      refine r_top pk_us ?_
      refine r_iconst (v := nI 1) hX d_M_stepOne_201 (by decide) ?_
      refine r_isub hX d_M_stepOne_202 ?_
      refine r_top (pk_sub (by omega)) ?_
      refine r_bipush (v := nI 6) hX d_M_stepOne_203 (by decide) ?_
      refine r_imul hX d_M_stepOne_205 ?_
      refine r_top (pk_mul _ _) ?_
      refine r_iadd hX d_M_stepOne_206 ?_
      refine r_top (nI_add _ _) ?_
      refine r_iconst (v := nI 2) hX d_M_stepOne_207 (by decide) ?_
      refine r_iadd hX d_M_stepOne_208 ?_
      refine r_top (nI_add _ _) ?_
      refine r_aload_n (i := 0) hX d_M_stepOne_209 rfl rfl ?_
      refine r_get 0 6 hX d_M_stepOne_210 rfl rfl fi_M (by decide) fl_M_29 rfl rfl ?_
      refine r_iload_n (i := 1) hX d_M_stepOne_213 rfl rfl ?_
      refine r_iald 3 0 (i) hX d_M_stepOne_214 rfl rfl rfl (by omega) (by decide) ?_
      refine r_top ha ?_
      refine r_iadd hX d_M_stepOne_215 ?_
      refine r_top (nI_add _ _) ?_
      refine r_iload hX d_M_stepOne_216 rfl ?_
      refine r_iast 10 0 (6 * (64 * v + (P.map (fun r => (r.1, stSet r.2 (1 + va) r.1))).length) + 1 + (1 + va)) hX d_M_stepOne_218 rfl rfl (congrArg nI (by omega)) (by simp; omega) (by decide) ?_
      have hu2 : pushM f (64 * v + (P.map (fun r => (r.1, stSet r.2 (1 + va) r.1))).length) (x.1, x.2) u := by rw [hrow] at hu; exact hu
      have hN := fromB _ (by rw [List.map_append]; exact hs.push (hu2.set (c := 1 + va) (w := x.1) (by omega)) rfl (by simp; omega))
      rw [show ((P ++ [x]).map (fun r => (r.1, stSet r.2 (1 + va) r.1))).length = (P.map (fun r => (r.1, stSet r.2 (1 + va) r.1))).length + 1 by simp, ← upd_uu sz v (nI (P.map (fun r => (r.1, stSet r.2 (1 + va) r.1))).length)] at hN
      refine r_iload_n (i := 2) hX d_M_stepOne_219 rfl rfl ?_
      refine r_bipush (v := nI 18) hX d_M_stepOne_220 (by decide) ?_
      refine r_icmp_ne 250 hX d_M_stepOne_222 (by decide) (fun c222 => ?_) (fun c222 => absurd c222 (by decide))
      exact r_lv [0, 1, 2, 3, 4, 5, 6, 7] hN
  refine r_aload_n (i := 0) hX d_M_stepOne_0 rfl rfl ?_
  refine r_get 0 17 hX d_M_stepOne_1 rfl rfl fi_M (by decide) fl_M_63 rfl rfl ?_
  refine r_aload_n (i := 0) hX d_M_stepOne_4 rfl rfl ?_
  refine r_get 0 15 hX d_M_stepOne_5 rfl rfl fi_M (by decide) fl_M_57 rfl rfl ?_
  refine r_iconst (v := nI 1) hX d_M_stepOne_8 (by decide) ?_
  refine r_isub hX d_M_stepOne_9 ?_
  refine r_top (pk_sub (by omega)) ?_
  refine r_top (by rw [Nat.add_sub_cancel]) ?_
  refine r_iald 13 0 (v) hX d_M_stepOne_10 rfl rfl rfl (by omega) (by decide) ?_
  refine r_top hph ?_
  refine r_if_ne 59 hX d_M_stepOne_11 (by decide) (fun c11 => ?_) (fun c11 => absurd c11 (by decide))
  refine r_aload_n (i := 0) hX d_M_stepOne_59 rfl rfl ?_
  refine r_get 0 14 hX d_M_stepOne_60 rfl rfl fi_M (by decide) fl_M_54 rfl rfl ?_
  refine r_aload_n (i := 0) hX d_M_stepOne_63 rfl rfl ?_
  refine r_get 0 15 hX d_M_stepOne_64 rfl rfl fi_M (by decide) fl_M_57 rfl rfl ?_
  refine r_iald 11 0 (v + 1) hX d_M_stepOne_67 rfl rfl rfl (by omega) (by decide) ?_
  refine r_top hsd ?_
  refine r_istore_n (i := 3) hX d_M_stepOne_68 rfl (by decide) ?_
  refine r_iconst (v := nI 0) hX d_M_stepOne_69 (by decide) ?_
  refine r_istore hX d_M_stepOne_70 (by decide) ?_
  refine r_aload_n (i := 0) hX d_M_stepOne_72 rfl rfl ?_
  refine r_get 0 15 hX d_M_stepOne_73 rfl rfl fi_M (by decide) fl_M_57 rfl rfl ?_
  refine r_iconst (v := nI 1) hX d_M_stepOne_76 (by decide) ?_
  refine r_isub hX d_M_stepOne_77 ?_
  refine r_top (pk_sub (by omega)) ?_
  refine r_top (by rw [Nat.add_sub_cancel]) ?_
  refine r_istore hX d_M_stepOne_78 (by decide) ?_
  refine r_iconst (v := nI 0) hX d_M_stepOne_80 (by decide) ?_
  refine r_istore hX d_M_stepOne_81 (by decide) ?_
  have h := loop L [] rw 0 rfl (mP.rf (Holds.nil _ _)) (Nat.zero_le _)
  rw [show nI (([] : List Rs).map (fun r => (r.1, stSet r.2 (1 + va) r.1))).length = nI 0 by simp, upd_id hsv] at h
  exact r_lv [0, 1, 2, 3, 4, 5, 6] h
set_option maxRecDepth 100000 in
set_option maxHeartbeats 4000000 in
theorem c_M_stepOne_18 (i v : Nat) (L : List Rs) (va : Nat) (hva : va ≤ 8) (ha : mf 1 i = nI va) (hi : i < 60) (hv : v + 1 < 8) (hph : ph v = nI 1) (hsv : sz v = nI 0) (hsd : sz (v + 1) = nI L.length) (hL : Holds rw (64 * (v + 1)) L) (hlen : L.length ≤ 64) : CT l D (tyL cI cZ cN) none y_M_stepOne b_M_stepOne 8 none 2 [.ref (am 0), .int (nI i), .int (nI 18)] (WM am cI cZ tl nn rs ae (v + 1) tx mf rw sz nv ph tu sv) (mP rw (64 * v) (L.take va)) (fun _ => none) (fun u => WM am cI cZ tl nn rs ae v tx mf u (upd sz v (nI (L.take va).length)) nv ph tu sv) := by
  refine CT.of (by decide) (Nat.le_of_ble_eq_true rfl) ?_
  intro X A hl hX hF
  have loop : ∀ (Q P : List Rs) (f : Nat → Int32) (g : Nat), L = P ++ Q → mP rw (64 * v) (P.take va) f → (g ≤ P.length) → RR X 8 D A 0 0 (WM am cI cZ tl nn rs ae (v + 1) tx mf f (upd sz v (nI (P.take va).length)) nv ph tu sv) [(0, .ref (am 0)), (1, .int (nI i)), (2, .int (nI 18)), (3, .int (nI L.length)), (4, .int (nI g)), (5, .int (nI v)), (6, .int (nI P.length))] 83 [] := by
    intro Q
    induction Q with
    | nil =>
      intro P f g hP hs hg
      have hP : L = P := by rw [hP, List.append_nil]
      subst hP
      refine r_iload hX d_M_stepOne_83 rfl ?_
      refine r_iload_n (i := 3) hX d_M_stepOne_85 rfl rfl ?_
      refine r_icmp_ge 276 hX d_M_stepOne_86 (by decide) (fun c86 => ?_) (fun c86 => absurd (nI_le (Nat.le_refl _) (by omega)) c86)
      refine r_iload_n (i := 2) hX d_M_stepOne_276 rfl rfl ?_
      refine r_bipush (v := nI 20) hX d_M_stepOne_277 (by decide) ?_
      refine r_icmp_ne 300 hX d_M_stepOne_279 (by decide) (fun c279 => ?_) (fun c279 => absurd c279 (by decide))
      refine r_iload_n (i := 2) hX d_M_stepOne_300 rfl rfl ?_
      refine r_bipush (v := nI 21) hX d_M_stepOne_301 (by decide) ?_
      refine r_icmp_ne 333 hX d_M_stepOne_303 (by decide) (fun c303 => ?_) (fun c303 => absurd c303 (by decide))
      refine r_aload_n (i := 0) hX d_M_stepOne_333 rfl rfl ?_
      refine r_dup hX d_M_stepOne_334 rfl ?_
      refine r_get 0 15 hX d_M_stepOne_335 rfl rfl fi_M (by decide) fl_M_57 rfl rfl ?_
      refine r_iconst (v := nI 1) hX d_M_stepOne_338 (by decide) ?_
      refine r_isub hX d_M_stepOne_339 ?_
      refine r_top (pk_sub (by omega)) ?_
      refine r_put 0 15 hX d_M_stepOne_340 rfl rfl fi_M ft_M_ok fn_M (by decide) fl_M_57 rfl rfl rfl rfl rfl (Nat.le_of_ble_eq_true rfl) ?_
      exact r_vret f hX hF d_M_stepOne_343 hs rfl (by rw [Nat.add_sub_cancel]; rfl)
    | cons x Q ih =>
      intro P f g hP hs hg
      have hPL : L.length = P.length + (Q.length + 1) := by rw [hP]; simp
      have hrow : gRow f (64 * (v + 1) + P.length) = x := by
        rw [hs.row (by omega)]
        exact Holds.mid (hP ▸ hL)
      have hx1 : f (6 * (64 * (v + 1) + P.length)) = x.1 := congrArg Prod.fst hrow
      have fromB : ∀ f', mP rw (64 * v) ((P ++ [x]).take va) f' → RR X 8 D A 0 0 (WM am cI cZ tl nn rs ae (v + 1) tx mf f' (upd sz v (nI ((P ++ [x]).take va).length)) nv ph tu sv) [(0, .ref (am 0)), (1, .int (nI i)), (2, .int (nI 18)), (3, .int (nI L.length)), (4, .int (nI g)), (5, .int (nI v)), (6, .int (nI P.length)), (7, .int x.1)] 250 [] := by
        intro f' hs' 
        refine r_iload hX d_M_stepOne_250 rfl ?_
        refine r_aload_n (i := 0) hX d_M_stepOne_252 rfl rfl ?_
        refine r_get 0 13 hX d_M_stepOne_253 rfl rfl fi_M (by decide) fl_M_51 rfl rfl ?_
        refine r_aload_n (i := 0) hX d_M_stepOne_256 rfl rfl ?_
        refine r_iload hX d_M_stepOne_257 rfl ?_
        refine r_callVwi (q0 := 0) hX d_M_stepOne_259 cw_M_operand ml_M_115 (c_M_operand g) (Or.inl rfl) rfl rfl rfl rfl (by decide) (Nat.le_of_ble_eq_true rfl) (fun _ => rfl) (fun _ _ => ?_)
        refine r_iald 10 0 (6 * (64 * (v + 1) + g)) hX d_M_stepOne_262 rfl rfl rfl (by omega) (by decide) ?_
        refine r_icmp_le 270 hX d_M_stepOne_263 (by decide) (fun c263 => ?_) (fun c263 => ?_)
        · have h := ih (P ++ [x]) f' g (by rw [hP]; simp) hs' (by rw [List.length_append, List.length_singleton]; omega)
          rw [show (P ++ [x]).length = P.length + 1 by simp] at h
          have hE := h
          refine r_iinc hX d_M_stepOne_270 rfl (rx_inc _) (by decide) ?_
          refine r_goto 83 hX d_M_stepOne_273 (by decide) ?_
          exact r_lv [0, 1, 2, 3, 4, 5, 6] hE
        · have h := ih (P ++ [x]) f' P.length (by rw [hP]; simp) hs' (by rw [List.length_append, List.length_singleton]; omega)
          rw [show (P ++ [x]).length = P.length + 1 by simp] at h
          have hE := h
          refine r_iload hX d_M_stepOne_266 rfl ?_
          refine r_istore hX d_M_stepOne_268 (by decide) ?_
          refine r_iinc hX d_M_stepOne_270 rfl (rx_inc _) (by decide) ?_
          refine r_goto 83 hX d_M_stepOne_273 (by decide) ?_
          exact r_lv [0, 1, 2, 3, 4, 5, 6] hE
      refine r_iload hX d_M_stepOne_83 rfl ?_
      refine r_iload_n (i := 3) hX d_M_stepOne_85 rfl rfl ?_
      refine r_icmp_ge 276 hX d_M_stepOne_86 (by decide) (fun c86 => absurd c86 (nI_ge (by omega) (by omega))) (fun c86 => ?_)
      refine r_aload_n (i := 0) hX d_M_stepOne_89 rfl rfl ?_
      refine r_get 0 13 hX d_M_stepOne_90 rfl rfl fi_M (by decide) fl_M_51 rfl rfl ?_
      refine r_aload_n (i := 0) hX d_M_stepOne_93 rfl rfl ?_
      refine r_iload hX d_M_stepOne_94 rfl ?_
      refine r_callVwi (q0 := 0) hX d_M_stepOne_96 cw_M_operand ml_M_115 (c_M_operand P.length) (Or.inl rfl) rfl rfl rfl rfl (by decide) (Nat.le_of_ble_eq_true rfl) (fun _ => rfl) (fun _ _ => ?_)
      refine r_iald 10 0 (6 * (64 * (v + 1) + P.length)) hX d_M_stepOne_99 rfl rfl rfl (by omega) (by decide) ?_
      refine r_top hx1 ?_
      refine r_istore hX d_M_stepOne_100 (by decide) ?_
      refine r_iload_n (i := 2) hX d_M_stepOne_102 rfl rfl ?_
      refine r_bipush (v := nI 8) hX d_M_stepOne_103 (by decide) ?_
      refine r_icmp_ne 164 hX d_M_stepOne_105 (by decide) (fun c105 => ?_) (fun c105 => absurd c105 (by decide))
      refine r_iload_n (i := 2) hX d_M_stepOne_164 rfl rfl ?_
      refine r_bipush (v := nI 17) hX d_M_stepOne_165 (by decide) ?_
      refine r_icmp_ne 219 hX d_M_stepOne_167 (by decide) (fun c167 => ?_) (fun c167 => absurd c167 (by decide))
      refine r_iload_n (i := 2) hX d_M_stepOne_219 rfl rfl ?_
      refine r_bipush (v := nI 18) hX d_M_stepOne_220 (by decide) ?_
      refine r_icmp_ne 250 hX d_M_stepOne_222 (by decide) (fun c222 => absurd c222 (by decide)) (fun c222 => ?_)
      refine r_iload hX d_M_stepOne_225 rfl ?_
      refine r_aload_n (i := 0) hX d_M_stepOne_227 rfl rfl ?_
      refine r_get 0 6 hX d_M_stepOne_228 rfl rfl fi_M (by decide) fl_M_29 rfl rfl ?_
      refine r_iload_n (i := 1) hX d_M_stepOne_231 rfl rfl ?_
      refine r_iald 3 0 (i) hX d_M_stepOne_232 rfl rfl rfl (by omega) (by decide) ?_
      refine r_top ha ?_
      refine r_icmp_ge 250 hX d_M_stepOne_233 (by decide) (fun c233 => ?_) (fun c233 => ?_)
      · have h5 := (nI_leI (by omega) (by omega)).mp c233
        have hgo : (P ++ [x]).take va = P.take va := List.take_append_of_le_length h5
        have hN := fromB f (by rw [hgo]; exact hs)
        rw [hgo] at hN
        exact r_lv [0, 1, 2, 3, 4, 5, 6, 7] hN
      · have h5 : P.length < va := by
          rcases Nat.lt_or_ge P.length va with h | h
          · exact h
          · exact absurd (nI_le h (by omega)) c233
        have hgo : (P ++ [x]).take va = P.take va ++ [x] := by rw [List.take_of_length_le (by simp; omega), List.take_of_length_le (by omega)]
        have hPt : (P.take va).length = P.length := by rw [List.take_of_length_le (by omega)]
        refine r_aload_n (i := 0) hX d_M_stepOne_236 rfl rfl ?_
        refine r_iload hX d_M_stepOne_237 rfl ?_
        refine r_aload_n (i := 0) hX d_M_stepOne_239 rfl rfl ?_
        refine r_iload hX d_M_stepOne_240 rfl ?_
        refine r_callVwi (q0 := 0) hX d_M_stepOne_242 cw_M_operand ml_M_115 (c_M_operand P.length) (Or.inl rfl) rfl rfl rfl rfl (by decide) (Nat.le_of_ble_eq_true rfl) (fun _ => rfl) (fun _ _ => ?_)
        refine r_iconst (v := nI 1) hX d_M_stepOne_245 (by decide) ?_
        refine r_iadd hX d_M_stepOne_246 ?_
        refine r_top (nI_add _ _) ?_
        refine r_callVwv (q0 := 0) hX d_M_stepOne_247 cw_M_give ml_M_119 (c_M_give x.1 (64 * (v + 1) + P.length) v (P.take va).length pk_us (by omega) (by omega) (by omega) (by omega)) (Or.inl rfl) rfl rfl rfl rfl (by decide) (Nat.le_of_ble_eq_true rfl) (fun _ => rfl) (fun u hu => ?_)
        have hu2 : pushM f (64 * v + (P.take va).length) x u := by rw [hrow] at hu; exact hu
        have hN := fromB _ (by rw [hgo]; exact hs.push hu2 rfl (by omega))
        rw [hgo, show (P.take va ++ [x]).length = (P.take va).length + 1 by simp, ← upd_uu sz v (nI (P.take va).length)] at hN
        exact r_lv [0, 1, 2, 3, 4, 5, 6, 7] hN
  refine r_aload_n (i := 0) hX d_M_stepOne_0 rfl rfl ?_
  refine r_get 0 17 hX d_M_stepOne_1 rfl rfl fi_M (by decide) fl_M_63 rfl rfl ?_
  refine r_aload_n (i := 0) hX d_M_stepOne_4 rfl rfl ?_
  refine r_get 0 15 hX d_M_stepOne_5 rfl rfl fi_M (by decide) fl_M_57 rfl rfl ?_
  refine r_iconst (v := nI 1) hX d_M_stepOne_8 (by decide) ?_
  refine r_isub hX d_M_stepOne_9 ?_
  refine r_top (pk_sub (by omega)) ?_
  refine r_top (by rw [Nat.add_sub_cancel]) ?_
  refine r_iald 13 0 (v) hX d_M_stepOne_10 rfl rfl rfl (by omega) (by decide) ?_
  refine r_top hph ?_
  refine r_if_ne 59 hX d_M_stepOne_11 (by decide) (fun c11 => ?_) (fun c11 => absurd c11 (by decide))
  refine r_aload_n (i := 0) hX d_M_stepOne_59 rfl rfl ?_
  refine r_get 0 14 hX d_M_stepOne_60 rfl rfl fi_M (by decide) fl_M_54 rfl rfl ?_
  refine r_aload_n (i := 0) hX d_M_stepOne_63 rfl rfl ?_
  refine r_get 0 15 hX d_M_stepOne_64 rfl rfl fi_M (by decide) fl_M_57 rfl rfl ?_
  refine r_iald 11 0 (v + 1) hX d_M_stepOne_67 rfl rfl rfl (by omega) (by decide) ?_
  refine r_top hsd ?_
  refine r_istore_n (i := 3) hX d_M_stepOne_68 rfl (by decide) ?_
  refine r_iconst (v := nI 0) hX d_M_stepOne_69 (by decide) ?_
  refine r_istore hX d_M_stepOne_70 (by decide) ?_
  refine r_aload_n (i := 0) hX d_M_stepOne_72 rfl rfl ?_
  refine r_get 0 15 hX d_M_stepOne_73 rfl rfl fi_M (by decide) fl_M_57 rfl rfl ?_
  refine r_iconst (v := nI 1) hX d_M_stepOne_76 (by decide) ?_
  refine r_isub hX d_M_stepOne_77 ?_
  refine r_top (pk_sub (by omega)) ?_
  refine r_top (by rw [Nat.add_sub_cancel]) ?_
  refine r_istore hX d_M_stepOne_78 (by decide) ?_
  refine r_iconst (v := nI 0) hX d_M_stepOne_80 (by decide) ?_
  refine r_istore hX d_M_stepOne_81 (by decide) ?_
  have h := loop L [] rw 0 rfl (by simp; exact mP.rf (Holds.nil _ _)) (Nat.zero_le _)
  rw [show nI (([] : List Rs).take va).length = nI 0 by simp, upd_id hsv] at h
  exact r_lv [0, 1, 2, 3, 4, 5, 6] h
set_option maxRecDepth 100000 in
set_option maxHeartbeats 4000000 in
theorem c_M_stepOne_20 (i v : Nat) (L : List Rs) (hi : i < 60) (hv : v + 1 < 8) (hph : ph v = nI 1) (hsv : sz v = nI 0) (hsd : sz (v + 1) = nI L.length) (hL : Holds rw (64 * (v + 1)) L) (hlen : L.length ≤ 64) : CT l D (tyL cI cZ cN) none y_M_stepOne b_M_stepOne 8 none 2 [.ref (am 0), .int (nI i), .int (nI 20)] (WM am cI cZ tl nn rs ae (v + 1) tx mf rw sz nv ph tu sv) (mP rw (64 * v) (if L.isEmpty = true then [(nI 0, stOf sv v)] else [])) (fun _ => none) (fun u => WM am cI cZ tl nn rs ae v tx mf u (upd sz v (nI (if L.isEmpty = true then [(nI 0, stOf sv v)] else []).length)) nv ph tu sv) := by
  refine CT.of (by decide) (Nat.le_of_ble_eq_true rfl) ?_
  intro X A hl hX hF
  have loop : ∀ (Q P : List Rs) (f : Nat → Int32) (g : Nat), L = P ++ Q → mP rw (64 * v) ([] : List Rs) f → (g ≤ P.length) → RR X 8 D A 0 0 (WM am cI cZ tl nn rs ae (v + 1) tx mf f (upd sz v (nI ([] : List Rs).length)) nv ph tu sv) [(0, .ref (am 0)), (1, .int (nI i)), (2, .int (nI 20)), (3, .int (nI L.length)), (4, .int (nI g)), (5, .int (nI v)), (6, .int (nI P.length))] 83 [] := by
    intro Q
    induction Q with
    | nil =>
      intro P f g hP hs hg
      have hP : L = P := by rw [hP, List.append_nil]
      subst hP
      have hsz0 : upd sz v (nI ([] : List Rs).length) = sz := upd_id hsv
      rw [hsz0]
      refine r_iload hX d_M_stepOne_83 rfl ?_
      refine r_iload_n (i := 3) hX d_M_stepOne_85 rfl rfl ?_
      refine r_icmp_ge 276 hX d_M_stepOne_86 (by decide) (fun c86 => ?_) (fun c86 => absurd (nI_le (Nat.le_refl _) (by omega)) c86)
      refine r_iload_n (i := 2) hX d_M_stepOne_276 rfl rfl ?_
      refine r_bipush (v := nI 20) hX d_M_stepOne_277 (by decide) ?_
      refine r_icmp_ne 300 hX d_M_stepOne_279 (by decide) (fun c279 => absurd c279 (by decide)) (fun c279 => ?_)
      refine r_iload_n (i := 3) hX d_M_stepOne_282 rfl rfl ?_
      refine r_if_ne 300 hX d_M_stepOne_283 (by decide) (fun c283 => ?_) (fun c283 => ?_)
      · have hLe : L.isEmpty = false := by
          cases L with
          | nil => exact absurd rfl c283
          | cons a b => rfl
        rw [hLe] at hF
        have hret : mP rw (64 * v) ([] : List Rs) f := hs
        have hsz1 : upd sz v (nI (if (false : Bool) = true then [(nI 0, stOf sv v)] else ([] : List Rs)).length) = sz := upd_id hsv
        refine r_iload_n (i := 2) hX d_M_stepOne_300 rfl rfl ?_
        refine r_bipush (v := nI 21) hX d_M_stepOne_301 (by decide) ?_
        refine r_icmp_ne 333 hX d_M_stepOne_303 (by decide) (fun c303 => ?_) (fun c303 => absurd c303 (by decide))
        refine r_aload_n (i := 0) hX d_M_stepOne_333 rfl rfl ?_
        refine r_dup hX d_M_stepOne_334 rfl ?_
        refine r_get 0 15 hX d_M_stepOne_335 rfl rfl fi_M (by decide) fl_M_57 rfl rfl ?_
        refine r_iconst (v := nI 1) hX d_M_stepOne_338 (by decide) ?_
        refine r_isub hX d_M_stepOne_339 ?_
        refine r_top (pk_sub (by omega)) ?_
        refine r_put 0 15 hX d_M_stepOne_340 rfl rfl fi_M ft_M_ok fn_M (by decide) fl_M_57 rfl rfl rfl rfl rfl (Nat.le_of_ble_eq_true rfl) ?_
        exact r_vret f hX hF d_M_stepOne_343 hret rfl (by rw [Nat.add_sub_cancel, hsz1]; rfl)
      · have hLe : L = [] := List.length_eq_zero_iff.mp (nI_inj (by omega) (by decide) c283)
        have hLe2 : L.isEmpty = true := by rw [hLe]; rfl
        rw [hLe2] at hF
        refine r_aload_n (i := 0) hX d_M_stepOne_286 rfl rfl ?_
        refine r_iconst (v := nI 0) hX d_M_stepOne_287 (by decide) ?_
        refine r_aload_n (i := 0) hX d_M_stepOne_288 rfl rfl ?_
        refine r_get 0 19 hX d_M_stepOne_289 rfl rfl fi_M (by decide) fl_M_69 rfl rfl ?_
        refine r_iload hX d_M_stepOne_292 rfl ?_
        refine r_iconst (v := nI 5) hX d_M_stepOne_294 (by decide) ?_
        refine r_imul hX d_M_stepOne_295 ?_
        refine r_top (pk_mul _ _) ?_
        refine r_iald 15 0 (5 * v) hX d_M_stepOne_296 rfl rfl (by rw [Nat.mul_comm]) (by omega) (by decide) ?_
        refine r_callVwv (q0 := 0) hX d_M_stepOne_297 cw_M_stay ml_M_104 (c_M_stay (nI 0) (sv (5 * v)) v 0 hsv (by decide) (by omega)) (Or.inl rfl) rfl rfl rfl rfl (by decide) (Nat.le_of_ble_eq_true rfl) (fun _ => rfl) (fun u hu => ?_)
        have hu2 : pushM f (64 * v + 0) (nI 0, stOf sv v) u := by
          rw [show sv (5 * v) = stOf sv v 0 from rfl, stSet_self rfl] at hu
          exact hu
        refine r_iload_n (i := 2) hX d_M_stepOne_300 rfl rfl ?_
        refine r_bipush (v := nI 21) hX d_M_stepOne_301 (by decide) ?_
        refine r_icmp_ne 333 hX d_M_stepOne_303 (by decide) (fun c303 => ?_) (fun c303 => absurd c303 (by decide))
        refine r_aload_n (i := 0) hX d_M_stepOne_333 rfl rfl ?_
        refine r_dup hX d_M_stepOne_334 rfl ?_
        refine r_get 0 15 hX d_M_stepOne_335 rfl rfl fi_M (by decide) fl_M_57 rfl rfl ?_
        refine r_iconst (v := nI 1) hX d_M_stepOne_338 (by decide) ?_
        refine r_isub hX d_M_stepOne_339 ?_
        refine r_top (pk_sub (by omega)) ?_
        refine r_put 0 15 hX d_M_stepOne_340 rfl rfl fi_M ft_M_ok fn_M (by decide) fl_M_57 rfl rfl rfl rfl rfl (Nat.le_of_ble_eq_true rfl) ?_
        exact r_vret u hX hF d_M_stepOne_343 (hs.push hu2 rfl (by decide)) rfl (by rw [Nat.add_sub_cancel]; rfl)
    | cons x Q ih =>
      intro P f g hP hs hg
      have hPL : L.length = P.length + (Q.length + 1) := by rw [hP]; simp
      have hrow : gRow f (64 * (v + 1) + P.length) = x := by
        rw [hs.row (by omega)]
        exact Holds.mid (hP ▸ hL)
      have hx1 : f (6 * (64 * (v + 1) + P.length)) = x.1 := congrArg Prod.fst hrow
      have fromB : ∀ f', mP rw (64 * v) ([] : List Rs) f' → RR X 8 D A 0 0 (WM am cI cZ tl nn rs ae (v + 1) tx mf f' (upd sz v (nI ([] : List Rs).length)) nv ph tu sv) [(0, .ref (am 0)), (1, .int (nI i)), (2, .int (nI 20)), (3, .int (nI L.length)), (4, .int (nI g)), (5, .int (nI v)), (6, .int (nI P.length)), (7, .int x.1)] 250 [] := by
        intro f' hs' 
        refine r_iload hX d_M_stepOne_250 rfl ?_
        refine r_aload_n (i := 0) hX d_M_stepOne_252 rfl rfl ?_
        refine r_get 0 13 hX d_M_stepOne_253 rfl rfl fi_M (by decide) fl_M_51 rfl rfl ?_
        refine r_aload_n (i := 0) hX d_M_stepOne_256 rfl rfl ?_
        refine r_iload hX d_M_stepOne_257 rfl ?_
        refine r_callVwi (q0 := 0) hX d_M_stepOne_259 cw_M_operand ml_M_115 (c_M_operand g) (Or.inl rfl) rfl rfl rfl rfl (by decide) (Nat.le_of_ble_eq_true rfl) (fun _ => rfl) (fun _ _ => ?_)
        refine r_iald 10 0 (6 * (64 * (v + 1) + g)) hX d_M_stepOne_262 rfl rfl rfl (by omega) (by decide) ?_
        refine r_icmp_le 270 hX d_M_stepOne_263 (by decide) (fun c263 => ?_) (fun c263 => ?_)
        · have h := ih (P ++ [x]) f' g (by rw [hP]; simp) hs' (by rw [List.length_append, List.length_singleton]; omega)
          rw [show (P ++ [x]).length = P.length + 1 by simp] at h
          have hE := h
          refine r_iinc hX d_M_stepOne_270 rfl (rx_inc _) (by decide) ?_
          refine r_goto 83 hX d_M_stepOne_273 (by decide) ?_
          exact r_lv [0, 1, 2, 3, 4, 5, 6] hE
        · have h := ih (P ++ [x]) f' P.length (by rw [hP]; simp) hs' (by rw [List.length_append, List.length_singleton]; omega)
          rw [show (P ++ [x]).length = P.length + 1 by simp] at h
          have hE := h
          refine r_iload hX d_M_stepOne_266 rfl ?_
          refine r_istore hX d_M_stepOne_268 (by decide) ?_
          refine r_iinc hX d_M_stepOne_270 rfl (rx_inc _) (by decide) ?_
          refine r_goto 83 hX d_M_stepOne_273 (by decide) ?_
          exact r_lv [0, 1, 2, 3, 4, 5, 6] hE
      refine r_iload hX d_M_stepOne_83 rfl ?_
      refine r_iload_n (i := 3) hX d_M_stepOne_85 rfl rfl ?_
      refine r_icmp_ge 276 hX d_M_stepOne_86 (by decide) (fun c86 => absurd c86 (nI_ge (by omega) (by omega))) (fun c86 => ?_)
      refine r_aload_n (i := 0) hX d_M_stepOne_89 rfl rfl ?_
      refine r_get 0 13 hX d_M_stepOne_90 rfl rfl fi_M (by decide) fl_M_51 rfl rfl ?_
      refine r_aload_n (i := 0) hX d_M_stepOne_93 rfl rfl ?_
      refine r_iload hX d_M_stepOne_94 rfl ?_
      refine r_callVwi (q0 := 0) hX d_M_stepOne_96 cw_M_operand ml_M_115 (c_M_operand P.length) (Or.inl rfl) rfl rfl rfl rfl (by decide) (Nat.le_of_ble_eq_true rfl) (fun _ => rfl) (fun _ _ => ?_)
      refine r_iald 10 0 (6 * (64 * (v + 1) + P.length)) hX d_M_stepOne_99 rfl rfl rfl (by omega) (by decide) ?_
      refine r_top hx1 ?_
      have hN := fromB f hs
      refine r_istore hX d_M_stepOne_100 (by decide) ?_
      refine r_iload_n (i := 2) hX d_M_stepOne_102 rfl rfl ?_
      refine r_bipush (v := nI 8) hX d_M_stepOne_103 (by decide) ?_
      refine r_icmp_ne 164 hX d_M_stepOne_105 (by decide) (fun c105 => ?_) (fun c105 => absurd c105 (by decide))
      refine r_iload_n (i := 2) hX d_M_stepOne_164 rfl rfl ?_
      refine r_bipush (v := nI 17) hX d_M_stepOne_165 (by decide) ?_
      refine r_icmp_ne 219 hX d_M_stepOne_167 (by decide) (fun c167 => ?_) (fun c167 => absurd c167 (by decide))
      refine r_iload_n (i := 2) hX d_M_stepOne_219 rfl rfl ?_
      refine r_bipush (v := nI 18) hX d_M_stepOne_220 (by decide) ?_
      refine r_icmp_ne 250 hX d_M_stepOne_222 (by decide) (fun c222 => ?_) (fun c222 => absurd c222 (by decide))
      exact r_lv [0, 1, 2, 3, 4, 5, 6, 7] hN
  refine r_aload_n (i := 0) hX d_M_stepOne_0 rfl rfl ?_
  refine r_get 0 17 hX d_M_stepOne_1 rfl rfl fi_M (by decide) fl_M_63 rfl rfl ?_
  refine r_aload_n (i := 0) hX d_M_stepOne_4 rfl rfl ?_
  refine r_get 0 15 hX d_M_stepOne_5 rfl rfl fi_M (by decide) fl_M_57 rfl rfl ?_
  refine r_iconst (v := nI 1) hX d_M_stepOne_8 (by decide) ?_
  refine r_isub hX d_M_stepOne_9 ?_
  refine r_top (pk_sub (by omega)) ?_
  refine r_top (by rw [Nat.add_sub_cancel]) ?_
  refine r_iald 13 0 (v) hX d_M_stepOne_10 rfl rfl rfl (by omega) (by decide) ?_
  refine r_top hph ?_
  refine r_if_ne 59 hX d_M_stepOne_11 (by decide) (fun c11 => ?_) (fun c11 => absurd c11 (by decide))
  refine r_aload_n (i := 0) hX d_M_stepOne_59 rfl rfl ?_
  refine r_get 0 14 hX d_M_stepOne_60 rfl rfl fi_M (by decide) fl_M_54 rfl rfl ?_
  refine r_aload_n (i := 0) hX d_M_stepOne_63 rfl rfl ?_
  refine r_get 0 15 hX d_M_stepOne_64 rfl rfl fi_M (by decide) fl_M_57 rfl rfl ?_
  refine r_iald 11 0 (v + 1) hX d_M_stepOne_67 rfl rfl rfl (by omega) (by decide) ?_
  refine r_top hsd ?_
  refine r_istore_n (i := 3) hX d_M_stepOne_68 rfl (by decide) ?_
  refine r_iconst (v := nI 0) hX d_M_stepOne_69 (by decide) ?_
  refine r_istore hX d_M_stepOne_70 (by decide) ?_
  refine r_aload_n (i := 0) hX d_M_stepOne_72 rfl rfl ?_
  refine r_get 0 15 hX d_M_stepOne_73 rfl rfl fi_M (by decide) fl_M_57 rfl rfl ?_
  refine r_iconst (v := nI 1) hX d_M_stepOne_76 (by decide) ?_
  refine r_isub hX d_M_stepOne_77 ?_
  refine r_top (pk_sub (by omega)) ?_
  refine r_top (by rw [Nat.add_sub_cancel]) ?_
  refine r_istore hX d_M_stepOne_78 (by decide) ?_
  refine r_iconst (v := nI 0) hX d_M_stepOne_80 (by decide) ?_
  refine r_istore hX d_M_stepOne_81 (by decide) ?_
  have h := loop L [] rw 0 rfl (mP.rf (Holds.nil _ _)) (Nat.zero_le _)
  rw [show nI ([] : List Rs).length = nI 0 by simp, upd_id hsv] at h
  exact r_lv [0, 1, 2, 3, 4, 5, 6] h
set_option maxRecDepth 100000 in
set_option maxHeartbeats 4000000 in
theorem c_M_stepOne_21 (i v : Nat) (L : List Rs) (hi : i < 60) (hv : v + 1 < 8) (hph : ph v = nI 1) (hsv : sz v = nI 0) (hsd : sz (v + 1) = nI L.length) (hL : Holds rw (64 * (v + 1)) L) (hlen : L.length ≤ 64) : CT l D (tyL cI cZ cN) none y_M_stepOne b_M_stepOne 8 none 2 [.ref (am 0), .int (nI i), .int (nI 21)] (WM am cI cZ tl nn rs ae (v + 1) tx mf rw sz nv ph tu sv) (mP rw (64 * v) (mostL L)) (fun _ => none) (fun u => WM am cI cZ tl nn rs ae v tx mf u (upd sz v (nI (mostL L).length)) nv ph tu sv) := by
  refine CT.of (by decide) (Nat.le_of_ble_eq_true rfl) ?_
  intro X A hl hX hF
  have loop : ∀ (Q P : List Rs) (f : Nat → Int32) (g : Nat), L = P ++ Q → mP rw (64 * v) ([] : List Rs) f → (g ≤ P.length) → (P = [] → g = 0) → (∀ x0 T, P = x0 :: T → gRow rw (64 * (v + 1) + g) = bestL x0 T) → RR X 8 D A 0 0 (WM am cI cZ tl nn rs ae (v + 1) tx mf f (upd sz v (nI ([] : List Rs).length)) nv ph tu sv) [(0, .ref (am 0)), (1, .int (nI i)), (2, .int (nI 21)), (3, .int (nI L.length)), (4, .int (nI g)), (5, .int (nI v)), (6, .int (nI P.length))] 83 [] := by
    intro Q
    induction Q with
    | nil =>
      intro P f g hP hs hg hg0 hgb
      have hP : L = P := by rw [hP, List.append_nil]
      subst hP
      have hsz0 : upd sz v (nI ([] : List Rs).length) = sz := upd_id hsv
      rw [hsz0]
      refine r_iload hX d_M_stepOne_83 rfl ?_
      refine r_iload_n (i := 3) hX d_M_stepOne_85 rfl rfl ?_
      refine r_icmp_ge 276 hX d_M_stepOne_86 (by decide) (fun c86 => ?_) (fun c86 => absurd (nI_le (Nat.le_refl _) (by omega)) c86)
      refine r_iload_n (i := 2) hX d_M_stepOne_276 rfl rfl ?_
      refine r_bipush (v := nI 20) hX d_M_stepOne_277 (by decide) ?_
      refine r_icmp_ne 300 hX d_M_stepOne_279 (by decide) (fun c279 => ?_) (fun c279 => absurd c279 (by decide))
      refine r_iload_n (i := 2) hX d_M_stepOne_300 rfl rfl ?_
      refine r_bipush (v := nI 21) hX d_M_stepOne_301 (by decide) ?_
      refine r_icmp_ne 333 hX d_M_stepOne_303 (by decide) (fun c303 => absurd c303 (by decide)) (fun c303 => ?_)
      refine r_iload_n (i := 3) hX d_M_stepOne_306 rfl rfl ?_
      refine r_if_le 333 hX d_M_stepOne_307 (by decide) (fun c307 => ?_) (fun c307 => ?_)
      · have hLe : L = [] := List.length_eq_zero_iff.mp (by
          rcases Nat.eq_zero_or_pos L.length with h | h
          · exact h
          · exact absurd c307 (nI_nle h (by omega)))
        subst hLe
        refine r_aload_n (i := 0) hX d_M_stepOne_333 rfl rfl ?_
        refine r_dup hX d_M_stepOne_334 rfl ?_
        refine r_get 0 15 hX d_M_stepOne_335 rfl rfl fi_M (by decide) fl_M_57 rfl rfl ?_
        refine r_iconst (v := nI 1) hX d_M_stepOne_338 (by decide) ?_
        refine r_isub hX d_M_stepOne_339 ?_
        refine r_top (pk_sub (by omega)) ?_
        refine r_put 0 15 hX d_M_stepOne_340 rfl rfl fi_M ft_M_ok fn_M (by decide) fl_M_57 rfl rfl rfl rfl rfl (Nat.le_of_ble_eq_true rfl) ?_
        exact r_vret f hX hF d_M_stepOne_343 hs rfl (by rw [Nat.add_sub_cancel, show upd sz v (nI (mostL []).length) = sz from hsz0]; rfl)
      · have hMn : ∃ x0 T, L = x0 :: T := by
          cases L with
          | nil => exact absurd (by decide) c307
          | cons x Q => exact ⟨x, Q, rfl⟩
        obtain ⟨x0, T, hLe⟩ := hMn
        have hgr : gRow f (64 * (v + 1) + g) = bestL x0 T := by rw [hs.row (by omega)]; exact hgb x0 T hLe
        have hb1 : f (6 * (64 * (v + 1) + g)) = (bestL x0 T).1 := congrArg Prod.fst hgr
        rw [hLe] at hF
        refine r_aload_n (i := 0) hX d_M_stepOne_310 rfl rfl ?_
        refine r_aload_n (i := 0) hX d_M_stepOne_311 rfl rfl ?_
        refine r_get 0 13 hX d_M_stepOne_312 rfl rfl fi_M (by decide) fl_M_51 rfl rfl ?_
        refine r_aload_n (i := 0) hX d_M_stepOne_315 rfl rfl ?_
        refine r_iload hX d_M_stepOne_316 rfl ?_
        refine r_callVwi (q0 := 0) hX d_M_stepOne_318 cw_M_operand ml_M_115 (c_M_operand g) (Or.inl rfl) rfl rfl rfl rfl (by decide) (Nat.le_of_ble_eq_true rfl) (fun _ => rfl) (fun _ _ => ?_)
        refine r_iald 10 0 (6 * (64 * (v + 1) + g)) hX d_M_stepOne_321 rfl rfl rfl (by omega) (by decide) ?_
        refine r_top hb1 ?_
        refine r_aload_n (i := 0) hX d_M_stepOne_322 rfl rfl ?_
        refine r_iload hX d_M_stepOne_323 rfl ?_
        refine r_callVwi (q0 := 0) hX d_M_stepOne_325 cw_M_operand ml_M_115 (c_M_operand g) (Or.inl rfl) rfl rfl rfl rfl (by decide) (Nat.le_of_ble_eq_true rfl) (fun _ => rfl) (fun _ _ => ?_)
        refine r_iconst (v := nI 1) hX d_M_stepOne_328 (by decide) ?_
        refine r_iadd hX d_M_stepOne_329 ?_
        refine r_top (nI_add _ _) ?_
        refine r_callVwv (q0 := 0) hX d_M_stepOne_330 cw_M_give ml_M_119 (c_M_give (bestL x0 T).1 (64 * (v + 1) + g) v 0 hsv (by decide) (by omega) (by omega) (by omega)) (Or.inl rfl) rfl rfl rfl rfl (by decide) (Nat.le_of_ble_eq_true rfl) (fun _ => rfl) (fun u hu => ?_)
        have hu2 : pushM f (64 * v + 0) (bestL x0 T) u := by rw [hgr] at hu; exact hu
        refine r_aload_n (i := 0) hX d_M_stepOne_333 rfl rfl ?_
        refine r_dup hX d_M_stepOne_334 rfl ?_
        refine r_get 0 15 hX d_M_stepOne_335 rfl rfl fi_M (by decide) fl_M_57 rfl rfl ?_
        refine r_iconst (v := nI 1) hX d_M_stepOne_338 (by decide) ?_
        refine r_isub hX d_M_stepOne_339 ?_
        refine r_top (pk_sub (by omega)) ?_
        refine r_put 0 15 hX d_M_stepOne_340 rfl rfl fi_M ft_M_ok fn_M (by decide) fl_M_57 rfl rfl rfl rfl rfl (Nat.le_of_ble_eq_true rfl) ?_
        exact r_vret u hX hF d_M_stepOne_343 (hs.push hu2 rfl (by decide)) rfl (by rw [Nat.add_sub_cancel]; rfl)
    | cons x Q ih =>
      intro P f g hP hs hg hg0 hgb
      have hPL : L.length = P.length + (Q.length + 1) := by rw [hP]; simp
      have hrow : gRow f (64 * (v + 1) + P.length) = x := by
        rw [hs.row (by omega)]
        exact Holds.mid (hP ▸ hL)
      have hx1 : f (6 * (64 * (v + 1) + P.length)) = x.1 := congrArg Prod.fst hrow
      have fromB : ∀ f', mP rw (64 * v) ([] : List Rs) f' → RR X 8 D A 0 0 (WM am cI cZ tl nn rs ae (v + 1) tx mf f' (upd sz v (nI ([] : List Rs).length)) nv ph tu sv) [(0, .ref (am 0)), (1, .int (nI i)), (2, .int (nI 21)), (3, .int (nI L.length)), (4, .int (nI g)), (5, .int (nI v)), (6, .int (nI P.length)), (7, .int x.1)] 250 [] := by
        intro f' hs' 
        have hgr : f' (6 * (64 * (v + 1) + g)) = (gRow rw (64 * (v + 1) + g)).1 := congrArg Prod.fst (hs'.row (by omega))
        have hxr : gRow rw (64 * (v + 1) + P.length) = x := Holds.mid (hP ▸ hL)
        refine r_iload hX d_M_stepOne_250 rfl ?_
        refine r_aload_n (i := 0) hX d_M_stepOne_252 rfl rfl ?_
        refine r_get 0 13 hX d_M_stepOne_253 rfl rfl fi_M (by decide) fl_M_51 rfl rfl ?_
        refine r_aload_n (i := 0) hX d_M_stepOne_256 rfl rfl ?_
        refine r_iload hX d_M_stepOne_257 rfl ?_
        refine r_callVwi (q0 := 0) hX d_M_stepOne_259 cw_M_operand ml_M_115 (c_M_operand g) (Or.inl rfl) rfl rfl rfl rfl (by decide) (Nat.le_of_ble_eq_true rfl) (fun _ => rfl) (fun _ _ => ?_)
        refine r_iald 10 0 (6 * (64 * (v + 1) + g)) hX d_M_stepOne_262 rfl rfl rfl (by omega) (by decide) ?_
        refine r_top hgr ?_
        refine r_icmp_le 270 hX d_M_stepOne_263 (by decide) (fun c263 => ?_) (fun c263 => ?_)
        · have hB : ∀ x0 T, P ++ [x] = x0 :: T → gRow rw (64 * (v + 1) + g) = bestL x0 T := by
            intro x0 T q
            cases hPc : P with
            | nil =>
              rw [hPc] at q
              simp at q
              obtain ⟨q1, q2⟩ := q
              subst q2
              rw [← q1]
              show gRow rw (64 * (v + 1) + g) = x
              rw [hg0 hPc]
              rw [hPc] at hxr
              exact hxr
            | cons a T0 =>
              rw [hPc] at q
              simp at q
              obtain ⟨q1, q2⟩ := q
              rw [← q1, ← q2, bestL_snoc, ← hgb a T0 hPc]
              rw [if_neg (Int32.not_lt.mpr c263)]
          have h := ih (P ++ [x]) f' g (by rw [hP]; simp) hs' (by rw [List.length_append, List.length_singleton]; omega) (fun q => by simp at q) hB
          rw [show (P ++ [x]).length = P.length + 1 by simp] at h
          have hE := h
          refine r_iinc hX d_M_stepOne_270 rfl (rx_inc _) (by decide) ?_
          refine r_goto 83 hX d_M_stepOne_273 (by decide) ?_
          exact r_lv [0, 1, 2, 3, 4, 5, 6] hE
        · have hB : ∀ x0 T, P ++ [x] = x0 :: T → gRow rw (64 * (v + 1) + P.length) = bestL x0 T := by
            intro x0 T q
            cases hPc : P with
            | nil =>
              rw [hPc] at q
              simp at q
              obtain ⟨q1, q2⟩ := q
              subst q2
              rw [← q1]
              rw [hPc] at hxr
              exact hxr
            | cons a T0 =>
              rw [hPc] at q
              simp at q
              obtain ⟨q1, q2⟩ := q
              rw [← q1, ← q2, bestL_snoc, ← hgb a T0 hPc]
              rw [if_pos (Int32.not_le.mp c263)]
              rw [hPc] at hxr
              exact hxr
          have h := ih (P ++ [x]) f' P.length (by rw [hP]; simp) hs' (by rw [List.length_append, List.length_singleton]; omega) (fun q => by simp at q) hB
          rw [show (P ++ [x]).length = P.length + 1 by simp] at h
          have hE := h
          refine r_iload hX d_M_stepOne_266 rfl ?_
          refine r_istore hX d_M_stepOne_268 (by decide) ?_
          refine r_iinc hX d_M_stepOne_270 rfl (rx_inc _) (by decide) ?_
          refine r_goto 83 hX d_M_stepOne_273 (by decide) ?_
          exact r_lv [0, 1, 2, 3, 4, 5, 6] hE
      refine r_iload hX d_M_stepOne_83 rfl ?_
      refine r_iload_n (i := 3) hX d_M_stepOne_85 rfl rfl ?_
      refine r_icmp_ge 276 hX d_M_stepOne_86 (by decide) (fun c86 => absurd c86 (nI_ge (by omega) (by omega))) (fun c86 => ?_)
      refine r_aload_n (i := 0) hX d_M_stepOne_89 rfl rfl ?_
      refine r_get 0 13 hX d_M_stepOne_90 rfl rfl fi_M (by decide) fl_M_51 rfl rfl ?_
      refine r_aload_n (i := 0) hX d_M_stepOne_93 rfl rfl ?_
      refine r_iload hX d_M_stepOne_94 rfl ?_
      refine r_callVwi (q0 := 0) hX d_M_stepOne_96 cw_M_operand ml_M_115 (c_M_operand P.length) (Or.inl rfl) rfl rfl rfl rfl (by decide) (Nat.le_of_ble_eq_true rfl) (fun _ => rfl) (fun _ _ => ?_)
      refine r_iald 10 0 (6 * (64 * (v + 1) + P.length)) hX d_M_stepOne_99 rfl rfl rfl (by omega) (by decide) ?_
      refine r_top hx1 ?_
      have hN := fromB f hs
      refine r_istore hX d_M_stepOne_100 (by decide) ?_
      refine r_iload_n (i := 2) hX d_M_stepOne_102 rfl rfl ?_
      refine r_bipush (v := nI 8) hX d_M_stepOne_103 (by decide) ?_
      refine r_icmp_ne 164 hX d_M_stepOne_105 (by decide) (fun c105 => ?_) (fun c105 => absurd c105 (by decide))
      refine r_iload_n (i := 2) hX d_M_stepOne_164 rfl rfl ?_
      refine r_bipush (v := nI 17) hX d_M_stepOne_165 (by decide) ?_
      refine r_icmp_ne 219 hX d_M_stepOne_167 (by decide) (fun c167 => ?_) (fun c167 => absurd c167 (by decide))
      refine r_iload_n (i := 2) hX d_M_stepOne_219 rfl rfl ?_
      refine r_bipush (v := nI 18) hX d_M_stepOne_220 (by decide) ?_
      refine r_icmp_ne 250 hX d_M_stepOne_222 (by decide) (fun c222 => ?_) (fun c222 => absurd c222 (by decide))
      exact r_lv [0, 1, 2, 3, 4, 5, 6, 7] hN
  refine r_aload_n (i := 0) hX d_M_stepOne_0 rfl rfl ?_
  refine r_get 0 17 hX d_M_stepOne_1 rfl rfl fi_M (by decide) fl_M_63 rfl rfl ?_
  refine r_aload_n (i := 0) hX d_M_stepOne_4 rfl rfl ?_
  refine r_get 0 15 hX d_M_stepOne_5 rfl rfl fi_M (by decide) fl_M_57 rfl rfl ?_
  refine r_iconst (v := nI 1) hX d_M_stepOne_8 (by decide) ?_
  refine r_isub hX d_M_stepOne_9 ?_
  refine r_top (pk_sub (by omega)) ?_
  refine r_top (by rw [Nat.add_sub_cancel]) ?_
  refine r_iald 13 0 (v) hX d_M_stepOne_10 rfl rfl rfl (by omega) (by decide) ?_
  refine r_top hph ?_
  refine r_if_ne 59 hX d_M_stepOne_11 (by decide) (fun c11 => ?_) (fun c11 => absurd c11 (by decide))
  refine r_aload_n (i := 0) hX d_M_stepOne_59 rfl rfl ?_
  refine r_get 0 14 hX d_M_stepOne_60 rfl rfl fi_M (by decide) fl_M_54 rfl rfl ?_
  refine r_aload_n (i := 0) hX d_M_stepOne_63 rfl rfl ?_
  refine r_get 0 15 hX d_M_stepOne_64 rfl rfl fi_M (by decide) fl_M_57 rfl rfl ?_
  refine r_iald 11 0 (v + 1) hX d_M_stepOne_67 rfl rfl rfl (by omega) (by decide) ?_
  refine r_top hsd ?_
  refine r_istore_n (i := 3) hX d_M_stepOne_68 rfl (by decide) ?_
  refine r_iconst (v := nI 0) hX d_M_stepOne_69 (by decide) ?_
  refine r_istore hX d_M_stepOne_70 (by decide) ?_
  refine r_aload_n (i := 0) hX d_M_stepOne_72 rfl rfl ?_
  refine r_get 0 15 hX d_M_stepOne_73 rfl rfl fi_M (by decide) fl_M_57 rfl rfl ?_
  refine r_iconst (v := nI 1) hX d_M_stepOne_76 (by decide) ?_
  refine r_isub hX d_M_stepOne_77 ?_
  refine r_top (pk_sub (by omega)) ?_
  refine r_top (by rw [Nat.add_sub_cancel]) ?_
  refine r_istore hX d_M_stepOne_78 (by decide) ?_
  refine r_iconst (v := nI 0) hX d_M_stepOne_80 (by decide) ?_
  refine r_istore hX d_M_stepOne_81 (by decide) ?_
  have h := loop L [] rw 0 rfl (mP.rf (Holds.nil _ _)) (Nat.zero_le _) (fun _ => rfl) (fun x0 T q => by cases q)
  rw [show nI ([] : List Rs).length = nI 0 by simp, upd_id hsv] at h
  exact r_lv [0, 1, 2, 3, 4, 5, 6] h
end ModelF
