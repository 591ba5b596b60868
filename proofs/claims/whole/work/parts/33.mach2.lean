/-! begin, giveAll, leaf, pair. -/
theorem upd_uu (f : Nat → Int32) (k : Nat) (a b : Int32) : upd (upd f k a) k b = upd f k b := by
  funext j
  unfold upd
  split <;> rfl
theorem upd_id {f : Nat → Int32} {k : Nat} {a : Int32} (h : f k = a) : upd f k a = f := by
  funext j
  unfold upd
  split
  · rename_i e
    rw [e, h]
  · rfl
theorem pushM.row {f u : Nat → Int32} {z r : Nat} {x : Rs} (h : pushM f z x u) (hr : r ≠ z) : gRow u r = gRow f r := gRow_ext fun c hc => h.1 _ (by omega)
/-- the level at row b holds L; nothing outside it has changed -/
def mP (f : Nat → Int32) (b : Nat) (L : List Rs) (u : Nat → Int32) : Prop := (∀ j, (j < 6 * b ∨ 6 * (b + 64) ≤ j) → u j = f j) ∧ Holds u b L
theorem mP.rf {f : Nat → Int32} {b : Nat} {L : List Rs} (h : Holds f b L) : mP f b L f := ⟨fun _ _ => rfl, h⟩
theorem mP.push {f u u' : Nat → Int32} {b q : Nat} {L : List Rs} {r : Rs} (h : mP f b L u) (hp : pushM u q r u') (hq : q = b + L.length) (hl : L.length < 64) : mP f b (L ++ [r]) u' := by
  subst hq
  refine ⟨fun j hj => (hp.1 j (by omega)).trans (h.1 j hj), Holds.app (fun k hk => ?_) (Holds.one hp.2)⟩
  rw [hp.row (by omega)]
  exact h.2 k hk
theorem mP.row {f u : Nat → Int32} {b r : Nat} {L : List Rs} (h : mP f b L u) (hr : r < b ∨ b + 64 ≤ r) : gRow u r = gRow f r := gRow_ext fun c hc => h.1 _ (by omega)
theorem stSet_self {s : St} {p : Int32} (h : s 0 = p) : stSet s 0 p = s := by
  funext c
  unfold stSet
  by_cases hc : c.val = 0
  · rw [if_pos hc, ← h]
    congr 1
    exact Fin.ext hc.symm
  · rw [if_neg hc]
/-- a STATE laid at level d -/
def svP (sv : Nat → Int32) (d : Nat) (s : St) (u : Nat → Int32) : Prop := (∀ c, (c < 5 * d ∨ 5 * d + 5 ≤ c) → u c = sv c) ∧ stOf u d = s
def bgF (sv g : Nat → Int32) (d c : Nat) : Nat → Int32 := fun j => if 5 * d ≤ j ∧ j < 5 * d + c then g (j - 5 * d) else sv j
theorem bg_0 (sv g : Nat → Int32) (d : Nat) : bgF sv g d 0 = sv := by
  funext j
  unfold bgF
  rw [if_neg (by omega)]
theorem bg_lo {sv g : Nat → Int32} {d c j : Nat} (h : j < 5 * d) : bgF sv g d c j = sv j := by
  unfold bgF
  rw [if_neg (by omega)]
theorem bg_step {sv g : Nat → Int32} {d c : Nat} : upd (bgF sv g d c) (5 * d + c) (g c) = bgF sv g d (c + 1) := by
  funext j
  unfold bgF upd
  by_cases h : j = 5 * d + c
  · rw [if_pos h, if_pos (by omega)]
    congr 1
    omega
  · rw [if_neg h]
    dsimp only
    by_cases h3 : 5 * d ≤ j ∧ j < 5 * d + c
    · rw [if_pos h3, if_pos (by omega)]
    · rw [if_neg h3, if_neg (by omega)]
theorem bg_5 {sv g : Nat → Int32} {d : Nat} {s : St} (h : ∀ c : Fin 5, g c.val = s c) : svP sv d s (bgF sv g d 5) := by
  refine ⟨fun c hc => ?_, ?_⟩
  · unfold bgF
    rw [if_neg (by omega)]
  · funext c
    have hc := c.isLt
    rw [← h c]
    show bgF sv g d 5 (5 * d + c.val) = _
    unfold bgF
    rw [if_pos (by omega)]
    congr 1
    omega
theorem seekL_0 {b : Nat → Bool} {n q : Nat} : seekL b n q 0 = [] := by cases n <;> simp [seekL]
theorem run_t {b : Nat → Bool} {n p : Nat} (h : b p = true) : p < runL b (n + 1) p := by
  rw [runL_go h]
  exact runL_ge b n (p + 1)
section ModelD
variable {l : Launch} {D : va_G} {cI cZ cN : ClassId} {am : Nat → Nat} {tl nn rs ae dp : Nat} {tx rw sz nv ph tu sv : Nat → Int32} {mf : Nat → Nat → Int32}
set_option maxRecDepth 100000 in
set_option maxHeartbeats 4000000 in
theorem c_M_begin_up (x : Int32) (d : Nat) (hd1 : 1 ≤ d) (hd8 : d < 8) : CT l D (tyL cI cZ cN) none y_M_begin b_M_begin 5 none 0 [.ref (am 0), .int x, .int (-1)] (WM am cI cZ tl nn rs ae d tx mf rw sz nv ph tu sv) (svP sv d (stOf sv (d - 1))) (fun _ => none) (fun u => WM am cI cZ tl nn rs ae (d + 1) tx mf rw (upd sz d (nI 0)) (upd nv d x) (upd ph d (nI 0)) tu u) := by
  refine CT.of (by decide) (Nat.le_of_ble_eq_true rfl) ?_
  intro X A hl hX hF
  have loop : ∀ n c, c + n = 5 → RR X 5 D A 0 0 (WM am cI cZ tl nn rs ae d tx mf rw (upd sz d (nI 0)) (upd nv d x) (upd ph d (nI 0)) tu (bgF sv (fun c => sv (5 * (d - 1) + c)) d c)) [(0, .ref (am 0)), (2, .int (-1)), (3, .int (nI d)), (4, .int (nI c))] 29 [] := by
    intro n
    induction n with
    | zero =>
      intro c hc
      have hc : c = 5 := by omega
      subst hc
      refine r_iload hX d_M_begin_29 rfl ?_
      refine r_iconst (v := nI 5) hX d_M_begin_31 (by decide) ?_
      refine r_icmp_ge 89 hX d_M_begin_32 (by decide) (fun c32 => ?_) (fun c32 => absurd c32 (by decide))
      refine r_aload_n (i := 0) hX d_M_begin_89 rfl rfl ?_
      refine r_dup hX d_M_begin_90 rfl ?_
      refine r_get 0 15 hX d_M_begin_91 rfl rfl fi_M (by decide) fl_M_57 rfl rfl ?_
      refine r_iconst (v := nI 1) hX d_M_begin_94 (by decide) ?_
      refine r_iadd hX d_M_begin_95 ?_
      refine r_top (nI_add _ _) ?_
      refine r_put 0 15 hX d_M_begin_96 rfl rfl fi_M ft_M_ok fn_M (by decide) fl_M_57 rfl rfl rfl rfl rfl (Nat.le_of_ble_eq_true rfl) ?_
      exact r_vret (bgF sv (fun c => sv (5 * (d - 1) + c)) d 5) hX hF d_M_begin_99 (bg_5 fun c => rfl) rfl rfl
    | succ n ih =>
      intro c hc
      refine r_iload hX d_M_begin_29 rfl ?_
      refine r_iconst (v := nI 5) hX d_M_begin_31 (by decide) ?_
      refine r_icmp_ge 89 hX d_M_begin_32 (by decide) (fun c32 => absurd c32 (nI_ge (a := c) (b := 5) (by omega) (by decide))) (fun c32 => ?_)
      refine r_aload_n (i := 0) hX d_M_begin_35 rfl rfl ?_
      refine r_get 0 19 hX d_M_begin_36 rfl rfl fi_M (by decide) fl_M_69 rfl rfl ?_
      refine r_iload_n (i := 3) hX d_M_begin_39 rfl rfl ?_
      refine r_iconst (v := nI 5) hX d_M_begin_40 (by decide) ?_
      refine r_imul hX d_M_begin_41 ?_
      refine r_top (pk_mul _ _) ?_
      refine r_iload hX d_M_begin_42 rfl ?_
      refine r_iadd hX d_M_begin_44 ?_
      refine r_top (nI_add _ _) ?_
      refine r_iload_n (i := 2) hX d_M_begin_45 rfl rfl ?_
      refine r_if_lt 61 hX d_M_begin_46 (by decide) (fun c46 => ?_) (fun c46 => absurd (by decide) c46)
      refine r_iload_n (i := 3) hX d_M_begin_61 rfl rfl ?_
      refine r_if_le 81 hX d_M_begin_62 (by decide) (fun c62 => absurd c62 (nI_nle (by omega) (by omega))) (fun c62 => ?_)
      refine r_aload_n (i := 0) hX d_M_begin_65 rfl rfl ?_
      refine r_get 0 19 hX d_M_begin_66 rfl rfl fi_M (by decide) fl_M_69 rfl rfl ?_
      refine r_iload_n (i := 3) hX d_M_begin_69 rfl rfl ?_
      refine r_iconst (v := nI 5) hX d_M_begin_70 (by decide) ?_
      refine r_imul hX d_M_begin_71 ?_
      refine r_top (pk_mul _ _) ?_
      refine r_iconst (v := nI 5) hX d_M_begin_72 (by decide) ?_
      refine r_isub hX d_M_begin_73 ?_
      refine r_top (pk_sub (by omega)) ?_
      refine r_iload hX d_M_begin_74 rfl ?_
      refine r_iadd hX d_M_begin_76 ?_
      refine r_top (nI_add _ _) ?_
      refine r_iald 15 0 (d * 5 - 5 + c) hX d_M_begin_77 rfl rfl rfl (by omega) (by decide) ?_
      refine r_top (y := sv (5 * (d - 1) + c)) (by rw [bg_lo (by omega)]; congr 1; omega) ?_
      refine r_goto 82 hX d_M_begin_78 (by decide) ?_
      refine r_iast 15 0 (5 * d + c) hX d_M_begin_82 rfl rfl (by rw [Nat.mul_comm]) (by omega) (by decide) ?_
      refine r_ws (ws' := WM am cI cZ tl nn rs ae d tx mf rw (upd sz d (nI 0)) (upd nv d x) (upd ph d (nI 0)) tu (bgF sv (fun c => sv (5 * (d - 1) + c)) d (c + 1))) (by rw [← bg_step]; rfl) ?_
      refine r_iinc hX d_M_begin_83 rfl (rx_inc _) (by decide) ?_
      refine r_goto 29 hX d_M_begin_86 (by decide) ?_
      exact r_lv [0, 2, 3, 4] (ih (c + 1) (by omega))
  refine r_aload_n (i := 0) hX d_M_begin_0 rfl rfl ?_
  refine r_get 0 15 hX d_M_begin_1 rfl rfl fi_M (by decide) fl_M_57 rfl rfl ?_
  refine r_istore_n (i := 3) hX d_M_begin_4 rfl (by decide) ?_
  refine r_aload_n (i := 0) hX d_M_begin_5 rfl rfl ?_
  refine r_get 0 16 hX d_M_begin_6 rfl rfl fi_M (by decide) fl_M_60 rfl rfl ?_
  refine r_iload_n (i := 3) hX d_M_begin_9 rfl rfl ?_
  refine r_iload_n (i := 1) hX d_M_begin_10 rfl rfl ?_
  refine r_iast 12 0 (d) hX d_M_begin_11 rfl rfl rfl (by omega) (by decide) ?_
  refine r_aload_n (i := 0) hX d_M_begin_12 rfl rfl ?_
  refine r_get 0 17 hX d_M_begin_13 rfl rfl fi_M (by decide) fl_M_63 rfl rfl ?_
  refine r_iload_n (i := 3) hX d_M_begin_16 rfl rfl ?_
  refine r_iconst (v := nI 0) hX d_M_begin_17 (by decide) ?_
  refine r_iast 13 0 (d) hX d_M_begin_18 rfl rfl rfl (by omega) (by decide) ?_
  refine r_aload_n (i := 0) hX d_M_begin_19 rfl rfl ?_
  refine r_get 0 14 hX d_M_begin_20 rfl rfl fi_M (by decide) fl_M_54 rfl rfl ?_
  refine r_iload_n (i := 3) hX d_M_begin_23 rfl rfl ?_
  refine r_iconst (v := nI 0) hX d_M_begin_24 (by decide) ?_
  refine r_iast 11 0 (d) hX d_M_begin_25 rfl rfl rfl (by omega) (by decide) ?_
  refine r_ws (ws' := WM am cI cZ tl nn rs ae d tx mf rw (upd sz d (nI 0)) (upd nv d x) (upd ph d (nI 0)) tu (bgF sv (fun c => sv (5 * (d - 1) + c)) d 0)) (by rw [bg_0]; rfl) ?_
  refine r_iconst (v := nI 0) hX d_M_begin_26 (by decide) ?_
  refine r_istore hX d_M_begin_27 (by decide) ?_
  exact r_lv [0, 2, 3, 4] (loop 5 0 (by omega))
set_option maxRecDepth 100000 in
set_option maxHeartbeats 4000000 in
theorem c_M_begin_zero (x : Int32) (d : Nat) (hd1 : d = 0) (hd8 : d < 8) : CT l D (tyL cI cZ cN) none y_M_begin b_M_begin 5 none 0 [.ref (am 0), .int x, .int (-1)] (WM am cI cZ tl nn rs ae d tx mf rw sz nv ph tu sv) (svP sv d (st0)) (fun _ => none) (fun u => WM am cI cZ tl nn rs ae (d + 1) tx mf rw (upd sz d (nI 0)) (upd nv d x) (upd ph d (nI 0)) tu u) := by
  refine CT.of (by decide) (Nat.le_of_ble_eq_true rfl) ?_
  intro X A hl hX hF
  have loop : ∀ n c, c + n = 5 → RR X 5 D A 0 0 (WM am cI cZ tl nn rs ae d tx mf rw (upd sz d (nI 0)) (upd nv d x) (upd ph d (nI 0)) tu (bgF sv (fun _ => 0) d c)) [(0, .ref (am 0)), (2, .int (-1)), (3, .int (nI d)), (4, .int (nI c))] 29 [] := by
    intro n
    induction n with
    | zero =>
      intro c hc
      have hc : c = 5 := by omega
      subst hc
      refine r_iload hX d_M_begin_29 rfl ?_
      refine r_iconst (v := nI 5) hX d_M_begin_31 (by decide) ?_
      refine r_icmp_ge 89 hX d_M_begin_32 (by decide) (fun c32 => ?_) (fun c32 => absurd c32 (by decide))
      refine r_aload_n (i := 0) hX d_M_begin_89 rfl rfl ?_
      refine r_dup hX d_M_begin_90 rfl ?_
      refine r_get 0 15 hX d_M_begin_91 rfl rfl fi_M (by decide) fl_M_57 rfl rfl ?_
      refine r_iconst (v := nI 1) hX d_M_begin_94 (by decide) ?_
      refine r_iadd hX d_M_begin_95 ?_
      refine r_top (nI_add _ _) ?_
      refine r_put 0 15 hX d_M_begin_96 rfl rfl fi_M ft_M_ok fn_M (by decide) fl_M_57 rfl rfl rfl rfl rfl (Nat.le_of_ble_eq_true rfl) ?_
      exact r_vret (bgF sv (fun _ => 0) d 5) hX hF d_M_begin_99 (bg_5 fun c => rfl) rfl rfl
    | succ n ih =>
      intro c hc
      refine r_iload hX d_M_begin_29 rfl ?_
      refine r_iconst (v := nI 5) hX d_M_begin_31 (by decide) ?_
      refine r_icmp_ge 89 hX d_M_begin_32 (by decide) (fun c32 => absurd c32 (nI_ge (a := c) (b := 5) (by omega) (by decide))) (fun c32 => ?_)
      refine r_aload_n (i := 0) hX d_M_begin_35 rfl rfl ?_
      refine r_get 0 19 hX d_M_begin_36 rfl rfl fi_M (by decide) fl_M_69 rfl rfl ?_
      refine r_iload_n (i := 3) hX d_M_begin_39 rfl rfl ?_
      refine r_iconst (v := nI 5) hX d_M_begin_40 (by decide) ?_
      refine r_imul hX d_M_begin_41 ?_
      refine r_top (pk_mul _ _) ?_
      refine r_iload hX d_M_begin_42 rfl ?_
      refine r_iadd hX d_M_begin_44 ?_
      refine r_top (nI_add _ _) ?_
      refine r_iload_n (i := 2) hX d_M_begin_45 rfl rfl ?_
      refine r_if_lt 61 hX d_M_begin_46 (by decide) (fun c46 => ?_) (fun c46 => absurd (by decide) c46)
      refine r_iload_n (i := 3) hX d_M_begin_61 rfl rfl ?_
      refine r_if_le 81 hX d_M_begin_62 (by decide) (fun c62 => ?_) (fun c62 => absurd (by rw [hd1]; decide) c62)
      refine r_iconst (v := nI 0) hX d_M_begin_81 (by decide) ?_
      refine r_iast 15 0 (5 * d + c) hX d_M_begin_82 rfl rfl (by rw [Nat.mul_comm]) (by omega) (by decide) ?_
      refine r_ws (ws' := WM am cI cZ tl nn rs ae d tx mf rw (upd sz d (nI 0)) (upd nv d x) (upd ph d (nI 0)) tu (bgF sv (fun _ => 0) d (c + 1))) (by rw [← bg_step]; rfl) ?_
      refine r_iinc hX d_M_begin_83 rfl (rx_inc _) (by decide) ?_
      refine r_goto 29 hX d_M_begin_86 (by decide) ?_
      exact r_lv [0, 2, 3, 4] (ih (c + 1) (by omega))
  refine r_aload_n (i := 0) hX d_M_begin_0 rfl rfl ?_
  refine r_get 0 15 hX d_M_begin_1 rfl rfl fi_M (by decide) fl_M_57 rfl rfl ?_
  refine r_istore_n (i := 3) hX d_M_begin_4 rfl (by decide) ?_
  refine r_aload_n (i := 0) hX d_M_begin_5 rfl rfl ?_
  refine r_get 0 16 hX d_M_begin_6 rfl rfl fi_M (by decide) fl_M_60 rfl rfl ?_
  refine r_iload_n (i := 3) hX d_M_begin_9 rfl rfl ?_
  refine r_iload_n (i := 1) hX d_M_begin_10 rfl rfl ?_
  refine r_iast 12 0 (d) hX d_M_begin_11 rfl rfl rfl (by omega) (by decide) ?_
  refine r_aload_n (i := 0) hX d_M_begin_12 rfl rfl ?_
  refine r_get 0 17 hX d_M_begin_13 rfl rfl fi_M (by decide) fl_M_63 rfl rfl ?_
  refine r_iload_n (i := 3) hX d_M_begin_16 rfl rfl ?_
  refine r_iconst (v := nI 0) hX d_M_begin_17 (by decide) ?_
  refine r_iast 13 0 (d) hX d_M_begin_18 rfl rfl rfl (by omega) (by decide) ?_
  refine r_aload_n (i := 0) hX d_M_begin_19 rfl rfl ?_
  refine r_get 0 14 hX d_M_begin_20 rfl rfl fi_M (by decide) fl_M_54 rfl rfl ?_
  refine r_iload_n (i := 3) hX d_M_begin_23 rfl rfl ?_
  refine r_iconst (v := nI 0) hX d_M_begin_24 (by decide) ?_
  refine r_iast 11 0 (d) hX d_M_begin_25 rfl rfl rfl (by omega) (by decide) ?_
  refine r_ws (ws' := WM am cI cZ tl nn rs ae d tx mf rw (upd sz d (nI 0)) (upd nv d x) (upd ph d (nI 0)) tu (bgF sv (fun _ => 0) d 0)) (by rw [bg_0]; rfl) ?_
  refine r_iconst (v := nI 0) hX d_M_begin_26 (by decide) ?_
  refine r_istore hX d_M_begin_27 (by decide) ?_
  exact r_lv [0, 2, 3, 4] (loop 5 0 (by omega))
set_option maxRecDepth 100000 in
set_option maxHeartbeats 4000000 in
theorem c_M_begin_row (x : Int32) (d : Nat) (q : Nat) (hq : q < 1088) (hd8 : d < 8) : CT l D (tyL cI cZ cN) none y_M_begin b_M_begin 5 none 0 [.ref (am 0), .int x, .int (nI (6 * q + 1))] (WM am cI cZ tl nn rs ae d tx mf rw sz nv ph tu sv) (svP sv d ((gRow rw q).2)) (fun _ => none) (fun u => WM am cI cZ tl nn rs ae (d + 1) tx mf rw (upd sz d (nI 0)) (upd nv d x) (upd ph d (nI 0)) tu u) := by
  refine CT.of (by decide) (Nat.le_of_ble_eq_true rfl) ?_
  intro X A hl hX hF
  have loop : ∀ n c, c + n = 5 → RR X 5 D A 0 0 (WM am cI cZ tl nn rs ae d tx mf rw (upd sz d (nI 0)) (upd nv d x) (upd ph d (nI 0)) tu (bgF sv (fun c => rw (6 * q + 1 + c)) d c)) [(0, .ref (am 0)), (2, .int (nI (6 * q + 1))), (3, .int (nI d)), (4, .int (nI c))] 29 [] := by
    intro n
    induction n with
    | zero =>
      intro c hc
      have hc : c = 5 := by omega
      subst hc
      refine r_iload hX d_M_begin_29 rfl ?_
      refine r_iconst (v := nI 5) hX d_M_begin_31 (by decide) ?_
      refine r_icmp_ge 89 hX d_M_begin_32 (by decide) (fun c32 => ?_) (fun c32 => absurd c32 (by decide))
      refine r_aload_n (i := 0) hX d_M_begin_89 rfl rfl ?_
      refine r_dup hX d_M_begin_90 rfl ?_
      refine r_get 0 15 hX d_M_begin_91 rfl rfl fi_M (by decide) fl_M_57 rfl rfl ?_
      refine r_iconst (v := nI 1) hX d_M_begin_94 (by decide) ?_
      refine r_iadd hX d_M_begin_95 ?_
      refine r_top (nI_add _ _) ?_
      refine r_put 0 15 hX d_M_begin_96 rfl rfl fi_M ft_M_ok fn_M (by decide) fl_M_57 rfl rfl rfl rfl rfl (Nat.le_of_ble_eq_true rfl) ?_
      exact r_vret (bgF sv (fun c => rw (6 * q + 1 + c)) d 5) hX hF d_M_begin_99 (bg_5 fun c => rfl) rfl rfl
    | succ n ih =>
      intro c hc
      refine r_iload hX d_M_begin_29 rfl ?_
      refine r_iconst (v := nI 5) hX d_M_begin_31 (by decide) ?_
      refine r_icmp_ge 89 hX d_M_begin_32 (by decide) (fun c32 => absurd c32 (nI_ge (a := c) (b := 5) (by omega) (by decide))) (fun c32 => ?_)
      refine r_aload_n (i := 0) hX d_M_begin_35 rfl rfl ?_
      refine r_get 0 19 hX d_M_begin_36 rfl rfl fi_M (by decide) fl_M_69 rfl rfl ?_
      refine r_iload_n (i := 3) hX d_M_begin_39 rfl rfl ?_
      refine r_iconst (v := nI 5) hX d_M_begin_40 (by decide) ?_
      refine r_imul hX d_M_begin_41 ?_
      refine r_top (pk_mul _ _) ?_
      refine r_iload hX d_M_begin_42 rfl ?_
      refine r_iadd hX d_M_begin_44 ?_
      refine r_top (nI_add _ _) ?_
      refine r_iload_n (i := 2) hX d_M_begin_45 rfl rfl ?_
      refine r_if_lt 61 hX d_M_begin_46 (by decide) (fun c46 => absurd c46 (nI_pos (by omega))) (fun c46 => ?_)
      refine r_aload_n (i := 0) hX d_M_begin_49 rfl rfl ?_
      refine r_get 0 13 hX d_M_begin_50 rfl rfl fi_M (by decide) fl_M_51 rfl rfl ?_
      refine r_iload_n (i := 2) hX d_M_begin_53 rfl rfl ?_
      refine r_iload hX d_M_begin_54 rfl ?_
      refine r_iadd hX d_M_begin_56 ?_
      refine r_top (nI_add _ _) ?_
      refine r_iald 10 0 (6 * q + 1 + c) hX d_M_begin_57 rfl rfl rfl (by omega) (by decide) ?_
      refine r_goto 82 hX d_M_begin_58 (by decide) ?_
      refine r_iast 15 0 (5 * d + c) hX d_M_begin_82 rfl rfl (by rw [Nat.mul_comm]) (by omega) (by decide) ?_
      refine r_ws (ws' := WM am cI cZ tl nn rs ae d tx mf rw (upd sz d (nI 0)) (upd nv d x) (upd ph d (nI 0)) tu (bgF sv (fun c => rw (6 * q + 1 + c)) d (c + 1))) (by rw [← bg_step]; rfl) ?_
      refine r_iinc hX d_M_begin_83 rfl (rx_inc _) (by decide) ?_
      refine r_goto 29 hX d_M_begin_86 (by decide) ?_
      exact r_lv [0, 2, 3, 4] (ih (c + 1) (by omega))
  refine r_aload_n (i := 0) hX d_M_begin_0 rfl rfl ?_
  refine r_get 0 15 hX d_M_begin_1 rfl rfl fi_M (by decide) fl_M_57 rfl rfl ?_
  refine r_istore_n (i := 3) hX d_M_begin_4 rfl (by decide) ?_
  refine r_aload_n (i := 0) hX d_M_begin_5 rfl rfl ?_
  refine r_get 0 16 hX d_M_begin_6 rfl rfl fi_M (by decide) fl_M_60 rfl rfl ?_
  refine r_iload_n (i := 3) hX d_M_begin_9 rfl rfl ?_
  refine r_iload_n (i := 1) hX d_M_begin_10 rfl rfl ?_
  refine r_iast 12 0 (d) hX d_M_begin_11 rfl rfl rfl (by omega) (by decide) ?_
  refine r_aload_n (i := 0) hX d_M_begin_12 rfl rfl ?_
  refine r_get 0 17 hX d_M_begin_13 rfl rfl fi_M (by decide) fl_M_63 rfl rfl ?_
  refine r_iload_n (i := 3) hX d_M_begin_16 rfl rfl ?_
  refine r_iconst (v := nI 0) hX d_M_begin_17 (by decide) ?_
  refine r_iast 13 0 (d) hX d_M_begin_18 rfl rfl rfl (by omega) (by decide) ?_
  refine r_aload_n (i := 0) hX d_M_begin_19 rfl rfl ?_
  refine r_get 0 14 hX d_M_begin_20 rfl rfl fi_M (by decide) fl_M_54 rfl rfl ?_
  refine r_iload_n (i := 3) hX d_M_begin_23 rfl rfl ?_
  refine r_iconst (v := nI 0) hX d_M_begin_24 (by decide) ?_
  refine r_iast 11 0 (d) hX d_M_begin_25 rfl rfl rfl (by omega) (by decide) ?_
  refine r_ws (ws' := WM am cI cZ tl nn rs ae d tx mf rw (upd sz d (nI 0)) (upd nv d x) (upd ph d (nI 0)) tu (bgF sv (fun c => rw (6 * q + 1 + c)) d 0)) (by rw [bg_0]; rfl) ?_
  refine r_iconst (v := nI 0) hX d_M_begin_26 (by decide) ?_
  refine r_istore hX d_M_begin_27 (by decide) ?_
  exact r_lv [0, 2, 3, 4] (loop 5 0 (by omega))
set_option maxRecDepth 100000 in
set_option maxHeartbeats 4000000 in
theorem c_M_giveAll (v : Nat) (K L : List Rs) (hv : v + 1 < 8) (hsv : sz v = nI K.length) (hsd : sz (v + 1) = nI L.length) (hK : Holds rw (64 * v) K) (hL : Holds rw (64 * (v + 1)) L) (hlen : K.length + L.length ≤ 64) : CT l D (tyL cI cZ cN) none y_M_giveAll b_M_giveAll 2 none 1 [.ref (am 0)] (WM am cI cZ tl nn rs ae (v + 1) tx mf rw sz nv ph tu sv) (mP rw (64 * v) (K ++ L)) (fun _ => none) (fun u => WM am cI cZ tl nn rs ae (v + 1) tx mf u (upd sz v (nI (K ++ L).length)) nv ph tu sv) := by
  refine CT.of (by decide) (Nat.le_of_ble_eq_true rfl) ?_
  intro X A hl hX hF
  have loop : ∀ (Q P : List Rs) (f : Nat → Int32), L = P ++ Q → mP rw (64 * v) (K ++ P) f → RR X 2 D A 0 0 (WM am cI cZ tl nn rs ae (v + 1) tx mf f (upd sz v (nI (K ++ P).length)) nv ph tu sv) [(0, .ref (am 0)), (1, .int (nI P.length))] 2 [] := by
    intro Q
    induction Q with
    | nil =>
      intro P f hP hs
      have hP : L = P := by rw [hP, List.append_nil]
      subst hP
      refine r_iload_n (i := 1) hX d_M_giveAll_2 rfl rfl ?_
      refine r_aload_n (i := 0) hX d_M_giveAll_3 rfl rfl ?_
      refine r_get 0 14 hX d_M_giveAll_4 rfl rfl fi_M (by decide) fl_M_54 rfl rfl ?_
      refine r_aload_n (i := 0) hX d_M_giveAll_7 rfl rfl ?_
      refine r_get 0 15 hX d_M_giveAll_8 rfl rfl fi_M (by decide) fl_M_57 rfl rfl ?_
      refine r_iald 11 0 (v + 1) hX d_M_giveAll_11 rfl rfl rfl (by omega) (by decide) ?_
      refine r_top ((pk_un (by omega)).trans hsd) ?_
      refine r_icmp_ge 42 hX d_M_giveAll_12 (by decide) (fun c12 => ?_) (fun c12 => absurd (nI_le (Nat.le_refl _) (by omega)) c12)
      exact r_vret f hX hF d_M_giveAll_42 hs rfl rfl
    | cons x Q ih =>
      intro P f hP hs
      have hPL : L.length = P.length + (Q.length + 1) := by rw [hP]; simp
      have hKP : (K ++ P).length = K.length + P.length := List.length_append
      have hrow : gRow f (64 * (v + 1) + P.length) = x := by
        rw [hs.row (by omega)]
        exact Holds.mid (hP ▸ hL)
      have hx1 : f (6 * (64 * (v + 1) + P.length)) = x.1 := congrArg Prod.fst hrow
      refine r_iload_n (i := 1) hX d_M_giveAll_2 rfl rfl ?_
      refine r_aload_n (i := 0) hX d_M_giveAll_3 rfl rfl ?_
      refine r_get 0 14 hX d_M_giveAll_4 rfl rfl fi_M (by decide) fl_M_54 rfl rfl ?_
      refine r_aload_n (i := 0) hX d_M_giveAll_7 rfl rfl ?_
      refine r_get 0 15 hX d_M_giveAll_8 rfl rfl fi_M (by decide) fl_M_57 rfl rfl ?_
      refine r_iald 11 0 (v + 1) hX d_M_giveAll_11 rfl rfl rfl (by omega) (by decide) ?_
      refine r_top ((pk_un (by omega)).trans hsd) ?_
      refine r_icmp_ge 42 hX d_M_giveAll_12 (by decide) (fun c12 => absurd c12 (nI_ge (by omega) (by omega))) (fun c12 => ?_)
      refine r_aload_n (i := 0) hX d_M_giveAll_15 rfl rfl ?_
      refine r_aload_n (i := 0) hX d_M_giveAll_16 rfl rfl ?_
      refine r_get 0 13 hX d_M_giveAll_17 rfl rfl fi_M (by decide) fl_M_51 rfl rfl ?_
      refine r_aload_n (i := 0) hX d_M_giveAll_20 rfl rfl ?_
      refine r_iload_n (i := 1) hX d_M_giveAll_21 rfl rfl ?_
      refine r_callVwi (q0 := 0) hX d_M_giveAll_22 cw_M_operand ml_M_115 (c_M_operand P.length) (Or.inl rfl) rfl rfl rfl rfl (by decide) (Nat.le_of_ble_eq_true rfl) (fun _ => rfl) (fun _ _ => ?_)
      refine r_iald 10 0 (6 * (64 * (v + 1) + P.length)) hX d_M_giveAll_25 rfl rfl rfl (by omega) (by decide) ?_
      refine r_top hx1 ?_
      refine r_aload_n (i := 0) hX d_M_giveAll_26 rfl rfl ?_
      refine r_iload_n (i := 1) hX d_M_giveAll_27 rfl rfl ?_
      refine r_callVwi (q0 := 0) hX d_M_giveAll_28 cw_M_operand ml_M_115 (c_M_operand P.length) (Or.inl rfl) rfl rfl rfl rfl (by decide) (Nat.le_of_ble_eq_true rfl) (fun _ => rfl) (fun _ _ => ?_)
      refine r_iconst (v := nI 1) hX d_M_giveAll_31 (by decide) ?_
      refine r_iadd hX d_M_giveAll_32 ?_
      refine r_top (nI_add _ _) ?_
      refine r_callVwv (q0 := 0) hX d_M_giveAll_33 cw_M_give ml_M_119 (c_M_give x.1 (64 * (v + 1) + P.length) v (K ++ P).length pk_us (by omega) (by omega) (by omega) (by omega)) (Or.inl rfl) rfl rfl rfl rfl (by decide) (Nat.le_of_ble_eq_true rfl) (fun _ => rfl) (fun g hg => ?_)
      refine r_iinc hX d_M_giveAll_36 rfl (rx_inc _) (by decide) ?_
      refine r_goto 2 hX d_M_giveAll_39 (by decide) ?_
      have hg2 : pushM f (64 * v + (K ++ P).length) x g := by
        rw [hrow] at hg
        exact hg
      have h := ih (P ++ [x]) g (by rw [hP]; simp) (by rw [← List.append_assoc]; exact hs.push hg2 rfl (by omega))
      rw [show (K ++ (P ++ [x])).length = (K ++ P).length + 1 by simp; omega, show (P ++ [x]).length = P.length + 1 by simp, ← upd_uu sz v (nI (K ++ P).length)] at h
      exact r_lv [0, 1] h
  refine r_iconst (v := nI 0) hX d_M_giveAll_0 (by decide) ?_
  refine r_istore_n (i := 1) hX d_M_giveAll_1 rfl (by decide) ?_
  have h := loop L [] rw rfl (by rw [List.append_nil]; exact mP.rf hK)
  rw [List.append_nil, upd_id hsv] at h
  exact r_lv [0, 1] h
set_option maxRecDepth 100000 in
set_option maxHeartbeats 4000000 in
theorem c_M_leaf (n i k p v : Nat) (s : St) (hi : i < 60) (hkk : kN mf i = k) (hkd : mf 0 i = nI k) (hk : k < 8) (hpl : plainF k (mf 1 i) = true) (hv : v < 8) (hsz : sz v = nI 0) (hst : stOf sv v = s) (hp : s 0 = nI p) (hpt : p ≤ tl) (ht : tl ≤ 24) : CT l D (tyL cI cZ cN) none y_M_leaf b_M_leaf 8 none 2 [.ref (am 0), .int (nI i), .int (nI p)] (WM am cI cZ tl nn rs ae (v + 1) tx mf rw sz nv ph tu sv) (mP rw (64 * v) (ev tl tx (ndOf mf) (n + 1) i s)) (fun _ => none) (fun u => WM am cI cZ tl nn rs ae (v + 1) tx mf u (upd sz v (nI (ev tl tx (ndOf mf) (n + 1) i s).length)) nv ph tu sv) := by
  refine CT.of (by decide) (Nat.le_of_ble_eq_true rfl) ?_
  intro X A hl hX hF
  have hpp : stPl s = p := by unfold stPl; rw [hp]; exact nI_clamp (by omega)
  have hNa : (ndOf mf).2.1 i = mf 1 i := rfl
  have one : ∀ (x : Int32) (q : Int32) (u : Nat → Int32), ev tl tx (ndOf mf) (n + 1) i s = [(x, stSet s 0 q)] → pushM rw (64 * v + 0) (x, stSet (stOf sv v) 0 q) u → RR X 8 D A 0 0 (WM am cI cZ tl nn rs ae (v + 1) tx mf u (upd sz v (nI (0 + 1))) nv ph tu sv) [] 274 [] := by
    intro x q u he hu
    rw [he] at hF
    rw [hst] at hu
    exact r_vret u hX hF d_M_leaf_274 ((mP.rf (Holds.nil _ _)).push hu rfl (by decide)) rfl rfl
  have emp : ev tl tx (ndOf mf) (n + 1) i s = [] → RR X 8 D A 0 0 (WM am cI cZ tl nn rs ae (v + 1) tx mf rw sz nv ph tu sv) [] 274 [] := by
    intro he
    rw [he] at hF
    exact r_vret rw hX hF d_M_leaf_274 (mP.rf (Holds.nil _ _)) rfl (by rw [show nI ([] : List Rs).length = nI 0 from rfl, upd_id hsz])
  have hk8 : k = 0 ∨ k = 1 ∨ k = 2 ∨ k = 3 ∨ k = 4 ∨ k = 5 ∨ k = 6 ∨ k = 7 := by omega
  rcases hk8 with rfl | rfl | rfl | rfl | rfl | rfl | rfl | rfl
  · skip
    refine r_aload_n (i := 0) hX d_M_leaf_0 rfl rfl ?_
    refine r_get 0 5 hX d_M_leaf_1 rfl rfl fi_M (by decide) fl_M_26 rfl rfl ?_
    refine r_iload_n (i := 1) hX d_M_leaf_4 rfl rfl ?_
    refine r_iald 2 0 (i) hX d_M_leaf_5 rfl rfl rfl (by omega) (by decide) ?_
    refine r_top hkd ?_
    refine r_istore_n (i := 3) hX d_M_leaf_6 rfl (by decide) ?_
    refine r_aload_n (i := 0) hX d_M_leaf_7 rfl rfl ?_
    refine r_get 0 6 hX d_M_leaf_8 rfl rfl fi_M (by decide) fl_M_29 rfl rfl ?_
    refine r_iload_n (i := 1) hX d_M_leaf_11 rfl rfl ?_
    refine r_iald 3 0 (i) hX d_M_leaf_12 rfl rfl rfl (by omega) (by decide) ?_
    refine r_istore hX d_M_leaf_13 (by decide) ?_
    refine r_iload_n (i := 3) hX d_M_leaf_15 rfl rfl ?_
    refine r_if_ne 26 hX d_M_leaf_16 (by decide) (fun c16 => absurd c16 (by decide)) (fun c16 => ?_)
    refine r_aload_n (i := 0) hX d_M_leaf_19 rfl rfl ?_
    refine r_iload hX d_M_leaf_20 rfl ?_
    refine r_iload_n (i := 2) hX d_M_leaf_22 rfl rfl ?_
    refine r_callVwv (q0 := 0) hX d_M_leaf_23 cw_M_stay ml_M_104 (c_M_stay (mf 1 i) (nI p) v 0 hsz (by decide) hv) (Or.inl rfl) rfl rfl rfl rfl (by decide) (Nat.le_of_ble_eq_true rfl) (fun _ => rfl) (fun u hu => ?_)
    refine r_iload_n (i := 3) hX d_M_leaf_26 rfl rfl ?_
    refine r_iconst (v := nI 1) hX d_M_leaf_27 (by decide) ?_
    refine r_icmp_ne 54 hX d_M_leaf_28 (by decide) (fun c28 => ?_) (fun c28 => absurd c28 (by decide))
    refine r_iload_n (i := 3) hX d_M_leaf_54 rfl rfl ?_
    refine r_iconst (v := nI 2) hX d_M_leaf_55 (by decide) ?_
    refine r_icmp_ne 65 hX d_M_leaf_56 (by decide) (fun c56 => ?_) (fun c56 => absurd c56 (by decide))
    refine r_iload_n (i := 3) hX d_M_leaf_65 rfl rfl ?_
    refine r_iconst (v := nI 3) hX d_M_leaf_66 (by decide) ?_
    refine r_icmp_ne 79 hX d_M_leaf_67 (by decide) (fun c67 => ?_) (fun c67 => absurd c67 (by decide))
    refine r_iload_n (i := 3) hX d_M_leaf_79 rfl rfl ?_
    refine r_iconst (v := nI 4) hX d_M_leaf_80 (by decide) ?_
    refine r_icmp_ne 107 hX d_M_leaf_81 (by decide) (fun c81 => ?_) (fun c81 => absurd c81 (by decide))
    refine r_iload_n (i := 3) hX d_M_leaf_107 rfl rfl ?_
    refine r_iconst (v := nI 5) hX d_M_leaf_108 (by decide) ?_
    refine r_icmp_ne 146 hX d_M_leaf_109 (by decide) (fun c109 => ?_) (fun c109 => absurd c109 (by decide))
    refine r_iload_n (i := 3) hX d_M_leaf_146 rfl rfl ?_
    refine r_bipush (v := nI 6) hX d_M_leaf_147 (by decide) ?_
    refine r_icmp_ne 216 hX d_M_leaf_149 (by decide) (fun c149 => ?_) (fun c149 => absurd c149 (by decide))
    refine r_iload_n (i := 3) hX d_M_leaf_216 rfl rfl ?_
    refine r_bipush (v := nI 7) hX d_M_leaf_217 (by decide) ?_
    refine r_icmp_ne 274 hX d_M_leaf_219 (by decide) (fun c219 => ?_) (fun c219 => absurd c219 (by decide))
    exact r_lv [] (one _ _ u (by rw [ev_k0 hkk, hNa, stSet_self hp]) hu)
  · obtain ⟨va, hva, hev⟩ := inR_of (by simpa [plainF] using hpl) (by decide)
    have hsg : stGet s (1 + va) = sv (5 * v + 1 + va) := by
      rw [← hst]
      unfold stGet
      rw [dif_pos (by omega)]
      show sv (5 * v + (1 + va)) = _
      congr 1
      omega
    refine r_aload_n (i := 0) hX d_M_leaf_0 rfl rfl ?_
    refine r_get 0 5 hX d_M_leaf_1 rfl rfl fi_M (by decide) fl_M_26 rfl rfl ?_
    refine r_iload_n (i := 1) hX d_M_leaf_4 rfl rfl ?_
    refine r_iald 2 0 (i) hX d_M_leaf_5 rfl rfl rfl (by omega) (by decide) ?_
    refine r_top hkd ?_
    refine r_istore_n (i := 3) hX d_M_leaf_6 rfl (by decide) ?_
    refine r_aload_n (i := 0) hX d_M_leaf_7 rfl rfl ?_
    refine r_get 0 6 hX d_M_leaf_8 rfl rfl fi_M (by decide) fl_M_29 rfl rfl ?_
    refine r_iload_n (i := 1) hX d_M_leaf_11 rfl rfl ?_
    refine r_iald 3 0 (i) hX d_M_leaf_12 rfl rfl rfl (by omega) (by decide) ?_
    refine r_top hev ?_
    refine r_istore hX d_M_leaf_13 (by decide) ?_
    refine r_iload_n (i := 3) hX d_M_leaf_15 rfl rfl ?_
    refine r_if_ne 26 hX d_M_leaf_16 (by decide) (fun c16 => ?_) (fun c16 => absurd c16 (by decide))
    refine r_iload_n (i := 3) hX d_M_leaf_26 rfl rfl ?_
    refine r_iconst (v := nI 1) hX d_M_leaf_27 (by decide) ?_
    refine r_icmp_ne 54 hX d_M_leaf_28 (by decide) (fun c28 => absurd c28 (by decide)) (fun c28 => ?_)
    refine r_aload_n (i := 0) hX d_M_leaf_31 rfl rfl ?_
    refine r_aload_n (i := 0) hX d_M_leaf_32 rfl rfl ?_
    refine r_get 0 19 hX d_M_leaf_33 rfl rfl fi_M (by decide) fl_M_69 rfl rfl ?_
    refine r_aload_n (i := 0) hX d_M_leaf_36 rfl rfl ?_
    refine r_get 0 15 hX d_M_leaf_37 rfl rfl fi_M (by decide) fl_M_57 rfl rfl ?_
    refine r_iconst (v := nI 1) hX d_M_leaf_40 (by decide) ?_
    refine r_isub hX d_M_leaf_41 ?_
    refine r_top (pk_sub (by omega)) ?_
    refine r_iconst (v := nI 5) hX d_M_leaf_42 (by decide) ?_
    refine r_imul hX d_M_leaf_43 ?_
    refine r_top (pk_mul _ _) ?_
    refine r_iconst (v := nI 1) hX d_M_leaf_44 (by decide) ?_
    refine r_iadd hX d_M_leaf_45 ?_
    refine r_top (nI_add _ _) ?_
    refine r_iload hX d_M_leaf_46 rfl ?_
    refine r_iadd hX d_M_leaf_48 ?_
    refine r_top (nI_add _ _) ?_
    refine r_iald 15 0 (5 * v + 1 + va) hX d_M_leaf_49 rfl rfl (congrArg nI (by omega)) (by omega) (by decide) ?_
    refine r_iload_n (i := 2) hX d_M_leaf_50 rfl rfl ?_
    refine r_callVwv (q0 := 0) hX d_M_leaf_51 cw_M_stay ml_M_104 (c_M_stay (sv (5 * v + 1 + va)) (nI p) v 0 hsz (by decide) hv) (Or.inl rfl) rfl rfl rfl rfl (by decide) (Nat.le_of_ble_eq_true rfl) (fun _ => rfl) (fun u hu => ?_)
    refine r_iload_n (i := 3) hX d_M_leaf_54 rfl rfl ?_
    refine r_iconst (v := nI 2) hX d_M_leaf_55 (by decide) ?_
    refine r_icmp_ne 65 hX d_M_leaf_56 (by decide) (fun c56 => ?_) (fun c56 => absurd c56 (by decide))
    refine r_iload_n (i := 3) hX d_M_leaf_65 rfl rfl ?_
    refine r_iconst (v := nI 3) hX d_M_leaf_66 (by decide) ?_
    refine r_icmp_ne 79 hX d_M_leaf_67 (by decide) (fun c67 => ?_) (fun c67 => absurd c67 (by decide))
    refine r_iload_n (i := 3) hX d_M_leaf_79 rfl rfl ?_
    refine r_iconst (v := nI 4) hX d_M_leaf_80 (by decide) ?_
    refine r_icmp_ne 107 hX d_M_leaf_81 (by decide) (fun c81 => ?_) (fun c81 => absurd c81 (by decide))
    refine r_iload_n (i := 3) hX d_M_leaf_107 rfl rfl ?_
    refine r_iconst (v := nI 5) hX d_M_leaf_108 (by decide) ?_
    refine r_icmp_ne 146 hX d_M_leaf_109 (by decide) (fun c109 => ?_) (fun c109 => absurd c109 (by decide))
    refine r_iload_n (i := 3) hX d_M_leaf_146 rfl rfl ?_
    refine r_bipush (v := nI 6) hX d_M_leaf_147 (by decide) ?_
    refine r_icmp_ne 216 hX d_M_leaf_149 (by decide) (fun c149 => ?_) (fun c149 => absurd c149 (by decide))
    refine r_iload_n (i := 3) hX d_M_leaf_216 rfl rfl ?_
    refine r_bipush (v := nI 7) hX d_M_leaf_217 (by decide) ?_
    refine r_icmp_ne 274 hX d_M_leaf_219 (by decide) (fun c219 => ?_) (fun c219 => absurd c219 (by decide))
    exact r_lv [] (one _ _ u (by rw [ev_k1 hkk, hNa, hev, opN_nI (by omega), stSet_self hp, hsg]) hu)
  · skip
    refine r_aload_n (i := 0) hX d_M_leaf_0 rfl rfl ?_
    refine r_get 0 5 hX d_M_leaf_1 rfl rfl fi_M (by decide) fl_M_26 rfl rfl ?_
    refine r_iload_n (i := 1) hX d_M_leaf_4 rfl rfl ?_
    refine r_iald 2 0 (i) hX d_M_leaf_5 rfl rfl rfl (by omega) (by decide) ?_
    refine r_top hkd ?_
    refine r_istore_n (i := 3) hX d_M_leaf_6 rfl (by decide) ?_
    refine r_aload_n (i := 0) hX d_M_leaf_7 rfl rfl ?_
    refine r_get 0 6 hX d_M_leaf_8 rfl rfl fi_M (by decide) fl_M_29 rfl rfl ?_
    refine r_iload_n (i := 1) hX d_M_leaf_11 rfl rfl ?_
    refine r_iald 3 0 (i) hX d_M_leaf_12 rfl rfl rfl (by omega) (by decide) ?_
    refine r_istore hX d_M_leaf_13 (by decide) ?_
    refine r_iload_n (i := 3) hX d_M_leaf_15 rfl rfl ?_
    refine r_if_ne 26 hX d_M_leaf_16 (by decide) (fun c16 => ?_) (fun c16 => absurd c16 (by decide))
    refine r_iload_n (i := 3) hX d_M_leaf_26 rfl rfl ?_
    refine r_iconst (v := nI 1) hX d_M_leaf_27 (by decide) ?_
    refine r_icmp_ne 54 hX d_M_leaf_28 (by decide) (fun c28 => ?_) (fun c28 => absurd c28 (by decide))
    refine r_iload_n (i := 3) hX d_M_leaf_54 rfl rfl ?_
    refine r_iconst (v := nI 2) hX d_M_leaf_55 (by decide) ?_
    refine r_icmp_ne 65 hX d_M_leaf_56 (by decide) (fun c56 => absurd c56 (by decide)) (fun c56 => ?_)
    refine r_aload_n (i := 0) hX d_M_leaf_59 rfl rfl ?_
    refine r_iload_n (i := 2) hX d_M_leaf_60 rfl rfl ?_
    refine r_iload_n (i := 2) hX d_M_leaf_61 rfl rfl ?_
    refine r_callVwv (q0 := 0) hX d_M_leaf_62 cw_M_stay ml_M_104 (c_M_stay (nI p) (nI p) v 0 hsz (by decide) hv) (Or.inl rfl) rfl rfl rfl rfl (by decide) (Nat.le_of_ble_eq_true rfl) (fun _ => rfl) (fun u hu => ?_)
    refine r_iload_n (i := 3) hX d_M_leaf_65 rfl rfl ?_
    refine r_iconst (v := nI 3) hX d_M_leaf_66 (by decide) ?_
    refine r_icmp_ne 79 hX d_M_leaf_67 (by decide) (fun c67 => ?_) (fun c67 => absurd c67 (by decide))
    refine r_iload_n (i := 3) hX d_M_leaf_79 rfl rfl ?_
    refine r_iconst (v := nI 4) hX d_M_leaf_80 (by decide) ?_
    refine r_icmp_ne 107 hX d_M_leaf_81 (by decide) (fun c81 => ?_) (fun c81 => absurd c81 (by decide))
    refine r_iload_n (i := 3) hX d_M_leaf_107 rfl rfl ?_
    refine r_iconst (v := nI 5) hX d_M_leaf_108 (by decide) ?_
    refine r_icmp_ne 146 hX d_M_leaf_109 (by decide) (fun c109 => ?_) (fun c109 => absurd c109 (by decide))
    refine r_iload_n (i := 3) hX d_M_leaf_146 rfl rfl ?_
    refine r_bipush (v := nI 6) hX d_M_leaf_147 (by decide) ?_
    refine r_icmp_ne 216 hX d_M_leaf_149 (by decide) (fun c149 => ?_) (fun c149 => absurd c149 (by decide))
    refine r_iload_n (i := 3) hX d_M_leaf_216 rfl rfl ?_
    refine r_bipush (v := nI 7) hX d_M_leaf_217 (by decide) ?_
    refine r_icmp_ne 274 hX d_M_leaf_219 (by decide) (fun c219 => ?_) (fun c219 => absurd c219 (by decide))
    exact r_lv [] (one _ _ u (by rw [ev_k2 hkk, stSet_self hp, hp]) hu)
  · skip
    refine r_aload_n (i := 0) hX d_M_leaf_0 rfl rfl ?_
    refine r_get 0 5 hX d_M_leaf_1 rfl rfl fi_M (by decide) fl_M_26 rfl rfl ?_
    refine r_iload_n (i := 1) hX d_M_leaf_4 rfl rfl ?_
    refine r_iald 2 0 (i) hX d_M_leaf_5 rfl rfl rfl (by omega) (by decide) ?_
    refine r_top hkd ?_
    refine r_istore_n (i := 3) hX d_M_leaf_6 rfl (by decide) ?_
    refine r_aload_n (i := 0) hX d_M_leaf_7 rfl rfl ?_
    refine r_get 0 6 hX d_M_leaf_8 rfl rfl fi_M (by decide) fl_M_29 rfl rfl ?_
    refine r_iload_n (i := 1) hX d_M_leaf_11 rfl rfl ?_
    refine r_iald 3 0 (i) hX d_M_leaf_12 rfl rfl rfl (by omega) (by decide) ?_
    refine r_istore hX d_M_leaf_13 (by decide) ?_
    refine r_iload_n (i := 3) hX d_M_leaf_15 rfl rfl ?_
    refine r_if_ne 26 hX d_M_leaf_16 (by decide) (fun c16 => ?_) (fun c16 => absurd c16 (by decide))
    refine r_iload_n (i := 3) hX d_M_leaf_26 rfl rfl ?_
    refine r_iconst (v := nI 1) hX d_M_leaf_27 (by decide) ?_
    refine r_icmp_ne 54 hX d_M_leaf_28 (by decide) (fun c28 => ?_) (fun c28 => absurd c28 (by decide))
    refine r_iload_n (i := 3) hX d_M_leaf_54 rfl rfl ?_
    refine r_iconst (v := nI 2) hX d_M_leaf_55 (by decide) ?_
    refine r_icmp_ne 65 hX d_M_leaf_56 (by decide) (fun c56 => ?_) (fun c56 => absurd c56 (by decide))
    refine r_iload_n (i := 3) hX d_M_leaf_65 rfl rfl ?_
    refine r_iconst (v := nI 3) hX d_M_leaf_66 (by decide) ?_
    refine r_icmp_ne 79 hX d_M_leaf_67 (by decide) (fun c67 => absurd c67 (by decide)) (fun c67 => ?_)
    refine r_aload_n (i := 0) hX d_M_leaf_70 rfl rfl ?_
    refine r_aload_n (i := 0) hX d_M_leaf_71 rfl rfl ?_
    refine r_get 0 0 hX d_M_leaf_72 rfl rfl fi_M (by decide) fl_M_7 rfl rfl ?_
    refine r_iload_n (i := 2) hX d_M_leaf_75 rfl rfl ?_
    refine r_callVwv (q0 := 0) hX d_M_leaf_76 cw_M_stay ml_M_104 (c_M_stay (nI tl) (nI p) v 0 hsz (by decide) hv) (Or.inl rfl) rfl rfl rfl rfl (by decide) (Nat.le_of_ble_eq_true rfl) (fun _ => rfl) (fun u hu => ?_)
    refine r_iload_n (i := 3) hX d_M_leaf_79 rfl rfl ?_
    refine r_iconst (v := nI 4) hX d_M_leaf_80 (by decide) ?_
    refine r_icmp_ne 107 hX d_M_leaf_81 (by decide) (fun c81 => ?_) (fun c81 => absurd c81 (by decide))
    refine r_iload_n (i := 3) hX d_M_leaf_107 rfl rfl ?_
    refine r_iconst (v := nI 5) hX d_M_leaf_108 (by decide) ?_
    refine r_icmp_ne 146 hX d_M_leaf_109 (by decide) (fun c109 => ?_) (fun c109 => absurd c109 (by decide))
    refine r_iload_n (i := 3) hX d_M_leaf_146 rfl rfl ?_
    refine r_bipush (v := nI 6) hX d_M_leaf_147 (by decide) ?_
    refine r_icmp_ne 216 hX d_M_leaf_149 (by decide) (fun c149 => ?_) (fun c149 => absurd c149 (by decide))
    refine r_iload_n (i := 3) hX d_M_leaf_216 rfl rfl ?_
    refine r_bipush (v := nI 7) hX d_M_leaf_217 (by decide) ?_
    refine r_icmp_ne 274 hX d_M_leaf_219 (by decide) (fun c219 => ?_) (fun c219 => absurd c219 (by decide))
    exact r_lv [] (one _ _ u (by rw [ev_k3 hkk, stSet_self hp]) hu)
  · skip
    refine r_aload_n (i := 0) hX d_M_leaf_0 rfl rfl ?_
    refine r_get 0 5 hX d_M_leaf_1 rfl rfl fi_M (by decide) fl_M_26 rfl rfl ?_
    refine r_iload_n (i := 1) hX d_M_leaf_4 rfl rfl ?_
    refine r_iald 2 0 (i) hX d_M_leaf_5 rfl rfl rfl (by omega) (by decide) ?_
    refine r_top hkd ?_
    refine r_istore_n (i := 3) hX d_M_leaf_6 rfl (by decide) ?_
    refine r_aload_n (i := 0) hX d_M_leaf_7 rfl rfl ?_
    refine r_get 0 6 hX d_M_leaf_8 rfl rfl fi_M (by decide) fl_M_29 rfl rfl ?_
    refine r_iload_n (i := 1) hX d_M_leaf_11 rfl rfl ?_
    refine r_iald 3 0 (i) hX d_M_leaf_12 rfl rfl rfl (by omega) (by decide) ?_
    refine r_istore hX d_M_leaf_13 (by decide) ?_
    refine r_iload_n (i := 3) hX d_M_leaf_15 rfl rfl ?_
    refine r_if_ne 26 hX d_M_leaf_16 (by decide) (fun c16 => ?_) (fun c16 => absurd c16 (by decide))
    refine r_iload_n (i := 3) hX d_M_leaf_26 rfl rfl ?_
    refine r_iconst (v := nI 1) hX d_M_leaf_27 (by decide) ?_
    refine r_icmp_ne 54 hX d_M_leaf_28 (by decide) (fun c28 => ?_) (fun c28 => absurd c28 (by decide))
    refine r_iload_n (i := 3) hX d_M_leaf_54 rfl rfl ?_
    refine r_iconst (v := nI 2) hX d_M_leaf_55 (by decide) ?_
    refine r_icmp_ne 65 hX d_M_leaf_56 (by decide) (fun c56 => ?_) (fun c56 => absurd c56 (by decide))
    refine r_iload_n (i := 3) hX d_M_leaf_65 rfl rfl ?_
    refine r_iconst (v := nI 3) hX d_M_leaf_66 (by decide) ?_
    refine r_icmp_ne 79 hX d_M_leaf_67 (by decide) (fun c67 => ?_) (fun c67 => absurd c67 (by decide))
    refine r_iload_n (i := 3) hX d_M_leaf_79 rfl rfl ?_
    refine r_iconst (v := nI 4) hX d_M_leaf_80 (by decide) ?_
    refine r_icmp_ne 107 hX d_M_leaf_81 (by decide) (fun c81 => absurd c81 (by decide)) (fun c81 => ?_)
    refine r_aload_n (i := 0) hX d_M_leaf_84 rfl rfl ?_
    refine r_iload hX d_M_leaf_85 rfl ?_
    refine r_iload_n (i := 2) hX d_M_leaf_87 rfl rfl ?_
    refine r_callVwi (q0 := 0) hX d_M_leaf_88 cw_M_isOf ml_M_100 (c_M_isOf (mf 1 i) p (by omega) ht) (Or.inl rfl) rfl rfl rfl rfl (by decide) (Nat.le_of_ble_eq_true rfl) (fun _ => rfl) (fun _ _ => ?_)
    refine r_if_eq 107 hX d_M_leaf_91 (by decide) (fun c91 => ?_) (fun c91 => ?_)
    · have hb := bI_0 c91
      have hE := emp (by rw [ev_k4 hkk, hNa, hpp, hb]; rfl)
      refine r_iload_n (i := 3) hX d_M_leaf_107 rfl rfl ?_
      refine r_iconst (v := nI 5) hX d_M_leaf_108 (by decide) ?_
      refine r_icmp_ne 146 hX d_M_leaf_109 (by decide) (fun c109 => ?_) (fun c109 => absurd c109 (by decide))
      refine r_iload_n (i := 3) hX d_M_leaf_146 rfl rfl ?_
      refine r_bipush (v := nI 6) hX d_M_leaf_147 (by decide) ?_
      refine r_icmp_ne 216 hX d_M_leaf_149 (by decide) (fun c149 => ?_) (fun c149 => absurd c149 (by decide))
      refine r_iload_n (i := 3) hX d_M_leaf_216 rfl rfl ?_
      refine r_bipush (v := nI 7) hX d_M_leaf_217 (by decide) ?_
      refine r_icmp_ne 274 hX d_M_leaf_219 (by decide) (fun c219 => ?_) (fun c219 => absurd c219 (by decide))
      exact r_lv [] hE
    · have hb := bI_1 c91
      have hlt := atSort_lt hb
      refine r_aload_n (i := 0) hX d_M_leaf_94 rfl rfl ?_
      refine r_aload_n (i := 0) hX d_M_leaf_95 rfl rfl ?_
      refine r_get 0 4 hX d_M_leaf_96 rfl rfl fi_M (by decide) fl_M_22 rfl rfl ?_
      refine r_iload_n (i := 2) hX d_M_leaf_99 rfl rfl ?_
      refine r_iald 1 0 (p) hX d_M_leaf_100 rfl rfl rfl (by omega) (by decide) ?_
      refine r_iload_n (i := 2) hX d_M_leaf_101 rfl rfl ?_
      refine r_iconst (v := nI 1) hX d_M_leaf_102 (by decide) ?_
      refine r_iadd hX d_M_leaf_103 ?_
      refine r_top (nI_add _ _) ?_
      refine r_callVwv (q0 := 0) hX d_M_leaf_104 cw_M_stay ml_M_104 (c_M_stay (tx p) (nI (p + 1)) v 0 hsz (by decide) hv) (Or.inl rfl) rfl rfl rfl rfl (by decide) (Nat.le_of_ble_eq_true rfl) (fun _ => rfl) (fun u hu => ?_)
      have hE := one _ _ u (by rw [ev_k4 hkk, hNa, hpp, hb]; rfl) hu
      refine r_iload_n (i := 3) hX d_M_leaf_107 rfl rfl ?_
      refine r_iconst (v := nI 5) hX d_M_leaf_108 (by decide) ?_
      refine r_icmp_ne 146 hX d_M_leaf_109 (by decide) (fun c109 => ?_) (fun c109 => absurd c109 (by decide))
      refine r_iload_n (i := 3) hX d_M_leaf_146 rfl rfl ?_
      refine r_bipush (v := nI 6) hX d_M_leaf_147 (by decide) ?_
      refine r_icmp_ne 216 hX d_M_leaf_149 (by decide) (fun c149 => ?_) (fun c149 => absurd c149 (by decide))
      refine r_iload_n (i := 3) hX d_M_leaf_216 rfl rfl ?_
      refine r_bipush (v := nI 7) hX d_M_leaf_217 (by decide) ?_
      refine r_icmp_ne 274 hX d_M_leaf_219 (by decide) (fun c219 => ?_) (fun c219 => absurd c219 (by decide))
      exact r_lv [] hE
  · skip
    refine r_aload_n (i := 0) hX d_M_leaf_0 rfl rfl ?_
    refine r_get 0 5 hX d_M_leaf_1 rfl rfl fi_M (by decide) fl_M_26 rfl rfl ?_
    refine r_iload_n (i := 1) hX d_M_leaf_4 rfl rfl ?_
    refine r_iald 2 0 (i) hX d_M_leaf_5 rfl rfl rfl (by omega) (by decide) ?_
    refine r_top hkd ?_
    refine r_istore_n (i := 3) hX d_M_leaf_6 rfl (by decide) ?_
    refine r_aload_n (i := 0) hX d_M_leaf_7 rfl rfl ?_
    refine r_get 0 6 hX d_M_leaf_8 rfl rfl fi_M (by decide) fl_M_29 rfl rfl ?_
    refine r_iload_n (i := 1) hX d_M_leaf_11 rfl rfl ?_
    refine r_iald 3 0 (i) hX d_M_leaf_12 rfl rfl rfl (by omega) (by decide) ?_
    refine r_istore hX d_M_leaf_13 (by decide) ?_
    refine r_iload_n (i := 3) hX d_M_leaf_15 rfl rfl ?_
    refine r_if_ne 26 hX d_M_leaf_16 (by decide) (fun c16 => ?_) (fun c16 => absurd c16 (by decide))
    refine r_iload_n (i := 3) hX d_M_leaf_26 rfl rfl ?_
    refine r_iconst (v := nI 1) hX d_M_leaf_27 (by decide) ?_
    refine r_icmp_ne 54 hX d_M_leaf_28 (by decide) (fun c28 => ?_) (fun c28 => absurd c28 (by decide))
    refine r_iload_n (i := 3) hX d_M_leaf_54 rfl rfl ?_
    refine r_iconst (v := nI 2) hX d_M_leaf_55 (by decide) ?_
    refine r_icmp_ne 65 hX d_M_leaf_56 (by decide) (fun c56 => ?_) (fun c56 => absurd c56 (by decide))
    refine r_iload_n (i := 3) hX d_M_leaf_65 rfl rfl ?_
    refine r_iconst (v := nI 3) hX d_M_leaf_66 (by decide) ?_
    refine r_icmp_ne 79 hX d_M_leaf_67 (by decide) (fun c67 => ?_) (fun c67 => absurd c67 (by decide))
    refine r_iload_n (i := 3) hX d_M_leaf_79 rfl rfl ?_
    refine r_iconst (v := nI 4) hX d_M_leaf_80 (by decide) ?_
    refine r_icmp_ne 107 hX d_M_leaf_81 (by decide) (fun c81 => ?_) (fun c81 => absurd c81 (by decide))
    refine r_iload_n (i := 3) hX d_M_leaf_107 rfl rfl ?_
    refine r_iconst (v := nI 5) hX d_M_leaf_108 (by decide) ?_
    refine r_icmp_ne 146 hX d_M_leaf_109 (by decide) (fun c109 => absurd c109 (by decide)) (fun c109 => ?_)
    refine r_aload_n (i := 0) hX d_M_leaf_112 rfl rfl ?_
    refine r_iload hX d_M_leaf_113 rfl ?_
    refine r_iload_n (i := 2) hX d_M_leaf_115 rfl rfl ?_
    refine r_callVwi (q0 := 0) hX d_M_leaf_116 cw_M_isOf ml_M_100 (c_M_isOf (mf 1 i) p (by omega) ht) (Or.inl rfl) rfl rfl rfl rfl (by decide) (Nat.le_of_ble_eq_true rfl) (fun _ => rfl) (fun _ _ => ?_)
    refine r_if_eq 146 hX d_M_leaf_119 (by decide) (fun c119 => ?_) (fun c119 => ?_)
    · have hb := bI_0 c119
      have hE := emp (by rw [ev_k5 hkk, hNa, hpp, runL_stop hb, if_neg (Nat.lt_irrefl _)])
      refine r_iload_n (i := 3) hX d_M_leaf_146 rfl rfl ?_
      refine r_bipush (v := nI 6) hX d_M_leaf_147 (by decide) ?_
      refine r_icmp_ne 216 hX d_M_leaf_149 (by decide) (fun c149 => ?_) (fun c149 => absurd c149 (by decide))
      refine r_iload_n (i := 3) hX d_M_leaf_216 rfl rfl ?_
      refine r_bipush (v := nI 7) hX d_M_leaf_217 (by decide) ?_
      refine r_icmp_ne 274 hX d_M_leaf_219 (by decide) (fun c219 => ?_) (fun c219 => absurd c219 (by decide))
      exact r_lv [] hE
    · have hb := bI_1 c119
      have hlt : p < runL (atSort tl tx (mf 1 i)) 24 p := run_t (n := 23) hb
      refine r_aload_n (i := 0) hX d_M_leaf_122 rfl rfl ?_
      refine r_aload_n (i := 0) hX d_M_leaf_123 rfl rfl ?_
      refine r_iload hX d_M_leaf_124 rfl ?_
      refine r_iload_n (i := 2) hX d_M_leaf_126 rfl rfl ?_
      refine r_bipush (v := nI 24) hX d_M_leaf_127 (by decide) ?_
      refine r_callVwi (q0 := 0) hX d_M_leaf_129 cw_M_runFrom ml_M_108 (c_M_runFrom (mf 1 i) p 24 hpt (by decide) ht) (Or.inl rfl) rfl rfl rfl rfl (by decide) (Nat.le_of_ble_eq_true rfl) (fun _ => rfl) (fun _ _ => ?_)
      refine r_iload_n (i := 2) hX d_M_leaf_132 rfl rfl ?_
      refine r_isub hX d_M_leaf_133 ?_
      refine r_top (pk_sub (by omega)) ?_
      refine r_aload_n (i := 0) hX d_M_leaf_134 rfl rfl ?_
      refine r_iload hX d_M_leaf_135 rfl ?_
      refine r_iload_n (i := 2) hX d_M_leaf_137 rfl rfl ?_
      refine r_bipush (v := nI 24) hX d_M_leaf_138 (by decide) ?_
      refine r_callVwi (q0 := 0) hX d_M_leaf_140 cw_M_runFrom ml_M_108 (c_M_runFrom (mf 1 i) p 24 hpt (by decide) ht) (Or.inl rfl) rfl rfl rfl rfl (by decide) (Nat.le_of_ble_eq_true rfl) (fun _ => rfl) (fun _ _ => ?_)
      refine r_callVwv (q0 := 0) hX d_M_leaf_143 cw_M_stay ml_M_104 (c_M_stay (nI (runL (atSort tl tx (mf 1 i)) 24 p - p)) (nI (runL (atSort tl tx (mf 1 i)) 24 p)) v 0 hsz (by decide) hv) (Or.inl rfl) rfl rfl rfl rfl (by decide) (Nat.le_of_ble_eq_true rfl) (fun _ => rfl) (fun u hu => ?_)
      have hE := one _ _ u (by rw [ev_k5 hkk, hNa, hpp, if_pos hlt]) hu
      refine r_iload_n (i := 3) hX d_M_leaf_146 rfl rfl ?_
      refine r_bipush (v := nI 6) hX d_M_leaf_147 (by decide) ?_
      refine r_icmp_ne 216 hX d_M_leaf_149 (by decide) (fun c149 => ?_) (fun c149 => absurd c149 (by decide))
      refine r_iload_n (i := 3) hX d_M_leaf_216 rfl rfl ?_
      refine r_bipush (v := nI 7) hX d_M_leaf_217 (by decide) ?_
      refine r_icmp_ne 274 hX d_M_leaf_219 (by decide) (fun c219 => ?_) (fun c219 => absurd c219 (by decide))
      exact r_lv [] hE
  · have loop : ∀ (m j : Nat) (x : Int32) (q : Nat), j + m = q → q ≤ tl → p < q → runL (atSort tl tx (nI 0)) 9 p = q → decL tx m j x = decL tx (q - p) p (nI 0) → RR X 8 D A 0 0 (WM am cI cZ tl nn rs ae (v + 1) tx mf rw sz nv ph tu sv) [(0, .ref (am 0)), (3, .int (nI 6)), (5, .int x), (6, .int (nI q)), (7, .int (nI j))] 177 [] := by
      intro m
      induction m with
      | zero =>
        intro j x q hj hq hpq hr he
        have hj : j = q := by omega
        subst hj
        refine r_iload hX d_M_leaf_177 rfl ?_
        refine r_iload hX d_M_leaf_179 rfl ?_
        refine r_icmp_ge 208 hX d_M_leaf_181 (by decide) (fun c181 => ?_) (fun c181 => absurd (nI_le (Nat.le_refl _) (by omega)) c181)
        refine r_aload_n (i := 0) hX d_M_leaf_208 rfl rfl ?_
        refine r_iload hX d_M_leaf_209 rfl ?_
        refine r_iload hX d_M_leaf_211 rfl ?_
        refine r_callVwv (q0 := 0) hX d_M_leaf_213 cw_M_stay ml_M_104 (c_M_stay x (nI j) v 0 hsz (by decide) hv) (Or.inl rfl) rfl rfl rfl rfl (by decide) (Nat.le_of_ble_eq_true rfl) (fun _ => rfl) (fun u hu => ?_)
        have he2 : x = decL tx (j - p) p (nI 0) := he
        have hE := one _ _ u (by rw [ev_k6 hkk, hpp, hr, if_pos hpq, he2]) hu
        refine r_iload_n (i := 3) hX d_M_leaf_216 rfl rfl ?_
        refine r_bipush (v := nI 7) hX d_M_leaf_217 (by decide) ?_
        refine r_icmp_ne 274 hX d_M_leaf_219 (by decide) (fun c219 => ?_) (fun c219 => absurd c219 (by decide))
        exact r_lv [] hE
      | succ m ih =>
        intro j x q hj hq hpq hr he
        refine r_iload hX d_M_leaf_177 rfl ?_
        refine r_iload hX d_M_leaf_179 rfl ?_
        refine r_icmp_ge 208 hX d_M_leaf_181 (by decide) (fun c181 => absurd c181 (nI_ge (by omega) (by omega))) (fun c181 => ?_)
        refine r_bipush (v := nI 10) hX d_M_leaf_184 (by decide) ?_
        refine r_iload hX d_M_leaf_186 rfl ?_
        refine r_imul hX d_M_leaf_188 ?_
        refine r_top (Int32.mul_comm _ _) ?_
        refine r_aload_n (i := 0) hX d_M_leaf_189 rfl rfl ?_
        refine r_get 0 4 hX d_M_leaf_190 rfl rfl fi_M (by decide) fl_M_22 rfl rfl ?_
        refine r_iload hX d_M_leaf_193 rfl ?_
        refine r_iald 1 0 (j) hX d_M_leaf_195 rfl rfl rfl (by omega) (by decide) ?_
        refine r_iadd hX d_M_leaf_196 ?_
        refine r_bipush (v := nI 48) hX d_M_leaf_197 (by decide) ?_
        refine r_isub hX d_M_leaf_199 ?_
        refine r_istore hX d_M_leaf_200 (by decide) ?_
        refine r_iinc hX d_M_leaf_202 rfl (rx_inc _) (by decide) ?_
        refine r_goto 177 hX d_M_leaf_205 (by decide) ?_
        exact r_lv [0, 3, 5, 6, 7] (ih (j + 1) _ q (by omega) hq hpq hr he)
    refine r_aload_n (i := 0) hX d_M_leaf_0 rfl rfl ?_
    refine r_get 0 5 hX d_M_leaf_1 rfl rfl fi_M (by decide) fl_M_26 rfl rfl ?_
    refine r_iload_n (i := 1) hX d_M_leaf_4 rfl rfl ?_
    refine r_iald 2 0 (i) hX d_M_leaf_5 rfl rfl rfl (by omega) (by decide) ?_
    refine r_top hkd ?_
    refine r_istore_n (i := 3) hX d_M_leaf_6 rfl (by decide) ?_
    refine r_aload_n (i := 0) hX d_M_leaf_7 rfl rfl ?_
    refine r_get 0 6 hX d_M_leaf_8 rfl rfl fi_M (by decide) fl_M_29 rfl rfl ?_
    refine r_iload_n (i := 1) hX d_M_leaf_11 rfl rfl ?_
    refine r_iald 3 0 (i) hX d_M_leaf_12 rfl rfl rfl (by omega) (by decide) ?_
    refine r_istore hX d_M_leaf_13 (by decide) ?_
    refine r_iload_n (i := 3) hX d_M_leaf_15 rfl rfl ?_
    refine r_if_ne 26 hX d_M_leaf_16 (by decide) (fun c16 => ?_) (fun c16 => absurd c16 (by decide))
    refine r_iload_n (i := 3) hX d_M_leaf_26 rfl rfl ?_
    refine r_iconst (v := nI 1) hX d_M_leaf_27 (by decide) ?_
    refine r_icmp_ne 54 hX d_M_leaf_28 (by decide) (fun c28 => ?_) (fun c28 => absurd c28 (by decide))
    refine r_iload_n (i := 3) hX d_M_leaf_54 rfl rfl ?_
    refine r_iconst (v := nI 2) hX d_M_leaf_55 (by decide) ?_
    refine r_icmp_ne 65 hX d_M_leaf_56 (by decide) (fun c56 => ?_) (fun c56 => absurd c56 (by decide))
    refine r_iload_n (i := 3) hX d_M_leaf_65 rfl rfl ?_
    refine r_iconst (v := nI 3) hX d_M_leaf_66 (by decide) ?_
    refine r_icmp_ne 79 hX d_M_leaf_67 (by decide) (fun c67 => ?_) (fun c67 => absurd c67 (by decide))
    refine r_iload_n (i := 3) hX d_M_leaf_79 rfl rfl ?_
    refine r_iconst (v := nI 4) hX d_M_leaf_80 (by decide) ?_
    refine r_icmp_ne 107 hX d_M_leaf_81 (by decide) (fun c81 => ?_) (fun c81 => absurd c81 (by decide))
    refine r_iload_n (i := 3) hX d_M_leaf_107 rfl rfl ?_
    refine r_iconst (v := nI 5) hX d_M_leaf_108 (by decide) ?_
    refine r_icmp_ne 146 hX d_M_leaf_109 (by decide) (fun c109 => ?_) (fun c109 => absurd c109 (by decide))
    refine r_iload_n (i := 3) hX d_M_leaf_146 rfl rfl ?_
    refine r_bipush (v := nI 6) hX d_M_leaf_147 (by decide) ?_
    refine r_icmp_ne 216 hX d_M_leaf_149 (by decide) (fun c149 => absurd c149 (by decide)) (fun c149 => ?_)
    refine r_aload_n (i := 0) hX d_M_leaf_152 rfl rfl ?_
    refine r_iconst (v := nI 0) hX d_M_leaf_153 (by decide) ?_
    refine r_iload_n (i := 2) hX d_M_leaf_154 rfl rfl ?_
    refine r_callVwi (q0 := 0) hX d_M_leaf_155 cw_M_isOf ml_M_100 (c_M_isOf (nI 0) p (by omega) ht) (Or.inl rfl) rfl rfl rfl rfl (by decide) (Nat.le_of_ble_eq_true rfl) (fun _ => rfl) (fun _ _ => ?_)
    refine r_if_eq 216 hX d_M_leaf_158 (by decide) (fun c158 => ?_) (fun c158 => ?_)
    · have hb := bI_0 c158
      have hE := emp (by rw [ev_k6 hkk, hpp, runL_stop hb, if_neg (Nat.lt_irrefl _)])
      refine r_iload_n (i := 3) hX d_M_leaf_216 rfl rfl ?_
      refine r_bipush (v := nI 7) hX d_M_leaf_217 (by decide) ?_
      refine r_icmp_ne 274 hX d_M_leaf_219 (by decide) (fun c219 => ?_) (fun c219 => absurd c219 (by decide))
      exact r_lv [] hE
    · have hb := bI_1 c158
      have hlt : p < runL (atSort tl tx (nI 0)) 9 p := run_t (n := 8) hb
      have hle := runL_le (atSort tl tx (nI 0)) tl (fun j hj => atSort_lt hj) 9 p hpt
      refine r_iconst (v := nI 0) hX d_M_leaf_161 (by decide) ?_
      refine r_istore hX d_M_leaf_162 (by decide) ?_
      refine r_aload_n (i := 0) hX d_M_leaf_164 rfl rfl ?_
      refine r_iconst (v := nI 0) hX d_M_leaf_165 (by decide) ?_
      refine r_iload_n (i := 2) hX d_M_leaf_166 rfl rfl ?_
      refine r_bipush (v := nI 9) hX d_M_leaf_167 (by decide) ?_
      refine r_callVwi (q0 := 0) hX d_M_leaf_169 cw_M_runFrom ml_M_108 (c_M_runFrom (nI 0) p 9 hpt (by decide) ht) (Or.inl rfl) rfl rfl rfl rfl (by decide) (Nat.le_of_ble_eq_true rfl) (fun _ => rfl) (fun _ _ => ?_)
      refine r_istore hX d_M_leaf_172 (by decide) ?_
      refine r_iload_n (i := 2) hX d_M_leaf_174 rfl rfl ?_
      refine r_istore hX d_M_leaf_175 (by decide) ?_
      exact r_lv [0, 3, 5, 6, 7] (loop (runL (atSort tl tx (nI 0)) 9 p - p) p (nI 0) _ (by omega) hle hlt rfl rfl)
  · have loop : ∀ (m j : Nat) (f : Nat → Int32) (P : List Rs), j + m = tl → P.length ≤ 8 → mP rw (64 * v) P f → ev tl tx (ndOf mf) (n + 1) i s = P ++ (seekL (atSort tl tx (mf 1 i)) m j (8 - P.length)).map (fun j => (nI j, s)) → RR X 8 D A 0 0 (WM am cI cZ tl nn rs ae (v + 1) tx mf f (upd sz v (nI P.length)) nv ph tu sv) [(0, .ref (am 0)), (2, .int (nI p)), (4, .int (mf 1 i)), (5, .int (nI j))] 225 [] := by
      intro m
      induction m with
      | zero =>
        intro j f P hj hP hs he
        have hj : j = tl := by omega
        subst hj
        have he : ev j tx (ndOf mf) (n + 1) i s = P := by rw [he]; simp [seekL]
        rw [he] at hF
        refine r_iload hX d_M_leaf_225 rfl ?_
        refine r_aload_n (i := 0) hX d_M_leaf_227 rfl rfl ?_
        refine r_get 0 0 hX d_M_leaf_228 rfl rfl fi_M (by decide) fl_M_7 rfl rfl ?_
        refine r_icmp_ge 274 hX d_M_leaf_231 (by decide) (fun c231 => ?_) (fun c231 => absurd (nI_le (Nat.le_refl _) (by omega)) c231)
        exact r_vret f hX hF d_M_leaf_274 hs rfl rfl
      | succ m ih =>
        intro j f P hj hP hs he
        refine r_iload hX d_M_leaf_225 rfl ?_
        refine r_aload_n (i := 0) hX d_M_leaf_227 rfl rfl ?_
        refine r_get 0 0 hX d_M_leaf_228 rfl rfl fi_M (by decide) fl_M_7 rfl rfl ?_
        refine r_icmp_ge 274 hX d_M_leaf_231 (by decide) (fun c231 => absurd c231 (nI_ge (by omega) (by omega))) (fun c231 => ?_)
        refine r_aload_n (i := 0) hX d_M_leaf_234 rfl rfl ?_
        refine r_iload hX d_M_leaf_235 rfl ?_
        refine r_iload hX d_M_leaf_237 rfl ?_
        refine r_callVwi (q0 := 0) hX d_M_leaf_239 cw_M_isOf ml_M_100 (c_M_isOf (mf 1 i) j (by omega) ht) (Or.inl rfl) rfl rfl rfl rfl (by decide) (Nat.le_of_ble_eq_true rfl) (fun _ => rfl) (fun _ _ => ?_)
        refine r_if_eq 268 hX d_M_leaf_242 (by decide) (fun c242 => ?_) (fun c242 => ?_)
        · have hb := bI_0 c242
          have hE := ih (j + 1) f P (by omega) hP hs (by rw [he]; by_cases h8 : 8 - P.length = 0 <;> simp [seekL, seekL_0, hb, h8])
          have hbb : True := trivial
          refine r_iinc hX d_M_leaf_268 rfl (rx_inc _) (by decide) ?_
          refine r_goto 225 hX d_M_leaf_271 (by decide) ?_
          exact r_lv [0, 2, 4, 5] hE
        · have hb := bI_1 c242
          refine r_aload_n (i := 0) hX d_M_leaf_245 rfl rfl ?_
          refine r_get 0 14 hX d_M_leaf_246 rfl rfl fi_M (by decide) fl_M_54 rfl rfl ?_
          refine r_aload_n (i := 0) hX d_M_leaf_249 rfl rfl ?_
          refine r_get 0 15 hX d_M_leaf_250 rfl rfl fi_M (by decide) fl_M_57 rfl rfl ?_
          refine r_iconst (v := nI 1) hX d_M_leaf_253 (by decide) ?_
          refine r_isub hX d_M_leaf_254 ?_
          refine r_top (pk_sub (by omega)) ?_
          refine r_iald 11 0 (v) hX d_M_leaf_255 rfl rfl (by rw [Nat.add_sub_cancel]) (by omega) (by decide) ?_
          refine r_top pk_us ?_
          refine r_bipush (v := nI 8) hX d_M_leaf_256 (by decide) ?_
          refine r_icmp_ge 268 hX d_M_leaf_258 (by decide) (fun c258 => ?_) (fun c258 => ?_)
          · have h8 : P.length = 8 := by have := (nI_leI (by decide) (by omega)).mp c258; omega
            have hE := ih (j + 1) f P (by omega) hP hs (by rw [he, h8]; simp [seekL, seekL_0])
            refine r_iinc hX d_M_leaf_268 rfl (rx_inc _) (by decide) ?_
            refine r_goto 225 hX d_M_leaf_271 (by decide) ?_
            exact r_lv [0, 2, 4, 5] hE
          · have h8 : P.length < 8 := by
              rcases Nat.lt_or_ge P.length 8 with h | h
              · exact h
              · exact absurd (nI_le h (by omega)) c258
            refine r_aload_n (i := 0) hX d_M_leaf_261 rfl rfl ?_
            refine r_iload hX d_M_leaf_262 rfl ?_
            refine r_iload_n (i := 2) hX d_M_leaf_264 rfl rfl ?_
            refine r_callVwv (q0 := 0) hX d_M_leaf_265 cw_M_stay ml_M_104 (c_M_stay (nI j) (nI p) v P.length pk_us (by omega) hv) (Or.inl rfl) rfl rfl rfl rfl (by decide) (Nat.le_of_ble_eq_true rfl) (fun _ => rfl) (fun g hg => ?_)
            have hg2 : pushM f (64 * v + P.length) (nI j, s) g := by
              rw [hst, stSet_self hp] at hg
              exact hg
            have hE := ih (j + 1) g (P ++ [(nI j, s)]) (by omega) (by simp; omega) (hs.push hg2 rfl (by omega)) (by rw [he]; simp [seekL, hb, show ¬ 8 - P.length = 0 by omega, show 8 - P.length - 1 = 8 - (P.length + 1) by omega])
            rw [List.length_append, show P.length + [(nI j, s)].length = P.length + 1 from rfl, ← upd_uu sz v (nI P.length)] at hE
            refine r_iinc hX d_M_leaf_268 rfl (rx_inc _) (by decide) ?_
            refine r_goto 225 hX d_M_leaf_271 (by decide) ?_
            exact r_lv [0, 2, 4, 5] hE
    refine r_aload_n (i := 0) hX d_M_leaf_0 rfl rfl ?_
    refine r_get 0 5 hX d_M_leaf_1 rfl rfl fi_M (by decide) fl_M_26 rfl rfl ?_
    refine r_iload_n (i := 1) hX d_M_leaf_4 rfl rfl ?_
    refine r_iald 2 0 (i) hX d_M_leaf_5 rfl rfl rfl (by omega) (by decide) ?_
    refine r_top hkd ?_
    refine r_istore_n (i := 3) hX d_M_leaf_6 rfl (by decide) ?_
    refine r_aload_n (i := 0) hX d_M_leaf_7 rfl rfl ?_
    refine r_get 0 6 hX d_M_leaf_8 rfl rfl fi_M (by decide) fl_M_29 rfl rfl ?_
    refine r_iload_n (i := 1) hX d_M_leaf_11 rfl rfl ?_
    refine r_iald 3 0 (i) hX d_M_leaf_12 rfl rfl rfl (by omega) (by decide) ?_
    refine r_istore hX d_M_leaf_13 (by decide) ?_
    refine r_iload_n (i := 3) hX d_M_leaf_15 rfl rfl ?_
    refine r_if_ne 26 hX d_M_leaf_16 (by decide) (fun c16 => ?_) (fun c16 => absurd c16 (by decide))
    refine r_iload_n (i := 3) hX d_M_leaf_26 rfl rfl ?_
    refine r_iconst (v := nI 1) hX d_M_leaf_27 (by decide) ?_
    refine r_icmp_ne 54 hX d_M_leaf_28 (by decide) (fun c28 => ?_) (fun c28 => absurd c28 (by decide))
    refine r_iload_n (i := 3) hX d_M_leaf_54 rfl rfl ?_
    refine r_iconst (v := nI 2) hX d_M_leaf_55 (by decide) ?_
    refine r_icmp_ne 65 hX d_M_leaf_56 (by decide) (fun c56 => ?_) (fun c56 => absurd c56 (by decide))
    refine r_iload_n (i := 3) hX d_M_leaf_65 rfl rfl ?_
    refine r_iconst (v := nI 3) hX d_M_leaf_66 (by decide) ?_
    refine r_icmp_ne 79 hX d_M_leaf_67 (by decide) (fun c67 => ?_) (fun c67 => absurd c67 (by decide))
    refine r_iload_n (i := 3) hX d_M_leaf_79 rfl rfl ?_
    refine r_iconst (v := nI 4) hX d_M_leaf_80 (by decide) ?_
    refine r_icmp_ne 107 hX d_M_leaf_81 (by decide) (fun c81 => ?_) (fun c81 => absurd c81 (by decide))
    refine r_iload_n (i := 3) hX d_M_leaf_107 rfl rfl ?_
    refine r_iconst (v := nI 5) hX d_M_leaf_108 (by decide) ?_
    refine r_icmp_ne 146 hX d_M_leaf_109 (by decide) (fun c109 => ?_) (fun c109 => absurd c109 (by decide))
    refine r_iload_n (i := 3) hX d_M_leaf_146 rfl rfl ?_
    refine r_bipush (v := nI 6) hX d_M_leaf_147 (by decide) ?_
    refine r_icmp_ne 216 hX d_M_leaf_149 (by decide) (fun c149 => ?_) (fun c149 => absurd c149 (by decide))
    refine r_iload_n (i := 3) hX d_M_leaf_216 rfl rfl ?_
    refine r_bipush (v := nI 7) hX d_M_leaf_217 (by decide) ?_
    refine r_icmp_ne 274 hX d_M_leaf_219 (by decide) (fun c219 => absurd c219 (by decide)) (fun c219 => ?_)
    refine r_iload_n (i := 2) hX d_M_leaf_222 rfl rfl ?_
    refine r_istore hX d_M_leaf_223 (by decide) ?_
    have h := loop (tl - p) p rw [] (by omega) (by decide) (mP.rf (Holds.nil _ _)) (by rw [ev_k7 hkk, hNa, hpp]; rfl)
    rw [show nI ([] : List Rs).length = nI 0 from rfl, upd_id hsz] at h
    exact r_lv [0, 2, 4, 5] h
set_option maxRecDepth 100000 in
set_option maxHeartbeats 4000000 in
theorem c_M_pair (k i v : Nat) (x : Int32) (y : Rs) (K : List Rs) (hk : (9 ≤ k ∧ k ≤ 14) ∨ k = 16) (hv : v + 1 < 8) (hi : i < 64) (hsv : sz v = nI K.length) (hK : Holds rw (64 * v) K) (hy : gRow rw (64 * (v + 1) + i) = y) (hlen : K.length + (pairL k x y.1).length ≤ 64) : CT l D (tyL cI cZ cN) none y_M_pair b_M_pair 8 none 1 [.ref (am 0), .int (nI k), .int x, .int (nI i)] (WM am cI cZ tl nn rs ae (v + 1) tx mf rw sz nv ph tu sv) (mP rw (64 * v) (K ++ (pairL k x y.1).map (fun w => (w, y.2)))) (fun _ => none) (fun u => WM am cI cZ tl nn rs ae (v + 1) tx mf u (upd sz v (nI (K ++ (pairL k x y.1).map (fun w => (w, y.2))).length)) nv ph tu sv) := by
  refine CT.of (by decide) (Nat.le_of_ble_eq_true rfl) ?_
  intro X A hl hX hF
  have hy1 : rw (6 * (64 * (v + 1) + i)) = y.1 := congrArg Prod.fst hy
  have fin : ∀ (w : Int32) (u : Nat → Int32), pairL k x y.1 = [w] → pushM rw (64 * v + K.length) (w, (gRow rw (64 * (v + 1) + i)).2) u → RR X 8 D A 0 0 (WM am cI cZ tl nn rs ae (v + 1) tx mf u (upd sz v (nI (K.length + 1))) nv ph tu sv) [] 156 [] := by
    intro w u he hu
    rw [he] at hF hlen
    rw [hy] at hu
    have hlen2 : K.length < 64 := by simp at hlen; omega
    exact r_vret u hX hF d_M_pair_156 ((mP.rf hK).push hu rfl hlen2) rfl (by rw [List.length_append]; rfl)
  have emp : pairL k x y.1 = [] → RR X 8 D A 0 0 (WM am cI cZ tl nn rs ae (v + 1) tx mf rw sz nv ph tu sv) [] 156 [] := by
    intro he
    rw [he, List.map_nil, List.append_nil] at hF
    exact r_vret rw hX hF d_M_pair_156 (mP.rf hK) rfl (by rw [upd_id hsv])
  have hk7 : k = 9 ∨ k = 10 ∨ k = 11 ∨ k = 12 ∨ k = 13 ∨ k = 14 ∨ k = 16 := by omega
  rcases hk7 with rfl | rfl | rfl | rfl | rfl | rfl | rfl
  · have hl64 : K.length < 64 ∨ pairL 9 x y.1 = [] := by
      cases hc : pairL 9 x y.1 with
      | nil => exact Or.inr rfl
      | cons a b => rw [hc] at hlen; simp at hlen; exact Or.inl (by omega)
    have hl64 : K.length < 64 := by rcases hl64 with h | h; exact h; simp [pairL] at h
    refine r_aload_n (i := 0) hX d_M_pair_0 rfl rfl ?_
    refine r_get 0 13 hX d_M_pair_1 rfl rfl fi_M (by decide) fl_M_51 rfl rfl ?_
    refine r_aload_n (i := 0) hX d_M_pair_4 rfl rfl ?_
    refine r_iload_n (i := 3) hX d_M_pair_5 rfl rfl ?_
    refine r_callVwi (q0 := 0) hX d_M_pair_6 cw_M_operand ml_M_115 (c_M_operand i) (Or.inl rfl) rfl rfl rfl rfl (by decide) (Nat.le_of_ble_eq_true rfl) (fun _ => rfl) (fun _ _ => ?_)
    refine r_iald 10 0 (6 * (64 * (v + 1) + i)) hX d_M_pair_9 rfl rfl rfl (by omega) (by decide) ?_
    refine r_top hy1 ?_
    refine r_istore hX d_M_pair_10 (by decide) ?_
    refine r_aload_n (i := 0) hX d_M_pair_12 rfl rfl ?_
    refine r_iload_n (i := 3) hX d_M_pair_13 rfl rfl ?_
    refine r_callVwi (q0 := 0) hX d_M_pair_14 cw_M_operand ml_M_115 (c_M_operand i) (Or.inl rfl) rfl rfl rfl rfl (by decide) (Nat.le_of_ble_eq_true rfl) (fun _ => rfl) (fun _ _ => ?_)
    refine r_iconst (v := nI 1) hX d_M_pair_17 (by decide) ?_
    refine r_iadd hX d_M_pair_18 ?_
    refine r_top (nI_add _ _) ?_
    refine r_istore hX d_M_pair_19 (by decide) ?_
    refine r_iload_n (i := 1) hX d_M_pair_21 rfl rfl ?_
    refine r_bipush (v := nI 9) hX d_M_pair_22 (by decide) ?_
    refine r_icmp_ne 37 hX d_M_pair_24 (by decide) (fun c24 => absurd c24 (by decide)) (fun c24 => ?_)
    refine r_aload_n (i := 0) hX d_M_pair_27 rfl rfl ?_
    refine r_iload_n (i := 2) hX d_M_pair_28 rfl rfl ?_
    refine r_iload hX d_M_pair_29 rfl ?_
    refine r_iadd hX d_M_pair_31 ?_
    refine r_iload hX d_M_pair_32 rfl ?_
    refine r_callVwv (q0 := 0) hX d_M_pair_34 cw_M_give ml_M_119 (c_M_give (x + y.1) (64 * (v + 1) + i) v K.length hsv hl64 (by omega) (by omega) (by omega)) (Or.inl rfl) rfl rfl rfl rfl (by decide) (Nat.le_of_ble_eq_true rfl) (fun _ => rfl) (fun u hu => ?_)
    refine r_iload_n (i := 1) hX d_M_pair_37 rfl rfl ?_
    refine r_bipush (v := nI 10) hX d_M_pair_38 (by decide) ?_
    refine r_icmp_ne 53 hX d_M_pair_40 (by decide) (fun c40 => ?_) (fun c40 => absurd c40 (by decide))
    refine r_iload_n (i := 1) hX d_M_pair_53 rfl rfl ?_
    refine r_bipush (v := nI 11) hX d_M_pair_54 (by decide) ?_
    refine r_icmp_ne 69 hX d_M_pair_56 (by decide) (fun c56 => ?_) (fun c56 => absurd c56 (by decide))
    refine r_iload_n (i := 1) hX d_M_pair_69 rfl rfl ?_
    refine r_bipush (v := nI 12) hX d_M_pair_70 (by decide) ?_
    refine r_icmp_ne 81 hX d_M_pair_72 (by decide) (fun c72 => ?_) (fun c72 => absurd c72 (by decide))
    refine r_iload_n (i := 1) hX d_M_pair_81 rfl rfl ?_
    refine r_bipush (v := nI 13) hX d_M_pair_82 (by decide) ?_
    refine r_icmp_ne 93 hX d_M_pair_84 (by decide) (fun c84 => ?_) (fun c84 => absurd c84 (by decide))
    refine r_iload_n (i := 1) hX d_M_pair_93 rfl rfl ?_
    refine r_bipush (v := nI 16) hX d_M_pair_94 (by decide) ?_
    refine r_icmp_ne 107 hX d_M_pair_96 (by decide) (fun c96 => ?_) (fun c96 => absurd c96 (by decide))
    refine r_iload_n (i := 1) hX d_M_pair_107 rfl rfl ?_
    refine r_bipush (v := nI 14) hX d_M_pair_108 (by decide) ?_
    refine r_icmp_ne 156 hX d_M_pair_110 (by decide) (fun c110 => ?_) (fun c110 => absurd c110 (by decide))
    exact r_lv [] (fin _ u (by simp [pairL]) hu)
  · have hl64 : K.length < 64 ∨ pairL 10 x y.1 = [] := by
      cases hc : pairL 10 x y.1 with
      | nil => exact Or.inr rfl
      | cons a b => rw [hc] at hlen; simp at hlen; exact Or.inl (by omega)
    have hl64 : K.length < 64 := by rcases hl64 with h | h; exact h; simp [pairL] at h
    refine r_aload_n (i := 0) hX d_M_pair_0 rfl rfl ?_
    refine r_get 0 13 hX d_M_pair_1 rfl rfl fi_M (by decide) fl_M_51 rfl rfl ?_
    refine r_aload_n (i := 0) hX d_M_pair_4 rfl rfl ?_
    refine r_iload_n (i := 3) hX d_M_pair_5 rfl rfl ?_
    refine r_callVwi (q0 := 0) hX d_M_pair_6 cw_M_operand ml_M_115 (c_M_operand i) (Or.inl rfl) rfl rfl rfl rfl (by decide) (Nat.le_of_ble_eq_true rfl) (fun _ => rfl) (fun _ _ => ?_)
    refine r_iald 10 0 (6 * (64 * (v + 1) + i)) hX d_M_pair_9 rfl rfl rfl (by omega) (by decide) ?_
    refine r_top hy1 ?_
    refine r_istore hX d_M_pair_10 (by decide) ?_
    refine r_aload_n (i := 0) hX d_M_pair_12 rfl rfl ?_
    refine r_iload_n (i := 3) hX d_M_pair_13 rfl rfl ?_
    refine r_callVwi (q0 := 0) hX d_M_pair_14 cw_M_operand ml_M_115 (c_M_operand i) (Or.inl rfl) rfl rfl rfl rfl (by decide) (Nat.le_of_ble_eq_true rfl) (fun _ => rfl) (fun _ _ => ?_)
    refine r_iconst (v := nI 1) hX d_M_pair_17 (by decide) ?_
    refine r_iadd hX d_M_pair_18 ?_
    refine r_top (nI_add _ _) ?_
    refine r_istore hX d_M_pair_19 (by decide) ?_
    refine r_iload_n (i := 1) hX d_M_pair_21 rfl rfl ?_
    refine r_bipush (v := nI 9) hX d_M_pair_22 (by decide) ?_
    refine r_icmp_ne 37 hX d_M_pair_24 (by decide) (fun c24 => ?_) (fun c24 => absurd c24 (by decide))
    refine r_iload_n (i := 1) hX d_M_pair_37 rfl rfl ?_
    refine r_bipush (v := nI 10) hX d_M_pair_38 (by decide) ?_
    refine r_icmp_ne 53 hX d_M_pair_40 (by decide) (fun c40 => absurd c40 (by decide)) (fun c40 => ?_)
    refine r_aload_n (i := 0) hX d_M_pair_43 rfl rfl ?_
    refine r_iload_n (i := 2) hX d_M_pair_44 rfl rfl ?_
    refine r_iload hX d_M_pair_45 rfl ?_
    refine r_isub hX d_M_pair_47 ?_
    refine r_iload hX d_M_pair_48 rfl ?_
    refine r_callVwv (q0 := 0) hX d_M_pair_50 cw_M_give ml_M_119 (c_M_give (x - y.1) (64 * (v + 1) + i) v K.length hsv hl64 (by omega) (by omega) (by omega)) (Or.inl rfl) rfl rfl rfl rfl (by decide) (Nat.le_of_ble_eq_true rfl) (fun _ => rfl) (fun u hu => ?_)
    refine r_iload_n (i := 1) hX d_M_pair_53 rfl rfl ?_
    refine r_bipush (v := nI 11) hX d_M_pair_54 (by decide) ?_
    refine r_icmp_ne 69 hX d_M_pair_56 (by decide) (fun c56 => ?_) (fun c56 => absurd c56 (by decide))
    refine r_iload_n (i := 1) hX d_M_pair_69 rfl rfl ?_
    refine r_bipush (v := nI 12) hX d_M_pair_70 (by decide) ?_
    refine r_icmp_ne 81 hX d_M_pair_72 (by decide) (fun c72 => ?_) (fun c72 => absurd c72 (by decide))
    refine r_iload_n (i := 1) hX d_M_pair_81 rfl rfl ?_
    refine r_bipush (v := nI 13) hX d_M_pair_82 (by decide) ?_
    refine r_icmp_ne 93 hX d_M_pair_84 (by decide) (fun c84 => ?_) (fun c84 => absurd c84 (by decide))
    refine r_iload_n (i := 1) hX d_M_pair_93 rfl rfl ?_
    refine r_bipush (v := nI 16) hX d_M_pair_94 (by decide) ?_
    refine r_icmp_ne 107 hX d_M_pair_96 (by decide) (fun c96 => ?_) (fun c96 => absurd c96 (by decide))
    refine r_iload_n (i := 1) hX d_M_pair_107 rfl rfl ?_
    refine r_bipush (v := nI 14) hX d_M_pair_108 (by decide) ?_
    refine r_icmp_ne 156 hX d_M_pair_110 (by decide) (fun c110 => ?_) (fun c110 => absurd c110 (by decide))
    exact r_lv [] (fin _ u (by simp [pairL]) hu)
  · have hl64 : K.length < 64 ∨ pairL 11 x y.1 = [] := by
      cases hc : pairL 11 x y.1 with
      | nil => exact Or.inr rfl
      | cons a b => rw [hc] at hlen; simp at hlen; exact Or.inl (by omega)
    have hl64 : K.length < 64 := by rcases hl64 with h | h; exact h; simp [pairL] at h
    refine r_aload_n (i := 0) hX d_M_pair_0 rfl rfl ?_
    refine r_get 0 13 hX d_M_pair_1 rfl rfl fi_M (by decide) fl_M_51 rfl rfl ?_
    refine r_aload_n (i := 0) hX d_M_pair_4 rfl rfl ?_
    refine r_iload_n (i := 3) hX d_M_pair_5 rfl rfl ?_
    refine r_callVwi (q0 := 0) hX d_M_pair_6 cw_M_operand ml_M_115 (c_M_operand i) (Or.inl rfl) rfl rfl rfl rfl (by decide) (Nat.le_of_ble_eq_true rfl) (fun _ => rfl) (fun _ _ => ?_)
    refine r_iald 10 0 (6 * (64 * (v + 1) + i)) hX d_M_pair_9 rfl rfl rfl (by omega) (by decide) ?_
    refine r_top hy1 ?_
    refine r_istore hX d_M_pair_10 (by decide) ?_
    refine r_aload_n (i := 0) hX d_M_pair_12 rfl rfl ?_
    refine r_iload_n (i := 3) hX d_M_pair_13 rfl rfl ?_
    refine r_callVwi (q0 := 0) hX d_M_pair_14 cw_M_operand ml_M_115 (c_M_operand i) (Or.inl rfl) rfl rfl rfl rfl (by decide) (Nat.le_of_ble_eq_true rfl) (fun _ => rfl) (fun _ _ => ?_)
    refine r_iconst (v := nI 1) hX d_M_pair_17 (by decide) ?_
    refine r_iadd hX d_M_pair_18 ?_
    refine r_top (nI_add _ _) ?_
    refine r_istore hX d_M_pair_19 (by decide) ?_
    refine r_iload_n (i := 1) hX d_M_pair_21 rfl rfl ?_
    refine r_bipush (v := nI 9) hX d_M_pair_22 (by decide) ?_
    refine r_icmp_ne 37 hX d_M_pair_24 (by decide) (fun c24 => ?_) (fun c24 => absurd c24 (by decide))
    refine r_iload_n (i := 1) hX d_M_pair_37 rfl rfl ?_
    refine r_bipush (v := nI 10) hX d_M_pair_38 (by decide) ?_
    refine r_icmp_ne 53 hX d_M_pair_40 (by decide) (fun c40 => ?_) (fun c40 => absurd c40 (by decide))
    refine r_iload_n (i := 1) hX d_M_pair_53 rfl rfl ?_
    refine r_bipush (v := nI 11) hX d_M_pair_54 (by decide) ?_
    refine r_icmp_ne 69 hX d_M_pair_56 (by decide) (fun c56 => absurd c56 (by decide)) (fun c56 => ?_)
    refine r_aload_n (i := 0) hX d_M_pair_59 rfl rfl ?_
    refine r_iload_n (i := 2) hX d_M_pair_60 rfl rfl ?_
    refine r_iload hX d_M_pair_61 rfl ?_
    refine r_imul hX d_M_pair_63 ?_
    refine r_iload hX d_M_pair_64 rfl ?_
    refine r_callVwv (q0 := 0) hX d_M_pair_66 cw_M_give ml_M_119 (c_M_give (x * y.1) (64 * (v + 1) + i) v K.length hsv hl64 (by omega) (by omega) (by omega)) (Or.inl rfl) rfl rfl rfl rfl (by decide) (Nat.le_of_ble_eq_true rfl) (fun _ => rfl) (fun u hu => ?_)
    refine r_iload_n (i := 1) hX d_M_pair_69 rfl rfl ?_
    refine r_bipush (v := nI 12) hX d_M_pair_70 (by decide) ?_
    refine r_icmp_ne 81 hX d_M_pair_72 (by decide) (fun c72 => ?_) (fun c72 => absurd c72 (by decide))
    refine r_iload_n (i := 1) hX d_M_pair_81 rfl rfl ?_
    refine r_bipush (v := nI 13) hX d_M_pair_82 (by decide) ?_
    refine r_icmp_ne 93 hX d_M_pair_84 (by decide) (fun c84 => ?_) (fun c84 => absurd c84 (by decide))
    refine r_iload_n (i := 1) hX d_M_pair_93 rfl rfl ?_
    refine r_bipush (v := nI 16) hX d_M_pair_94 (by decide) ?_
    refine r_icmp_ne 107 hX d_M_pair_96 (by decide) (fun c96 => ?_) (fun c96 => absurd c96 (by decide))
    refine r_iload_n (i := 1) hX d_M_pair_107 rfl rfl ?_
    refine r_bipush (v := nI 14) hX d_M_pair_108 (by decide) ?_
    refine r_icmp_ne 156 hX d_M_pair_110 (by decide) (fun c110 => ?_) (fun c110 => absurd c110 (by decide))
    exact r_lv [] (fin _ u (by simp [pairL]) hu)
  · have hl64 : K.length < 64 ∨ pairL 12 x y.1 = [] := by
      cases hc : pairL 12 x y.1 with
      | nil => exact Or.inr rfl
      | cons a b => rw [hc] at hlen; simp at hlen; exact Or.inl (by omega)
    refine r_aload_n (i := 0) hX d_M_pair_0 rfl rfl ?_
    refine r_get 0 13 hX d_M_pair_1 rfl rfl fi_M (by decide) fl_M_51 rfl rfl ?_
    refine r_aload_n (i := 0) hX d_M_pair_4 rfl rfl ?_
    refine r_iload_n (i := 3) hX d_M_pair_5 rfl rfl ?_
    refine r_callVwi (q0 := 0) hX d_M_pair_6 cw_M_operand ml_M_115 (c_M_operand i) (Or.inl rfl) rfl rfl rfl rfl (by decide) (Nat.le_of_ble_eq_true rfl) (fun _ => rfl) (fun _ _ => ?_)
    refine r_iald 10 0 (6 * (64 * (v + 1) + i)) hX d_M_pair_9 rfl rfl rfl (by omega) (by decide) ?_
    refine r_top hy1 ?_
    refine r_istore hX d_M_pair_10 (by decide) ?_
    refine r_aload_n (i := 0) hX d_M_pair_12 rfl rfl ?_
    refine r_iload_n (i := 3) hX d_M_pair_13 rfl rfl ?_
    refine r_callVwi (q0 := 0) hX d_M_pair_14 cw_M_operand ml_M_115 (c_M_operand i) (Or.inl rfl) rfl rfl rfl rfl (by decide) (Nat.le_of_ble_eq_true rfl) (fun _ => rfl) (fun _ _ => ?_)
    refine r_iconst (v := nI 1) hX d_M_pair_17 (by decide) ?_
    refine r_iadd hX d_M_pair_18 ?_
    refine r_top (nI_add _ _) ?_
    refine r_istore hX d_M_pair_19 (by decide) ?_
    refine r_iload_n (i := 1) hX d_M_pair_21 rfl rfl ?_
    refine r_bipush (v := nI 9) hX d_M_pair_22 (by decide) ?_
    refine r_icmp_ne 37 hX d_M_pair_24 (by decide) (fun c24 => ?_) (fun c24 => absurd c24 (by decide))
    refine r_iload_n (i := 1) hX d_M_pair_37 rfl rfl ?_
    refine r_bipush (v := nI 10) hX d_M_pair_38 (by decide) ?_
    refine r_icmp_ne 53 hX d_M_pair_40 (by decide) (fun c40 => ?_) (fun c40 => absurd c40 (by decide))
    refine r_iload_n (i := 1) hX d_M_pair_53 rfl rfl ?_
    refine r_bipush (v := nI 11) hX d_M_pair_54 (by decide) ?_
    refine r_icmp_ne 69 hX d_M_pair_56 (by decide) (fun c56 => ?_) (fun c56 => absurd c56 (by decide))
    refine r_iload_n (i := 1) hX d_M_pair_69 rfl rfl ?_
    refine r_bipush (v := nI 12) hX d_M_pair_70 (by decide) ?_
    refine r_icmp_ne 81 hX d_M_pair_72 (by decide) (fun c72 => absurd c72 (by decide)) (fun c72 => ?_)
    refine r_iload_n (i := 2) hX d_M_pair_75 rfl rfl ?_
    refine r_iload hX d_M_pair_76 rfl ?_
    refine r_icmp_lt 99 hX d_M_pair_78 (by decide) (fun c78 => ?_) (fun c78 => ?_)
    · have hl64 : K.length < 64 := by rcases hl64 with h | h; exact h; simp [pairL, c78] at h
      refine r_aload_n (i := 0) hX d_M_pair_99 rfl rfl ?_
      refine r_iload hX d_M_pair_100 rfl ?_
      refine r_iload hX d_M_pair_102 rfl ?_
      refine r_callVwv (q0 := 0) hX d_M_pair_104 cw_M_give ml_M_119 (c_M_give y.1 (64 * (v + 1) + i) v K.length hsv hl64 (by omega) (by omega) (by omega)) (Or.inl rfl) rfl rfl rfl rfl (by decide) (Nat.le_of_ble_eq_true rfl) (fun _ => rfl) (fun u hu => ?_)
      have hE := fin _ u (by simp [pairL, c78]) hu
      refine r_iload_n (i := 1) hX d_M_pair_107 rfl rfl ?_
      refine r_bipush (v := nI 14) hX d_M_pair_108 (by decide) ?_
      refine r_icmp_ne 156 hX d_M_pair_110 (by decide) (fun c110 => ?_) (fun c110 => absurd c110 (by decide))
      exact r_lv [] hE
    · have hE := emp (by simp [pairL, c78])
      refine r_iload_n (i := 1) hX d_M_pair_81 rfl rfl ?_
      refine r_bipush (v := nI 13) hX d_M_pair_82 (by decide) ?_
      refine r_icmp_ne 93 hX d_M_pair_84 (by decide) (fun c84 => ?_) (fun c84 => absurd c84 (by decide))
      refine r_iload_n (i := 1) hX d_M_pair_93 rfl rfl ?_
      refine r_bipush (v := nI 16) hX d_M_pair_94 (by decide) ?_
      refine r_icmp_ne 107 hX d_M_pair_96 (by decide) (fun c96 => ?_) (fun c96 => absurd c96 (by decide))
      refine r_iload_n (i := 1) hX d_M_pair_107 rfl rfl ?_
      refine r_bipush (v := nI 14) hX d_M_pair_108 (by decide) ?_
      refine r_icmp_ne 156 hX d_M_pair_110 (by decide) (fun c110 => ?_) (fun c110 => absurd c110 (by decide))
      exact r_lv [] hE
  · have hl64 : K.length < 64 ∨ pairL 13 x y.1 = [] := by
      cases hc : pairL 13 x y.1 with
      | nil => exact Or.inr rfl
      | cons a b => rw [hc] at hlen; simp at hlen; exact Or.inl (by omega)
    refine r_aload_n (i := 0) hX d_M_pair_0 rfl rfl ?_
    refine r_get 0 13 hX d_M_pair_1 rfl rfl fi_M (by decide) fl_M_51 rfl rfl ?_
    refine r_aload_n (i := 0) hX d_M_pair_4 rfl rfl ?_
    refine r_iload_n (i := 3) hX d_M_pair_5 rfl rfl ?_
    refine r_callVwi (q0 := 0) hX d_M_pair_6 cw_M_operand ml_M_115 (c_M_operand i) (Or.inl rfl) rfl rfl rfl rfl (by decide) (Nat.le_of_ble_eq_true rfl) (fun _ => rfl) (fun _ _ => ?_)
    refine r_iald 10 0 (6 * (64 * (v + 1) + i)) hX d_M_pair_9 rfl rfl rfl (by omega) (by decide) ?_
    refine r_top hy1 ?_
    refine r_istore hX d_M_pair_10 (by decide) ?_
    refine r_aload_n (i := 0) hX d_M_pair_12 rfl rfl ?_
    refine r_iload_n (i := 3) hX d_M_pair_13 rfl rfl ?_
    refine r_callVwi (q0 := 0) hX d_M_pair_14 cw_M_operand ml_M_115 (c_M_operand i) (Or.inl rfl) rfl rfl rfl rfl (by decide) (Nat.le_of_ble_eq_true rfl) (fun _ => rfl) (fun _ _ => ?_)
    refine r_iconst (v := nI 1) hX d_M_pair_17 (by decide) ?_
    refine r_iadd hX d_M_pair_18 ?_
    refine r_top (nI_add _ _) ?_
    refine r_istore hX d_M_pair_19 (by decide) ?_
    refine r_iload_n (i := 1) hX d_M_pair_21 rfl rfl ?_
    refine r_bipush (v := nI 9) hX d_M_pair_22 (by decide) ?_
    refine r_icmp_ne 37 hX d_M_pair_24 (by decide) (fun c24 => ?_) (fun c24 => absurd c24 (by decide))
    refine r_iload_n (i := 1) hX d_M_pair_37 rfl rfl ?_
    refine r_bipush (v := nI 10) hX d_M_pair_38 (by decide) ?_
    refine r_icmp_ne 53 hX d_M_pair_40 (by decide) (fun c40 => ?_) (fun c40 => absurd c40 (by decide))
    refine r_iload_n (i := 1) hX d_M_pair_53 rfl rfl ?_
    refine r_bipush (v := nI 11) hX d_M_pair_54 (by decide) ?_
    refine r_icmp_ne 69 hX d_M_pair_56 (by decide) (fun c56 => ?_) (fun c56 => absurd c56 (by decide))
    refine r_iload_n (i := 1) hX d_M_pair_69 rfl rfl ?_
    refine r_bipush (v := nI 12) hX d_M_pair_70 (by decide) ?_
    refine r_icmp_ne 81 hX d_M_pair_72 (by decide) (fun c72 => ?_) (fun c72 => absurd c72 (by decide))
    refine r_iload_n (i := 1) hX d_M_pair_81 rfl rfl ?_
    refine r_bipush (v := nI 13) hX d_M_pair_82 (by decide) ?_
    refine r_icmp_ne 93 hX d_M_pair_84 (by decide) (fun c84 => absurd c84 (by decide)) (fun c84 => ?_)
    refine r_iload_n (i := 2) hX d_M_pair_87 rfl rfl ?_
    refine r_iload hX d_M_pair_88 rfl ?_
    refine r_icmp_eq 99 hX d_M_pair_90 (by decide) (fun c90 => ?_) (fun c90 => ?_)
    · have hl64 : K.length < 64 := by rcases hl64 with h | h; exact h; simp [pairL, c90] at h
      refine r_aload_n (i := 0) hX d_M_pair_99 rfl rfl ?_
      refine r_iload hX d_M_pair_100 rfl ?_
      refine r_iload hX d_M_pair_102 rfl ?_
      refine r_callVwv (q0 := 0) hX d_M_pair_104 cw_M_give ml_M_119 (c_M_give y.1 (64 * (v + 1) + i) v K.length hsv hl64 (by omega) (by omega) (by omega)) (Or.inl rfl) rfl rfl rfl rfl (by decide) (Nat.le_of_ble_eq_true rfl) (fun _ => rfl) (fun u hu => ?_)
      have hE := fin _ u (by simp [pairL, c90]) hu
      refine r_iload_n (i := 1) hX d_M_pair_107 rfl rfl ?_
      refine r_bipush (v := nI 14) hX d_M_pair_108 (by decide) ?_
      refine r_icmp_ne 156 hX d_M_pair_110 (by decide) (fun c110 => ?_) (fun c110 => absurd c110 (by decide))
      exact r_lv [] hE
    · have hE := emp (by simp [pairL, c90])
      refine r_iload_n (i := 1) hX d_M_pair_93 rfl rfl ?_
      refine r_bipush (v := nI 16) hX d_M_pair_94 (by decide) ?_
      refine r_icmp_ne 107 hX d_M_pair_96 (by decide) (fun c96 => ?_) (fun c96 => absurd c96 (by decide))
      refine r_iload_n (i := 1) hX d_M_pair_107 rfl rfl ?_
      refine r_bipush (v := nI 14) hX d_M_pair_108 (by decide) ?_
      refine r_icmp_ne 156 hX d_M_pair_110 (by decide) (fun c110 => ?_) (fun c110 => absurd c110 (by decide))
      exact r_lv [] hE
  · have h8 := serN_8 x y.1
    have hpl : pairL 14 x y.1 = serL x y.1 := by simp [pairL]
    rw [hpl] at hF hlen
    have hsl : (serL x y.1).length = serN x y.1 := by simp [serL]
    have hy2 := Int32.toInt_lt y.1
    have hx1 := Int32.le_toInt x
    have hx2 := Int32.toInt_lt x
    have e1 : (1 : Int64).toInt = 1 := by decide
    have e8 : (8 : Int64).toInt = 8 := by decide
    have ex := gs64_of32 x
    have ey := gs64_of32 y.1
    have a8 : (x.toInt64 + 8).toInt = x.toInt + 8 := by
      rw [gs64_add (by rw [ex, e8]; omega) (by rw [ex, e8]; omega), ex, e8]
    have loop : ∀ (n m : Nat) (f : Nat → Int32) (j : Int64), m + n = serN x y.1 → j.toInt = x.toInt + m → mP rw (64 * v) (K ++ (List.range m).map (fun k => (x + nI k, y.2))) f → RR X 8 D A 0 0 (WM am cI cZ tl nn rs ae (v + 1) tx mf f (upd sz v (nI (K.length + m))) nv ph tu sv) [(0, .ref (am 0)), (2, .int x), (4, .int y.1), (5, .int (nI (6 * (64 * (v + 1) + i) + 1))), (6, .long j)] 117 [] := by
      intro n
      induction n with
      | zero =>
        intro m f j hm hj hs
        have hg := serN_ge (x := x) (y := y.1) (m := m) (by omega)
        have he : (serL x y.1).map (fun w => (w, y.2)) = (List.range m).map (fun k => (x + nI k, y.2)) := by rw [serL, List.map_map, show serN x y.1 = m by omega]; rfl
        rw [he] at hF
        have hlm : (K ++ (List.range m).map (fun k => (x + nI k, y.2))).length = K.length + m := by simp
        refine r_lload hX d_M_pair_117 rfl ?_
        refine r_iload hX d_M_pair_119 rfl ?_
        refine r_i2l hX d_M_pair_121 rfl ?_
        refine r_lcmp hX d_M_pair_122 ?_
        refine r_if_gt 156 hX d_M_pair_123 (by decide) (fun c123 => ?_) (fun c123 => ?_)
        · exact r_vret f hX hF d_M_pair_156 hs rfl (by rw [hlm])
        · have h1 : ¬ y.1.toInt < x.toInt + m := fun h => c123 ((lg_cmp_gt _ _).mpr (Int64.lt_iff_toInt_lt.mpr (by rw [hj, ey]; exact h)))
          refine r_lload hX d_M_pair_126 rfl ?_
          refine r_iload_n (i := 2) hX d_M_pair_128 rfl rfl ?_
          refine r_i2l hX d_M_pair_129 rfl ?_
          refine r_ldc2 hX d_M_pair_130 kl_M_125 ?_
          refine r_ladd hX d_M_pair_133 ?_
          refine r_lcmp hX d_M_pair_134 ?_
          refine r_if_ge 156 hX d_M_pair_135 (by decide) (fun c135 => ?_) (fun c135 => absurd ((lg_cmp_ge _ _).mpr (Int64.le_iff_toInt_le.mpr (by rw [hj, a8]; omega))) c135)
          exact r_vret f hX hF d_M_pair_156 hs rfl (by rw [hlm])
      | succ n ih =>
        intro m f j hm hj hs
        have hg := serN_lt (x := x) (y := y.1) (m := m) (by omega)
        have hlm : (K ++ (List.range m).map (fun k => (x + nI k, y.2))).length = K.length + m := by simp
        have hrow : gRow f (64 * (v + 1) + i) = y := by rw [hs.row (by omega)]; exact hy
        refine r_lload hX d_M_pair_117 rfl ?_
        refine r_iload hX d_M_pair_119 rfl ?_
        refine r_i2l hX d_M_pair_121 rfl ?_
        refine r_lcmp hX d_M_pair_122 ?_
        refine r_if_gt 156 hX d_M_pair_123 (by decide) (fun c123 => absurd (Int64.lt_iff_toInt_lt.mp ((lg_cmp_gt _ _).mp c123)) (by rw [hj, ey]; omega)) (fun c123 => ?_)
        refine r_lload hX d_M_pair_126 rfl ?_
        refine r_iload_n (i := 2) hX d_M_pair_128 rfl rfl ?_
        refine r_i2l hX d_M_pair_129 rfl ?_
        refine r_ldc2 hX d_M_pair_130 kl_M_125 ?_
        refine r_ladd hX d_M_pair_133 ?_
        refine r_lcmp hX d_M_pair_134 ?_
        refine r_if_ge 156 hX d_M_pair_135 (by decide) (fun c135 => absurd (Int64.le_iff_toInt_le.mp ((lg_cmp_ge _ _).mp c135)) (by rw [hj, a8]; omega)) (fun c135 => ?_)
        refine r_aload_n (i := 0) hX d_M_pair_138 rfl rfl ?_
        refine r_lload hX d_M_pair_139 rfl ?_
        refine r_l2i hX d_M_pair_141 rfl ?_
        refine r_top (ser_val (m := m) (x := x) (by omega) hj (by omega)) ?_
        refine r_iload hX d_M_pair_142 rfl ?_
        refine r_callVwv (q0 := 0) hX d_M_pair_144 cw_M_give ml_M_119 (c_M_give (x + nI m) (64 * (v + 1) + i) v (K.length + m) pk_us (by omega) (by omega) (by omega) (by omega)) (Or.inl rfl) rfl rfl rfl rfl (by decide) (Nat.le_of_ble_eq_true rfl) (fun _ => rfl) (fun g hg2 => ?_)
        refine r_lload hX d_M_pair_147 rfl ?_
        refine r_lconst (v := 1) hX d_M_pair_149 (by decide) ?_
        refine r_ladd hX d_M_pair_150 ?_
        refine r_lstore hX d_M_pair_151 (by decide) ?_
        refine r_goto 117 hX d_M_pair_153 (by decide) ?_
        have hg3 : pushM f (64 * v + (K.length + m)) (x + nI m, y.2) g := by rw [hrow] at hg2; exact hg2
        have h := ih (m + 1) g (j + 1) (by omega) (by rw [gs64_add (by rw [hj, e1]; omega) (by rw [hj, e1]; omega), hj, e1]; omega) (by rw [List.range_succ, List.map_append, ← List.append_assoc]; exact hs.push hg3 (by rw [hlm]) (by rw [hlm]; omega))
        rw [← Nat.add_assoc, ← upd_uu sz v (nI (K.length + m))] at h
        exact r_lv [0, 2, 4, 5, 6] h
    refine r_aload_n (i := 0) hX d_M_pair_0 rfl rfl ?_
    refine r_get 0 13 hX d_M_pair_1 rfl rfl fi_M (by decide) fl_M_51 rfl rfl ?_
    refine r_aload_n (i := 0) hX d_M_pair_4 rfl rfl ?_
    refine r_iload_n (i := 3) hX d_M_pair_5 rfl rfl ?_
    refine r_callVwi (q0 := 0) hX d_M_pair_6 cw_M_operand ml_M_115 (c_M_operand i) (Or.inl rfl) rfl rfl rfl rfl (by decide) (Nat.le_of_ble_eq_true rfl) (fun _ => rfl) (fun _ _ => ?_)
    refine r_iald 10 0 (6 * (64 * (v + 1) + i)) hX d_M_pair_9 rfl rfl rfl (by omega) (by decide) ?_
    refine r_top hy1 ?_
    refine r_istore hX d_M_pair_10 (by decide) ?_
    refine r_aload_n (i := 0) hX d_M_pair_12 rfl rfl ?_
    refine r_iload_n (i := 3) hX d_M_pair_13 rfl rfl ?_
    refine r_callVwi (q0 := 0) hX d_M_pair_14 cw_M_operand ml_M_115 (c_M_operand i) (Or.inl rfl) rfl rfl rfl rfl (by decide) (Nat.le_of_ble_eq_true rfl) (fun _ => rfl) (fun _ _ => ?_)
    refine r_iconst (v := nI 1) hX d_M_pair_17 (by decide) ?_
    refine r_iadd hX d_M_pair_18 ?_
    refine r_top (nI_add _ _) ?_
    refine r_istore hX d_M_pair_19 (by decide) ?_
    refine r_iload_n (i := 1) hX d_M_pair_21 rfl rfl ?_
    refine r_bipush (v := nI 9) hX d_M_pair_22 (by decide) ?_
    refine r_icmp_ne 37 hX d_M_pair_24 (by decide) (fun c24 => ?_) (fun c24 => absurd c24 (by decide))
    refine r_iload_n (i := 1) hX d_M_pair_37 rfl rfl ?_
    refine r_bipush (v := nI 10) hX d_M_pair_38 (by decide) ?_
    refine r_icmp_ne 53 hX d_M_pair_40 (by decide) (fun c40 => ?_) (fun c40 => absurd c40 (by decide))
    refine r_iload_n (i := 1) hX d_M_pair_53 rfl rfl ?_
    refine r_bipush (v := nI 11) hX d_M_pair_54 (by decide) ?_
    refine r_icmp_ne 69 hX d_M_pair_56 (by decide) (fun c56 => ?_) (fun c56 => absurd c56 (by decide))
    refine r_iload_n (i := 1) hX d_M_pair_69 rfl rfl ?_
    refine r_bipush (v := nI 12) hX d_M_pair_70 (by decide) ?_
    refine r_icmp_ne 81 hX d_M_pair_72 (by decide) (fun c72 => ?_) (fun c72 => absurd c72 (by decide))
    refine r_iload_n (i := 1) hX d_M_pair_81 rfl rfl ?_
    refine r_bipush (v := nI 13) hX d_M_pair_82 (by decide) ?_
    refine r_icmp_ne 93 hX d_M_pair_84 (by decide) (fun c84 => ?_) (fun c84 => absurd c84 (by decide))
    refine r_iload_n (i := 1) hX d_M_pair_93 rfl rfl ?_
    refine r_bipush (v := nI 16) hX d_M_pair_94 (by decide) ?_
    refine r_icmp_ne 107 hX d_M_pair_96 (by decide) (fun c96 => ?_) (fun c96 => absurd c96 (by decide))
    refine r_iload_n (i := 1) hX d_M_pair_107 rfl rfl ?_
    refine r_bipush (v := nI 14) hX d_M_pair_108 (by decide) ?_
    refine r_icmp_ne 156 hX d_M_pair_110 (by decide) (fun c110 => absurd c110 (by decide)) (fun c110 => ?_)
    refine r_iload_n (i := 2) hX d_M_pair_113 rfl rfl ?_
    refine r_i2l hX d_M_pair_114 rfl ?_
    refine r_lstore hX d_M_pair_115 (by decide) ?_
    have h := loop (serN x y.1) 0 rw x.toInt64 (by omega) (by rw [ex]; simp) (by simp; exact mP.rf hK)
    rw [show K.length + 0 = K.length from rfl, upd_id hsv] at h
    exact r_lv [0, 2, 4, 5, 6] h
  · have hl64 : K.length < 64 ∨ pairL 16 x y.1 = [] := by
      cases hc : pairL 16 x y.1 with
      | nil => exact Or.inr rfl
      | cons a b => rw [hc] at hlen; simp at hlen; exact Or.inl (by omega)
    have hl64 : K.length < 64 := by rcases hl64 with h | h; exact h; simp [pairL] at h
    refine r_aload_n (i := 0) hX d_M_pair_0 rfl rfl ?_
    refine r_get 0 13 hX d_M_pair_1 rfl rfl fi_M (by decide) fl_M_51 rfl rfl ?_
    refine r_aload_n (i := 0) hX d_M_pair_4 rfl rfl ?_
    refine r_iload_n (i := 3) hX d_M_pair_5 rfl rfl ?_
    refine r_callVwi (q0 := 0) hX d_M_pair_6 cw_M_operand ml_M_115 (c_M_operand i) (Or.inl rfl) rfl rfl rfl rfl (by decide) (Nat.le_of_ble_eq_true rfl) (fun _ => rfl) (fun _ _ => ?_)
    refine r_iald 10 0 (6 * (64 * (v + 1) + i)) hX d_M_pair_9 rfl rfl rfl (by omega) (by decide) ?_
    refine r_top hy1 ?_
    refine r_istore hX d_M_pair_10 (by decide) ?_
    refine r_aload_n (i := 0) hX d_M_pair_12 rfl rfl ?_
    refine r_iload_n (i := 3) hX d_M_pair_13 rfl rfl ?_
    refine r_callVwi (q0 := 0) hX d_M_pair_14 cw_M_operand ml_M_115 (c_M_operand i) (Or.inl rfl) rfl rfl rfl rfl (by decide) (Nat.le_of_ble_eq_true rfl) (fun _ => rfl) (fun _ _ => ?_)
    refine r_iconst (v := nI 1) hX d_M_pair_17 (by decide) ?_
    refine r_iadd hX d_M_pair_18 ?_
    refine r_top (nI_add _ _) ?_
    refine r_istore hX d_M_pair_19 (by decide) ?_
    refine r_iload_n (i := 1) hX d_M_pair_21 rfl rfl ?_
    refine r_bipush (v := nI 9) hX d_M_pair_22 (by decide) ?_
    refine r_icmp_ne 37 hX d_M_pair_24 (by decide) (fun c24 => ?_) (fun c24 => absurd c24 (by decide))
    refine r_iload_n (i := 1) hX d_M_pair_37 rfl rfl ?_
    refine r_bipush (v := nI 10) hX d_M_pair_38 (by decide) ?_
    refine r_icmp_ne 53 hX d_M_pair_40 (by decide) (fun c40 => ?_) (fun c40 => absurd c40 (by decide))
    refine r_iload_n (i := 1) hX d_M_pair_53 rfl rfl ?_
    refine r_bipush (v := nI 11) hX d_M_pair_54 (by decide) ?_
    refine r_icmp_ne 69 hX d_M_pair_56 (by decide) (fun c56 => ?_) (fun c56 => absurd c56 (by decide))
    refine r_iload_n (i := 1) hX d_M_pair_69 rfl rfl ?_
    refine r_bipush (v := nI 12) hX d_M_pair_70 (by decide) ?_
    refine r_icmp_ne 81 hX d_M_pair_72 (by decide) (fun c72 => ?_) (fun c72 => absurd c72 (by decide))
    refine r_iload_n (i := 1) hX d_M_pair_81 rfl rfl ?_
    refine r_bipush (v := nI 13) hX d_M_pair_82 (by decide) ?_
    refine r_icmp_ne 93 hX d_M_pair_84 (by decide) (fun c84 => ?_) (fun c84 => absurd c84 (by decide))
    refine r_iload_n (i := 1) hX d_M_pair_93 rfl rfl ?_
    refine r_bipush (v := nI 16) hX d_M_pair_94 (by decide) ?_
    refine r_icmp_ne 107 hX d_M_pair_96 (by decide) (fun c96 => absurd c96 (by decide)) (fun c96 => ?_)
    refine r_aload_n (i := 0) hX d_M_pair_99 rfl rfl ?_
    refine r_iload hX d_M_pair_100 rfl ?_
    refine r_iload hX d_M_pair_102 rfl ?_
    refine r_callVwv (q0 := 0) hX d_M_pair_104 cw_M_give ml_M_119 (c_M_give y.1 (64 * (v + 1) + i) v K.length hsv hl64 (by omega) (by omega) (by omega)) (Or.inl rfl) rfl rfl rfl rfl (by decide) (Nat.le_of_ble_eq_true rfl) (fun _ => rfl) (fun u hu => ?_)
    refine r_iload_n (i := 1) hX d_M_pair_107 rfl rfl ?_
    refine r_bipush (v := nI 14) hX d_M_pair_108 (by decide) ?_
    refine r_icmp_ne 156 hX d_M_pair_110 (by decide) (fun c110 => ?_) (fun c110 => absurd c110 (by decide))
    exact r_lv [] (fin _ u (by simp [pairL]) hu)
end ModelD
