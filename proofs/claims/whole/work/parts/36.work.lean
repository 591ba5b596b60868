/-! work: the machine's loop, and what it comes to. -/
abbrev MS : Type := (Nat → Int32) × (Nat → Int32) × (Nat → Int32) × (Nat → Int32) × (Nat → Int32) × (Nat → Int32)
abbrev WMs (am : Nat → Nat) (cI cZ : ClassId) (tl nn rs ae dp : Nat) (tx : Nat → Int32) (mf : Nat → Nat → Int32) (M : MS) : va_W := WM am cI cZ tl nn rs ae dp tx mf M.1 M.2.1 M.2.2.1 M.2.2.2.1 M.2.2.2.2.1 M.2.2.2.2.2
/-- what lies below level v is as it was -/
def Bl (v : Nat) (M M' : MS) : Prop :=
  (∀ c, c < 384 * v ∨ (3072 ≤ c ∧ c < 3072 + 384 * v) → M'.1 c = M.1 c) ∧ (∀ j, j < v ∨ (8 ≤ j ∧ j < 8 + v) → M'.2.1 j = M.2.1 j) ∧ (∀ j, j < v → M'.2.2.1 j = M.2.2.1 j) ∧ (∀ j, j < v → M'.2.2.2.1 j = M.2.2.2.1 j) ∧ (∀ j, j < v → M'.2.2.2.2.1 j = M.2.2.2.2.1 j) ∧ (∀ c, c < 5 * v → M'.2.2.2.2.2 c = M.2.2.2.2.2 c)
theorem Bl.trans {v : Nat} {M M' M'' : MS} (a : Bl v M M') (b : Bl v M' M'') : Bl v M M'' :=
  ⟨fun c h => (b.1 c h).trans (a.1 c h), fun c h => (b.2.1 c h).trans (a.2.1 c h), fun c h => (b.2.2.1 c h).trans (a.2.2.1 c h), fun c h => (b.2.2.2.1 c h).trans (a.2.2.2.1 c h), fun c h => (b.2.2.2.2.1 c h).trans (a.2.2.2.2.1 c h), fun c h => (b.2.2.2.2.2 c h).trans (a.2.2.2.2.2 c h)⟩
theorem Bl.down {v : Nat} {M M' : MS} (a : Bl (v + 1) M M') : Bl v M M' :=
  ⟨fun c h => a.1 c (by omega), fun c h => a.2.1 c (by omega), fun c h => a.2.2.1 c (by omega), fun c h => a.2.2.2.1 c (by omega), fun c h => a.2.2.2.2.1 c (by omega), fun c h => a.2.2.2.2.2 c (by omega)⟩
theorem mP.low {f u : Nat → Int32} {v : Nat} {L : List Rs} (h : mP f (64 * v) L u) (hv : v < 8) : ∀ c, c < 384 * v ∨ (3072 ≤ c ∧ c < 3072 + 384 * v) → u c = f c := fun c hc => h.1 c (by omega)
section ModelG
variable {l : Launch} {D : va_G} {cI cZ cN : ClassId} {am : Nat → Nat} {tl nn rs ae : Nat} {tx : Nat → Int32} {mf : Nat → Nat → Int32} {X : rx_T} {A : Nat → Prop}
def Lp (X : rx_T) (D : va_G) (A : Nat → Prop) (am : Nat → Nat) (cI cZ : ClassId) (tl nn rs ae : Nat) (tx : Nat → Int32) (mf : Nat → Nat → Int32) (dp : Nat) (M : MS) : Prop := RR X 4 D A 0 0 (WMs am cI cZ tl nn rs ae dp tx mf M) [(0, .ref (am 0))] 11 []
set_option maxRecDepth 100000 in
set_option maxHeartbeats 4000000 in
theorem wk_leaf (hX : rx_ok X b_M_work 4 y_M_work.cls D (tyL cI cZ cN) A 3 0 0 none) (n v i k p : Nat) (M : MS) (s : St) (hv : v < 8) (hi : i < 60) (hnv : M.2.2.1 v = nI i) (hkk : kN mf i = k) (hkd : mf 0 i = nI k) (hk : k < 8) (hpl : plainF k (mf 1 i) = true) (hsz : M.2.1 v = nI 0) (hst : stOf M.2.2.2.2.2 v = s) (hp : s 0 = nI p) (hpt : p ≤ tl) (ht : tl ≤ 24)
    (kk : ∀ u, mP M.1 (64 * v) (ev tl tx (ndOf mf) (n + 1) i s) u → Lp X D A am cI cZ tl nn rs ae tx mf v (u, upd M.2.1 v (nI (ev tl tx (ndOf mf) (n + 1) i s).length), M.2.2)) : Lp X D A am cI cZ tl nn rs ae tx mf (v + 1) M := by
  have hsp : M.2.2.2.2.2 (5 * v) = nI p := by rw [← hp, ← hst]; rfl
  refine r_aload_n (i := 0) hX d_M_work_11 rfl rfl ?_
  refine r_get 0 15 hX d_M_work_12 rfl rfl fi_M (by decide) fl_M_57 rfl rfl ?_
  refine r_if_le 132 hX d_M_work_15 (by decide) (fun c15 => absurd c15 (nI_nle (by omega) (by omega))) (fun c15 => ?_)
  refine r_aload_n (i := 0) hX d_M_work_18 rfl rfl ?_
  refine r_get 0 16 hX d_M_work_19 rfl rfl fi_M (by decide) fl_M_60 rfl rfl ?_
  refine r_aload_n (i := 0) hX d_M_work_22 rfl rfl ?_
  refine r_get 0 15 hX d_M_work_23 rfl rfl fi_M (by decide) fl_M_57 rfl rfl ?_
  refine r_iconst (v := nI 1) hX d_M_work_26 (by decide) ?_
  refine r_isub hX d_M_work_27 ?_
  refine r_top (pk_sub (by omega)) ?_
  refine r_top (by rw [Nat.add_sub_cancel]) ?_
  refine r_iald 12 0 (v) hX d_M_work_28 rfl rfl rfl (by omega) (by decide) ?_
  refine r_top hnv ?_
  refine r_istore_n (i := 2) hX d_M_work_29 rfl (by decide) ?_
  refine r_aload_n (i := 0) hX d_M_work_30 rfl rfl ?_
  refine r_get 0 5 hX d_M_work_31 rfl rfl fi_M (by decide) fl_M_26 rfl rfl ?_
  refine r_iload_n (i := 2) hX d_M_work_34 rfl rfl ?_
  refine r_iald 2 0 (i) hX d_M_work_35 rfl rfl rfl (by omega) (by decide) ?_
  refine r_top hkd ?_
  refine r_istore_n (i := 3) hX d_M_work_36 rfl (by decide) ?_
  refine r_iload_n (i := 3) hX d_M_work_37 rfl rfl ?_
  refine r_bipush (v := nI 8) hX d_M_work_38 (by decide) ?_
  refine r_icmp_ge 74 hX d_M_work_40 (by decide) (fun c40 => absurd ((nI_leI (by decide) (by omega)).mp c40) (by omega)) (fun c40 => ?_)
  refine r_aload_n (i := 0) hX d_M_work_43 rfl rfl ?_
  refine r_iload_n (i := 2) hX d_M_work_44 rfl rfl ?_
  refine r_aload_n (i := 0) hX d_M_work_45 rfl rfl ?_
  refine r_get 0 19 hX d_M_work_46 rfl rfl fi_M (by decide) fl_M_69 rfl rfl ?_
  refine r_aload_n (i := 0) hX d_M_work_49 rfl rfl ?_
  refine r_get 0 15 hX d_M_work_50 rfl rfl fi_M (by decide) fl_M_57 rfl rfl ?_
  refine r_iconst (v := nI 1) hX d_M_work_53 (by decide) ?_
  refine r_isub hX d_M_work_54 ?_
  refine r_top (pk_sub (by omega)) ?_
  refine r_top (by rw [Nat.add_sub_cancel]) ?_
  refine r_iconst (v := nI 5) hX d_M_work_55 (by decide) ?_
  refine r_imul hX d_M_work_56 ?_
  refine r_top (pk_mul _ _) ?_
  refine r_iald 15 0 (5 * v) hX d_M_work_57 rfl rfl (by rw [Nat.mul_comm]) (by omega) (by decide) ?_
  refine r_top hsp ?_
  refine r_callVwv (q0 := 0) hX d_M_work_58 cw_M_leaf ml_M_131 (c_M_leaf n i k p v s hi hkk hkd hk hpl hv hsz hst hp hpt ht) (Or.inl rfl) rfl rfl rfl rfl (by decide) (Nat.le_of_ble_eq_true rfl) (fun _ => rfl) (fun u hu => ?_)
  refine r_aload_n (i := 0) hX d_M_work_61 rfl rfl ?_
  refine r_dup hX d_M_work_62 rfl ?_
  refine r_get 0 15 hX d_M_work_63 rfl rfl fi_M (by decide) fl_M_57 rfl rfl ?_
  refine r_iconst (v := nI 1) hX d_M_work_66 (by decide) ?_
  refine r_isub hX d_M_work_67 ?_
  refine r_top (pk_sub (by omega)) ?_
  refine r_put 0 15 hX d_M_work_68 rfl rfl fi_M ft_M_ok fn_M (by decide) fl_M_57 rfl rfl rfl rfl rfl (Nat.le_of_ble_eq_true rfl) ?_
  refine r_goto 129 hX d_M_work_71 (by decide) ?_
  refine r_goto 11 hX d_M_work_129 (by decide) ?_
  refine r_lv [0] ?_
  have h := kk u hu
  refine r_ws (ws' := WMs am cI cZ tl nn rs ae v tx mf (u, upd M.2.1 v (nI (ev tl tx (ndOf mf) (n + 1) i s).length), M.2.2)) (by rw [Nat.add_sub_cancel]; rfl) ?_
  exact h
set_option maxRecDepth 100000 in
set_option maxHeartbeats 4000000 in
theorem wk_or (hX : rx_ok X b_M_work 4 y_M_work.cls D (tyL cI cZ cN) A 3 0 0 none) (v i k : Nat) (hk : k = 15) (M : MS) (hv : v < 8) (hi : i < 60) (hnv : M.2.2.1 v = nI i) (hkd : mf 0 i = nI k) {S : Type} {post : S → Prop} {wo : S → va_W} (hc : CT X.2.1 D (tyL cI cZ cN) none y_M_stepOr b_M_stepOr 3 none 2 [.ref (am 0), .int (nI i)] (WMs am cI cZ tl nn rs ae (v + 1) tx mf M) post (fun _ => none) wo) (had : ∀ u, (wo u).map (fun q => q.1) = (WMs am cI cZ tl nn rs ae (v + 1) tx mf M).map (fun q => q.1))
    (kk : ∀ u, post u → RR X 4 D A 0 0 (wo u) [(0, .ref (am 0))] 11 []) : Lp X D A am cI cZ tl nn rs ae tx mf (v + 1) M := by
  rcases hk with rfl
  refine r_aload_n (i := 0) hX d_M_work_11 rfl rfl ?_
  refine r_get 0 15 hX d_M_work_12 rfl rfl fi_M (by decide) fl_M_57 rfl rfl ?_
  refine r_if_le 132 hX d_M_work_15 (by decide) (fun c15 => absurd c15 (nI_nle (by omega) (by omega))) (fun c15 => ?_)
  refine r_aload_n (i := 0) hX d_M_work_18 rfl rfl ?_
  refine r_get 0 16 hX d_M_work_19 rfl rfl fi_M (by decide) fl_M_60 rfl rfl ?_
  refine r_aload_n (i := 0) hX d_M_work_22 rfl rfl ?_
  refine r_get 0 15 hX d_M_work_23 rfl rfl fi_M (by decide) fl_M_57 rfl rfl ?_
  refine r_iconst (v := nI 1) hX d_M_work_26 (by decide) ?_
  refine r_isub hX d_M_work_27 ?_
  refine r_top (pk_sub (by omega)) ?_
  refine r_top (by rw [Nat.add_sub_cancel]) ?_
  refine r_iald 12 0 (v) hX d_M_work_28 rfl rfl rfl (by omega) (by decide) ?_
  refine r_top hnv ?_
  refine r_istore_n (i := 2) hX d_M_work_29 rfl (by decide) ?_
  refine r_aload_n (i := 0) hX d_M_work_30 rfl rfl ?_
  refine r_get 0 5 hX d_M_work_31 rfl rfl fi_M (by decide) fl_M_26 rfl rfl ?_
  refine r_iload_n (i := 2) hX d_M_work_34 rfl rfl ?_
  refine r_iald 2 0 (i) hX d_M_work_35 rfl rfl rfl (by omega) (by decide) ?_
  refine r_top hkd ?_
  refine r_istore_n (i := 3) hX d_M_work_36 rfl (by decide) ?_
  refine r_iload_n (i := 3) hX d_M_work_37 rfl rfl ?_
  refine r_bipush (v := nI 8) hX d_M_work_38 (by decide) ?_
  refine r_icmp_ge 74 hX d_M_work_40 (by decide) (fun c40 => ?_) (fun c40 => absurd c40 (by decide))
  refine r_iload_n (i := 3) hX d_M_work_74 rfl rfl ?_
  refine r_bipush (v := nI 15) hX d_M_work_75 (by decide) ?_
  refine r_icmp_ne 88 hX d_M_work_77 (by decide) (fun c77 => absurd c77 (by decide)) (fun c77 => ?_)
  refine r_aload_n (i := 0) hX d_M_work_80 rfl rfl ?_
  refine r_iload_n (i := 2) hX d_M_work_81 rfl rfl ?_
  refine r_callVwv (q0 := 0) hX d_M_work_82 cw_M_stepOr ml_M_134 (hc) (Or.inl rfl) rfl rfl rfl rfl (by decide) (Nat.le_of_ble_eq_true rfl) had (fun u hu => ?_)
  refine r_goto 129 hX d_M_work_85 (by decide) ?_
  refine r_goto 11 hX d_M_work_129 (by decide) ?_
  exact r_lv [0] (kk u hu)
set_option maxRecDepth 100000 in
set_option maxHeartbeats 4000000 in
theorem wk_if (hX : rx_ok X b_M_work 4 y_M_work.cls D (tyL cI cZ cN) A 3 0 0 none) (v i k : Nat) (hk : k = 19) (M : MS) (hv : v < 8) (hi : i < 60) (hnv : M.2.2.1 v = nI i) (hkd : mf 0 i = nI k) {S : Type} {post : S → Prop} {wo : S → va_W} (hc : CT X.2.1 D (tyL cI cZ cN) none y_M_stepIf b_M_stepIf 3 none 2 [.ref (am 0), .int (nI i)] (WMs am cI cZ tl nn rs ae (v + 1) tx mf M) post (fun _ => none) wo) (had : ∀ u, (wo u).map (fun q => q.1) = (WMs am cI cZ tl nn rs ae (v + 1) tx mf M).map (fun q => q.1))
    (kk : ∀ u, post u → RR X 4 D A 0 0 (wo u) [(0, .ref (am 0))] 11 []) : Lp X D A am cI cZ tl nn rs ae tx mf (v + 1) M := by
  rcases hk with rfl
  refine r_aload_n (i := 0) hX d_M_work_11 rfl rfl ?_
  refine r_get 0 15 hX d_M_work_12 rfl rfl fi_M (by decide) fl_M_57 rfl rfl ?_
  refine r_if_le 132 hX d_M_work_15 (by decide) (fun c15 => absurd c15 (nI_nle (by omega) (by omega))) (fun c15 => ?_)
  refine r_aload_n (i := 0) hX d_M_work_18 rfl rfl ?_
  refine r_get 0 16 hX d_M_work_19 rfl rfl fi_M (by decide) fl_M_60 rfl rfl ?_
  refine r_aload_n (i := 0) hX d_M_work_22 rfl rfl ?_
  refine r_get 0 15 hX d_M_work_23 rfl rfl fi_M (by decide) fl_M_57 rfl rfl ?_
  refine r_iconst (v := nI 1) hX d_M_work_26 (by decide) ?_
  refine r_isub hX d_M_work_27 ?_
  refine r_top (pk_sub (by omega)) ?_
  refine r_top (by rw [Nat.add_sub_cancel]) ?_
  refine r_iald 12 0 (v) hX d_M_work_28 rfl rfl rfl (by omega) (by decide) ?_
  refine r_top hnv ?_
  refine r_istore_n (i := 2) hX d_M_work_29 rfl (by decide) ?_
  refine r_aload_n (i := 0) hX d_M_work_30 rfl rfl ?_
  refine r_get 0 5 hX d_M_work_31 rfl rfl fi_M (by decide) fl_M_26 rfl rfl ?_
  refine r_iload_n (i := 2) hX d_M_work_34 rfl rfl ?_
  refine r_iald 2 0 (i) hX d_M_work_35 rfl rfl rfl (by omega) (by decide) ?_
  refine r_top hkd ?_
  refine r_istore_n (i := 3) hX d_M_work_36 rfl (by decide) ?_
  refine r_iload_n (i := 3) hX d_M_work_37 rfl rfl ?_
  refine r_bipush (v := nI 8) hX d_M_work_38 (by decide) ?_
  refine r_icmp_ge 74 hX d_M_work_40 (by decide) (fun c40 => ?_) (fun c40 => absurd c40 (by decide))
  refine r_iload_n (i := 3) hX d_M_work_74 rfl rfl ?_
  refine r_bipush (v := nI 15) hX d_M_work_75 (by decide) ?_
  refine r_icmp_ne 88 hX d_M_work_77 (by decide) (fun c77 => ?_) (fun c77 => absurd c77 (by decide))
  refine r_iload_n (i := 3) hX d_M_work_88 rfl rfl ?_
  refine r_bipush (v := nI 19) hX d_M_work_89 (by decide) ?_
  refine r_icmp_ne 102 hX d_M_work_91 (by decide) (fun c91 => absurd c91 (by decide)) (fun c91 => ?_)
  refine r_aload_n (i := 0) hX d_M_work_94 rfl rfl ?_
  refine r_iload_n (i := 2) hX d_M_work_95 rfl rfl ?_
  refine r_callVwv (q0 := 0) hX d_M_work_96 cw_M_stepIf ml_M_138 (hc) (Or.inl rfl) rfl rfl rfl rfl (by decide) (Nat.le_of_ble_eq_true rfl) had (fun u hu => ?_)
  refine r_goto 129 hX d_M_work_99 (by decide) ?_
  refine r_goto 11 hX d_M_work_129 (by decide) ?_
  exact r_lv [0] (kk u hu)
set_option maxRecDepth 100000 in
set_option maxHeartbeats 4000000 in
theorem wk_pairs (hX : rx_ok X b_M_work 4 y_M_work.cls D (tyL cI cZ cN) A 3 0 0 none) (v i k : Nat) (hk : k = 9 ∨ k = 10 ∨ k = 11 ∨ k = 12 ∨ k = 13 ∨ k = 14 ∨ k = 16) (M : MS) (hv : v < 8) (hi : i < 60) (hnv : M.2.2.1 v = nI i) (hkd : mf 0 i = nI k) {S : Type} {post : S → Prop} {wo : S → va_W} (hc : CT X.2.1 D (tyL cI cZ cN) none y_M_stepPairs b_M_stepPairs 6 none 2 [.ref (am 0), .int (nI i), .int (nI k)] (WMs am cI cZ tl nn rs ae (v + 1) tx mf M) post (fun _ => none) wo) (had : ∀ u, (wo u).map (fun q => q.1) = (WMs am cI cZ tl nn rs ae (v + 1) tx mf M).map (fun q => q.1))
    (kk : ∀ u, post u → RR X 4 D A 0 0 (wo u) [(0, .ref (am 0))] 11 []) : Lp X D A am cI cZ tl nn rs ae tx mf (v + 1) M := by
  rcases hk with rfl | rfl | rfl | rfl | rfl | rfl | rfl
  ·
    refine r_aload_n (i := 0) hX d_M_work_11 rfl rfl ?_
    refine r_get 0 15 hX d_M_work_12 rfl rfl fi_M (by decide) fl_M_57 rfl rfl ?_
    refine r_if_le 132 hX d_M_work_15 (by decide) (fun c15 => absurd c15 (nI_nle (by omega) (by omega))) (fun c15 => ?_)
    refine r_aload_n (i := 0) hX d_M_work_18 rfl rfl ?_
    refine r_get 0 16 hX d_M_work_19 rfl rfl fi_M (by decide) fl_M_60 rfl rfl ?_
    refine r_aload_n (i := 0) hX d_M_work_22 rfl rfl ?_
    refine r_get 0 15 hX d_M_work_23 rfl rfl fi_M (by decide) fl_M_57 rfl rfl ?_
    refine r_iconst (v := nI 1) hX d_M_work_26 (by decide) ?_
    refine r_isub hX d_M_work_27 ?_
    refine r_top (pk_sub (by omega)) ?_
    refine r_top (by rw [Nat.add_sub_cancel]) ?_
    refine r_iald 12 0 (v) hX d_M_work_28 rfl rfl rfl (by omega) (by decide) ?_
    refine r_top hnv ?_
    refine r_istore_n (i := 2) hX d_M_work_29 rfl (by decide) ?_
    refine r_aload_n (i := 0) hX d_M_work_30 rfl rfl ?_
    refine r_get 0 5 hX d_M_work_31 rfl rfl fi_M (by decide) fl_M_26 rfl rfl ?_
    refine r_iload_n (i := 2) hX d_M_work_34 rfl rfl ?_
    refine r_iald 2 0 (i) hX d_M_work_35 rfl rfl rfl (by omega) (by decide) ?_
    refine r_top hkd ?_
    refine r_istore_n (i := 3) hX d_M_work_36 rfl (by decide) ?_
    refine r_iload_n (i := 3) hX d_M_work_37 rfl rfl ?_
    refine r_bipush (v := nI 8) hX d_M_work_38 (by decide) ?_
    refine r_icmp_ge 74 hX d_M_work_40 (by decide) (fun c40 => ?_) (fun c40 => absurd c40 (by decide))
    refine r_iload_n (i := 3) hX d_M_work_74 rfl rfl ?_
    refine r_bipush (v := nI 15) hX d_M_work_75 (by decide) ?_
    refine r_icmp_ne 88 hX d_M_work_77 (by decide) (fun c77 => ?_) (fun c77 => absurd c77 (by decide))
    refine r_iload_n (i := 3) hX d_M_work_88 rfl rfl ?_
    refine r_bipush (v := nI 19) hX d_M_work_89 (by decide) ?_
    refine r_icmp_ne 102 hX d_M_work_91 (by decide) (fun c91 => ?_) (fun c91 => absurd c91 (by decide))
    refine r_iload_n (i := 3) hX d_M_work_102 rfl rfl ?_
    refine r_bipush (v := nI 17) hX d_M_work_103 (by decide) ?_
    refine r_icmp_ge 123 hX d_M_work_105 (by decide) (fun c105 => absurd c105 (by decide)) (fun c105 => ?_)
    refine r_iload_n (i := 3) hX d_M_work_108 rfl rfl ?_
    refine r_bipush (v := nI 8) hX d_M_work_109 (by decide) ?_
    refine r_icmp_eq 123 hX d_M_work_111 (by decide) (fun c111 => absurd c111 (by decide)) (fun c111 => ?_)
    refine r_aload_n (i := 0) hX d_M_work_114 rfl rfl ?_
    refine r_iload_n (i := 2) hX d_M_work_115 rfl rfl ?_
    refine r_iload_n (i := 3) hX d_M_work_116 rfl rfl ?_
    refine r_callVwv (q0 := 0) hX d_M_work_117 cw_M_stepPairs ml_M_141 (hc) (Or.inl rfl) rfl rfl rfl rfl (by decide) (Nat.le_of_ble_eq_true rfl) had (fun u hu => ?_)
    refine r_goto 129 hX d_M_work_120 (by decide) ?_
    refine r_goto 11 hX d_M_work_129 (by decide) ?_
    exact r_lv [0] (kk u hu)
  ·
    refine r_aload_n (i := 0) hX d_M_work_11 rfl rfl ?_
    refine r_get 0 15 hX d_M_work_12 rfl rfl fi_M (by decide) fl_M_57 rfl rfl ?_
    refine r_if_le 132 hX d_M_work_15 (by decide) (fun c15 => absurd c15 (nI_nle (by omega) (by omega))) (fun c15 => ?_)
    refine r_aload_n (i := 0) hX d_M_work_18 rfl rfl ?_
    refine r_get 0 16 hX d_M_work_19 rfl rfl fi_M (by decide) fl_M_60 rfl rfl ?_
    refine r_aload_n (i := 0) hX d_M_work_22 rfl rfl ?_
    refine r_get 0 15 hX d_M_work_23 rfl rfl fi_M (by decide) fl_M_57 rfl rfl ?_
    refine r_iconst (v := nI 1) hX d_M_work_26 (by decide) ?_
    refine r_isub hX d_M_work_27 ?_
    refine r_top (pk_sub (by omega)) ?_
    refine r_top (by rw [Nat.add_sub_cancel]) ?_
    refine r_iald 12 0 (v) hX d_M_work_28 rfl rfl rfl (by omega) (by decide) ?_
    refine r_top hnv ?_
    refine r_istore_n (i := 2) hX d_M_work_29 rfl (by decide) ?_
    refine r_aload_n (i := 0) hX d_M_work_30 rfl rfl ?_
    refine r_get 0 5 hX d_M_work_31 rfl rfl fi_M (by decide) fl_M_26 rfl rfl ?_
    refine r_iload_n (i := 2) hX d_M_work_34 rfl rfl ?_
    refine r_iald 2 0 (i) hX d_M_work_35 rfl rfl rfl (by omega) (by decide) ?_
    refine r_top hkd ?_
    refine r_istore_n (i := 3) hX d_M_work_36 rfl (by decide) ?_
    refine r_iload_n (i := 3) hX d_M_work_37 rfl rfl ?_
    refine r_bipush (v := nI 8) hX d_M_work_38 (by decide) ?_
    refine r_icmp_ge 74 hX d_M_work_40 (by decide) (fun c40 => ?_) (fun c40 => absurd c40 (by decide))
    refine r_iload_n (i := 3) hX d_M_work_74 rfl rfl ?_
    refine r_bipush (v := nI 15) hX d_M_work_75 (by decide) ?_
    refine r_icmp_ne 88 hX d_M_work_77 (by decide) (fun c77 => ?_) (fun c77 => absurd c77 (by decide))
    refine r_iload_n (i := 3) hX d_M_work_88 rfl rfl ?_
    refine r_bipush (v := nI 19) hX d_M_work_89 (by decide) ?_
    refine r_icmp_ne 102 hX d_M_work_91 (by decide) (fun c91 => ?_) (fun c91 => absurd c91 (by decide))
    refine r_iload_n (i := 3) hX d_M_work_102 rfl rfl ?_
    refine r_bipush (v := nI 17) hX d_M_work_103 (by decide) ?_
    refine r_icmp_ge 123 hX d_M_work_105 (by decide) (fun c105 => absurd c105 (by decide)) (fun c105 => ?_)
    refine r_iload_n (i := 3) hX d_M_work_108 rfl rfl ?_
    refine r_bipush (v := nI 8) hX d_M_work_109 (by decide) ?_
    refine r_icmp_eq 123 hX d_M_work_111 (by decide) (fun c111 => absurd c111 (by decide)) (fun c111 => ?_)
    refine r_aload_n (i := 0) hX d_M_work_114 rfl rfl ?_
    refine r_iload_n (i := 2) hX d_M_work_115 rfl rfl ?_
    refine r_iload_n (i := 3) hX d_M_work_116 rfl rfl ?_
    refine r_callVwv (q0 := 0) hX d_M_work_117 cw_M_stepPairs ml_M_141 (hc) (Or.inl rfl) rfl rfl rfl rfl (by decide) (Nat.le_of_ble_eq_true rfl) had (fun u hu => ?_)
    refine r_goto 129 hX d_M_work_120 (by decide) ?_
    refine r_goto 11 hX d_M_work_129 (by decide) ?_
    exact r_lv [0] (kk u hu)
  ·
    refine r_aload_n (i := 0) hX d_M_work_11 rfl rfl ?_
    refine r_get 0 15 hX d_M_work_12 rfl rfl fi_M (by decide) fl_M_57 rfl rfl ?_
    refine r_if_le 132 hX d_M_work_15 (by decide) (fun c15 => absurd c15 (nI_nle (by omega) (by omega))) (fun c15 => ?_)
    refine r_aload_n (i := 0) hX d_M_work_18 rfl rfl ?_
    refine r_get 0 16 hX d_M_work_19 rfl rfl fi_M (by decide) fl_M_60 rfl rfl ?_
    refine r_aload_n (i := 0) hX d_M_work_22 rfl rfl ?_
    refine r_get 0 15 hX d_M_work_23 rfl rfl fi_M (by decide) fl_M_57 rfl rfl ?_
    refine r_iconst (v := nI 1) hX d_M_work_26 (by decide) ?_
    refine r_isub hX d_M_work_27 ?_
    refine r_top (pk_sub (by omega)) ?_
    refine r_top (by rw [Nat.add_sub_cancel]) ?_
    refine r_iald 12 0 (v) hX d_M_work_28 rfl rfl rfl (by omega) (by decide) ?_
    refine r_top hnv ?_
    refine r_istore_n (i := 2) hX d_M_work_29 rfl (by decide) ?_
    refine r_aload_n (i := 0) hX d_M_work_30 rfl rfl ?_
    refine r_get 0 5 hX d_M_work_31 rfl rfl fi_M (by decide) fl_M_26 rfl rfl ?_
    refine r_iload_n (i := 2) hX d_M_work_34 rfl rfl ?_
    refine r_iald 2 0 (i) hX d_M_work_35 rfl rfl rfl (by omega) (by decide) ?_
    refine r_top hkd ?_
    refine r_istore_n (i := 3) hX d_M_work_36 rfl (by decide) ?_
    refine r_iload_n (i := 3) hX d_M_work_37 rfl rfl ?_
    refine r_bipush (v := nI 8) hX d_M_work_38 (by decide) ?_
    refine r_icmp_ge 74 hX d_M_work_40 (by decide) (fun c40 => ?_) (fun c40 => absurd c40 (by decide))
    refine r_iload_n (i := 3) hX d_M_work_74 rfl rfl ?_
    refine r_bipush (v := nI 15) hX d_M_work_75 (by decide) ?_
    refine r_icmp_ne 88 hX d_M_work_77 (by decide) (fun c77 => ?_) (fun c77 => absurd c77 (by decide))
    refine r_iload_n (i := 3) hX d_M_work_88 rfl rfl ?_
    refine r_bipush (v := nI 19) hX d_M_work_89 (by decide) ?_
    refine r_icmp_ne 102 hX d_M_work_91 (by decide) (fun c91 => ?_) (fun c91 => absurd c91 (by decide))
    refine r_iload_n (i := 3) hX d_M_work_102 rfl rfl ?_
    refine r_bipush (v := nI 17) hX d_M_work_103 (by decide) ?_
    refine r_icmp_ge 123 hX d_M_work_105 (by decide) (fun c105 => absurd c105 (by decide)) (fun c105 => ?_)
    refine r_iload_n (i := 3) hX d_M_work_108 rfl rfl ?_
    refine r_bipush (v := nI 8) hX d_M_work_109 (by decide) ?_
    refine r_icmp_eq 123 hX d_M_work_111 (by decide) (fun c111 => absurd c111 (by decide)) (fun c111 => ?_)
    refine r_aload_n (i := 0) hX d_M_work_114 rfl rfl ?_
    refine r_iload_n (i := 2) hX d_M_work_115 rfl rfl ?_
    refine r_iload_n (i := 3) hX d_M_work_116 rfl rfl ?_
    refine r_callVwv (q0 := 0) hX d_M_work_117 cw_M_stepPairs ml_M_141 (hc) (Or.inl rfl) rfl rfl rfl rfl (by decide) (Nat.le_of_ble_eq_true rfl) had (fun u hu => ?_)
    refine r_goto 129 hX d_M_work_120 (by decide) ?_
    refine r_goto 11 hX d_M_work_129 (by decide) ?_
    exact r_lv [0] (kk u hu)
  ·
    refine r_aload_n (i := 0) hX d_M_work_11 rfl rfl ?_
    refine r_get 0 15 hX d_M_work_12 rfl rfl fi_M (by decide) fl_M_57 rfl rfl ?_
    refine r_if_le 132 hX d_M_work_15 (by decide) (fun c15 => absurd c15 (nI_nle (by omega) (by omega))) (fun c15 => ?_)
    refine r_aload_n (i := 0) hX d_M_work_18 rfl rfl ?_
    refine r_get 0 16 hX d_M_work_19 rfl rfl fi_M (by decide) fl_M_60 rfl rfl ?_
    refine r_aload_n (i := 0) hX d_M_work_22 rfl rfl ?_
    refine r_get 0 15 hX d_M_work_23 rfl rfl fi_M (by decide) fl_M_57 rfl rfl ?_
    refine r_iconst (v := nI 1) hX d_M_work_26 (by decide) ?_
    refine r_isub hX d_M_work_27 ?_
    refine r_top (pk_sub (by omega)) ?_
    refine r_top (by rw [Nat.add_sub_cancel]) ?_
    refine r_iald 12 0 (v) hX d_M_work_28 rfl rfl rfl (by omega) (by decide) ?_
    refine r_top hnv ?_
    refine r_istore_n (i := 2) hX d_M_work_29 rfl (by decide) ?_
    refine r_aload_n (i := 0) hX d_M_work_30 rfl rfl ?_
    refine r_get 0 5 hX d_M_work_31 rfl rfl fi_M (by decide) fl_M_26 rfl rfl ?_
    refine r_iload_n (i := 2) hX d_M_work_34 rfl rfl ?_
    refine r_iald 2 0 (i) hX d_M_work_35 rfl rfl rfl (by omega) (by decide) ?_
    refine r_top hkd ?_
    refine r_istore_n (i := 3) hX d_M_work_36 rfl (by decide) ?_
    refine r_iload_n (i := 3) hX d_M_work_37 rfl rfl ?_
    refine r_bipush (v := nI 8) hX d_M_work_38 (by decide) ?_
    refine r_icmp_ge 74 hX d_M_work_40 (by decide) (fun c40 => ?_) (fun c40 => absurd c40 (by decide))
    refine r_iload_n (i := 3) hX d_M_work_74 rfl rfl ?_
    refine r_bipush (v := nI 15) hX d_M_work_75 (by decide) ?_
    refine r_icmp_ne 88 hX d_M_work_77 (by decide) (fun c77 => ?_) (fun c77 => absurd c77 (by decide))
    refine r_iload_n (i := 3) hX d_M_work_88 rfl rfl ?_
    refine r_bipush (v := nI 19) hX d_M_work_89 (by decide) ?_
    refine r_icmp_ne 102 hX d_M_work_91 (by decide) (fun c91 => ?_) (fun c91 => absurd c91 (by decide))
    refine r_iload_n (i := 3) hX d_M_work_102 rfl rfl ?_
    refine r_bipush (v := nI 17) hX d_M_work_103 (by decide) ?_
    refine r_icmp_ge 123 hX d_M_work_105 (by decide) (fun c105 => absurd c105 (by decide)) (fun c105 => ?_)
    refine r_iload_n (i := 3) hX d_M_work_108 rfl rfl ?_
    refine r_bipush (v := nI 8) hX d_M_work_109 (by decide) ?_
    refine r_icmp_eq 123 hX d_M_work_111 (by decide) (fun c111 => absurd c111 (by decide)) (fun c111 => ?_)
    refine r_aload_n (i := 0) hX d_M_work_114 rfl rfl ?_
    refine r_iload_n (i := 2) hX d_M_work_115 rfl rfl ?_
    refine r_iload_n (i := 3) hX d_M_work_116 rfl rfl ?_
    refine r_callVwv (q0 := 0) hX d_M_work_117 cw_M_stepPairs ml_M_141 (hc) (Or.inl rfl) rfl rfl rfl rfl (by decide) (Nat.le_of_ble_eq_true rfl) had (fun u hu => ?_)
    refine r_goto 129 hX d_M_work_120 (by decide) ?_
    refine r_goto 11 hX d_M_work_129 (by decide) ?_
    exact r_lv [0] (kk u hu)
  ·
    refine r_aload_n (i := 0) hX d_M_work_11 rfl rfl ?_
    refine r_get 0 15 hX d_M_work_12 rfl rfl fi_M (by decide) fl_M_57 rfl rfl ?_
    refine r_if_le 132 hX d_M_work_15 (by decide) (fun c15 => absurd c15 (nI_nle (by omega) (by omega))) (fun c15 => ?_)
    refine r_aload_n (i := 0) hX d_M_work_18 rfl rfl ?_
    refine r_get 0 16 hX d_M_work_19 rfl rfl fi_M (by decide) fl_M_60 rfl rfl ?_
    refine r_aload_n (i := 0) hX d_M_work_22 rfl rfl ?_
    refine r_get 0 15 hX d_M_work_23 rfl rfl fi_M (by decide) fl_M_57 rfl rfl ?_
    refine r_iconst (v := nI 1) hX d_M_work_26 (by decide) ?_
    refine r_isub hX d_M_work_27 ?_
    refine r_top (pk_sub (by omega)) ?_
    refine r_top (by rw [Nat.add_sub_cancel]) ?_
    refine r_iald 12 0 (v) hX d_M_work_28 rfl rfl rfl (by omega) (by decide) ?_
    refine r_top hnv ?_
    refine r_istore_n (i := 2) hX d_M_work_29 rfl (by decide) ?_
    refine r_aload_n (i := 0) hX d_M_work_30 rfl rfl ?_
    refine r_get 0 5 hX d_M_work_31 rfl rfl fi_M (by decide) fl_M_26 rfl rfl ?_
    refine r_iload_n (i := 2) hX d_M_work_34 rfl rfl ?_
    refine r_iald 2 0 (i) hX d_M_work_35 rfl rfl rfl (by omega) (by decide) ?_
    refine r_top hkd ?_
    refine r_istore_n (i := 3) hX d_M_work_36 rfl (by decide) ?_
    refine r_iload_n (i := 3) hX d_M_work_37 rfl rfl ?_
    refine r_bipush (v := nI 8) hX d_M_work_38 (by decide) ?_
    refine r_icmp_ge 74 hX d_M_work_40 (by decide) (fun c40 => ?_) (fun c40 => absurd c40 (by decide))
    refine r_iload_n (i := 3) hX d_M_work_74 rfl rfl ?_
    refine r_bipush (v := nI 15) hX d_M_work_75 (by decide) ?_
    refine r_icmp_ne 88 hX d_M_work_77 (by decide) (fun c77 => ?_) (fun c77 => absurd c77 (by decide))
    refine r_iload_n (i := 3) hX d_M_work_88 rfl rfl ?_
    refine r_bipush (v := nI 19) hX d_M_work_89 (by decide) ?_
    refine r_icmp_ne 102 hX d_M_work_91 (by decide) (fun c91 => ?_) (fun c91 => absurd c91 (by decide))
    refine r_iload_n (i := 3) hX d_M_work_102 rfl rfl ?_
    refine r_bipush (v := nI 17) hX d_M_work_103 (by decide) ?_
    refine r_icmp_ge 123 hX d_M_work_105 (by decide) (fun c105 => absurd c105 (by decide)) (fun c105 => ?_)
    refine r_iload_n (i := 3) hX d_M_work_108 rfl rfl ?_
    refine r_bipush (v := nI 8) hX d_M_work_109 (by decide) ?_
    refine r_icmp_eq 123 hX d_M_work_111 (by decide) (fun c111 => absurd c111 (by decide)) (fun c111 => ?_)
    refine r_aload_n (i := 0) hX d_M_work_114 rfl rfl ?_
    refine r_iload_n (i := 2) hX d_M_work_115 rfl rfl ?_
    refine r_iload_n (i := 3) hX d_M_work_116 rfl rfl ?_
    refine r_callVwv (q0 := 0) hX d_M_work_117 cw_M_stepPairs ml_M_141 (hc) (Or.inl rfl) rfl rfl rfl rfl (by decide) (Nat.le_of_ble_eq_true rfl) had (fun u hu => ?_)
    refine r_goto 129 hX d_M_work_120 (by decide) ?_
    refine r_goto 11 hX d_M_work_129 (by decide) ?_
    exact r_lv [0] (kk u hu)
  ·
    refine r_aload_n (i := 0) hX d_M_work_11 rfl rfl ?_
    refine r_get 0 15 hX d_M_work_12 rfl rfl fi_M (by decide) fl_M_57 rfl rfl ?_
    refine r_if_le 132 hX d_M_work_15 (by decide) (fun c15 => absurd c15 (nI_nle (by omega) (by omega))) (fun c15 => ?_)
    refine r_aload_n (i := 0) hX d_M_work_18 rfl rfl ?_
    refine r_get 0 16 hX d_M_work_19 rfl rfl fi_M (by decide) fl_M_60 rfl rfl ?_
    refine r_aload_n (i := 0) hX d_M_work_22 rfl rfl ?_
    refine r_get 0 15 hX d_M_work_23 rfl rfl fi_M (by decide) fl_M_57 rfl rfl ?_
    refine r_iconst (v := nI 1) hX d_M_work_26 (by decide) ?_
    refine r_isub hX d_M_work_27 ?_
    refine r_top (pk_sub (by omega)) ?_
    refine r_top (by rw [Nat.add_sub_cancel]) ?_
    refine r_iald 12 0 (v) hX d_M_work_28 rfl rfl rfl (by omega) (by decide) ?_
    refine r_top hnv ?_
    refine r_istore_n (i := 2) hX d_M_work_29 rfl (by decide) ?_
    refine r_aload_n (i := 0) hX d_M_work_30 rfl rfl ?_
    refine r_get 0 5 hX d_M_work_31 rfl rfl fi_M (by decide) fl_M_26 rfl rfl ?_
    refine r_iload_n (i := 2) hX d_M_work_34 rfl rfl ?_
    refine r_iald 2 0 (i) hX d_M_work_35 rfl rfl rfl (by omega) (by decide) ?_
    refine r_top hkd ?_
    refine r_istore_n (i := 3) hX d_M_work_36 rfl (by decide) ?_
    refine r_iload_n (i := 3) hX d_M_work_37 rfl rfl ?_
    refine r_bipush (v := nI 8) hX d_M_work_38 (by decide) ?_
    refine r_icmp_ge 74 hX d_M_work_40 (by decide) (fun c40 => ?_) (fun c40 => absurd c40 (by decide))
    refine r_iload_n (i := 3) hX d_M_work_74 rfl rfl ?_
    refine r_bipush (v := nI 15) hX d_M_work_75 (by decide) ?_
    refine r_icmp_ne 88 hX d_M_work_77 (by decide) (fun c77 => ?_) (fun c77 => absurd c77 (by decide))
    refine r_iload_n (i := 3) hX d_M_work_88 rfl rfl ?_
    refine r_bipush (v := nI 19) hX d_M_work_89 (by decide) ?_
    refine r_icmp_ne 102 hX d_M_work_91 (by decide) (fun c91 => ?_) (fun c91 => absurd c91 (by decide))
    refine r_iload_n (i := 3) hX d_M_work_102 rfl rfl ?_
    refine r_bipush (v := nI 17) hX d_M_work_103 (by decide) ?_
    refine r_icmp_ge 123 hX d_M_work_105 (by decide) (fun c105 => absurd c105 (by decide)) (fun c105 => ?_)
    refine r_iload_n (i := 3) hX d_M_work_108 rfl rfl ?_
    refine r_bipush (v := nI 8) hX d_M_work_109 (by decide) ?_
    refine r_icmp_eq 123 hX d_M_work_111 (by decide) (fun c111 => absurd c111 (by decide)) (fun c111 => ?_)
    refine r_aload_n (i := 0) hX d_M_work_114 rfl rfl ?_
    refine r_iload_n (i := 2) hX d_M_work_115 rfl rfl ?_
    refine r_iload_n (i := 3) hX d_M_work_116 rfl rfl ?_
    refine r_callVwv (q0 := 0) hX d_M_work_117 cw_M_stepPairs ml_M_141 (hc) (Or.inl rfl) rfl rfl rfl rfl (by decide) (Nat.le_of_ble_eq_true rfl) had (fun u hu => ?_)
    refine r_goto 129 hX d_M_work_120 (by decide) ?_
    refine r_goto 11 hX d_M_work_129 (by decide) ?_
    exact r_lv [0] (kk u hu)
  ·
    refine r_aload_n (i := 0) hX d_M_work_11 rfl rfl ?_
    refine r_get 0 15 hX d_M_work_12 rfl rfl fi_M (by decide) fl_M_57 rfl rfl ?_
    refine r_if_le 132 hX d_M_work_15 (by decide) (fun c15 => absurd c15 (nI_nle (by omega) (by omega))) (fun c15 => ?_)
    refine r_aload_n (i := 0) hX d_M_work_18 rfl rfl ?_
    refine r_get 0 16 hX d_M_work_19 rfl rfl fi_M (by decide) fl_M_60 rfl rfl ?_
    refine r_aload_n (i := 0) hX d_M_work_22 rfl rfl ?_
    refine r_get 0 15 hX d_M_work_23 rfl rfl fi_M (by decide) fl_M_57 rfl rfl ?_
    refine r_iconst (v := nI 1) hX d_M_work_26 (by decide) ?_
    refine r_isub hX d_M_work_27 ?_
    refine r_top (pk_sub (by omega)) ?_
    refine r_top (by rw [Nat.add_sub_cancel]) ?_
    refine r_iald 12 0 (v) hX d_M_work_28 rfl rfl rfl (by omega) (by decide) ?_
    refine r_top hnv ?_
    refine r_istore_n (i := 2) hX d_M_work_29 rfl (by decide) ?_
    refine r_aload_n (i := 0) hX d_M_work_30 rfl rfl ?_
    refine r_get 0 5 hX d_M_work_31 rfl rfl fi_M (by decide) fl_M_26 rfl rfl ?_
    refine r_iload_n (i := 2) hX d_M_work_34 rfl rfl ?_
    refine r_iald 2 0 (i) hX d_M_work_35 rfl rfl rfl (by omega) (by decide) ?_
    refine r_top hkd ?_
    refine r_istore_n (i := 3) hX d_M_work_36 rfl (by decide) ?_
    refine r_iload_n (i := 3) hX d_M_work_37 rfl rfl ?_
    refine r_bipush (v := nI 8) hX d_M_work_38 (by decide) ?_
    refine r_icmp_ge 74 hX d_M_work_40 (by decide) (fun c40 => ?_) (fun c40 => absurd c40 (by decide))
    refine r_iload_n (i := 3) hX d_M_work_74 rfl rfl ?_
    refine r_bipush (v := nI 15) hX d_M_work_75 (by decide) ?_
    refine r_icmp_ne 88 hX d_M_work_77 (by decide) (fun c77 => ?_) (fun c77 => absurd c77 (by decide))
    refine r_iload_n (i := 3) hX d_M_work_88 rfl rfl ?_
    refine r_bipush (v := nI 19) hX d_M_work_89 (by decide) ?_
    refine r_icmp_ne 102 hX d_M_work_91 (by decide) (fun c91 => ?_) (fun c91 => absurd c91 (by decide))
    refine r_iload_n (i := 3) hX d_M_work_102 rfl rfl ?_
    refine r_bipush (v := nI 17) hX d_M_work_103 (by decide) ?_
    refine r_icmp_ge 123 hX d_M_work_105 (by decide) (fun c105 => absurd c105 (by decide)) (fun c105 => ?_)
    refine r_iload_n (i := 3) hX d_M_work_108 rfl rfl ?_
    refine r_bipush (v := nI 8) hX d_M_work_109 (by decide) ?_
    refine r_icmp_eq 123 hX d_M_work_111 (by decide) (fun c111 => absurd c111 (by decide)) (fun c111 => ?_)
    refine r_aload_n (i := 0) hX d_M_work_114 rfl rfl ?_
    refine r_iload_n (i := 2) hX d_M_work_115 rfl rfl ?_
    refine r_iload_n (i := 3) hX d_M_work_116 rfl rfl ?_
    refine r_callVwv (q0 := 0) hX d_M_work_117 cw_M_stepPairs ml_M_141 (hc) (Or.inl rfl) rfl rfl rfl rfl (by decide) (Nat.le_of_ble_eq_true rfl) had (fun u hu => ?_)
    refine r_goto 129 hX d_M_work_120 (by decide) ?_
    refine r_goto 11 hX d_M_work_129 (by decide) ?_
    exact r_lv [0] (kk u hu)
set_option maxRecDepth 100000 in
set_option maxHeartbeats 4000000 in
theorem wk_one (hX : rx_ok X b_M_work 4 y_M_work.cls D (tyL cI cZ cN) A 3 0 0 none) (v i k : Nat) (hk : k = 8 ∨ k = 17 ∨ k = 18 ∨ k = 20 ∨ k = 21) (M : MS) (hv : v < 8) (hi : i < 60) (hnv : M.2.2.1 v = nI i) (hkd : mf 0 i = nI k) {S : Type} {post : S → Prop} {wo : S → va_W} (hc : CT X.2.1 D (tyL cI cZ cN) none y_M_stepOne b_M_stepOne 8 none 2 [.ref (am 0), .int (nI i), .int (nI k)] (WMs am cI cZ tl nn rs ae (v + 1) tx mf M) post (fun _ => none) wo) (had : ∀ u, (wo u).map (fun q => q.1) = (WMs am cI cZ tl nn rs ae (v + 1) tx mf M).map (fun q => q.1))
    (kk : ∀ u, post u → RR X 4 D A 0 0 (wo u) [(0, .ref (am 0))] 11 []) : Lp X D A am cI cZ tl nn rs ae tx mf (v + 1) M := by
  rcases hk with rfl | rfl | rfl | rfl | rfl
  ·
    refine r_aload_n (i := 0) hX d_M_work_11 rfl rfl ?_
    refine r_get 0 15 hX d_M_work_12 rfl rfl fi_M (by decide) fl_M_57 rfl rfl ?_
    refine r_if_le 132 hX d_M_work_15 (by decide) (fun c15 => absurd c15 (nI_nle (by omega) (by omega))) (fun c15 => ?_)
    refine r_aload_n (i := 0) hX d_M_work_18 rfl rfl ?_
    refine r_get 0 16 hX d_M_work_19 rfl rfl fi_M (by decide) fl_M_60 rfl rfl ?_
    refine r_aload_n (i := 0) hX d_M_work_22 rfl rfl ?_
    refine r_get 0 15 hX d_M_work_23 rfl rfl fi_M (by decide) fl_M_57 rfl rfl ?_
    refine r_iconst (v := nI 1) hX d_M_work_26 (by decide) ?_
    refine r_isub hX d_M_work_27 ?_
    refine r_top (pk_sub (by omega)) ?_
    refine r_top (by rw [Nat.add_sub_cancel]) ?_
    refine r_iald 12 0 (v) hX d_M_work_28 rfl rfl rfl (by omega) (by decide) ?_
    refine r_top hnv ?_
    refine r_istore_n (i := 2) hX d_M_work_29 rfl (by decide) ?_
    refine r_aload_n (i := 0) hX d_M_work_30 rfl rfl ?_
    refine r_get 0 5 hX d_M_work_31 rfl rfl fi_M (by decide) fl_M_26 rfl rfl ?_
    refine r_iload_n (i := 2) hX d_M_work_34 rfl rfl ?_
    refine r_iald 2 0 (i) hX d_M_work_35 rfl rfl rfl (by omega) (by decide) ?_
    refine r_top hkd ?_
    refine r_istore_n (i := 3) hX d_M_work_36 rfl (by decide) ?_
    refine r_iload_n (i := 3) hX d_M_work_37 rfl rfl ?_
    refine r_bipush (v := nI 8) hX d_M_work_38 (by decide) ?_
    refine r_icmp_ge 74 hX d_M_work_40 (by decide) (fun c40 => ?_) (fun c40 => absurd c40 (by decide))
    refine r_iload_n (i := 3) hX d_M_work_74 rfl rfl ?_
    refine r_bipush (v := nI 15) hX d_M_work_75 (by decide) ?_
    refine r_icmp_ne 88 hX d_M_work_77 (by decide) (fun c77 => ?_) (fun c77 => absurd c77 (by decide))
    refine r_iload_n (i := 3) hX d_M_work_88 rfl rfl ?_
    refine r_bipush (v := nI 19) hX d_M_work_89 (by decide) ?_
    refine r_icmp_ne 102 hX d_M_work_91 (by decide) (fun c91 => ?_) (fun c91 => absurd c91 (by decide))
    refine r_iload_n (i := 3) hX d_M_work_102 rfl rfl ?_
    refine r_bipush (v := nI 17) hX d_M_work_103 (by decide) ?_
    refine r_icmp_ge 123 hX d_M_work_105 (by decide) (fun c105 => absurd c105 (by decide)) (fun c105 => ?_)
    refine r_iload_n (i := 3) hX d_M_work_108 rfl rfl ?_
    refine r_bipush (v := nI 8) hX d_M_work_109 (by decide) ?_
    refine r_icmp_eq 123 hX d_M_work_111 (by decide) (fun c111 => ?_) (fun c111 => absurd c111 (by decide))
    refine r_aload_n (i := 0) hX d_M_work_123 rfl rfl ?_
    refine r_iload_n (i := 2) hX d_M_work_124 rfl rfl ?_
    refine r_iload_n (i := 3) hX d_M_work_125 rfl rfl ?_
    refine r_callVwv (q0 := 0) hX d_M_work_126 cw_M_stepOne ml_M_144 (hc) (Or.inl rfl) rfl rfl rfl rfl (by decide) (Nat.le_of_ble_eq_true rfl) had (fun u hu => ?_)
    refine r_goto 11 hX d_M_work_129 (by decide) ?_
    exact r_lv [0] (kk u hu)
  ·
    refine r_aload_n (i := 0) hX d_M_work_11 rfl rfl ?_
    refine r_get 0 15 hX d_M_work_12 rfl rfl fi_M (by decide) fl_M_57 rfl rfl ?_
    refine r_if_le 132 hX d_M_work_15 (by decide) (fun c15 => absurd c15 (nI_nle (by omega) (by omega))) (fun c15 => ?_)
    refine r_aload_n (i := 0) hX d_M_work_18 rfl rfl ?_
    refine r_get 0 16 hX d_M_work_19 rfl rfl fi_M (by decide) fl_M_60 rfl rfl ?_
    refine r_aload_n (i := 0) hX d_M_work_22 rfl rfl ?_
    refine r_get 0 15 hX d_M_work_23 rfl rfl fi_M (by decide) fl_M_57 rfl rfl ?_
    refine r_iconst (v := nI 1) hX d_M_work_26 (by decide) ?_
    refine r_isub hX d_M_work_27 ?_
    refine r_top (pk_sub (by omega)) ?_
    refine r_top (by rw [Nat.add_sub_cancel]) ?_
    refine r_iald 12 0 (v) hX d_M_work_28 rfl rfl rfl (by omega) (by decide) ?_
    refine r_top hnv ?_
    refine r_istore_n (i := 2) hX d_M_work_29 rfl (by decide) ?_
    refine r_aload_n (i := 0) hX d_M_work_30 rfl rfl ?_
    refine r_get 0 5 hX d_M_work_31 rfl rfl fi_M (by decide) fl_M_26 rfl rfl ?_
    refine r_iload_n (i := 2) hX d_M_work_34 rfl rfl ?_
    refine r_iald 2 0 (i) hX d_M_work_35 rfl rfl rfl (by omega) (by decide) ?_
    refine r_top hkd ?_
    refine r_istore_n (i := 3) hX d_M_work_36 rfl (by decide) ?_
    refine r_iload_n (i := 3) hX d_M_work_37 rfl rfl ?_
    refine r_bipush (v := nI 8) hX d_M_work_38 (by decide) ?_
    refine r_icmp_ge 74 hX d_M_work_40 (by decide) (fun c40 => ?_) (fun c40 => absurd c40 (by decide))
    refine r_iload_n (i := 3) hX d_M_work_74 rfl rfl ?_
    refine r_bipush (v := nI 15) hX d_M_work_75 (by decide) ?_
    refine r_icmp_ne 88 hX d_M_work_77 (by decide) (fun c77 => ?_) (fun c77 => absurd c77 (by decide))
    refine r_iload_n (i := 3) hX d_M_work_88 rfl rfl ?_
    refine r_bipush (v := nI 19) hX d_M_work_89 (by decide) ?_
    refine r_icmp_ne 102 hX d_M_work_91 (by decide) (fun c91 => ?_) (fun c91 => absurd c91 (by decide))
    refine r_iload_n (i := 3) hX d_M_work_102 rfl rfl ?_
    refine r_bipush (v := nI 17) hX d_M_work_103 (by decide) ?_
    refine r_icmp_ge 123 hX d_M_work_105 (by decide) (fun c105 => ?_) (fun c105 => absurd c105 (by decide))
    refine r_aload_n (i := 0) hX d_M_work_123 rfl rfl ?_
    refine r_iload_n (i := 2) hX d_M_work_124 rfl rfl ?_
    refine r_iload_n (i := 3) hX d_M_work_125 rfl rfl ?_
    refine r_callVwv (q0 := 0) hX d_M_work_126 cw_M_stepOne ml_M_144 (hc) (Or.inl rfl) rfl rfl rfl rfl (by decide) (Nat.le_of_ble_eq_true rfl) had (fun u hu => ?_)
    refine r_goto 11 hX d_M_work_129 (by decide) ?_
    exact r_lv [0] (kk u hu)
  ·
    refine r_aload_n (i := 0) hX d_M_work_11 rfl rfl ?_
    refine r_get 0 15 hX d_M_work_12 rfl rfl fi_M (by decide) fl_M_57 rfl rfl ?_
    refine r_if_le 132 hX d_M_work_15 (by decide) (fun c15 => absurd c15 (nI_nle (by omega) (by omega))) (fun c15 => ?_)
    refine r_aload_n (i := 0) hX d_M_work_18 rfl rfl ?_
    refine r_get 0 16 hX d_M_work_19 rfl rfl fi_M (by decide) fl_M_60 rfl rfl ?_
    refine r_aload_n (i := 0) hX d_M_work_22 rfl rfl ?_
    refine r_get 0 15 hX d_M_work_23 rfl rfl fi_M (by decide) fl_M_57 rfl rfl ?_
    refine r_iconst (v := nI 1) hX d_M_work_26 (by decide) ?_
    refine r_isub hX d_M_work_27 ?_
    refine r_top (pk_sub (by omega)) ?_
    refine r_top (by rw [Nat.add_sub_cancel]) ?_
    refine r_iald 12 0 (v) hX d_M_work_28 rfl rfl rfl (by omega) (by decide) ?_
    refine r_top hnv ?_
    refine r_istore_n (i := 2) hX d_M_work_29 rfl (by decide) ?_
    refine r_aload_n (i := 0) hX d_M_work_30 rfl rfl ?_
    refine r_get 0 5 hX d_M_work_31 rfl rfl fi_M (by decide) fl_M_26 rfl rfl ?_
    refine r_iload_n (i := 2) hX d_M_work_34 rfl rfl ?_
    refine r_iald 2 0 (i) hX d_M_work_35 rfl rfl rfl (by omega) (by decide) ?_
    refine r_top hkd ?_
    refine r_istore_n (i := 3) hX d_M_work_36 rfl (by decide) ?_
    refine r_iload_n (i := 3) hX d_M_work_37 rfl rfl ?_
    refine r_bipush (v := nI 8) hX d_M_work_38 (by decide) ?_
    refine r_icmp_ge 74 hX d_M_work_40 (by decide) (fun c40 => ?_) (fun c40 => absurd c40 (by decide))
    refine r_iload_n (i := 3) hX d_M_work_74 rfl rfl ?_
    refine r_bipush (v := nI 15) hX d_M_work_75 (by decide) ?_
    refine r_icmp_ne 88 hX d_M_work_77 (by decide) (fun c77 => ?_) (fun c77 => absurd c77 (by decide))
    refine r_iload_n (i := 3) hX d_M_work_88 rfl rfl ?_
    refine r_bipush (v := nI 19) hX d_M_work_89 (by decide) ?_
    refine r_icmp_ne 102 hX d_M_work_91 (by decide) (fun c91 => ?_) (fun c91 => absurd c91 (by decide))
    refine r_iload_n (i := 3) hX d_M_work_102 rfl rfl ?_
    refine r_bipush (v := nI 17) hX d_M_work_103 (by decide) ?_
    refine r_icmp_ge 123 hX d_M_work_105 (by decide) (fun c105 => ?_) (fun c105 => absurd c105 (by decide))
    refine r_aload_n (i := 0) hX d_M_work_123 rfl rfl ?_
    refine r_iload_n (i := 2) hX d_M_work_124 rfl rfl ?_
    refine r_iload_n (i := 3) hX d_M_work_125 rfl rfl ?_
    refine r_callVwv (q0 := 0) hX d_M_work_126 cw_M_stepOne ml_M_144 (hc) (Or.inl rfl) rfl rfl rfl rfl (by decide) (Nat.le_of_ble_eq_true rfl) had (fun u hu => ?_)
    refine r_goto 11 hX d_M_work_129 (by decide) ?_
    exact r_lv [0] (kk u hu)
  ·
    refine r_aload_n (i := 0) hX d_M_work_11 rfl rfl ?_
    refine r_get 0 15 hX d_M_work_12 rfl rfl fi_M (by decide) fl_M_57 rfl rfl ?_
    refine r_if_le 132 hX d_M_work_15 (by decide) (fun c15 => absurd c15 (nI_nle (by omega) (by omega))) (fun c15 => ?_)
    refine r_aload_n (i := 0) hX d_M_work_18 rfl rfl ?_
    refine r_get 0 16 hX d_M_work_19 rfl rfl fi_M (by decide) fl_M_60 rfl rfl ?_
    refine r_aload_n (i := 0) hX d_M_work_22 rfl rfl ?_
    refine r_get 0 15 hX d_M_work_23 rfl rfl fi_M (by decide) fl_M_57 rfl rfl ?_
    refine r_iconst (v := nI 1) hX d_M_work_26 (by decide) ?_
    refine r_isub hX d_M_work_27 ?_
    refine r_top (pk_sub (by omega)) ?_
    refine r_top (by rw [Nat.add_sub_cancel]) ?_
    refine r_iald 12 0 (v) hX d_M_work_28 rfl rfl rfl (by omega) (by decide) ?_
    refine r_top hnv ?_
    refine r_istore_n (i := 2) hX d_M_work_29 rfl (by decide) ?_
    refine r_aload_n (i := 0) hX d_M_work_30 rfl rfl ?_
    refine r_get 0 5 hX d_M_work_31 rfl rfl fi_M (by decide) fl_M_26 rfl rfl ?_
    refine r_iload_n (i := 2) hX d_M_work_34 rfl rfl ?_
    refine r_iald 2 0 (i) hX d_M_work_35 rfl rfl rfl (by omega) (by decide) ?_
    refine r_top hkd ?_
    refine r_istore_n (i := 3) hX d_M_work_36 rfl (by decide) ?_
    refine r_iload_n (i := 3) hX d_M_work_37 rfl rfl ?_
    refine r_bipush (v := nI 8) hX d_M_work_38 (by decide) ?_
    refine r_icmp_ge 74 hX d_M_work_40 (by decide) (fun c40 => ?_) (fun c40 => absurd c40 (by decide))
    refine r_iload_n (i := 3) hX d_M_work_74 rfl rfl ?_
    refine r_bipush (v := nI 15) hX d_M_work_75 (by decide) ?_
    refine r_icmp_ne 88 hX d_M_work_77 (by decide) (fun c77 => ?_) (fun c77 => absurd c77 (by decide))
    refine r_iload_n (i := 3) hX d_M_work_88 rfl rfl ?_
    refine r_bipush (v := nI 19) hX d_M_work_89 (by decide) ?_
    refine r_icmp_ne 102 hX d_M_work_91 (by decide) (fun c91 => ?_) (fun c91 => absurd c91 (by decide))
    refine r_iload_n (i := 3) hX d_M_work_102 rfl rfl ?_
    refine r_bipush (v := nI 17) hX d_M_work_103 (by decide) ?_
    refine r_icmp_ge 123 hX d_M_work_105 (by decide) (fun c105 => ?_) (fun c105 => absurd c105 (by decide))
    refine r_aload_n (i := 0) hX d_M_work_123 rfl rfl ?_
    refine r_iload_n (i := 2) hX d_M_work_124 rfl rfl ?_
    refine r_iload_n (i := 3) hX d_M_work_125 rfl rfl ?_
    refine r_callVwv (q0 := 0) hX d_M_work_126 cw_M_stepOne ml_M_144 (hc) (Or.inl rfl) rfl rfl rfl rfl (by decide) (Nat.le_of_ble_eq_true rfl) had (fun u hu => ?_)
    refine r_goto 11 hX d_M_work_129 (by decide) ?_
    exact r_lv [0] (kk u hu)
  ·
    refine r_aload_n (i := 0) hX d_M_work_11 rfl rfl ?_
    refine r_get 0 15 hX d_M_work_12 rfl rfl fi_M (by decide) fl_M_57 rfl rfl ?_
    refine r_if_le 132 hX d_M_work_15 (by decide) (fun c15 => absurd c15 (nI_nle (by omega) (by omega))) (fun c15 => ?_)
    refine r_aload_n (i := 0) hX d_M_work_18 rfl rfl ?_
    refine r_get 0 16 hX d_M_work_19 rfl rfl fi_M (by decide) fl_M_60 rfl rfl ?_
    refine r_aload_n (i := 0) hX d_M_work_22 rfl rfl ?_
    refine r_get 0 15 hX d_M_work_23 rfl rfl fi_M (by decide) fl_M_57 rfl rfl ?_
    refine r_iconst (v := nI 1) hX d_M_work_26 (by decide) ?_
    refine r_isub hX d_M_work_27 ?_
    refine r_top (pk_sub (by omega)) ?_
    refine r_top (by rw [Nat.add_sub_cancel]) ?_
    refine r_iald 12 0 (v) hX d_M_work_28 rfl rfl rfl (by omega) (by decide) ?_
    refine r_top hnv ?_
    refine r_istore_n (i := 2) hX d_M_work_29 rfl (by decide) ?_
    refine r_aload_n (i := 0) hX d_M_work_30 rfl rfl ?_
    refine r_get 0 5 hX d_M_work_31 rfl rfl fi_M (by decide) fl_M_26 rfl rfl ?_
    refine r_iload_n (i := 2) hX d_M_work_34 rfl rfl ?_
    refine r_iald 2 0 (i) hX d_M_work_35 rfl rfl rfl (by omega) (by decide) ?_
    refine r_top hkd ?_
    refine r_istore_n (i := 3) hX d_M_work_36 rfl (by decide) ?_
    refine r_iload_n (i := 3) hX d_M_work_37 rfl rfl ?_
    refine r_bipush (v := nI 8) hX d_M_work_38 (by decide) ?_
    refine r_icmp_ge 74 hX d_M_work_40 (by decide) (fun c40 => ?_) (fun c40 => absurd c40 (by decide))
    refine r_iload_n (i := 3) hX d_M_work_74 rfl rfl ?_
    refine r_bipush (v := nI 15) hX d_M_work_75 (by decide) ?_
    refine r_icmp_ne 88 hX d_M_work_77 (by decide) (fun c77 => ?_) (fun c77 => absurd c77 (by decide))
    refine r_iload_n (i := 3) hX d_M_work_88 rfl rfl ?_
    refine r_bipush (v := nI 19) hX d_M_work_89 (by decide) ?_
    refine r_icmp_ne 102 hX d_M_work_91 (by decide) (fun c91 => ?_) (fun c91 => absurd c91 (by decide))
    refine r_iload_n (i := 3) hX d_M_work_102 rfl rfl ?_
    refine r_bipush (v := nI 17) hX d_M_work_103 (by decide) ?_
    refine r_icmp_ge 123 hX d_M_work_105 (by decide) (fun c105 => ?_) (fun c105 => absurd c105 (by decide))
    refine r_aload_n (i := 0) hX d_M_work_123 rfl rfl ?_
    refine r_iload_n (i := 2) hX d_M_work_124 rfl rfl ?_
    refine r_iload_n (i := 3) hX d_M_work_125 rfl rfl ?_
    refine r_callVwv (q0 := 0) hX d_M_work_126 cw_M_stepOne ml_M_144 (hc) (Or.inl rfl) rfl rfl rfl rfl (by decide) (Nat.le_of_ble_eq_true rfl) had (fun u hu => ?_)
    refine r_goto 11 hX d_M_work_129 (by decide) ?_
    exact r_lv [0] (kk u hu)
end ModelG
