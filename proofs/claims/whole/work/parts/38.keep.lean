/-! work, keep, evaluate, attempt of the reference. -/
/-- how many RESULTS have the place p -/
def cntL (p : Int32) (L : List Rs) : Nat := (L.filter (fun r => decide (r.2 0 = p))).length
theorem cntP_list {f : Nat → Int32} {p : Int32} : ∀ (n : Nat) (L : List Rs), Holds f 0 L → n ≤ L.length → cntP f p n = cntL p (L.take n)
  | 0, L, _, _ => by simp [cntP, cntL]
  | n + 1, L, h, hn => by
    have h1 := cntP_list (p := p) n L h (by omega)
    have h2 := h n (by omega)
    have h3 : f (6 * n + 1) = (L[n]).2 0 := by
      rw [← h2]
      show _ = f (6 * (0 + n) + 1 + 0)
      congr 1
      omega
    rw [List.take_succ_eq_append_getElem (by omega)]
    unfold cntL at h1 ⊢
    rw [List.filter_append, List.length_append, ← h1]
    by_cases hq : f (6 * n + 1) = p
    · rw [cntP_t hq]
      rw [h3] at hq
      simp [hq]
    · rw [cntP_f hq]
      rw [h3] at hq
      simp [hq]
section ModelH
variable {l : Launch} {D : va_G} {cI cZ cN : ClassId} {am : Nat → Nat} {tl nn rs ae dp : Nat} {tx rw sz nv ph tu sv : Nat → Int32} {mf : Nat → Nat → Int32}
set_option maxRecDepth 100000 in
set_option maxHeartbeats 4000000 in
theorem c_M_work (j : Nat) (ht : tl ≤ 24) (hn60 : nn ≤ 60) (hw : WFn nn mf) (hj : j < nn) : CT l D (tyL cI cZ cN) none y_M_work b_M_work 4 none 3 [.ref (am 0), .int (nI j)] (WM am cI cZ tl nn rs ae dp tx mf rw sz nv ph tu sv) (fun u : MS => Holds u.1 0 (ev tl tx (ndOf mf) 8 j st0) ∧ u.2.1 0 = nI (ev tl tx (ndOf mf) 8 j st0).length) (fun _ => none) (fun u => WMs am cI cZ tl nn rs ae 0 tx mf u) := by
  refine CT.of (by decide) (Nat.le_of_ble_eq_true rfl) ?_
  intro X A hl hX hF
  have last : ∀ M' : MS, Holds M'.1 0 (ev tl tx (ndOf mf) 8 j st0) → M'.2.1 0 = nI (ev tl tx (ndOf mf) 8 j st0).length → Lp X D A am cI cZ tl nn rs ae tx mf 0 M' := by
    intro M' h1 h2
    refine r_aload_n (i := 0) hX d_M_work_11 rfl rfl ?_
    refine r_get 0 15 hX d_M_work_12 rfl rfl fi_M (by decide) fl_M_57 rfl rfl ?_
    refine r_if_le 132 hX d_M_work_15 (by decide) (fun c15 => ?_) (fun c15 => absurd (by decide) c15)
    exact r_vret M' hX hF d_M_work_132 ⟨h1, h2⟩ rfl rfl
  refine r_aload_n (i := 0) hX d_M_work_0 rfl rfl ?_
  refine r_iconst (v := nI 0) hX d_M_work_1 (by decide) ?_
  refine r_put 0 15 hX d_M_work_2 rfl rfl fi_M ft_M_ok fn_M (by decide) fl_M_57 rfl rfl rfl rfl rfl (Nat.le_of_ble_eq_true rfl) ?_
  refine r_ws (ws' := WM am cI cZ tl nn rs ae 0 tx mf rw sz nv ph tu sv) rfl ?_
  refine r_aload_n (i := 0) hX d_M_work_5 rfl rfl ?_
  refine r_iload_n (i := 1) hX d_M_work_6 rfl rfl ?_
  refine r_iconst (v := -1) hX d_M_work_7 (by decide) ?_
  refine r_callVwv (q0 := 0) hX d_M_work_8 cw_M_begin ml_M_112 (c_M_begin_zero (nI j) 0 rfl (by decide)) (Or.inl rfl) rfl rfl rfl rfl (by decide) (Nat.le_of_ble_eq_true rfl) (fun _ => rfl) (fun u hu => ?_)
  refine r_lv [0] ?_
  exact run_ev hX ht hn60 hw 8 0 j st0 (rw, upd sz 0 (nI 0), upd nv 0 (nI j), upd ph 0 (nI 0), tu, u) (by decide) hj (hw j hj).2.2.2.2.1 ⟨0, Nat.zero_le _, rfl⟩ (pk_us (f := nv) (k := 0) (x := nI j)) (pk_us (f := ph) (k := 0) (x := nI 0)) (pk_us (f := sz) (k := 0) (x := nI 0)) hu.2 (fun M' _ hL hs => last M' hL hs)
set_option maxRecDepth 100000 in
set_option maxHeartbeats 4000000 in
theorem c_M_keep (m n : Nat) (L : List Rs) (hm : m ≤ 64) (hl : L.length ≤ 64) (hn : (L.take m).length = n) (hL : Holds rw 0 L) (hsz : sz 0 = nI L.length) (ht : tl ≤ 24) : CT l D (tyL cI cZ cN) none y_M_keep b_M_keep 3 (some .int) 0 [.ref (am 0), .int (nI m)] (WM am cI cZ tl nn rs ae dp tx mf rw sz nv ph tu sv) (fun u => Holds u 1024 (L.take m)) (fun _ => some (.int (nI n))) (fun u => WM am cI cZ tl nn n (cntL (nI tl) (L.take m)) dp tx mf u sz nv ph tu sv) := by
  refine CT.of (by decide) (Nat.le_of_ble_eq_true rfl) ?_
  intro X A hl' hX hF
  have hn2 : n = min m L.length := by rw [← hn, List.length_take]
  have hcp : Holds (cpF rw 0 1024 (n * 6)) 1024 (L.take m) := fun k hk => by
    rw [cp_row (by omega), List.getElem_take]
    exact hL k (by omega)
  have hcnt : cntP (fun j => cpF rw 0 1024 (n * 6) (6144 + j)) (nI tl) n = cntL (nI tl) (L.take m) := by
    have h0 : Holds (fun j => cpF rw 0 1024 (n * 6) (6144 + j)) 0 (L.take m) := fun k hk => by
      rw [← hcp k hk]
      exact gRow_ext fun c hc => by
        show cpF rw 0 1024 (n * 6) (6144 + (6 * (0 + k) + c)) = _
        congr 1
        omega
    rw [cntP_list n (L.take m) h0 (by omega), List.take_of_length_le (by omega)]
  have loop2 : ∀ q k, k + q = n → RR X 3 D A 0 0 (WM am cI cZ tl nn n (cntP (fun j => cpF rw 0 1024 (n * 6) (6144 + j)) (nI tl) k) dp tx mf (cpF rw 0 1024 (n * 6)) sz nv ph tu sv) [(0, .ref (am 0)), (2, .int (nI k))] 66 [] := by
    intro q
    induction q with
    | zero =>
      intro k hk
      have hk : k = n := by omega
      subst hk
      refine r_iload_n (i := 2) hX d_M_keep_66 rfl rfl ?_
      refine r_aload_n (i := 0) hX d_M_keep_67 rfl rfl ?_
      refine r_get 0 2 hX d_M_keep_68 rfl rfl fi_M (by decide) fl_M_16 rfl rfl ?_
      refine r_icmp_ge 112 hX d_M_keep_71 (by decide) (fun c71 => ?_) (fun c71 => absurd (nI_le (Nat.le_refl _) (by omega)) c71)
      refine r_aload_n (i := 0) hX d_M_keep_112 rfl rfl ?_
      refine r_get 0 2 hX d_M_keep_113 rfl rfl fi_M (by decide) fl_M_16 rfl rfl ?_
      exact r_iret (cpF rw 0 1024 (k * 6)) hX hF d_M_keep_116 hcp rfl (by rw [hcnt])
    | succ q ih =>
      intro k hk
      refine r_iload_n (i := 2) hX d_M_keep_66 rfl rfl ?_
      refine r_aload_n (i := 0) hX d_M_keep_67 rfl rfl ?_
      refine r_get 0 2 hX d_M_keep_68 rfl rfl fi_M (by decide) fl_M_16 rfl rfl ?_
      refine r_icmp_ge 112 hX d_M_keep_71 (by decide) (fun c71 => absurd c71 (nI_ge (by omega) (by omega))) (fun c71 => ?_)
      refine r_aload_n (i := 0) hX d_M_keep_74 rfl rfl ?_
      refine r_get 0 13 hX d_M_keep_75 rfl rfl fi_M (by decide) fl_M_51 rfl rfl ?_
      refine r_sipush (v := nI 6144) hX d_M_keep_78 (by decide) ?_
      refine r_iload_n (i := 2) hX d_M_keep_81 rfl rfl ?_
      refine r_bipush (v := nI 6) hX d_M_keep_82 (by decide) ?_
      refine r_imul hX d_M_keep_84 ?_
      refine r_top (pk_mul _ _) ?_
      refine r_iadd hX d_M_keep_85 ?_
      refine r_top (nI_add _ _) ?_
      refine r_iconst (v := nI 1) hX d_M_keep_86 (by decide) ?_
      refine r_iadd hX d_M_keep_87 ?_
      refine r_top (nI_add _ _) ?_
      refine r_iald 10 0 (6144 + (6 * k + 1)) hX d_M_keep_88 rfl rfl (congrArg nI (by omega)) (by omega) (by decide) ?_
      refine r_aload_n (i := 0) hX d_M_keep_89 rfl rfl ?_
      refine r_get 0 0 hX d_M_keep_90 rfl rfl fi_M (by decide) fl_M_7 rfl rfl ?_
      refine r_icmp_ne 106 hX d_M_keep_93 (by decide) (fun c93 => ?_) (fun c93 => ?_)
      · have hc := cntP_f (f := fun j => cpF rw 0 1024 (n * 6) (6144 + j)) (p := nI tl) (k := k) c93
        refine r_iinc hX d_M_keep_106 rfl (rx_inc _) (by decide) ?_
        refine r_goto 66 hX d_M_keep_109 (by decide) ?_
        have h := ih (k + 1) (by omega)
        rw [hc] at h
        exact r_lv [0, 2] h
      · have hc := cntP_t (f := fun j => cpF rw 0 1024 (n * 6) (6144 + j)) (p := nI tl) (k := k) c93
        refine r_aload_n (i := 0) hX d_M_keep_96 rfl rfl ?_
        refine r_dup hX d_M_keep_97 rfl ?_
        refine r_get 0 3 hX d_M_keep_98 rfl rfl fi_M (by decide) fl_M_19 rfl rfl ?_
        refine r_iconst (v := nI 1) hX d_M_keep_101 (by decide) ?_
        refine r_iadd hX d_M_keep_102 ?_
        refine r_top (nI_add _ _) ?_
        refine r_put 0 3 hX d_M_keep_103 rfl rfl fi_M ft_M_ok fn_M (by decide) fl_M_19 rfl rfl rfl rfl rfl (Nat.le_of_ble_eq_true rfl) ?_
        refine r_iinc hX d_M_keep_106 rfl (rx_inc _) (by decide) ?_
        refine r_goto 66 hX d_M_keep_109 (by decide) ?_
        have h := ih (k + 1) (by omega)
        rw [hc] at h
        exact r_lv [0, 2] h
  have loop1 : ∀ q c, c + q = n * 6 → RR X 3 D A 0 0 (WM am cI cZ tl nn n 0 dp tx mf (cpF rw 0 1024 c) sz nv ph tu sv) [(0, .ref (am 0)), (2, .int (nI c))] 31 [] := by
    intro q
    induction q with
    | zero =>
      intro c hc
      have hc : c = n * 6 := by omega
      subst hc
      refine r_iload_n (i := 2) hX d_M_keep_31 rfl rfl ?_
      refine r_aload_n (i := 0) hX d_M_keep_32 rfl rfl ?_
      refine r_get 0 2 hX d_M_keep_33 rfl rfl fi_M (by decide) fl_M_16 rfl rfl ?_
      refine r_bipush (v := nI 6) hX d_M_keep_36 (by decide) ?_
      refine r_imul hX d_M_keep_38 ?_
      refine r_top (pk_mul _ _) ?_
      refine r_icmp_ge 64 hX d_M_keep_39 (by decide) (fun c39 => ?_) (fun c39 => absurd (nI_le (Nat.le_refl _) (by omega)) c39)
      refine r_iconst (v := nI 0) hX d_M_keep_64 (by decide) ?_
      refine r_istore_n (i := 2) hX d_M_keep_65 rfl (by decide) ?_
      exact r_lv [0, 2] (loop2 n 0 (by omega))
    | succ q ih =>
      intro c hc
      refine r_iload_n (i := 2) hX d_M_keep_31 rfl rfl ?_
      refine r_aload_n (i := 0) hX d_M_keep_32 rfl rfl ?_
      refine r_get 0 2 hX d_M_keep_33 rfl rfl fi_M (by decide) fl_M_16 rfl rfl ?_
      refine r_bipush (v := nI 6) hX d_M_keep_36 (by decide) ?_
      refine r_imul hX d_M_keep_38 ?_
      refine r_top (pk_mul _ _) ?_
      refine r_icmp_ge 64 hX d_M_keep_39 (by decide) (fun c39 => absurd c39 (nI_ge (by omega) (by omega))) (fun c39 => ?_)
      refine r_aload_n (i := 0) hX d_M_keep_42 rfl rfl ?_
      refine r_get 0 13 hX d_M_keep_43 rfl rfl fi_M (by decide) fl_M_51 rfl rfl ?_
      refine r_sipush (v := nI 6144) hX d_M_keep_46 (by decide) ?_
      refine r_iload_n (i := 2) hX d_M_keep_49 rfl rfl ?_
      refine r_iadd hX d_M_keep_50 ?_
      refine r_top (nI_add _ _) ?_
      refine r_aload_n (i := 0) hX d_M_keep_51 rfl rfl ?_
      refine r_get 0 13 hX d_M_keep_52 rfl rfl fi_M (by decide) fl_M_51 rfl rfl ?_
      refine r_iload_n (i := 2) hX d_M_keep_55 rfl rfl ?_
      refine r_iald 10 0 (c) hX d_M_keep_56 rfl rfl rfl (by omega) (by decide) ?_
      refine r_top (y := rw (6 * 0 + c)) (by rw [cp_rd (by omega)]; congr 1; omega) ?_
      refine r_iast 10 0 (6 * 1024 + c) hX d_M_keep_57 rfl rfl rfl (by omega) (by decide) ?_
      refine r_ws (ws' := WM am cI cZ tl nn n 0 dp tx mf (cpF rw 0 1024 (c + 1)) sz nv ph tu sv) (by rw [← cp_step]; rfl) ?_
      refine r_iinc hX d_M_keep_58 rfl (rx_inc _) (by decide) ?_
      refine r_goto 31 hX d_M_keep_61 (by decide) ?_
      exact r_lv [0, 2] (ih (c + 1) (by omega))
  have tail : ∀ x : Int32, x = nI n → RR X 3 D A 0 0 (WM am cI cZ tl nn rs ae dp tx mf rw sz nv ph tu sv) [(0, .ref (am 0))] 21 [.int x, .ref (am 0)] := by
    intro x hx
    subst hx
    refine r_put 0 2 hX d_M_keep_21 rfl rfl fi_M ft_M_ok fn_M (by decide) fl_M_16 rfl rfl rfl rfl rfl (Nat.le_of_ble_eq_true rfl) ?_
    refine r_aload_n (i := 0) hX d_M_keep_24 rfl rfl ?_
    refine r_iconst (v := nI 0) hX d_M_keep_25 (by decide) ?_
    refine r_put 0 3 hX d_M_keep_26 rfl rfl fi_M ft_M_ok fn_M (by decide) fl_M_19 rfl rfl rfl rfl rfl (Nat.le_of_ble_eq_true rfl) ?_
    refine r_ws (ws' := WM am cI cZ tl nn n 0 dp tx mf (cpF rw 0 1024 0) sz nv ph tu sv) (by rw [cp_0]; rfl) ?_
    refine r_iconst (v := nI 0) hX d_M_keep_29 (by decide) ?_
    refine r_istore_n (i := 2) hX d_M_keep_30 rfl (by decide) ?_
    exact r_lv [0, 2] (loop1 (n * 6) 0 (by omega))
  refine r_aload_n (i := 0) hX d_M_keep_0 rfl rfl ?_
  refine r_aload_n (i := 0) hX d_M_keep_1 rfl rfl ?_
  refine r_get 0 14 hX d_M_keep_2 rfl rfl fi_M (by decide) fl_M_54 rfl rfl ?_
  refine r_iconst (v := nI 0) hX d_M_keep_5 (by decide) ?_
  refine r_iald 11 0 (0) hX d_M_keep_6 rfl rfl rfl (by omega) (by decide) ?_
  refine r_top hsz ?_
  refine r_iload_n (i := 1) hX d_M_keep_7 rfl rfl ?_
  refine r_icmp_ge 20 hX d_M_keep_8 (by decide) (fun c8 => ?_) (fun c8 => ?_)
  · have h5 := (nI_leI (by omega) (by omega)).mp c8
    have hE : nI m = nI n := congrArg nI (by omega)
    refine r_iload_n (i := 1) hX d_M_keep_20 rfl rfl ?_
    exact r_lv [0] (tail _ hE)
  · have h5 : L.length < m := by
      rcases Nat.lt_or_ge L.length m with h | h
      · exact h
      · exact absurd (nI_le h (by omega)) c8
    have hE : nI L.length = nI n := congrArg nI (by omega)
    refine r_aload_n (i := 0) hX d_M_keep_11 rfl rfl ?_
    refine r_get 0 14 hX d_M_keep_12 rfl rfl fi_M (by decide) fl_M_54 rfl rfl ?_
    refine r_iconst (v := nI 0) hX d_M_keep_15 (by decide) ?_
    refine r_iald 11 0 (0) hX d_M_keep_16 rfl rfl rfl (by omega) (by decide) ?_
    refine r_top hsz ?_
    refine r_goto 21 hX d_M_keep_17 (by decide) ?_
    exact r_lv [0] (tail _ hE)
set_option maxRecDepth 100000 in
set_option maxHeartbeats 4000000 in
theorem c_M_evaluate (r : Int32) (ht : tl ≤ 24) (hn60 : nn ≤ 60) (hw : WFn nn mf) : CT l D (tyL cI cZ cN) none y_M_evaluate b_M_evaluate 2 (some .int) 4 [.ref (am 0), .int r] (WM am cI cZ tl nn rs ae dp tx mf rw sz nv ph tu sv) (fun u : Nat × MS => (inR r (nI nn) = true → Holds u.2.1 1024 (kpL tl tx mf 64 r)) ∧ (inR r (nI nn) = false → u.2.1 = rw)) (fun _ => some (.int (if inR r (nI nn) = true then nI (kpL tl tx mf 64 r).length else -1))) (fun u => WMs am cI cZ tl nn (if inR r (nI nn) = true then (kpL tl tx mf 64 r).length else rs) (if inR r (nI nn) = true then cntL (nI tl) (kpL tl tx mf 64 r) else ae) u.1 tx mf u.2) := by
  refine CT.of (by decide) (Nat.le_of_ble_eq_true rfl) ?_
  intro X A hl hX hF
  refine r_iload_n (i := 1) hX d_M_evaluate_0 rfl rfl ?_
  refine r_if_lt 12 hX d_M_evaluate_1 (by decide) (fun c1 => ?_) (fun c1 => ?_)
  · have hn : inR r (nI nn) = false := by simp [inR, c1]
    refine r_iconst (v := -1) hX d_M_evaluate_12 (by decide) ?_
    exact r_iret (dp, rw, sz, nv, ph, tu, sv) hX hF d_M_evaluate_13 ⟨fun q => (by rw [hn] at q; cases q), fun _ => rfl⟩ (by rw [hn]; rfl) (by rw [hn]; rfl)
  · refine r_iload_n (i := 1) hX d_M_evaluate_4 rfl rfl ?_
    refine r_aload_n (i := 0) hX d_M_evaluate_5 rfl rfl ?_
    refine r_get 0 1 hX d_M_evaluate_6 rfl rfl fi_M (by decide) fl_M_13 rfl rfl ?_
    refine r_icmp_lt 14 hX d_M_evaluate_9 (by decide) (fun c9 => ?_) (fun c9 => ?_)
    · have hr : inR r (nI nn) = true := by simp [inR, c1, Int32.not_le.mpr c9]
      obtain ⟨j, hj, rfl⟩ := inR_of hr (by omega)
      have hkp : kpL tl tx mf 64 (nI j) = (ev tl tx (ndOf mf) 8 j st0).take 64 := by rw [kpL, evAll, opN_nI (by omega)]
      have h9 := (ev_ok (ch := tx) ht nn hn60 hw 8 j hj (hw j hj).2.2.2.2.1 st0 ⟨0, Nat.zero_le _, rfl⟩).1
      have h10 := (hw j hj).2.2.2.2.2.2.1
      rw [hkp] at hF
      refine r_aload_n (i := 0) hX d_M_evaluate_14 rfl rfl ?_
      refine r_iload_n (i := 1) hX d_M_evaluate_15 rfl rfl ?_
      refine r_callVwv (q0 := 0) hX d_M_evaluate_16 cw_M_work ml_M_147 (c_M_work j ht hn60 hw hj) (Or.inl rfl) rfl rfl rfl rfl (by decide) (Nat.le_of_ble_eq_true rfl) (fun _ => rfl) (fun M1 hM1 => ?_)
      refine r_aload_n (i := 0) hX d_M_evaluate_19 rfl rfl ?_
      refine r_bipush (v := nI 64) hX d_M_evaluate_20 (by decide) ?_
      refine r_callVwi (q0 := 0) hX d_M_evaluate_22 cw_M_keep ml_M_150 (c_M_keep 64 _ (ev tl tx (ndOf mf) 8 j st0) (by decide) (by omega) rfl hM1.1 hM1.2 ht) (Or.inl rfl) rfl rfl rfl rfl (by decide) (Nat.le_of_ble_eq_true rfl) (fun _ => rfl) (fun f hf => ?_)
      exact r_iret (0, f, M1.2) hX hF d_M_evaluate_25 ⟨fun _ => hf, fun q => (by rw [hr] at q; cases q)⟩ (by rw [if_pos hr]) (by rw [if_pos hr, if_pos hr])
    · have hn : inR r (nI nn) = false := by simp [inR, Int32.not_lt.mp c9]
      refine r_iconst (v := -1) hX d_M_evaluate_12 (by decide) ?_
      exact r_iret (dp, rw, sz, nv, ph, tu, sv) hX hF d_M_evaluate_13 ⟨fun q => (by rw [hn] at q; cases q), fun _ => rfl⟩ (by rw [hn]; rfl) (by rw [hn]; rfl)
set_option maxRecDepth 100000 in
set_option maxHeartbeats 4000000 in
theorem c_M_attempt (r : Int32) (ht : tl ≤ 24) (hn60 : nn ≤ 60) (hw : WFn nn mf) : CT l D (tyL cI cZ cN) none y_M_attempt b_M_attempt 2 (some .int) 4 [.ref (am 0), .int r] (WM am cI cZ tl nn rs ae dp tx mf rw sz nv ph tu sv) (fun u : Nat × MS => (inR r (nI nn) = true → Holds u.2.1 1024 (kpL tl tx mf 1 r)) ∧ (inR r (nI nn) = false → u.2.1 = rw)) (fun _ => some (.int (if inR r (nI nn) = true then nI (kpL tl tx mf 1 r).length else -1))) (fun u => WMs am cI cZ tl nn (if inR r (nI nn) = true then (kpL tl tx mf 1 r).length else rs) (if inR r (nI nn) = true then cntL (nI tl) (kpL tl tx mf 1 r) else ae) u.1 tx mf u.2) := by
  refine CT.of (by decide) (Nat.le_of_ble_eq_true rfl) ?_
  intro X A hl hX hF
  refine r_iload_n (i := 1) hX d_M_attempt_0 rfl rfl ?_
  refine r_if_lt 12 hX d_M_attempt_1 (by decide) (fun c1 => ?_) (fun c1 => ?_)
  · have hn : inR r (nI nn) = false := by simp [inR, c1]
    refine r_iconst (v := -1) hX d_M_attempt_12 (by decide) ?_
    exact r_iret (dp, rw, sz, nv, ph, tu, sv) hX hF d_M_attempt_13 ⟨fun q => (by rw [hn] at q; cases q), fun _ => rfl⟩ (by rw [hn]; rfl) (by rw [hn]; rfl)
  · refine r_iload_n (i := 1) hX d_M_attempt_4 rfl rfl ?_
    refine r_aload_n (i := 0) hX d_M_attempt_5 rfl rfl ?_
    refine r_get 0 1 hX d_M_attempt_6 rfl rfl fi_M (by decide) fl_M_13 rfl rfl ?_
    refine r_icmp_lt 14 hX d_M_attempt_9 (by decide) (fun c9 => ?_) (fun c9 => ?_)
    · have hr : inR r (nI nn) = true := by simp [inR, c1, Int32.not_le.mpr c9]
      obtain ⟨j, hj, rfl⟩ := inR_of hr (by omega)
      have hkp : kpL tl tx mf 1 (nI j) = (ev tl tx (ndOf mf) 8 j st0).take 1 := by rw [kpL, evAll, opN_nI (by omega)]
      have h9 := (ev_ok (ch := tx) ht nn hn60 hw 8 j hj (hw j hj).2.2.2.2.1 st0 ⟨0, Nat.zero_le _, rfl⟩).1
      have h10 := (hw j hj).2.2.2.2.2.2.1
      rw [hkp] at hF
      refine r_aload_n (i := 0) hX d_M_attempt_14 rfl rfl ?_
      refine r_iload_n (i := 1) hX d_M_attempt_15 rfl rfl ?_
      refine r_callVwv (q0 := 0) hX d_M_attempt_16 cw_M_work ml_M_147 (c_M_work j ht hn60 hw hj) (Or.inl rfl) rfl rfl rfl rfl (by decide) (Nat.le_of_ble_eq_true rfl) (fun _ => rfl) (fun M1 hM1 => ?_)
      refine r_aload_n (i := 0) hX d_M_attempt_19 rfl rfl ?_
      refine r_iconst (v := nI 1) hX d_M_attempt_20 (by decide) ?_
      refine r_callVwi (q0 := 0) hX d_M_attempt_21 cw_M_keep ml_M_150 (c_M_keep 1 _ (ev tl tx (ndOf mf) 8 j st0) (by decide) (by omega) rfl hM1.1 hM1.2 ht) (Or.inl rfl) rfl rfl rfl rfl (by decide) (Nat.le_of_ble_eq_true rfl) (fun _ => rfl) (fun f hf => ?_)
      exact r_iret (0, f, M1.2) hX hF d_M_attempt_24 ⟨fun _ => hf, fun q => (by rw [hr] at q; cases q)⟩ (by rw [if_pos hr]) (by rw [if_pos hr, if_pos hr])
    · have hn : inR r (nI nn) = false := by simp [inR, Int32.not_lt.mp c9]
      refine r_iconst (v := -1) hX d_M_attempt_12 (by decide) ?_
      exact r_iret (dp, rw, sz, nv, ph, tu, sv) hX hF d_M_attempt_13 ⟨fun q => (by rw [hn] at q; cases q), fun _ => rfl⟩ (by rw [hn]; rfl) (by rw [hn]; rfl)
end ModelH
