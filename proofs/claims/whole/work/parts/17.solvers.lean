/-! solve's other kinds, over what solve does for their operands. -/
def okSt (tl : Nat) (s : St) : Prop := ∃ p, p ≤ tl ∧ s 0 = nI p
/-- what solve does for node j: d frames at most, cap rows at most above the top, the RESULTS E of a STATE -/
def SV (l : Launch) (D : va_G) (cI cZ cN : ClassId) (ad : Nat → Nat) (nn qt tl : Nat) (ch : Nat → Int32) (qz : Nat) (qf : Nat → Int32) (nf : Nat → Nat → Int32) (d cap j : Nat) (E : St → List Rs) : Prop :=
  ∀ (ro z : Nat) (rf : Nat → Int32), ro < z → z + cap ≤ 1025 → okSt tl (gRow rf ro).2 → SL l D cI cZ cN ad nn qt tl ch qz qf nf y_G_solve b_G_solve 4 d [.int (nI j), .int (nI ro)] z rf (E (gRow rf ro).2)
theorem Holds.mid {f : Nat → Int32} {z : Nat} {P Q : List Rs} {x : Rs} (h : Holds f z (P ++ x :: Q)) : gRow f (z + P.length) = x := by
  have := h P.length (by simp)
  rw [List.getElem_append_right (Nat.le_refl _)] at this
  simpa using this
theorem Holds.take {f : Nat → Int32} {z n : Nat} {L : List Rs} (h : Holds f z L) : Holds f z (L.take n) := fun k hk => by
  have h1 : k < L.length := by simp at hk; omega
  rw [List.getElem_take]
  exact h k h1
theorem Holds.cons {f : Nat → Int32} {z : Nat} {L : List Rs} {x : Rs} (h : Holds f z (x :: L)) : gRow f z = x ∧ Holds f (z + 1) L := by
  refine ⟨h 0 (by simp), fun k hk => ?_⟩
  have := h (k + 1) (by simp; omega)
  rw [show z + (k + 1) = z + 1 + k by omega] at this
  simpa using this
theorem goL_len (tl : Nat) (r : Rs) : (goL tl r).length ≤ 1 := by
  unfold goL
  split <;> simp
theorem flat_len {α β : Type} (g : α → List β) (b : Nat) (hg : ∀ a, (g a).length ≤ b) : ∀ l : List α, (l.flatMap g).length ≤ b * l.length
  | [] => by simp
  | a :: l => by
    rw [List.flatMap_cons, List.length_append, List.length_cons, Nat.mul_add]
    have := hg a
    have := flat_len g b hg l
    omega
theorem flat_snoc {α β : Type} (g : α → List β) (P : List α) (x : α) : (P ++ [x]).flatMap g = P.flatMap g ++ g x := by simp
/-- the variable v of row r gets x -/
theorem put_row {f : Nat → Int32} {r v : Nat} (hv : v < 4) (x : Int32) : gRow (upd f (r * 6 + 2 + v) x) r = ((gRow f r).1, stSet (gRow f r).2 (1 + v) x) := by
  unfold gRow
  refine Prod.ext ?_ ?_
  · show upd f (r * 6 + 2 + v) x (6 * r) = f (6 * r)
    exact pk_un (by omega)
  · funext c
    show upd f (r * 6 + 2 + v) x (6 * r + 1 + c.val) = stSet (fun c => f (6 * r + 1 + c.val)) (1 + v) x c
    unfold stSet
    by_cases hc : c.val = 1 + v
    · rw [if_pos hc, hc, show 6 * r + 1 + (1 + v) = r * 6 + 2 + v by omega]
      exact pk_us
    · rw [if_neg hc]
      exact pk_un (by omega)
theorem put_other {f : Nat → Int32} {r v q : Nat} (hv : v < 4) (x : Int32) (h : q ≠ r) : gRow (upd f (r * 6 + 2 + v) x) q = gRow f q := by
  refine gRow_ext fun c hc => ?_
  exact pk_un (by omega)
section ClassE
variable {l : Launch} {D : va_G} {cI cZ cN : ClassId} {ad : Nat → Nat} {nn qt tl z qz : Nat} {ch rf qf : Nat → Int32} {nf : Nat → Nat → Int32}
set_option maxRecDepth 100000 in
set_option maxHeartbeats 4000000 in
theorem c_G_solveGo (d cap i ja ro : Nat) (E : St → List Rs) (hi60 : i < 60) (ha : nf 1 i = nI ja) (hE : SV l D cI cZ cN ad nn qt tl ch qz qf nf d cap ja E) (hd4 : 4 ≤ d) (hro : ro < z) (hz : z + cap + 128 ≤ 1025) (ht : tl ≤ 24) (hok : okSt tl (gRow rf ro).2) (hlen : (E (gRow rf ro).2).length ≤ 64) : SL l D cI cZ cN ad nn qt tl ch qz qf nf y_G_solveGo b_G_solveGo 7 (d + 1) [.ref (ad (8 + i)), .int (nI ro)] z rf ((E (gRow rf ro).2).flatMap (goL tl)) := by
  refine CT.of (by decide) (Nat.le_of_ble_eq_true rfl) ?_
  intro X A hl hX hF
  subst hl
  have hc := hE ro z rf hro (by omega) hok
  generalize E (gRow rf ro).2 = M at hc hlen hF
  have loop : ∀ (f1 : Nat → Int32), slP rf z M f1 → ∀ (Q P : List Rs) (f : Nat → Int32), M = P ++ Q → slP f1 (z + M.length) (P.flatMap (goL tl)) f → RR X 7 D A 0 0 (WC ad cI cN nn qt tl ch (z + M.length + (P.flatMap (goL tl)).length) f qz qf nf) [(0, .ref (ad 0)), (3, .int (nI z)), (4, .int (nI (z + M.length))), (5, .int (nI (z + P.length)))] 29 [] := by
    intro f1 hu Q
    induction Q with
    | nil =>
      intro P f hM hs
      have hPl := flat_len (goL tl) 1 (goL_len tl) P
      have hM : M = P := by rw [hM, List.append_nil]
      subst hM
      refine r_iload hX d_G_solveGo_29 rfl ?_
      refine r_iload hX d_G_solveGo_31 rfl ?_
      refine r_icmp_ge 83 hX d_G_solveGo_33 (by decide) (fun c33 => ?_) (fun c33 => absurd (nI_le (Nat.le_refl _) (by omega)) c33)
      refine r_aload_n (i := 0) hX d_G_solveGo_83 rfl rfl ?_
      refine r_get 0 3 hX d_G_solveGo_84 rfl rfl fi_G (by decide) fl_G_28 rfl rfl ?_
      refine r_iload_n (i := 3) hX d_G_solveGo_87 rfl rfl ?_
      refine r_iload hX d_G_solveGo_88 rfl ?_
      refine r_callVv (q0 := 0) [4, 5] hX d_G_solveGo_90 cw_R_remove ml_G_214 (c_R_remove z (z + M.length) (z + M.length + (M.flatMap (goL tl)).length) (by omega) (by omega) (by omega) (by decide)) (Or.inl rfl) rfl rfl rfl rfl (by omega) (Nat.le_of_ble_eq_true rfl) rfl (fun _ => rfl) rfl (fun _ _ => ?_)
      exact r_vret (remF f z (z + M.length) (z + M.length + (M.flatMap (goL tl)).length)) hX hF d_G_solveGo_93 ⟨(hu.1.trans hs.1 (by omega)).trans (remF_same _ _ _ _) (Nat.le_refl _), remF_holds hs.2 rfl⟩ rfl (by rw [show z + M.length + (M.flatMap (goL tl)).length - (z + M.length - z) = z + (M.flatMap (goL tl)).length by omega]; rfl)
    | cons x Q ih =>
      intro P f hM hs
      have hPl := flat_len (goL tl) 1 (goL_len tl) P
      have hML : M.length = P.length + (Q.length + 1) := by rw [hM]; simp
      have hrow : gRow f (z + P.length) = x := by
        rw [hs.1.row (by omega)]
        exact Holds.mid (hM ▸ hu.2)
      have hx1 : f (6 * (z + P.length)) = x.1 := congrArg Prod.fst hrow
      have next : ∀ f', slP f1 (z + M.length) (P.flatMap (goL tl) ++ goL tl x) f' → RR X 7 D A 0 0 (WC ad cI cN nn qt tl ch (z + M.length + (P.flatMap (goL tl) ++ goL tl x).length) f' qz qf nf) [(0, .ref (ad 0)), (3, .int (nI z)), (4, .int (nI (z + M.length))), (5, .int (nI (z + P.length)))] 77 [] := by
        intro f' hs'
        have h := ih (P ++ [x]) f' (by rw [hM]; simp) (by rw [flat_snoc]; exact hs')
        rw [flat_snoc] at h
        refine r_iinc hX d_G_solveGo_77 rfl (rx_inc _) (by decide) ?_
        refine r_goto 29 hX d_G_solveGo_80 (by decide) ?_
        refine r_lv [0, 3, 4, 5] ?_
        rw [show (P ++ [x]).length = P.length + 1 by simp] at h
        exact h
      refine r_iload hX d_G_solveGo_29 rfl ?_
      refine r_iload hX d_G_solveGo_31 rfl ?_
      refine r_icmp_ge 83 hX d_G_solveGo_33 (by decide) (fun c33 => absurd c33 (nI_ge (by omega) (by omega))) (fun c33 => ?_)
      refine r_aload_n (i := 0) hX d_G_solveGo_36 rfl rfl ?_
      refine r_get 0 3 hX d_G_solveGo_37 rfl rfl fi_G (by decide) fl_G_28 rfl rfl ?_
      refine r_iload hX d_G_solveGo_40 rfl ?_
      refine r_callVi (q0 := 0) [4, 5] hX d_G_solveGo_42 cw_R_intAt ml_G_92 (c_R_intAt (z + P.length) (by omega) (by decide)) (Or.inl rfl) rfl rfl rfl rfl (by omega) (Nat.le_of_ble_eq_true rfl) rfl (fun _ => rfl) rfl (fun _ _ => ?_)
      refine r_top hx1 ?_
      refine r_istore hX d_G_solveGo_45 (by decide) ?_
      refine r_iload hX d_G_solveGo_47 rfl ?_
      refine r_if_lt 77 hX d_G_solveGo_49 (by decide) (fun c49 => ?_) (fun c49 => ?_)
      · have hg : goL tl x = [] := by simp [goL, c49]
        rw [hg, List.append_nil] at next
        exact r_lv [0, 3, 4, 5] (next f hs)
      · refine r_iload hX d_G_solveGo_52 rfl ?_
        refine r_aload_n (i := 0) hX d_G_solveGo_54 rfl rfl ?_
        refine r_get 0 0 hX d_G_solveGo_55 rfl rfl fi_G (by decide) fl_G_12 rfl rfl ?_
        refine r_get 1 1 hX d_G_solveGo_58 rfl rfl fi_T (by decide) fl_G_35 rfl rfl ?_
        refine r_icmp_gt 77 hX d_G_solveGo_61 (by decide) (fun c61 => ?_) (fun c61 => ?_)
        · have hg : goL tl x = [] := by simp [goL, Int32.not_le.mpr c61]
          rw [hg, List.append_nil] at next
          exact r_lv [0, 3, 4, 5] (next f hs)
        · have hg : goL tl x = [(x.1, stSet x.2 0 x.1)] := by simp [goL, c49, Int32.not_lt.mp c61]
          rw [hg] at next
          refine r_aload_n (i := 0) hX d_G_solveGo_64 rfl rfl ?_
          refine r_get 0 3 hX d_G_solveGo_65 rfl rfl fi_G (by decide) fl_G_28 rfl rfl ?_
          refine r_iload hX d_G_solveGo_68 rfl ?_
          refine r_iload hX d_G_solveGo_70 rfl ?_
          refine r_iload hX d_G_solveGo_72 rfl ?_
          refine r_callVv (q0 := 0) [4, 5] hX d_G_solveGo_74 cw_R_pushAtPlace ml_G_203 (c_R_pushAtPlace x.1 x.1 (z + P.length) (z + M.length + (P.flatMap (goL tl)).length) (by omega) (by omega) (by omega) (by decide) (by decide)) (Or.inl rfl) rfl rfl rfl rfl (by omega) (Nat.le_of_ble_eq_true rfl) rfl (fun _ => rfl) rfl (fun _ _ => ?_)
          refine r_lv [0, 3, 4, 5] ?_
          have hp := hs.pushp (ro := z + P.length) (x := x.1) (p := x.1) (by omega) rfl
          rw [← hs.1.row (by omega), hrow] at hp
          have h := next _ hp
          rw [List.length_append] at h
          exact h
  refine r_aload_n (i := 0) hX d_G_solveGo_0 rfl rfl ?_
  refine r_get 0 3 hX d_G_solveGo_1 rfl rfl fi_G (by decide) fl_G_28 rfl rfl ?_
  refine r_get 4 2 hX d_G_solveGo_4 rfl rfl fi_R (by decide) fl_G_114 rfl rfl ?_
  refine r_istore_n (i := 3) hX d_G_solveGo_7 rfl (by decide) ?_
  refine r_aload_n (i := 0) hX d_G_solveGo_8 rfl rfl ?_
  refine r_aload_n (i := 1) hX d_G_solveGo_9 rfl rfl ?_
  refine r_get (8 + i) 1 hX d_G_solveGo_10 (wc_at rfl hi60) rfl fi_N (by decide) fl_G_132 rfl rfl ?_
  refine r_top ha ?_
  refine r_iload_n (i := 2) hX d_G_solveGo_13 rfl rfl ?_
  refine r_callVwv (q0 := 0) hX d_G_solveGo_14 cw_G_solve ml_G_152 (hc) (Or.inl rfl) rfl rfl rfl rfl (by omega) (Nat.le_of_ble_eq_true rfl) (fun _ => rfl) (fun f1 hu => ?_)
  refine r_aload_n (i := 0) hX d_G_solveGo_17 rfl rfl ?_
  refine r_get 0 3 hX d_G_solveGo_18 rfl rfl fi_G (by decide) fl_G_28 rfl rfl ?_
  refine r_get 4 2 hX d_G_solveGo_21 rfl rfl fi_R (by decide) fl_G_114 rfl rfl ?_
  refine r_istore hX d_G_solveGo_24 (by decide) ?_
  refine r_iload_n (i := 3) hX d_G_solveGo_26 rfl rfl ?_
  refine r_istore hX d_G_solveGo_27 (by decide) ?_
  exact r_lv [0, 3, 4, 5] (loop f1 hu M [] f1 rfl slP.nil)
set_option maxRecDepth 100000 in
set_option maxHeartbeats 4000000 in
theorem c_G_solveSet (d cap i jb v ro : Nat) (E : St → List Rs) (hi60 : i < 60) (ha : nf 1 i = nI v) (hv : v < 4) (hb : nf 2 i = nI jb) (hE : SV l D cI cZ cN ad nn qt tl ch qz qf nf d cap jb E) (hd4 : 4 ≤ d) (hro : ro < z) (hz : z + cap + 128 ≤ 1025) (ht : tl ≤ 24) (hok : okSt tl (gRow rf ro).2) (hlen : (E (gRow rf ro).2).length ≤ 64) : SL l D cI cZ cN ad nn qt tl ch qz qf nf y_G_solveSet b_G_solveSet 6 (d + 1) [.ref (ad (8 + i)), .int (nI ro)] z rf ((E (gRow rf ro).2).map (fun r => (r.1, stSet r.2 (1 + v) r.1))) := by
  refine CT.of (by decide) (Nat.le_of_ble_eq_true rfl) ?_
  intro X A hl hX hF
  subst hl
  have hc := hE ro z rf hro (by omega) hok
  generalize E (gRow rf ro).2 = M at hc hlen hF
  have loop : ∀ (Q P : List Rs) (f : Nat → Int32), M = P ++ Q → Same rf f (6 * z) → Holds f z (P.map (fun r => (r.1, stSet r.2 (1 + v) r.1)) ++ Q) → RR X 6 D A 0 0 (WC ad cI cN nn qt tl ch (z + M.length) f qz qf nf) [(0, .ref (ad 0)), (1, .ref (ad (8 + i))), (4, .int (nI (z + M.length))), (5, .int (nI (z + P.length)))] 29 [] := by
    intro Q
    induction Q with
    | nil =>
      intro P f hM hs hh
      have hM : M = P := by rw [hM, List.append_nil]
      subst hM
      refine r_iload hX d_G_solveSet_29 rfl ?_
      refine r_iload hX d_G_solveSet_31 rfl ?_
      refine r_icmp_ge 64 hX d_G_solveSet_33 (by decide) (fun c33 => ?_) (fun c33 => absurd (nI_le (Nat.le_refl _) (by omega)) c33)
      exact r_vret f hX hF d_G_solveSet_64 ⟨hs, by rw [List.append_nil] at hh; exact hh⟩ rfl (by rw [List.length_map])
    | cons x Q ih =>
      intro P f hM hs hh
      have hML : M.length = P.length + (Q.length + 1) := by rw [hM]; simp
      have hrow : gRow f (z + P.length) = x := by
        have := Holds.mid hh
        rw [List.length_map] at this
        exact this
      have hx1 : f (6 * (z + P.length)) = x.1 := congrArg Prod.fst hrow
      refine r_iload hX d_G_solveSet_29 rfl ?_
      refine r_iload hX d_G_solveSet_31 rfl ?_
      refine r_icmp_ge 64 hX d_G_solveSet_33 (by decide) (fun c33 => absurd c33 (nI_ge (by omega) (by omega))) (fun c33 => ?_)
      refine r_aload_n (i := 0) hX d_G_solveSet_36 rfl rfl ?_
      refine r_get 0 3 hX d_G_solveSet_37 rfl rfl fi_G (by decide) fl_G_28 rfl rfl ?_
      refine r_iload hX d_G_solveSet_40 rfl ?_
      refine r_aload_n (i := 1) hX d_G_solveSet_42 rfl rfl ?_
      refine r_get (8 + i) 1 hX d_G_solveSet_43 (wc_at rfl hi60) rfl fi_N (by decide) fl_G_132 rfl rfl ?_
      refine r_top ha ?_
      refine r_aload_n (i := 0) hX d_G_solveSet_46 rfl rfl ?_
      refine r_get 0 3 hX d_G_solveSet_47 rfl rfl fi_G (by decide) fl_G_28 rfl rfl ?_
      refine r_iload hX d_G_solveSet_50 rfl ?_
      refine r_callVi (q0 := 0) [4, 5] hX d_G_solveSet_52 cw_R_intAt ml_G_92 (c_R_intAt (z + P.length) (by omega) (by decide)) (Or.inl rfl) rfl rfl rfl rfl (by omega) (Nat.le_of_ble_eq_true rfl) rfl (fun _ => rfl) rfl (fun _ _ => ?_)
      refine r_top hx1 ?_
      refine r_callVv (q0 := 0) [4, 5] hX d_G_solveSet_55 cw_R_putVariable ml_G_217 (c_R_putVariable (z + P.length) v x.1 (by omega) (by decide)) (Or.inl rfl) rfl rfl rfl rfl (by omega) (Nat.le_of_ble_eq_true rfl) rfl (fun _ => rfl) rfl (fun _ _ => ?_)
      refine r_iinc hX d_G_solveSet_58 rfl (rx_inc _) (by decide) ?_
      refine r_goto 29 hX d_G_solveSet_61 (by decide) ?_
      refine r_lv [0, 1, 4, 5] ?_
      have h := ih (P ++ [x]) (upd f ((z + P.length) * 6 + 2 + v) x.1) (by rw [hM]; simp) (fun j hj => (pk_un (by omega)).trans (hs j hj)) (by
        intro k hk
        by_cases e : k = P.length
        · subst e
          rw [put_row hv, hrow]
          simp
        · rw [put_other hv _ (by omega), hh k (by simp at hk ⊢; omega)]
          by_cases e2 : k < P.length
          · rw [List.getElem_append_left (by simpa using e2), List.getElem_append_left (by simp; omega)]
            simp [List.getElem_append_left, e2]
          · rw [List.getElem_append_right (by simp; omega), List.getElem_append_right (by simp; omega)]
            simp
            rw [List.getElem_cons, dif_neg (by omega)]
            congr 1)
      rw [List.length_append] at h
      exact h
  refine r_aload_n (i := 0) hX d_G_solveSet_0 rfl rfl ?_
  refine r_get 0 3 hX d_G_solveSet_1 rfl rfl fi_G (by decide) fl_G_28 rfl rfl ?_
  refine r_get 4 2 hX d_G_solveSet_4 rfl rfl fi_R (by decide) fl_G_114 rfl rfl ?_
  refine r_istore_n (i := 3) hX d_G_solveSet_7 rfl (by decide) ?_
  refine r_aload_n (i := 0) hX d_G_solveSet_8 rfl rfl ?_
  refine r_aload_n (i := 1) hX d_G_solveSet_9 rfl rfl ?_
  refine r_get (8 + i) 2 hX d_G_solveSet_10 (wc_at rfl hi60) rfl fi_N (by decide) fl_G_135 rfl rfl ?_
  refine r_top hb ?_
  refine r_iload_n (i := 2) hX d_G_solveSet_13 rfl rfl ?_
  refine r_callVwv (q0 := 0) hX d_G_solveSet_14 cw_G_solve ml_G_152 (hc) (Or.inl rfl) rfl rfl rfl rfl (by omega) (Nat.le_of_ble_eq_true rfl) (fun _ => rfl) (fun f1 hu => ?_)
  refine r_aload_n (i := 0) hX d_G_solveSet_17 rfl rfl ?_
  refine r_get 0 3 hX d_G_solveSet_18 rfl rfl fi_G (by decide) fl_G_28 rfl rfl ?_
  refine r_get 4 2 hX d_G_solveSet_21 rfl rfl fi_R (by decide) fl_G_114 rfl rfl ?_
  refine r_istore hX d_G_solveSet_24 (by decide) ?_
  refine r_iload_n (i := 3) hX d_G_solveSet_26 rfl rfl ?_
  refine r_istore hX d_G_solveSet_27 (by decide) ?_
  exact r_lv [0, 1, 4, 5] (loop M [] f1 rfl hu.1 hu.2)
set_option maxRecDepth 100000 in
set_option maxHeartbeats 4000000 in
theorem c_G_solveFirst (d cap i jb v ro : Nat) (E : St → List Rs) (hi60 : i < 60) (ha : nf 1 i = nI v) (hv : v ≤ 8) (hb : nf 2 i = nI jb) (hE : SV l D cI cZ cN ad nn qt tl ch qz qf nf d cap jb E) (hd4 : 4 ≤ d) (hro : ro < z) (hz : z + cap + 128 ≤ 1025) (hok : okSt tl (gRow rf ro).2) (hlen : (E (gRow rf ro).2).length ≤ 64) : SL l D cI cZ cN ad nn qt tl ch qz qf nf y_G_solveFirst b_G_solveFirst 4 (d + 1) [.ref (ad (8 + i)), .int (nI ro)] z rf ((E (gRow rf ro).2).take v) := by
  refine CT.of (by decide) (Nat.le_of_ble_eq_true rfl) ?_
  intro X A hl hX hF
  subst hl
  have hc := hE ro z rf hro (by omega) hok
  generalize E (gRow rf ro).2 = M at hc hlen hF
  refine r_aload_n (i := 0) hX d_G_solveFirst_0 rfl rfl ?_
  refine r_get 0 3 hX d_G_solveFirst_1 rfl rfl fi_G (by decide) fl_G_28 rfl rfl ?_
  refine r_get 4 2 hX d_G_solveFirst_4 rfl rfl fi_R (by decide) fl_G_114 rfl rfl ?_
  refine r_istore_n (i := 3) hX d_G_solveFirst_7 rfl (by decide) ?_
  refine r_aload_n (i := 0) hX d_G_solveFirst_8 rfl rfl ?_
  refine r_aload_n (i := 1) hX d_G_solveFirst_9 rfl rfl ?_
  refine r_get (8 + i) 2 hX d_G_solveFirst_10 (wc_at rfl hi60) rfl fi_N (by decide) fl_G_135 rfl rfl ?_
  refine r_top hb ?_
  refine r_iload_n (i := 2) hX d_G_solveFirst_13 rfl rfl ?_
  refine r_callVwv (q0 := 0) hX d_G_solveFirst_14 cw_G_solve ml_G_152 (hc) (Or.inl rfl) rfl rfl rfl rfl (by omega) (Nat.le_of_ble_eq_true rfl) (fun _ => rfl) (fun f1 hu => ?_)
  refine r_aload_n (i := 0) hX d_G_solveFirst_17 rfl rfl ?_
  refine r_get 0 3 hX d_G_solveFirst_18 rfl rfl fi_G (by decide) fl_G_28 rfl rfl ?_
  refine r_aload_n (i := 0) hX d_G_solveFirst_21 rfl rfl ?_
  refine r_get 0 3 hX d_G_solveFirst_22 rfl rfl fi_G (by decide) fl_G_28 rfl rfl ?_
  refine r_get 4 2 hX d_G_solveFirst_25 rfl rfl fi_R (by decide) fl_G_114 rfl rfl ?_
  refine r_iload_n (i := 3) hX d_G_solveFirst_28 rfl rfl ?_
  refine r_aload_n (i := 1) hX d_G_solveFirst_29 rfl rfl ?_
  refine r_get (8 + i) 1 hX d_G_solveFirst_30 (wc_at rfl hi60) rfl fi_N (by decide) fl_G_132 rfl rfl ?_
  refine r_top ha ?_
  refine r_iadd hX d_G_solveFirst_33 ?_
  refine r_top (nI_add _ _) ?_
  refine r_min hX d_G_solveFirst_34 ml_G_141 tw_min_s tw_math tw_min_c (by omega) (Nat.le_of_ble_eq_true rfl) ?_
  refine r_top (rx_min (by omega) (by omega)) ?_
  refine r_put 4 2 hX d_G_solveFirst_37 rfl rfl fi_R ft_R_ok fn_R (by decide) fl_G_114 rfl rfl rfl rfl rfl (Nat.le_of_ble_eq_true rfl) ?_
  exact r_vret f1 hX hF d_G_solveFirst_40 ⟨hu.1, hu.2.take⟩ rfl (by rw [show z + (M.take v).length = min (z + M.length) (z + v) by rw [List.length_take]; omega]; rfl)
set_option maxRecDepth 100000 in
set_option maxHeartbeats 4000000 in
theorem c_G_solveIf (d cap i ja jb jc ro : Nat) (EA EB EC : St → List Rs) (hi60 : i < 60) (ha : nf 1 i = nI ja) (hb : nf 2 i = nI jb) (hcc : nf 3 i = nI jc) (hEA : SV l D cI cZ cN ad nn qt tl ch qz qf nf d cap ja EA) (hEB : SV l D cI cZ cN ad nn qt tl ch qz qf nf d cap jb EB) (hEC : SV l D cI cZ cN ad nn qt tl ch qz qf nf d cap jc EC) (hd4 : 4 ≤ d) (hro : ro < z) (hz : z + cap + 128 ≤ 1025) (hok : okSt tl (gRow rf ro).2) (hlen : (EA (gRow rf ro).2).length ≤ 64) (hokA : ∀ r ∈ EA (gRow rf ro).2, okSt tl r.2) (hlenB : ∀ s, okSt tl s → (EB s).length ≤ 64) (L : List Rs) (hL : L = match EA (gRow rf ro).2 with | [] => EC (gRow rf ro).2 | x :: _ => EB x.2) : SL l D cI cZ cN ad nn qt tl ch qz qf nf y_G_solveIf b_G_solveIf 4 (d + 1) [.ref (ad (8 + i)), .int (nI ro)] z rf L := by
  refine CT.of (by decide) (Nat.le_of_ble_eq_true rfl) ?_
  intro X A hl hX hF
  subst hl
  have hc := hEA ro z rf hro (by omega) hok
  generalize EA (gRow rf ro).2 = M at hc hlen hL hokA
  refine r_aload_n (i := 0) hX d_G_solveIf_0 rfl rfl ?_
  refine r_get 0 3 hX d_G_solveIf_1 rfl rfl fi_G (by decide) fl_G_28 rfl rfl ?_
  refine r_get 4 2 hX d_G_solveIf_4 rfl rfl fi_R (by decide) fl_G_114 rfl rfl ?_
  refine r_istore_n (i := 3) hX d_G_solveIf_7 rfl (by decide) ?_
  refine r_aload_n (i := 0) hX d_G_solveIf_8 rfl rfl ?_
  refine r_aload_n (i := 1) hX d_G_solveIf_9 rfl rfl ?_
  refine r_get (8 + i) 1 hX d_G_solveIf_10 (wc_at rfl hi60) rfl fi_N (by decide) fl_G_132 rfl rfl ?_
  refine r_top ha ?_
  refine r_iload_n (i := 2) hX d_G_solveIf_13 rfl rfl ?_
  refine r_callVwv (q0 := 0) hX d_G_solveIf_14 cw_G_solve ml_G_152 (hc) (Or.inl rfl) rfl rfl rfl rfl (by omega) (Nat.le_of_ble_eq_true rfl) (fun _ => rfl) (fun f1 hu => ?_)
  refine r_aload_n (i := 0) hX d_G_solveIf_17 rfl rfl ?_
  refine r_get 0 3 hX d_G_solveIf_18 rfl rfl fi_G (by decide) fl_G_28 rfl rfl ?_
  refine r_get 4 2 hX d_G_solveIf_21 rfl rfl fi_R (by decide) fl_G_114 rfl rfl ?_
  refine r_iload_n (i := 3) hX d_G_solveIf_24 rfl rfl ?_
  refine r_icmp_ne 38 hX d_G_solveIf_25 (by decide) (fun c25 => ?_) (fun c25 => ?_)
  · have hMn : ∃ x Q, M = x :: Q := by
      cases M with
      | nil => exact absurd rfl c25
      | cons x Q => exact ⟨x, Q, rfl⟩
    obtain ⟨x, Q, rfl⟩ := hMn
    simp only at hL
    have hrow : gRow f1 z = x := hu.2.cons.1
    have hxok : okSt tl x.2 := hokA x List.mem_cons_self
    have hc2 := hEB z (z + 1) f1 (by omega) (by omega) (by rw [hrow]; exact hxok)
    rw [hrow, ← hL] at hc2
    have hLl : L.length ≤ 64 := by rw [hL]; exact hlenB _ hxok
    refine r_aload_n (i := 0) hX d_G_solveIf_38 rfl rfl ?_
    refine r_get 0 3 hX d_G_solveIf_39 rfl rfl fi_G (by decide) fl_G_28 rfl rfl ?_
    refine r_iload_n (i := 3) hX d_G_solveIf_42 rfl rfl ?_
    refine r_iconst (v := nI 1) hX d_G_solveIf_43 (by decide) ?_
    refine r_iadd hX d_G_solveIf_44 ?_
    refine r_top (nI_add _ _) ?_
    refine r_put 4 2 hX d_G_solveIf_45 rfl rfl fi_R ft_R_ok fn_R (by decide) fl_G_114 rfl rfl rfl rfl rfl (Nat.le_of_ble_eq_true rfl) ?_
    refine r_ws (ws' := WC ad cI cN nn qt tl ch (z + 1) f1 qz qf nf) rfl ?_
    refine r_aload_n (i := 0) hX d_G_solveIf_48 rfl rfl ?_
    refine r_aload_n (i := 1) hX d_G_solveIf_49 rfl rfl ?_
    refine r_get (8 + i) 2 hX d_G_solveIf_50 (wc_at rfl hi60) rfl fi_N (by decide) fl_G_135 rfl rfl ?_
    refine r_top hb ?_
    refine r_iload_n (i := 3) hX d_G_solveIf_53 rfl rfl ?_
    refine r_callVwv (q0 := 0) hX d_G_solveIf_54 cw_G_solve ml_G_152 (hc2) (Or.inl rfl) rfl rfl rfl rfl (by omega) (Nat.le_of_ble_eq_true rfl) (fun _ => rfl) (fun f2 hu2 => ?_)
    refine r_aload_n (i := 0) hX d_G_solveIf_57 rfl rfl ?_
    refine r_get 0 3 hX d_G_solveIf_58 rfl rfl fi_G (by decide) fl_G_28 rfl rfl ?_
    refine r_iload_n (i := 3) hX d_G_solveIf_61 rfl rfl ?_
    refine r_iload_n (i := 3) hX d_G_solveIf_62 rfl rfl ?_
    refine r_iconst (v := nI 1) hX d_G_solveIf_63 (by decide) ?_
    refine r_iadd hX d_G_solveIf_64 ?_
    refine r_top (nI_add _ _) ?_
    refine r_callVv (q0 := 0) [4, 5] hX d_G_solveIf_65 cw_R_remove ml_G_214 (c_R_remove z (z + 1) (z + 1 + L.length) (by omega) (by omega) (by omega) (by decide)) (Or.inl rfl) rfl rfl rfl rfl (by omega) (Nat.le_of_ble_eq_true rfl) rfl (fun _ => rfl) rfl (fun _ _ => ?_)
    exact r_vret (remF f2 z (z + 1) (z + 1 + L.length)) hX hF d_G_solveIf_68 ⟨(hu.1.trans hu2.1 (by omega)).trans (remF_same _ _ _ _) (Nat.le_refl _), remF_holds hu2.2 rfl⟩ rfl (by rw [show z + 1 + L.length - (z + 1 - z) = z + L.length by omega]; rfl)
  · have hM0 : M = [] := by have := (nI_eq (by omega) (by omega)).mp c25; exact List.length_eq_zero_iff.mp (by omega)
    subst hM0
    have hrow : gRow f1 ro = gRow rf ro := hu.1.row (by omega)
    have hc2 := hEC ro z f1 hro (by omega) (by rw [hrow]; exact hok)
    rw [hrow] at hc2
    simp only at hL
    rw [← hL] at hc2
    refine r_ws (ws' := WC ad cI cN nn qt tl ch z f1 qz qf nf) rfl ?_
    refine r_aload_n (i := 0) hX d_G_solveIf_28 rfl rfl ?_
    refine r_aload_n (i := 1) hX d_G_solveIf_29 rfl rfl ?_
    refine r_get (8 + i) 3 hX d_G_solveIf_30 (wc_at rfl hi60) rfl fi_N (by decide) fl_G_138 rfl rfl ?_
    refine r_top hcc ?_
    refine r_iload_n (i := 2) hX d_G_solveIf_33 rfl rfl ?_
    refine r_callVwv (q0 := 0) hX d_G_solveIf_34 cw_G_solve ml_G_152 (hc2) (Or.inl rfl) rfl rfl rfl rfl (by omega) (Nat.le_of_ble_eq_true rfl) (fun _ => rfl) (fun f2 hu2 => ?_)
    exact r_vret f2 hX hF d_G_solveIf_37 ⟨hu.1.trans hu2.1 (Nat.le_refl _), hu2.2⟩ rfl rfl
set_option maxRecDepth 100000 in
set_option maxHeartbeats 4000000 in
theorem c_G_solveNot (d cap i ja ro : Nat) (E : St → List Rs) (hi60 : i < 60) (ha : nf 1 i = nI ja) (hE : SV l D cI cZ cN ad nn qt tl ch qz qf nf d cap ja E) (hd4 : 4 ≤ d) (hro : ro < z) (hz : z + cap + 128 ≤ 1025) (hok : okSt tl (gRow rf ro).2) (hlen : (E (gRow rf ro).2).length ≤ 64) (L : List Rs) (hL : L = if (E (gRow rf ro).2).isEmpty = true then [(nI 0, (gRow rf ro).2)] else []) : SL l D cI cZ cN ad nn qt tl ch qz qf nf y_G_solveNot b_G_solveNot 5 (d + 1) [.ref (ad (8 + i)), .int (nI ro)] z rf L := by
  refine CT.of (by decide) (Nat.le_of_ble_eq_true rfl) ?_
  intro X A hl hX hF
  subst hl
  have hc := hE ro z rf hro (by omega) hok
  generalize E (gRow rf ro).2 = M at hc hlen hL
  refine r_aload_n (i := 0) hX d_G_solveNot_0 rfl rfl ?_
  refine r_get 0 3 hX d_G_solveNot_1 rfl rfl fi_G (by decide) fl_G_28 rfl rfl ?_
  refine r_get 4 2 hX d_G_solveNot_4 rfl rfl fi_R (by decide) fl_G_114 rfl rfl ?_
  refine r_istore_n (i := 3) hX d_G_solveNot_7 rfl (by decide) ?_
  refine r_aload_n (i := 0) hX d_G_solveNot_8 rfl rfl ?_
  refine r_aload_n (i := 1) hX d_G_solveNot_9 rfl rfl ?_
  refine r_get (8 + i) 1 hX d_G_solveNot_10 (wc_at rfl hi60) rfl fi_N (by decide) fl_G_132 rfl rfl ?_
  refine r_top ha ?_
  refine r_iload_n (i := 2) hX d_G_solveNot_13 rfl rfl ?_
  refine r_callVwv (q0 := 0) hX d_G_solveNot_14 cw_G_solve ml_G_152 (hc) (Or.inl rfl) rfl rfl rfl rfl (by omega) (Nat.le_of_ble_eq_true rfl) (fun _ => rfl) (fun f1 hu => ?_)
  refine r_aload_n (i := 0) hX d_G_solveNot_17 rfl rfl ?_
  refine r_get 0 3 hX d_G_solveNot_18 rfl rfl fi_G (by decide) fl_G_28 rfl rfl ?_
  refine r_get 4 2 hX d_G_solveNot_21 rfl rfl fi_R (by decide) fl_G_114 rfl rfl ?_
  refine r_iload_n (i := 3) hX d_G_solveNot_24 rfl rfl ?_
  refine r_icmp_ne 32 hX d_G_solveNot_25 (by decide) (fun c25 => ?_) (fun c25 => ?_)
  · have hMn : M.isEmpty = false := by
      cases M with
      | nil => exact absurd rfl c25
      | cons x Q => rfl
    have hfl : (nI 0 : Int32) = bI M.isEmpty := by rw [hMn]; rfl
    refine r_iconst (v := nI 0) hX d_G_solveNot_32 (by decide) ?_
    refine r_top hfl ?_
    refine r_istore hX d_G_solveNot_33 (by decide) ?_
    refine r_aload_n (i := 0) hX d_G_solveNot_35 rfl rfl ?_
    refine r_get 0 3 hX d_G_solveNot_36 rfl rfl fi_G (by decide) fl_G_28 rfl rfl ?_
    refine r_iload_n (i := 3) hX d_G_solveNot_39 rfl rfl ?_
    refine r_put 4 2 hX d_G_solveNot_40 rfl rfl fi_R ft_R_ok fn_R (by decide) fl_G_114 rfl rfl rfl rfl rfl (Nat.le_of_ble_eq_true rfl) ?_
    refine r_ws (ws' := WC ad cI cN nn qt tl ch z f1 qz qf nf) rfl ?_
    refine r_iload hX d_G_solveNot_43 rfl ?_
    refine r_if_eq 57 hX d_G_solveNot_45 (by decide) (fun c45 => ?_) (fun c45 => ?_)
    · have hb := bI_0 c45
      rw [if_neg (by rw [hb]; decide)] at hL
      subst hL
      exact r_vret f1 hX hF d_G_solveNot_57 ⟨hu.1, Holds.nil _ _⟩ rfl rfl
    · have hb := bI_1 c45
      rw [if_pos hb] at hL
      subst hL
      refine r_aload_n (i := 0) hX d_G_solveNot_48 rfl rfl ?_
      refine r_get 0 3 hX d_G_solveNot_49 rfl rfl fi_G (by decide) fl_G_28 rfl rfl ?_
      refine r_iconst (v := nI 0) hX d_G_solveNot_52 (by decide) ?_
      refine r_iload_n (i := 2) hX d_G_solveNot_53 rfl rfl ?_
      refine r_callVv (q0 := 0) [4, 5] hX d_G_solveNot_54 cw_R_push ml_G_160 (c_R_push (nI 0) ro z (by omega) (by omega) (by omega) (by decide) (by decide)) (Or.inl rfl) rfl rfl rfl rfl (by omega) (Nat.le_of_ble_eq_true rfl) rfl (fun _ => rfl) rfl (fun _ _ => ?_)
      exact r_vret (pushF f1 ro z (nI 0)) hX hF d_G_solveNot_57 (by have h1 : slP rf z [] f1 := ⟨hu.1, Holds.nil _ _⟩; exact h1.push hro rfl) rfl rfl
  · have hM0 : M = [] := by have := (nI_eq (by omega) (by omega)).mp c25; exact List.length_eq_zero_iff.mp (by omega)
    have hfl : (nI 1 : Int32) = bI M.isEmpty := by rw [hM0]; rfl
    refine r_iconst (v := nI 1) hX d_G_solveNot_28 (by decide) ?_
    refine r_goto 33 hX d_G_solveNot_29 (by decide) ?_
    refine r_top hfl ?_
    refine r_istore hX d_G_solveNot_33 (by decide) ?_
    refine r_aload_n (i := 0) hX d_G_solveNot_35 rfl rfl ?_
    refine r_get 0 3 hX d_G_solveNot_36 rfl rfl fi_G (by decide) fl_G_28 rfl rfl ?_
    refine r_iload_n (i := 3) hX d_G_solveNot_39 rfl rfl ?_
    refine r_put 4 2 hX d_G_solveNot_40 rfl rfl fi_R ft_R_ok fn_R (by decide) fl_G_114 rfl rfl rfl rfl rfl (Nat.le_of_ble_eq_true rfl) ?_
    refine r_ws (ws' := WC ad cI cN nn qt tl ch z f1 qz qf nf) rfl ?_
    refine r_iload hX d_G_solveNot_43 rfl ?_
    refine r_if_eq 57 hX d_G_solveNot_45 (by decide) (fun c45 => ?_) (fun c45 => ?_)
    · have hb := bI_0 c45
      rw [if_neg (by rw [hb]; decide)] at hL
      subst hL
      exact r_vret f1 hX hF d_G_solveNot_57 ⟨hu.1, Holds.nil _ _⟩ rfl rfl
    · have hb := bI_1 c45
      rw [if_pos hb] at hL
      subst hL
      refine r_aload_n (i := 0) hX d_G_solveNot_48 rfl rfl ?_
      refine r_get 0 3 hX d_G_solveNot_49 rfl rfl fi_G (by decide) fl_G_28 rfl rfl ?_
      refine r_iconst (v := nI 0) hX d_G_solveNot_52 (by decide) ?_
      refine r_iload_n (i := 2) hX d_G_solveNot_53 rfl rfl ?_
      refine r_callVv (q0 := 0) [4, 5] hX d_G_solveNot_54 cw_R_push ml_G_160 (c_R_push (nI 0) ro z (by omega) (by omega) (by omega) (by decide) (by decide)) (Or.inl rfl) rfl rfl rfl rfl (by omega) (Nat.le_of_ble_eq_true rfl) rfl (fun _ => rfl) rfl (fun _ _ => ?_)
      exact r_vret (pushF f1 ro z (nI 0)) hX hF d_G_solveNot_57 (by have h1 : slP rf z [] f1 := ⟨hu.1, Holds.nil _ _⟩; exact h1.push hro rfl) rfl rfl
set_option maxRecDepth 100000 in
set_option maxHeartbeats 4000000 in
theorem c_G_solveMost (d cap i ja ro : Nat) (E : St → List Rs) (hi60 : i < 60) (ha : nf 1 i = nI ja) (hE : SV l D cI cZ cN ad nn qt tl ch qz qf nf d cap ja E) (hd4 : 4 ≤ d) (hro : ro < z) (hz : z + cap + 128 ≤ 1025) (hok : okSt tl (gRow rf ro).2) (hlen : (E (gRow rf ro).2).length ≤ 64) (L : List Rs) (hL : L = match E (gRow rf ro).2 with | [] => [] | x :: l => [bestL x l]) : SL l D cI cZ cN ad nn qt tl ch qz qf nf y_G_solveMost b_G_solveMost 7 (d + 1) [.ref (ad (8 + i)), .int (nI ro)] z rf L := by
  refine CT.of (by decide) (Nat.le_of_ble_eq_true rfl) ?_
  intro X A hl hX hF
  subst hl
  have hc := hE ro z rf hro (by omega) hok
  generalize E (gRow rf ro).2 = M at hc hlen hL
  have loop : ∀ (f1 : Nat → Int32), slP rf z M f1 → ∀ (Q : List Rs) (t g : Nat), t + Q.length = M.length → 1 ≤ t → g < M.length → Holds f1 (z + t) Q → L = [bestL (gRow f1 (z + g)) Q] → RR X 7 D A 0 0 (WC ad cI cN nn qt tl ch (z + M.length) f1 qz qf nf) [(0, .ref (ad 0)), (3, .int (nI z)), (4, .int (nI (z + M.length))), (5, .int (nI (z + g))), (6, .int (nI (z + t)))] 41 [] := by
    intro f1 hu Q
    induction Q with
    | nil =>
      intro t g ht h1 hg hQ he
      have ht : t = M.length := by simpa using ht
      subst ht
      have he : L = [gRow f1 (z + g)] := by rw [he]; rfl
      subst he
      refine r_iload hX d_G_solveMost_41 rfl ?_
      refine r_iload hX d_G_solveMost_43 rfl ?_
      refine r_icmp_ge 79 hX d_G_solveMost_45 (by decide) (fun c45 => ?_) (fun c45 => absurd (nI_le (Nat.le_refl _) (by omega)) c45)
      refine r_aload_n (i := 0) hX d_G_solveMost_79 rfl rfl ?_
      refine r_get 0 3 hX d_G_solveMost_80 rfl rfl fi_G (by decide) fl_G_28 rfl rfl ?_
      refine r_iload hX d_G_solveMost_83 rfl ?_
      refine r_iload_n (i := 3) hX d_G_solveMost_85 rfl rfl ?_
      refine r_callVv (q0 := 0) [4, 5] hX d_G_solveMost_86 cw_R_copy ml_G_220 (c_R_copy (z + g) z (by omega) (by omega) (by decide)) (Or.inl rfl) rfl rfl rfl rfl (by omega) (Nat.le_of_ble_eq_true rfl) rfl (fun _ => rfl) rfl (fun _ _ => ?_)
      refine r_aload_n (i := 0) hX d_G_solveMost_89 rfl rfl ?_
      refine r_get 0 3 hX d_G_solveMost_90 rfl rfl fi_G (by decide) fl_G_28 rfl rfl ?_
      refine r_iload_n (i := 3) hX d_G_solveMost_93 rfl rfl ?_
      refine r_iconst (v := nI 1) hX d_G_solveMost_94 (by decide) ?_
      refine r_iadd hX d_G_solveMost_95 ?_
      refine r_top (nI_add _ _) ?_
      refine r_put 4 2 hX d_G_solveMost_96 rfl rfl fi_R ft_R_ok fn_R (by decide) fl_G_114 rfl rfl rfl rfl rfl (Nat.le_of_ble_eq_true rfl) ?_
      exact r_vret (va_cpy f1 f1 ((z + g) * 6) (z * 6) 6) hX hF d_G_solveMost_99 ⟨fun j hj => (pk_cpy_out (by omega)).trans (hu.1 j hj), Holds.one (gRow_ext fun c hc => by rw [pk_cpy_in (by omega) (by omega)]; congr 1; omega)⟩ rfl rfl
    | cons x Q ih =>
      intro t g ht h1 hg hQ he
      have ht' : t + (Q.length + 1) = M.length := by simpa using ht
      obtain ⟨hx, hQ'⟩ := hQ.cons
      have hx1 : f1 (6 * (z + t)) = x.1 := congrArg Prod.fst hx
      refine r_iload hX d_G_solveMost_41 rfl ?_
      refine r_iload hX d_G_solveMost_43 rfl ?_
      refine r_icmp_ge 79 hX d_G_solveMost_45 (by decide) (fun c45 => absurd c45 (nI_ge (by omega) (by omega))) (fun c45 => ?_)
      refine r_aload_n (i := 0) hX d_G_solveMost_48 rfl rfl ?_
      refine r_get 0 3 hX d_G_solveMost_49 rfl rfl fi_G (by decide) fl_G_28 rfl rfl ?_
      refine r_iload hX d_G_solveMost_52 rfl ?_
      refine r_callVi (q0 := 0) [4, 5] hX d_G_solveMost_54 cw_R_intAt ml_G_92 (c_R_intAt (z + t) (by omega) (by decide)) (Or.inl rfl) rfl rfl rfl rfl (by omega) (Nat.le_of_ble_eq_true rfl) rfl (fun _ => rfl) rfl (fun _ _ => ?_)
      refine r_top hx1 ?_
      refine r_aload_n (i := 0) hX d_G_solveMost_57 rfl rfl ?_
      refine r_get 0 3 hX d_G_solveMost_58 rfl rfl fi_G (by decide) fl_G_28 rfl rfl ?_
      refine r_iload hX d_G_solveMost_61 rfl ?_
      refine r_callVi (q0 := 0) [4, 5] hX d_G_solveMost_63 cw_R_intAt ml_G_92 (c_R_intAt (z + g) (by omega) (by decide)) (Or.inl rfl) rfl rfl rfl rfl (by omega) (Nat.le_of_ble_eq_true rfl) rfl (fun _ => rfl) rfl (fun _ _ => ?_)
      refine r_icmp_le 73 hX d_G_solveMost_66 (by decide) (fun c66 => ?_) (fun c66 => ?_)
      · have hb : (if (gRow f1 (z + g)).1 < x.1 then x else gRow f1 (z + g)) = gRow f1 (z + g) := if_neg (Int32.not_lt.mpr c66)
        have hbb : z + g = z + g := rfl
        have hnx := ih (t + 1) g (by omega) (by omega) hg hQ' (by rw [he, bestL, hb])
        refine r_iinc hX d_G_solveMost_73 rfl (rx_inc _) (by decide) ?_
        refine r_goto 41 hX d_G_solveMost_76 (by decide) ?_
        exact r_lv [0, 3, 4, 5, 6] hnx
      · have hb : (if (gRow f1 (z + g)).1 < x.1 then x else gRow f1 (z + g)) = gRow f1 (z + t) := by rw [hx]; exact if_pos (Int32.not_le.mp c66)
        have hnx := ih (t + 1) t (by omega) (by omega) (by omega) hQ' (by rw [he, bestL, hb])
        refine r_iload hX d_G_solveMost_69 rfl ?_
        refine r_istore hX d_G_solveMost_71 (by decide) ?_
        refine r_iinc hX d_G_solveMost_73 rfl (rx_inc _) (by decide) ?_
        refine r_goto 41 hX d_G_solveMost_76 (by decide) ?_
        exact r_lv [0, 3, 4, 5, 6] hnx
  refine r_aload_n (i := 0) hX d_G_solveMost_0 rfl rfl ?_
  refine r_get 0 3 hX d_G_solveMost_1 rfl rfl fi_G (by decide) fl_G_28 rfl rfl ?_
  refine r_get 4 2 hX d_G_solveMost_4 rfl rfl fi_R (by decide) fl_G_114 rfl rfl ?_
  refine r_istore_n (i := 3) hX d_G_solveMost_7 rfl (by decide) ?_
  refine r_aload_n (i := 0) hX d_G_solveMost_8 rfl rfl ?_
  refine r_aload_n (i := 1) hX d_G_solveMost_9 rfl rfl ?_
  refine r_get (8 + i) 1 hX d_G_solveMost_10 (wc_at rfl hi60) rfl fi_N (by decide) fl_G_132 rfl rfl ?_
  refine r_top ha ?_
  refine r_iload_n (i := 2) hX d_G_solveMost_13 rfl rfl ?_
  refine r_callVwv (q0 := 0) hX d_G_solveMost_14 cw_G_solve ml_G_152 (hc) (Or.inl rfl) rfl rfl rfl rfl (by omega) (Nat.le_of_ble_eq_true rfl) (fun _ => rfl) (fun f1 hu => ?_)
  refine r_aload_n (i := 0) hX d_G_solveMost_17 rfl rfl ?_
  refine r_get 0 3 hX d_G_solveMost_18 rfl rfl fi_G (by decide) fl_G_28 rfl rfl ?_
  refine r_get 4 2 hX d_G_solveMost_21 rfl rfl fi_R (by decide) fl_G_114 rfl rfl ?_
  refine r_istore hX d_G_solveMost_24 (by decide) ?_
  refine r_iload hX d_G_solveMost_26 rfl ?_
  refine r_iload_n (i := 3) hX d_G_solveMost_28 rfl rfl ?_
  refine r_icmp_ne 33 hX d_G_solveMost_29 (by decide) (fun c29 => ?_) (fun c29 => ?_)
  · have hMn : ∃ x Q, M = x :: Q := by
      cases M with
      | nil => exact absurd rfl c29
      | cons x Q => exact ⟨x, Q, rfl⟩
    obtain ⟨x, Q, hMe⟩ := hMn
    have hLe : L = [bestL x Q] := by rw [hL, hMe]
    have hhx := (hMe ▸ hu.2 : Holds f1 z (x :: Q)).cons
    have hML : M.length = Q.length + 1 := by rw [hMe]; rfl
    refine r_iload_n (i := 3) hX d_G_solveMost_33 rfl rfl ?_
    refine r_istore hX d_G_solveMost_34 (by decide) ?_
    refine r_iload_n (i := 3) hX d_G_solveMost_36 rfl rfl ?_
    refine r_iconst (v := nI 1) hX d_G_solveMost_37 (by decide) ?_
    refine r_iadd hX d_G_solveMost_38 ?_
    refine r_top (nI_add _ _) ?_
    refine r_istore hX d_G_solveMost_39 (by decide) ?_
    exact r_lv [0, 3, 4, 5, 6] (loop f1 hu Q 1 0 (by omega) (by omega) (by omega) hhx.2 (by rw [hLe]; exact congrArg (fun r => [bestL r Q]) hhx.1.symm))
  · have hM0 : M = [] := by have := (nI_eq (by omega) (by omega)).mp c29; exact List.length_eq_zero_iff.mp (by omega)
    subst hM0
    simp only at hL
    subst hL
    exact r_vret f1 hX hF d_G_solveMost_32 hu rfl rfl
end ClassE
