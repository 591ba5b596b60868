/-! evaluate, attempt. -/
def st0 : St := fun _ => 0
def evAll (tl : Nat) (ch : Nat → Int32) (nf : Nat → Nat → Int32) (r : Int32) : List Rs := ev tl ch (ndOf nf) 8 (opN r) st0
def kpL (tl : Nat) (ch : Nat → Int32) (nf : Nat → Nat → Int32) (m : Nat) (r : Int32) : List Rs := (evAll tl ch nf r).take m
def zero6 (f : Nat → Int32) : Prop := ∀ c, c < 6 → f c = 0
theorem zero6_row {f : Nat → Int32} (h : zero6 f) : (gRow f 0).2 = st0 := by
  funext c
  show f (6 * 0 + 1 + c.val) = 0
  exact h _ (by have := c.isLt; omega)
def kpP (ok : Bool) (L : List Rs) (qf : Nat → Int32) (u : Nat × (Nat → Int32) × (Nat → Int32)) : Prop := zero6 u.2.1 ∧ (ok = true → Holds u.2.2 0 L) ∧ (ok = false → u.2.2 = qf)
section ClassH
variable {l : Launch} {D : va_G} {cI cZ cN : ClassId} {ad : Nat → Nat} {nn qt tl rz qz : Nat} {ch rf qf : Nat → Int32} {nf : Nat → Nat → Int32}
set_option maxRecDepth 100000 in
set_option maxHeartbeats 4000000 in
theorem c_G_keepResults (r : Int32) (m : Nat) (ht : tl ≤ 24) (hn60 : nn ≤ 60) (hw : WFn nn nf) (h0 : zero6 rf) (hm : m ≤ 64) : CT l D (tyL cI cZ cN) none y_G_keepResults b_G_keepResults 3 (some .int) 23 [.ref (ad 0), .int r, .int (nI m)] (WC ad cI cN nn qt tl ch rz rf qz qf nf) (kpP (inR r (nI nn)) (kpL tl ch nf m r) qf) (fun _ => some (.int (if inR r (nI nn) = true then nI (kpL tl ch nf m r).length else -1))) (fun u => WC ad cI cN nn (if inR r (nI nn) = true then tl else qt) tl ch u.1 u.2.1 (if inR r (nI nn) = true then (kpL tl ch nf m r).length else qz) u.2.2 nf) := by
  refine CT.of (by decide) (Nat.le_of_ble_eq_true rfl) ?_
  intro X A hl hX hF
  refine r_aload_n (i := 0) hX d_G_keepResults_0 rfl rfl ?_
  refine r_iload_n (i := 1) hX d_G_keepResults_1 rfl rfl ?_
  refine r_callVwi (q0 := 0) hX d_G_keepResults_2 cw_G_isNode ml_G_107 (c_G_isNode r) (Or.inl rfl) rfl rfl rfl rfl (by decide) (Nat.le_of_ble_eq_true rfl) (fun _ => rfl) (fun _ _ => ?_)
  refine r_if_ne 10 hX d_G_keepResults_5 (by decide) (fun c5 => ?_) (fun c5 => ?_)
  · have hr := bI_1 c5
    obtain ⟨j, hj, rfl⟩ := inR_of hr (by omega)
    have hoj : opN (nI j) = j := opN_nI (by omega)
    have hc := c_G_solve (l := X.2.1) (D := D) (cI := cI) (cZ := cZ) (cN := cN) (ad := ad) (nn := nn) (qt := qt) (tl := tl) (ch := ch) (qz := qz) (qf := qf) (nf := nf) ht hn60 hw 8 j hj (hw j hj).2.2.2.2.1 0 1 rf (by decide) (by decide) (by rw [zero6_row h0]; exact ⟨0, Nat.zero_le _, rfl⟩)
    have hL : kpL tl ch nf m (nI j) = (ev tl ch (ndOf nf) 8 j (gRow rf 0).2).take m := by rw [kpL, evAll, hoj, zero6_row h0]
    have hLl0 : (ev tl ch (ndOf nf) 8 j (gRow rf 0).2).length ≤ 64 := by
      have h9 := (ev_ok (ch := ch) ht nn hn60 hw 8 j hj (hw j hj).2.2.2.2.1 st0 ⟨0, Nat.zero_le _, rfl⟩).1
      have h10 := (hw j hj).2.2.2.2.2.2.1
      rw [zero6_row h0]
      omega
    generalize ev tl ch (ndOf nf) 8 j (gRow rf 0).2 = L at hc hL hLl0
    have hLl : 6 * (1 + L.length) ≤ 6150 := by omega
    rw [hL] at hF
    refine r_aload_n (i := 0) hX d_G_keepResults_10 rfl rfl ?_
    refine r_get 0 3 hX d_G_keepResults_11 rfl rfl fi_G (by decide) fl_G_28 rfl rfl ?_
    refine r_iconst (v := nI 1) hX d_G_keepResults_14 (by decide) ?_
    refine r_put 4 2 hX d_G_keepResults_15 rfl rfl fi_R ft_R_ok fn_R (by decide) fl_G_114 rfl rfl rfl rfl rfl (Nat.le_of_ble_eq_true rfl) ?_
    refine r_ws (ws' := WC ad cI cN nn qt tl ch 1 rf qz qf nf) rfl ?_
    refine r_aload_n (i := 0) hX d_G_keepResults_18 rfl rfl ?_
    refine r_iload_n (i := 1) hX d_G_keepResults_19 rfl rfl ?_
    refine r_iconst (v := nI 0) hX d_G_keepResults_20 (by decide) ?_
    refine r_callVwv (q0 := 0) hX d_G_keepResults_21 cw_G_solve ml_G_152 (hc) (Or.inl rfl) rfl rfl rfl rfl (by decide) (Nat.le_of_ble_eq_true rfl) (fun _ => rfl) (fun f1 hu => ?_)
    refine r_aload_n (i := 0) hX d_G_keepResults_24 rfl rfl ?_
    refine r_get 0 4 hX d_G_keepResults_25 rfl rfl fi_G (by decide) fl_G_32 rfl rfl ?_
    refine r_aload_n (i := 0) hX d_G_keepResults_28 rfl rfl ?_
    refine r_get 0 3 hX d_G_keepResults_29 rfl rfl fi_G (by decide) fl_G_28 rfl rfl ?_
    refine r_iconst (v := nI 1) hX d_G_keepResults_32 (by decide) ?_
    refine r_iload_n (i := 2) hX d_G_keepResults_33 rfl rfl ?_
    refine r_callVv (q0 := 0) [6, 7, 4, 5] hX d_G_keepResults_34 cw_R_takeFrom ml_G_156 (c_R_takeFrom (z2 := 1 + L.length) 1 m (L.take m).length (by rw [List.length_take]; omega) (by omega) (by have := hLl; omega) (by rw [List.length_take]; omega) (by omega) (by decide) (by decide) (by decide)) (Or.inl rfl) rfl rfl rfl rfl (by decide) (Nat.le_of_ble_eq_true rfl) rfl (fun _ => rfl) rfl (fun _ _ => ?_)
    refine r_aload_n (i := 0) hX d_G_keepResults_37 rfl rfl ?_
    refine r_aload_n (i := 0) hX d_G_keepResults_38 rfl rfl ?_
    refine r_get 0 0 hX d_G_keepResults_39 rfl rfl fi_G (by decide) fl_G_12 rfl rfl ?_
    refine r_get 1 1 hX d_G_keepResults_42 rfl rfl fi_T (by decide) fl_G_35 rfl rfl ?_
    refine r_put 0 5 hX d_G_keepResults_45 rfl rfl fi_G ft_G_ok fn_G (by decide) fl_G_117 rfl rfl rfl rfl rfl (Nat.le_of_ble_eq_true rfl) ?_
    refine r_aload_n (i := 0) hX d_G_keepResults_48 rfl rfl ?_
    refine r_get 0 4 hX d_G_keepResults_49 rfl rfl fi_G (by decide) fl_G_32 rfl rfl ?_
    refine r_get 6 2 hX d_G_keepResults_52 rfl rfl fi_R (by decide) fl_G_114 rfl rfl ?_
    exact r_iret (1 + L.length, f1, va_cpy f1 qf (1 * 6) 0 ((L.take m).length * 6)) hX hF d_G_keepResults_55 ⟨fun c hc => (hu.1 c (by omega)).trans (h0 c hc), fun _ k hk => (by have h2 := hu.2 k (by simp at hk; omega); rw [List.getElem_take, ← h2]; exact gRow_ext fun c hc => (by dsimp only; rw [pk_cpy_in (by omega) (by omega)]; congr 1; omega)), fun q => (by rw [hr] at q; cases q)⟩ (by rw [if_pos hr]) (by rw [if_pos hr, if_pos hr]; rfl)
  · have hn := bI_0 c5
    refine r_iconst (v := -1) hX d_G_keepResults_8 (by decide) ?_
    exact r_iret (rz, rf, qf) hX hF d_G_keepResults_9 ⟨h0, fun q => (by rw [hn] at q; cases q), fun _ => rfl⟩ (by rw [hn]; rfl) (by rw [hn]; rfl)
set_option maxRecDepth 100000 in
set_option maxHeartbeats 4000000 in
theorem c_G_evaluate (r : Int32) (ht : tl ≤ 24) (hn60 : nn ≤ 60) (hw : WFn nn nf) (h0 : zero6 rf) : CT l D (tyL cI cZ cN) none y_G_evaluate b_G_evaluate 2 (some .int) 24 [.ref (ad 0), .int r] (WC ad cI cN nn qt tl ch rz rf qz qf nf) (kpP (inR r (nI nn)) (kpL tl ch nf 64 r) qf) (fun _ => some (.int (if inR r (nI nn) = true then nI (kpL tl ch nf 64 r).length else -1))) (fun u => WC ad cI cN nn (if inR r (nI nn) = true then tl else qt) tl ch u.1 u.2.1 (if inR r (nI nn) = true then (kpL tl ch nf 64 r).length else qz) u.2.2 nf) := by
  refine CT.of (by decide) (Nat.le_of_ble_eq_true rfl) ?_
  intro X A hl hX hF
  refine r_aload_n (i := 0) hX d_G_evaluate_0 rfl rfl ?_
  refine r_iload_n (i := 1) hX d_G_evaluate_1 rfl rfl ?_
  refine r_bipush (v := nI 64) hX d_G_evaluate_2 (by decide) ?_
  refine r_callVwi (q0 := 0) hX d_G_evaluate_4 cw_G_keepResults ml_G_84 (c_G_keepResults r 64 ht hn60 hw h0 (by decide)) (Or.inl rfl) rfl rfl rfl rfl (by decide) (Nat.le_of_ble_eq_true rfl) (fun _ => rfl) (fun u hu => ?_)
  exact r_iret u hX hF d_G_evaluate_7 hu rfl rfl
set_option maxRecDepth 100000 in
set_option maxHeartbeats 4000000 in
theorem c_G_attempt (r : Int32) (ht : tl ≤ 24) (hn60 : nn ≤ 60) (hw : WFn nn nf) (h0 : zero6 rf) : CT l D (tyL cI cZ cN) none y_G_attempt b_G_attempt 2 (some .int) 24 [.ref (ad 0), .int r] (WC ad cI cN nn qt tl ch rz rf qz qf nf) (kpP (inR r (nI nn)) (kpL tl ch nf 1 r) qf) (fun _ => some (.int (if inR r (nI nn) = true then nI (kpL tl ch nf 1 r).length else -1))) (fun u => WC ad cI cN nn (if inR r (nI nn) = true then tl else qt) tl ch u.1 u.2.1 (if inR r (nI nn) = true then (kpL tl ch nf 1 r).length else qz) u.2.2 nf) := by
  refine CT.of (by decide) (Nat.le_of_ble_eq_true rfl) ?_
  intro X A hl hX hF
  refine r_aload_n (i := 0) hX d_G_attempt_0 rfl rfl ?_
  refine r_iload_n (i := 1) hX d_G_attempt_1 rfl rfl ?_
  refine r_iconst (v := nI 1) hX d_G_attempt_2 (by decide) ?_
  refine r_callVwi (q0 := 0) hX d_G_attempt_3 cw_G_keepResults ml_G_84 (c_G_keepResults r 1 ht hn60 hw h0 (by decide)) (Or.inl rfl) rfl rfl rfl rfl (by decide) (Nat.le_of_ble_eq_true rfl) (fun _ => rfl) (fun u hu => ?_)
  exact r_iret u hX hF d_G_attempt_6 hu rfl rfl
end ClassH
