/-! solvePairs: each RESULT of a, each of b in its STATE. -/
theorem slP.app {f g h : Nat → Int32} {z q : Nat} {L M : List Rs} (a : slP f z L g) (b : slP g q M h) (hq : q = z + L.length) : slP f z (L ++ M) h := by
  subst hq
  exact ⟨a.1.trans b.1 (by omega), (a.2.same b.1 (Nat.le_refl _)).app b.2⟩
def gP (k : Nat) (x y : Rs) : List Rs := (pairL k x.1 y.1).map (fun v => (v, y.2))
def gX (k : Nat) (EB : St → List Rs) (x : Rs) : List Rs := (EB x.2).flatMap (gP k x)
section ClassF
variable {l : Launch} {D : va_G} {cI cZ cN : ClassId} {ad : Nat → Nat} {nn qt tl z qz : Nat} {ch rf qf : Nat → Int32} {nf : Nat → Nat → Int32}
set_option maxRecDepth 100000 in
set_option maxHeartbeats 4000000 in
theorem c_G_solvePairs (d cap i k ja jb ro : Nat) (EA EB : St → List Rs) (hi60 : i < 60) (hkd : nf 0 i = nI k) (hk : (9 ≤ k ∧ k ≤ 14) ∨ k = 16) (ha : nf 1 i = nI ja) (hb : nf 2 i = nI jb) (hEA : SV l D cI cZ cN ad nn qt tl ch qz qf nf d cap ja EA) (hEB : SV l D cI cZ cN ad nn qt tl ch qz qf nf d cap jb EB) (hd4 : 4 ≤ d) (hcap : 128 ≤ cap) (hro : ro < z) (hz : z + cap + 128 ≤ 1025) (hok : okSt tl (gRow rf ro).2) (hlen : (EA (gRow rf ro).2).length ≤ 64) (hokA : ∀ r ∈ EA (gRow rf ro).2, okSt tl r.2) (hlenB : ∀ s, okSt tl s → (EB s).length ≤ 64) (hlenO : ((EA (gRow rf ro).2).flatMap (gX k EB)).length ≤ 64) : SL l D cI cZ cN ad nn qt tl ch qz qf nf y_G_solvePairs b_G_solvePairs 9 (d + 1) [.ref (ad (8 + i)), .int (nI ro)] z rf ((EA (gRow rf ro).2).flatMap (gX k EB)) := by
  refine CT.of (by decide) (Nat.le_of_ble_eq_true rfl) ?_
  intro X A hl hX hF
  subst hl
  have hc := hEA ro z rf hro (by omega) hok
  generalize EA (gRow rf ro).2 = M at hc hlen hF hokA hlenO
  have loop : ∀ (f1 : Nat → Int32), slP rf z M f1 → ∀ (Q P : List Rs) (f : Nat → Int32), M = P ++ Q → slP f1 (z + M.length) (P.flatMap (gX k EB)) f → RR X 9 D A 0 0 (WC ad cI cN nn qt tl ch (z + M.length + (P.flatMap (gX k EB)).length) f qz qf nf) [(0, .ref (ad 0)), (1, .ref (ad (8 + i))), (3, .int (nI z)), (4, .int (nI (z + M.length))), (5, .int (nI (z + P.length)))] 29 [] := by
    intro f1 hu Q
    induction Q with
    | nil =>
      intro P f hM hs
      have hM : M = P := by rw [hM, List.append_nil]
      subst hM
      refine r_iload hX d_G_solvePairs_29 rfl ?_
      refine r_iload hX d_G_solvePairs_31 rfl ?_
      refine r_icmp_ge 117 hX d_G_solvePairs_33 (by decide) (fun c33 => ?_) (fun c33 => absurd (nI_le (Nat.le_refl _) (by omega)) c33)
      refine r_aload_n (i := 0) hX d_G_solvePairs_117 rfl rfl ?_
      refine r_get 0 3 hX d_G_solvePairs_118 rfl rfl fi_G (by decide) fl_G_28 rfl rfl ?_
      refine r_iload_n (i := 3) hX d_G_solvePairs_121 rfl rfl ?_
      refine r_iload hX d_G_solvePairs_122 rfl ?_
      refine r_callVv (q0 := 0) [4, 5] hX d_G_solvePairs_124 cw_R_remove ml_G_214 (c_R_remove z (z + M.length) (z + M.length + (M.flatMap (gX k EB)).length) (by omega) (by omega) (by omega) (by decide)) (Or.inl rfl) rfl rfl rfl rfl (by omega) (Nat.le_of_ble_eq_true rfl) rfl (fun _ => rfl) rfl (fun _ _ => ?_)
      exact r_vret (remF f z (z + M.length) (z + M.length + (M.flatMap (gX k EB)).length)) hX hF d_G_solvePairs_127 ⟨(hu.1.trans hs.1 (by omega)).trans (remF_same _ _ _ _) (Nat.le_refl _), remF_holds hs.2 rfl⟩ rfl (by rw [show z + M.length + (M.flatMap (gX k EB)).length - (z + M.length - z) = z + (M.flatMap (gX k EB)).length by omega]; rfl)
    | cons x Q ih =>
      intro P f hM hs
      have hML : M.length = P.length + (Q.length + 1) := by rw [hM]; simp
      have hTL : (M.flatMap (gX k EB)).length = (P.flatMap (gX k EB)).length + ((gX k EB x).length + (Q.flatMap (gX k EB)).length) := by rw [hM]; simp
      have hrow : gRow f (z + P.length) = x := by
        rw [hs.1.row (by omega)]
        exact Holds.mid (hM ▸ hu.2)
      have hxok : okSt tl x.2 := hokA x (by rw [hM]; simp)
      have hcB := hEB (z + P.length) (z + M.length + (P.flatMap (gX k EB)).length) f (by omega) (by omega) (by rw [hrow]; exact hxok)
      rw [hrow] at hcB
      have hYl := hlenB x.2 hxok
      have hgX : gX k EB x = (EB x.2).flatMap (gP k x) := rfl
      generalize EB x.2 = Y at hcB hYl hgX
      generalize hO : P.flatMap (gX k EB) = O at hs hcB hTL
      have inner : ∀ (f2 : Nat → Int32), slP f (z + M.length + O.length) Y f2 → ∀ (Q2 P2 : List Rs) (g : Nat → Int32), Y = P2 ++ Q2 → slP f2 (z + M.length + O.length + Y.length) (P2.flatMap (gP k x)) g → RR X 9 D A 0 0 (WC ad cI cN nn qt tl ch (z + M.length + O.length + Y.length + (P2.flatMap (gP k x)).length) g qz qf nf) [(0, .ref (ad 0)), (1, .ref (ad (8 + i))), (3, .int (nI z)), (4, .int (nI (z + M.length))), (5, .int (nI (z + P.length))), (6, .int (nI (z + M.length + O.length))), (7, .int (nI (z + M.length + O.length + Y.length))), (8, .int (nI (z + M.length + O.length + P2.length)))] 68 [] := by
        intro f2 hu2 Q2
        induction Q2 with
        | nil =>
          intro P2 g hY hg
          have hY : Y = P2 := by rw [hY, List.append_nil]
          subst hY
          have hYW : (gX k EB x).length = (Y.flatMap (gP k x)).length := by rw [hgX]
          have hsame : Same f (remF g (z + M.length + O.length) (z + M.length + O.length + Y.length) (z + M.length + O.length + Y.length + (Y.flatMap (gP k x)).length)) (6 * (z + M.length + O.length)) := (hu2.1.trans hg.1 (by omega)).trans (remF_same _ _ _ _) (Nat.le_refl _)
          have h := ih (P ++ [x]) (remF g (z + M.length + O.length) (z + M.length + O.length + Y.length) (z + M.length + O.length + Y.length + (Y.flatMap (gP k x)).length)) (by rw [hM]; simp) (by
            rw [flat_snoc, hO, hgX]
            exact hs.app ⟨hsame, remF_holds hg.2 rfl⟩ rfl)
          rw [flat_snoc, hO, hgX, show (P ++ [x]).length = P.length + 1 by simp, show z + M.length + (O ++ Y.flatMap (gP k x)).length = z + M.length + O.length + Y.length + (Y.flatMap (gP k x)).length - (z + M.length + O.length + Y.length - (z + M.length + O.length)) by rw [List.length_append]; omega] at h
          refine r_iload hX d_G_solvePairs_68 rfl ?_
          refine r_iload hX d_G_solvePairs_70 rfl ?_
          refine r_icmp_ge 100 hX d_G_solvePairs_72 (by decide) (fun c72 => ?_) (fun c72 => absurd (nI_le (Nat.le_refl _) (by omega)) c72)
          refine r_aload_n (i := 0) hX d_G_solvePairs_100 rfl rfl ?_
          refine r_get 0 3 hX d_G_solvePairs_101 rfl rfl fi_G (by decide) fl_G_28 rfl rfl ?_
          refine r_iload hX d_G_solvePairs_104 rfl ?_
          refine r_iload hX d_G_solvePairs_106 rfl ?_
          refine r_callVv (q0 := 0) [4, 5] hX d_G_solvePairs_108 cw_R_remove ml_G_214 (c_R_remove (z + M.length + O.length) (z + M.length + O.length + Y.length) (z + M.length + O.length + Y.length + (Y.flatMap (gP k x)).length) (by omega) (by omega) (by omega) (by decide)) (Or.inl rfl) rfl rfl rfl rfl (by omega) (Nat.le_of_ble_eq_true rfl) rfl (fun _ => rfl) rfl (fun _ _ => ?_)
          refine r_iinc hX d_G_solvePairs_111 rfl (rx_inc _) (by decide) ?_
          refine r_goto 29 hX d_G_solvePairs_114 (by decide) ?_
          exact r_lv [0, 1, 3, 4, 5] h
        | cons y Q2 ih2 =>
          intro P2 g hY hg
          have hYL : Y.length = P2.length + (Q2.length + 1) := by rw [hY]; simp
          have hWL : (gX k EB x).length = (P2.flatMap (gP k x)).length + ((gP k x y).length + (Q2.flatMap (gP k x)).length) := by rw [hgX, hY]; simp
          have hyrow : gRow g (z + M.length + O.length + P2.length) = y := by
            rw [hg.1.row (by omega)]
            exact Holds.mid (hY ▸ hu2.2)
          have hxrow : gRow g (z + P.length) = x := by
            rw [hg.1.row (by omega), hu2.1.row (by omega)]
            exact hrow
          have hx1 : g (6 * (z + P.length)) = x.1 := congrArg Prod.fst hxrow
          have hcP := c_G_pushPair (l := X.2.1) (D := D) (cI := cI) (cZ := cZ) (cN := cN) (ad := ad) (nn := nn) (qt := qt) (tl := tl) (ch := ch) (qz := qz) (qf := qf) (nf := nf) (rf := g) (z := z + M.length + O.length + Y.length + (P2.flatMap (gP k x)).length) k x.1 y.1 (z + M.length + O.length + P2.length) hk (by omega) (by omega) (congrArg Prod.fst hyrow) (gP k x y) (by rw [hyrow]; rfl)
          refine r_iload hX d_G_solvePairs_68 rfl ?_
          refine r_iload hX d_G_solvePairs_70 rfl ?_
          refine r_icmp_ge 100 hX d_G_solvePairs_72 (by decide) (fun c72 => absurd c72 (nI_ge (by omega) (by omega))) (fun c72 => ?_)
          refine r_aload_n (i := 0) hX d_G_solvePairs_75 rfl rfl ?_
          refine r_aload_n (i := 1) hX d_G_solvePairs_76 rfl rfl ?_
          refine r_get (8 + i) 0 hX d_G_solvePairs_77 (wc_at rfl hi60) rfl fi_N (by decide) fl_G_129 rfl rfl ?_
          refine r_top hkd ?_
          refine r_aload_n (i := 0) hX d_G_solvePairs_80 rfl rfl ?_
          refine r_get 0 3 hX d_G_solvePairs_81 rfl rfl fi_G (by decide) fl_G_28 rfl rfl ?_
          refine r_iload hX d_G_solvePairs_84 rfl ?_
          refine r_callVi (q0 := 0) [4, 5] hX d_G_solvePairs_86 cw_R_intAt ml_G_92 (c_R_intAt (z + P.length) (by omega) (by decide)) (Or.inl rfl) rfl rfl rfl rfl (by omega) (Nat.le_of_ble_eq_true rfl) rfl (fun _ => rfl) rfl (fun _ _ => ?_)
          refine r_top hx1 ?_
          refine r_iload hX d_G_solvePairs_89 rfl ?_
          refine r_ws (ws' := WC ad cI cN nn qt tl ch (z + M.length + O.length + Y.length + (P2.flatMap (gP k x)).length) g qz qf nf) rfl ?_
          refine r_callVwv (q0 := 0) hX d_G_solvePairs_91 cw_G_pushPair ml_G_223 (hcP) (Or.inl rfl) rfl rfl rfl rfl (by omega) (Nat.le_of_ble_eq_true rfl) (fun _ => rfl) (fun g' hg' => ?_)
          refine r_iinc hX d_G_solvePairs_94 rfl (rx_inc _) (by decide) ?_
          refine r_goto 68 hX d_G_solvePairs_97 (by decide) ?_
          have h := ih2 (P2 ++ [y]) g' (by rw [hY]; simp) (by rw [flat_snoc]; exact hg.app hg' rfl)
          rw [flat_snoc, List.length_append, show (P2 ++ [y]).length = P2.length + 1 by simp, ← Nat.add_assoc] at h
          exact r_lv [0, 1, 3, 4, 5, 6, 7, 8] h
      refine r_iload hX d_G_solvePairs_29 rfl ?_
      refine r_iload hX d_G_solvePairs_31 rfl ?_
      refine r_icmp_ge 117 hX d_G_solvePairs_33 (by decide) (fun c33 => absurd c33 (nI_ge (by omega) (by omega))) (fun c33 => ?_)
      refine r_aload_n (i := 0) hX d_G_solvePairs_36 rfl rfl ?_
      refine r_get 0 3 hX d_G_solvePairs_37 rfl rfl fi_G (by decide) fl_G_28 rfl rfl ?_
      refine r_get 4 2 hX d_G_solvePairs_40 rfl rfl fi_R (by decide) fl_G_114 rfl rfl ?_
      refine r_istore hX d_G_solvePairs_43 (by decide) ?_
      refine r_aload_n (i := 0) hX d_G_solvePairs_45 rfl rfl ?_
      refine r_aload_n (i := 1) hX d_G_solvePairs_46 rfl rfl ?_
      refine r_get (8 + i) 2 hX d_G_solvePairs_47 (wc_at rfl hi60) rfl fi_N (by decide) fl_G_135 rfl rfl ?_
      refine r_top hb ?_
      refine r_iload hX d_G_solvePairs_50 rfl ?_
      refine r_callVwv (q0 := 0) hX d_G_solvePairs_52 cw_G_solve ml_G_152 (hcB) (Or.inl rfl) rfl rfl rfl rfl (by omega) (Nat.le_of_ble_eq_true rfl) (fun _ => rfl) (fun f2 hu2 => ?_)
      refine r_aload_n (i := 0) hX d_G_solvePairs_55 rfl rfl ?_
      refine r_get 0 3 hX d_G_solvePairs_56 rfl rfl fi_G (by decide) fl_G_28 rfl rfl ?_
      refine r_get 4 2 hX d_G_solvePairs_59 rfl rfl fi_R (by decide) fl_G_114 rfl rfl ?_
      refine r_istore hX d_G_solvePairs_62 (by decide) ?_
      refine r_iload hX d_G_solvePairs_64 rfl ?_
      refine r_istore hX d_G_solvePairs_66 (by decide) ?_
      exact r_lv [0, 1, 3, 4, 5, 6, 7, 8] (inner f2 hu2 Y [] f2 rfl slP.nil)
  refine r_aload_n (i := 0) hX d_G_solvePairs_0 rfl rfl ?_
  refine r_get 0 3 hX d_G_solvePairs_1 rfl rfl fi_G (by decide) fl_G_28 rfl rfl ?_
  refine r_get 4 2 hX d_G_solvePairs_4 rfl rfl fi_R (by decide) fl_G_114 rfl rfl ?_
  refine r_istore_n (i := 3) hX d_G_solvePairs_7 rfl (by decide) ?_
  refine r_aload_n (i := 0) hX d_G_solvePairs_8 rfl rfl ?_
  refine r_aload_n (i := 1) hX d_G_solvePairs_9 rfl rfl ?_
  refine r_get (8 + i) 1 hX d_G_solvePairs_10 (wc_at rfl hi60) rfl fi_N (by decide) fl_G_132 rfl rfl ?_
  refine r_top ha ?_
  refine r_iload_n (i := 2) hX d_G_solvePairs_13 rfl rfl ?_
  refine r_callVwv (q0 := 0) hX d_G_solvePairs_14 cw_G_solve ml_G_152 (hc) (Or.inl rfl) rfl rfl rfl rfl (by omega) (Nat.le_of_ble_eq_true rfl) (fun _ => rfl) (fun f1 hu => ?_)
  refine r_aload_n (i := 0) hX d_G_solvePairs_17 rfl rfl ?_
  refine r_get 0 3 hX d_G_solvePairs_18 rfl rfl fi_G (by decide) fl_G_28 rfl rfl ?_
  refine r_get 4 2 hX d_G_solvePairs_21 rfl rfl fi_R (by decide) fl_G_114 rfl rfl ?_
  refine r_istore hX d_G_solvePairs_24 (by decide) ?_
  refine r_iload_n (i := 3) hX d_G_solvePairs_26 rfl rfl ?_
  refine r_istore hX d_G_solvePairs_27 (by decide) ?_
  exact r_lv [0, 1, 3, 4, 5] (loop f1 hu M [] f1 rfl slP.nil)
end ClassF
