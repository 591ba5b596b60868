/-! node, the call. -/
def okOpsN (nn k : Nat) (a b c : Int32) : Prop := (8 ≤ k ∧ k ≠ 17 ∧ k ≠ 18 → ∃ j, j < nn ∧ a = nI j) ∧ (9 ≤ k ∧ k ≤ 19 → ∃ j, j < nn ∧ b = nI j) ∧ (k = 19 → ∃ j, j < nn ∧ c = nI j)
theorem freeB_of {nn : Nat} {nf : Nat → Nat → Int32} {r : Int32} (h : freeB nn nf r = true) (hn : nn ≤ 60) : ∃ j, j < nn ∧ r = nI j := by
  simp only [freeB, Bool.and_eq_true] at h
  exact inR_of h.1 (by omega)
theorem mfit_m {nn : Nat} {nf : Nat → Nat → Int32} {m : Nat} {a b c : Int32} (hm : m = 0 ∨ m = 1 ∨ m = 2 ∨ m = 3 ∨ m = 7) (h : mfit nn nf m a b c = true) (hn : nn ≤ 60) : (m = 1 ∨ m = 3 ∨ m = 7 → ∃ j, j < nn ∧ a = nI j) ∧ (m = 2 ∨ m = 3 ∨ m = 7 → ∃ j, j < nn ∧ b = nI j) ∧ (m = 7 → ∃ j, j < nn ∧ c = nI j) := by
  rcases hm with rfl | rfl | rfl | rfl | rfl
  · exact ⟨fun h => by omega, fun h => by omega, fun h => by omega⟩
  · simp [mfit] at h
    exact ⟨fun _ => freeB_of h hn, fun h => by omega, fun h => by omega⟩
  · simp [mfit] at h
    exact ⟨fun h => by omega, fun _ => freeB_of h hn, fun h => by omega⟩
  · simp [mfit] at h
    exact ⟨fun _ => freeB_of h.1 hn, fun _ => freeB_of h.2.1 hn, fun h => by omega⟩
  · simp [mfit] at h
    exact ⟨fun _ => freeB_of h.1 hn, fun _ => freeB_of h.2.1 hn, fun _ => freeB_of h.2.2.1 hn⟩
theorem mfit_k {nn : Nat} {nf : Nat → Nat → Int32} {k : Nat} {a b c : Int32} (hk : k ≤ 21) (h : mfit nn nf (opsN k) a b c = true) (hn : nn ≤ 60) : okOpsN nn k a b c := by
  have h1 := mfit_m (m5 hk) h hn
  rcases k22 hk with rfl | rfl | rfl | rfl | rfl | rfl | rfl | rfl | rfl | rfl | rfl | rfl | rfl | rfl | rfl | rfl | rfl | rfl | rfl | rfl | rfl | rfl <;>
    exact ⟨fun q => h1.1 (by first | decide | (exfalso; omega)), fun q => h1.2.1 (by first | decide | (exfalso; omega)), fun q => h1.2.2 (by first | decide | (exfalso; omega))⟩
theorem okOpsN.ops {nn k : Nat} {a b c : Int32} (h : okOpsN nn k a b c) (hn : nn ≤ 60) : okOps k a b c := by
  refine ⟨fun q => ?_, fun q => ?_, fun q => ?_⟩
  · obtain ⟨j, h1, h2⟩ := h.1 q
    exact ⟨j, by omega, h2⟩
  · obtain ⟨j, h1, h2⟩ := h.2.1 q
    exact ⟨j, by omega, h2⟩
  · obtain ⟨j, h1, h2⟩ := h.2.2 q
    exact ⟨j, by omega, h2⟩
theorem mfit_okM {nn : Nat} {nf : Nat → Nat → Int32} {m : Nat} {a b c : Int32} (hm : m = 0 ∨ m = 1 ∨ m = 2 ∨ m = 3 ∨ m = 7) (h : mfit nn nf m a b c = true) (hn : nn ≤ 60) : okM m a b c := by
  have h1 := mfit_m hm h hn
  refine ⟨fun q => ?_, fun q => ?_, fun q => ?_⟩
  · obtain ⟨j, h1, h2⟩ := h1.1 q
    exact ⟨j, by omega, h2⟩
  · obtain ⟨j, h1, h2⟩ := h1.2.1 q
    exact ⟨j, by omega, h2⟩
  · obtain ⟨j, h1, h2⟩ := h1.2.2 q
    exact ⟨j, by omega, h2⟩
theorem bndF_congr {nn k : Nat} {nf nf' : Nat → Nat → Int32} {a b c : Int32} (hk : k ≤ 21) (hn : nn ≤ 60) (h : okOpsN nn k a b c) (hs : ∀ j, j < nn → nf' 4 j = nf 4 j) : bndF nf' k a b c = bndF nf k a b c := by
  have hA : (8 ≤ k ∧ k ≠ 17 ∧ k ≠ 18) → nf' 4 (opN a) = nf 4 (opN a) := fun q => by
    obtain ⟨j, h1, rfl⟩ := h.1 q
    rw [opN_nI (by omega)]; exact hs j h1
  have hB : (9 ≤ k ∧ k ≤ 19) → nf' 4 (opN b) = nf 4 (opN b) := fun q => by
    obtain ⟨j, h1, rfl⟩ := h.2.1 q
    rw [opN_nI (by omega)]; exact hs j h1
  have hC : k = 19 → nf' 4 (opN c) = nf 4 (opN c) := fun q => by
    obtain ⟨j, h1, rfl⟩ := h.2.2 q
    rw [opN_nI (by omega)]; exact hs j h1
  rcases k22 hk with rfl | rfl | rfl | rfl | rfl | rfl | rfl | rfl | rfl | rfl | rfl | rfl | rfl | rfl | rfl | rfl | rfl | rfl | rfl | rfl | rfl | rfl <;>
    simp [bndF] <;> simp_all
theorem wkF_congr {nn k : Nat} {nf nf' : Nat → Nat → Int32} {a b c : Int32} (hk : k ≤ 21) (hn : nn ≤ 60) (h : okOpsN nn k a b c) (hs : ∀ j, j < nn → nf' 4 j = nf 4 j) (hs5 : ∀ j, j < nn → nf' 5 j = nf 5 j) : wkF nf' k a b c = wkF nf k a b c := by
  have hA : (8 ≤ k ∧ k ≠ 17 ∧ k ≠ 18) → nf' 4 (opN a) = nf 4 (opN a) ∧ nf' 5 (opN a) = nf 5 (opN a) := fun q => by
    obtain ⟨j, h1, rfl⟩ := h.1 q
    rw [opN_nI (by omega)]; exact ⟨hs j h1, hs5 j h1⟩
  have hB : (9 ≤ k ∧ k ≤ 19) → nf' 5 (opN b) = nf 5 (opN b) := fun q => by
    obtain ⟨j, h1, rfl⟩ := h.2.1 q
    rw [opN_nI (by omega)]; exact hs5 j h1
  have hC : k = 19 → nf' 5 (opN c) = nf 5 (opN c) := fun q => by
    obtain ⟨j, h1, rfl⟩ := h.2.2 q
    rw [opN_nI (by omega)]; exact hs5 j h1
  rcases k22 hk with rfl | rfl | rfl | rfl | rfl | rfl | rfl | rfl | rfl | rfl | rfl | rfl | rfl | rfl | rfl | rfl | rfl | rfl | rfl | rfl | rfl | rfl <;>
    simp [wkF, wkP] <;> simp_all
theorem lvF_congr {nn m : Nat} {nf nf' : Nat → Nat → Int32} {a b c : Int32} (hm : m = 0 ∨ m = 1 ∨ m = 2 ∨ m = 3 ∨ m = 7) (hn : nn ≤ 60) (h : (m = 1 ∨ m = 3 ∨ m = 7 → ∃ j, j < nn ∧ a = nI j) ∧ (m = 2 ∨ m = 3 ∨ m = 7 → ∃ j, j < nn ∧ b = nI j) ∧ (m = 7 → ∃ j, j < nn ∧ c = nI j)) (hs : ∀ j, j < nn → nf' 6 j = nf 6 j) : lvF nf' m a b c = lvF nf m a b c := by
  have hA : (m = 1 ∨ m = 3 ∨ m = 7) → nf' 6 (opN a) = nf 6 (opN a) := fun q => by
    obtain ⟨j, h1, rfl⟩ := h.1 q
    rw [opN_nI (by omega)]; exact hs j h1
  have hB : (m = 2 ∨ m = 3 ∨ m = 7) → nf' 6 (opN b) = nf 6 (opN b) := fun q => by
    obtain ⟨j, h1, rfl⟩ := h.2.1 q
    rw [opN_nI (by omega)]; exact hs j h1
  have hC : m = 7 → nf' 6 (opN c) = nf 6 (opN c) := fun q => by
    obtain ⟨j, h1, rfl⟩ := h.2.2 q
    rw [opN_nI (by omega)]; exact hs j h1
  rcases hm with rfl | rfl | rfl | rfl | rfl <;> simp [lvF] <;> simp_all
/-- the masks' writes: other fields, other nodes stay -/
theorem useN_o {nf : Nat → Nat → Int32} {m i j : Nat} {a b c : Int32} (h : i ≠ 7) : useN nf m a b c i j = nf i j := by
  unfold useN
  split
  · rfl
  split
  · rw [nfU_o h]
  split
  · rw [nfU_o h]
  split
  · rw [nfU_o h, nfU_o h]
  · rw [nfU_o h, nfU_o h, nfU_o h]
theorem nfU_c {nf nf' : Nat → Nat → Int32} {x j : Nat} {v : Int32} (h : nf' 7 j = nf 7 j) : nfU nf' 7 x v 7 j = nfU nf 7 x v 7 j := by
  unfold nfU
  rw [if_pos rfl, if_pos rfl]
  unfold upd
  split
  · rfl
  · exact h
theorem useN_c {nf nf' : Nat → Nat → Int32} {m j : Nat} {a b c : Int32} (h : nf' 7 j = nf 7 j) : useN nf' m a b c 7 j = useN nf m a b c 7 j := by
  unfold useN
  split
  · exact h
  split
  · exact nfU_c h
  split
  · exact nfU_c h
  split
  · exact nfU_c (nfU_c h)
  · exact nfU_c (nfU_c (nfU_c h))
theorem useN_n {nf : Nat → Nat → Int32} {nn m : Nat} {a b c : Int32} (hm : m = 0 ∨ m = 1 ∨ m = 2 ∨ m = 3 ∨ m = 7) (hn : nn ≤ 60) (h : (m = 1 ∨ m = 3 ∨ m = 7 → ∃ j, j < nn ∧ a = nI j) ∧ (m = 2 ∨ m = 3 ∨ m = 7 → ∃ j, j < nn ∧ b = nI j) ∧ (m = 7 → ∃ j, j < nn ∧ c = nI j)) : useN nf m a b c 7 nn = nf 7 nn := by
  have hA : (m = 1 ∨ m = 3 ∨ m = 7) → nn ≠ opN a := fun q => by
    obtain ⟨j, h1, rfl⟩ := h.1 q
    rw [opN_nI (by omega)]; omega
  have hB : (m = 2 ∨ m = 3 ∨ m = 7) → nn ≠ opN b := fun q => by
    obtain ⟨j, h1, rfl⟩ := h.2.1 q
    rw [opN_nI (by omega)]; omega
  have hC : m = 7 → nn ≠ opN c := fun q => by
    obtain ⟨j, h1, rfl⟩ := h.2.2 q
    rw [opN_nI (by omega)]; omega
  rcases hm with rfl | rfl | rfl | rfl | rfl
  · rfl
  · rw [show useN nf 1 a b c = nfU nf 7 (opN a) (nI 1) by simp [useN]]
    exact nfU_ne (hA (by decide))
  · rw [show useN nf 2 a b c = nfU nf 7 (opN b) (nI 1) by simp [useN]]
    exact nfU_ne (hB (by decide))
  · rw [show useN nf 3 a b c = nfU (nfU nf 7 (opN a) (nI 1)) 7 (opN b) (nI 1) by simp [useN]]
    exact (nfU_ne (hB (by decide))).trans (nfU_ne (hA (by decide)))
  · rw [show useN nf 7 a b c = nfU (nfU (nfU nf 7 (opN a) (nI 1)) 7 (opN b) (nI 1)) 7 (opN c) (nI 1) by simp [useN]]
    exact (nfU_ne (hC rfl)).trans ((nfU_ne (hB (by decide))).trans (nfU_ne (hA (by decide))))
def nodeOk (nn : Nat) (nf : Nat → Nat → Int32) (x a b c : Int32) : Bool :=
  decide (¬ x < 0) && (decide (¬ nI 21 < x) && (decide (nn < 60) && (plainF (opN x) a && (mfit nn nf (opsN (opN x)) a b c && (decide (¬ nI 64 < bndF nf (opN x) a b c) && (decide (¬ nI 2000 < wkF nf (opN x) a b c) && decide (lvF nf (opsN (opN x)) a b c ≤ nI 8)))))))
def ndPost (nn : Nat) (nf : Nat → Nat → Int32) (x a b c : Int32) (u : Nat → Nat → Int32) : Prop :=
  (∀ j, j < nn → ∀ i, i ≠ 7 → u i j = nf i j) ∧ (nodeOk nn nf x a b c = false → ∀ j, j < nn → u 7 j = nf 7 j) ∧ (nodeOk nn nf x a b c = true → (∀ j, j < nn → u 7 j = useN nf (opsN (opN x)) a b c 7 j) ∧ u 0 nn = x ∧ u 1 nn = a ∧ u 2 nn = b ∧ u 3 nn = c ∧ u 4 nn = bndF nf (opN x) a b c ∧ u 5 nn = wkF nf (opN x) a b c ∧ u 6 nn = lvF nf (opsN (opN x)) a b c ∧ u 7 nn = nI 0)
def nfFill (nf : Nat → Nat → Int32) (j : Nat) (x a b c : Int32) : Nat → Nat → Int32 := nfU (nfU (nfU (nfU (nfU nf 0 j x) 1 j a) 2 j b) 3 j c) 7 j (nI 0)
def nf4 (nf : Nat → Nat → Int32) (j : Nat) (x a b c B W L : Int32) : Nat → Nat → Int32 := nfU (nfU (nfU (nfFill nf j x a b c) 4 j B) 5 j W) 6 j L
theorem fill_lt {nf : Nat → Nat → Int32} {nn i j : Nat} {x a b c : Int32} (h : j < nn) : nfFill nf nn x a b c i j = nf i j := by
  have h : j ≠ nn := by omega
  unfold nfFill
  rw [nfU_ne h, nfU_ne h, nfU_ne h, nfU_ne h, nfU_ne h]
section ClassC
variable {l : Launch} {D : va_G} {cI cZ cN : ClassId} {ad : Nat → Nat} {nn qt tl rz qz : Nat} {ch rf qf : Nat → Int32} {nf : Nat → Nat → Int32}
set_option maxRecDepth 100000 in
set_option maxHeartbeats 4000000 in
theorem c_G_node {t : Nat} (x a b c : Int32) (hnn : nn ≤ 60) : CT l D (tyL cI cZ cN) (some t) y_G_node b_G_node 6 (some .int) 3 [.ref (ad 0), .int x, .int a, .int b, .int c] (WC ad cI cN nn qt tl ch rz rf qz qf nf) (ndPost nn nf x a b c) (fun _ => some (.int (if nodeOk nn nf x a b c = true then nI nn else -1))) (fun u => WC ad cI cN (if nodeOk nn nf x a b c = true then nn + 1 else nn) qt tl ch rz rf qz qf u) := by
  refine CT.of (by decide) (Nat.le_of_ble_eq_true rfl) ?_
  intro X A hl hX hF
  have bad : nodeOk nn nf x a b c = false → ndPost nn nf x a b c nf := fun h => ⟨fun _ _ _ _ => rfl, fun _ _ _ => rfl, fun q => by rw [h] at q; cases q⟩
  refine r_iload_n (i := 1) hX d_G_node_0 rfl rfl ?_
  refine r_if_lt 19 hX d_G_node_1 (by decide) (fun c1 => ?_) (fun c1 => ?_)
  · have hn : nodeOk nn nf x a b c = false := by simp [nodeOk, c1]
    refine r_iconst (v := -1) hX d_G_node_19 (by decide) ?_
    exact r_iret nf hX hF d_G_node_20 (bad hn) (by rw [hn]; rfl) (by rw [hn]; rfl)
  · refine r_iload_n (i := 1) hX d_G_node_4 rfl rfl ?_
    refine r_bipush (v := nI 21) hX d_G_node_5 (by decide) ?_
    refine r_icmp_gt 19 hX d_G_node_7 (by decide) (fun c7 => ?_) (fun c7 => ?_)
    · have hn : nodeOk nn nf x a b c = false := by simp [nodeOk, c7]
      refine r_iconst (v := -1) hX d_G_node_19 (by decide) ?_
      exact r_iret nf hX hF d_G_node_20 (bad hn) (by rw [hn]; rfl) (by rw [hn]; rfl)
    · refine r_aload_n (i := 0) hX d_G_node_10 rfl rfl ?_
      refine r_get 0 2 hX d_G_node_11 rfl rfl fi_G (by decide) fl_G_42 rfl rfl ?_
      refine r_bipush (v := nI 60) hX d_G_node_14 (by decide) ?_
      refine r_icmp_lt 21 hX d_G_node_16 (by decide) (fun c16 => ?_) (fun c16 => ?_)
      · have hlt := (nI_ltI (by omega) (by decide)).mp c16
        obtain ⟨k, hk, rfl⟩ := nI_of2 (M := nI 21) (n := 21) (by decide) c1 (Int32.not_lt.mp c7)
        have hkk : opN (nI k) = k := opN_nI (by omega)
        refine r_iload_n (i := 1) hX d_G_node_21 rfl rfl ?_
        refine r_iload_n (i := 2) hX d_G_node_22 rfl rfl ?_
        refine r_callSi [] hX d_G_node_23 cw_G_isPlainOperandFit ml_G_45 (c_G_isPlainOperandFit k a hk) (Or.inl rfl) rfl rfl (by decide) (Nat.le_of_ble_eq_true rfl) rfl (fun _ => rfl) rfl (fun _ _ => ?_)
        refine r_if_eq 45 hX d_G_node_26 (by decide) (fun c26 => ?_) (fun c26 => ?_)
        · have hn : nodeOk nn nf (nI k) a b c = false := by have := bI_0 c26; simp [nodeOk, hkk, this]
          refine r_iconst (v := -1) hX d_G_node_45 (by decide) ?_
          exact r_iret nf hX hF d_G_node_46 (bad hn) (by rw [hn]; rfl) (by rw [hn]; rfl)
        · have hpl := bI_1 c26
          refine r_aload_n (i := 0) hX d_G_node_29 rfl rfl ?_
          refine r_gets (ref := "") hX d_G_node_30 fl_G_49 ?_
          refine r_iload_n (i := 1) hX d_G_node_33 rfl rfl ?_
          refine r_ti (j := k) hX d_G_node_34 rfl (by omega) ?_
          refine r_iload_n (i := 2) hX d_G_node_35 rfl rfl ?_
          refine r_iload_n (i := 3) hX d_G_node_36 rfl rfl ?_
          refine r_iload hX d_G_node_37 rfl ?_
          refine r_callVwi (q0 := 0) hX d_G_node_39 cw_G_areNodeOperandsFit ml_G_53 (c_G_areNodeOperandsFit (opsN k) a b c (m5 hk) hnn) (Or.inl rfl) rfl rfl rfl rfl (by decide) (Nat.le_of_ble_eq_true rfl) (fun _ => rfl) (fun _ _ => ?_)
          refine r_if_ne 47 hX d_G_node_42 (by decide) (fun c42 => ?_) (fun c42 => ?_)
          · have hfit := bI_1 c42
            have hmm := mfit_m (m5 hk) hfit hnn
            have hoN := mfit_k hk hfit hnn
            have hops := hoN.ops hnn
            have hoM := mfit_okM (m5 hk) hfit hnn
            refine r_aload_n (i := 0) hX d_G_node_47 rfl rfl ?_
            refine r_get 0 1 hX d_G_node_48 rfl rfl fi_G (by decide) fl_G_18 rfl rfl ?_
            refine r_aload_n (i := 0) hX d_G_node_51 rfl rfl ?_
            refine r_get 0 2 hX d_G_node_52 rfl rfl fi_G (by decide) fl_G_42 rfl rfl ?_
            refine r_aald 3 2 (nn) hX d_G_node_55 rfl rfl rfl (by omega) (by decide) rfl ?_
            refine r_astore hX d_G_node_56 (by decide) ?_
            refine r_aload hX d_G_node_58 rfl ?_
            refine r_iload_n (i := 1) hX d_G_node_60 rfl rfl ?_
            refine r_iload_n (i := 2) hX d_G_node_61 rfl rfl ?_
            refine r_iload_n (i := 3) hX d_G_node_62 rfl rfl ?_
            refine r_iload hX d_G_node_63 rfl ?_
            refine r_callVv (q0 := 0) [8 + nn] hX d_G_node_65 cw_N_fill ml_G_57 (c_N_fill (kd := nf 0 nn) (a := nf 1 nn) (b := nf 2 nn) (c := nf 3 nn) (bd := nf 4 nn) (wk := nf 5 nn) (le := nf 6 nn) (us := nf 7 nn) (nI k) a b c) (Or.inl rfl) rfl rfl rfl rfl (by decide) (Nat.le_of_ble_eq_true rfl) (by rw [List.map_cons, List.map_nil, wc_at rfl hlt]; rfl) (fun _ => rfl) rfl (fun _ _ => ?_)
            refine r_ws (ws' := WC ad cI cN nn qt tl ch rz rf qz qf (nfFill nf nn (nI k) a b c)) (wc_set rfl (by simp [ndF, nfFill, nfU, pk_us]) (fun i hi m => by unfold nfFill; rw [nfU_ne hi, nfU_ne hi, nfU_ne hi, nfU_ne hi, nfU_ne hi])) ?_
            refine r_aload hX d_G_node_68 rfl ?_
            refine r_aload_n (i := 0) hX d_G_node_70 rfl rfl ?_
            refine r_aload hX d_G_node_71 rfl ?_
            refine r_callVwi (q0 := 0) hX d_G_node_73 cw_G_boundOf ml_G_61 (c_G_boundOf nn k a b c hlt (by simp [nfFill, nfU, pk_us]) hk (by simp [nfFill, nfU, pk_us]) (by simp [nfFill, nfU, pk_us]) (by simp [nfFill, nfU, pk_us]) hops) (Or.inl rfl) rfl rfl rfl rfl (by decide) (Nat.le_of_ble_eq_true rfl) (fun _ => rfl) (fun _ _ => ?_)
            refine r_top (bndF_congr hk hnn hoN (fun j hj => fill_lt hj)) ?_
            generalize hB : bndF nf k a b c = B
            refine r_put (8 + nn) 4 hX d_G_node_76 (wc_at rfl hlt) rfl fi_N ft_N_ok fn_N (by decide) fl_G_65 rfl rfl rfl rfl rfl (Nat.le_of_ble_eq_true rfl) ?_
            refine r_ws (wc_put rfl (by decide)) ?_
            refine r_aload hX d_G_node_79 rfl ?_
            refine r_aload_n (i := 0) hX d_G_node_81 rfl rfl ?_
            refine r_aload hX d_G_node_82 rfl ?_
            refine r_callVwi (q0 := 0) hX d_G_node_84 cw_G_workOf ml_G_68 (c_G_workOf nn k a b c hlt (by simp [nfFill, nfU, pk_us]) hk (by simp [nfFill, nfU, pk_us]) (by simp [nfFill, nfU, pk_us]) (by simp [nfFill, nfU, pk_us]) hops) (Or.inl rfl) rfl rfl rfl rfl (by decide) (Nat.le_of_ble_eq_true rfl) (fun _ => rfl) (fun _ _ => ?_)
            refine r_top (wkF_congr (nf := nf) hk hnn hoN (fun j hj => by rw [nfU_ne (by omega), fill_lt hj]) (fun j hj => by rw [nfU_ne (by omega), fill_lt hj])) ?_
            generalize hW : wkF nf k a b c = W
            refine r_put (8 + nn) 5 hX d_G_node_87 (wc_at rfl hlt) rfl fi_N ft_N_ok fn_N (by decide) fl_G_71 rfl rfl rfl rfl rfl (Nat.le_of_ble_eq_true rfl) ?_
            refine r_ws (wc_put rfl (by decide)) ?_
            refine r_aload hX d_G_node_90 rfl ?_
            refine r_aload_n (i := 0) hX d_G_node_92 rfl rfl ?_
            refine r_aload hX d_G_node_93 rfl ?_
            refine r_callVwi (q0 := 0) hX d_G_node_95 cw_G_levelOf ml_G_74 (c_G_levelOf (t := t) nn k (opsN k) a b c hlt (by simp [nfFill, nfU, pk_us]) hk rfl (by simp [nfFill, nfU, pk_us]) (by simp [nfFill, nfU, pk_us]) (by simp [nfFill, nfU, pk_us]) hoM) (Or.inr rfl) rfl rfl rfl rfl (by decide) (Nat.le_of_ble_eq_true rfl) (fun _ => rfl) (fun _ _ => ?_)
            refine r_top (lvF_congr (nf := nf) (m5 hk) hnn hmm (fun j hj => by rw [nfU_ne (by omega), nfU_ne (by omega), fill_lt hj])) ?_
            generalize hL : lvF nf (opsN k) a b c = L
            refine r_put (8 + nn) 6 hX d_G_node_98 (wc_at rfl hlt) rfl fi_N ft_N_ok fn_N (by decide) fl_G_77 rfl rfl rfl rfl rfl (Nat.le_of_ble_eq_true rfl) ?_
            refine r_ws (wc_put rfl (by decide)) ?_
            have e4 : nf4 nf nn (nI k) a b c B W L 4 nn = B := by simp [nf4, nfU, pk_us]
            have e5 : nf4 nf nn (nI k) a b c B W L 5 nn = W := by simp [nf4, nfU, pk_us]
            have e6 : nf4 nf nn (nI k) a b c B W L 6 nn = L := by simp [nf4, nfU, pk_us]
            have elt : ∀ j, j < nn → ∀ i, nf4 nf nn (nI k) a b c B W L i j = nf i j := fun j hj i => by
              unfold nf4
              rw [nfU_ne (by omega), nfU_ne (by omega), nfU_ne (by omega), fill_lt hj]
            have bad4 : nodeOk nn nf (nI k) a b c = false → ndPost nn nf (nI k) a b c (nf4 nf nn (nI k) a b c B W L) := fun h => ⟨fun j hj i _ => elt j hj i, fun _ j hj => elt j hj 7, fun q => by rw [h] at q; cases q⟩
            refine r_ws (ws' := WC ad cI cN nn qt tl ch rz rf qz qf (nf4 nf nn (nI k) a b c B W L)) rfl ?_
            refine r_aload hX d_G_node_101 rfl ?_
            refine r_get (8 + nn) 4 hX d_G_node_103 (wc_at rfl hlt) rfl fi_N (by decide) fl_G_65 rfl rfl ?_
            refine r_top e4 ?_
            refine r_bipush (v := nI 64) hX d_G_node_106 (by decide) ?_
            refine r_icmp_gt 132 hX d_G_node_108 (by decide) (fun c108 => ?_) (fun c108 => ?_)
            · have hn : nodeOk nn nf (nI k) a b c = false := by simp [nodeOk, hkk, hB, c108]
              refine r_iconst (v := -1) hX d_G_node_132 (by decide) ?_
              exact r_iret (nf4 nf nn (nI k) a b c B W L) hX hF d_G_node_133 (bad4 hn) (by rw [hn]; rfl) (by rw [hn]; rfl)
            · refine r_aload hX d_G_node_111 rfl ?_
              refine r_get (8 + nn) 5 hX d_G_node_113 (wc_at rfl hlt) rfl fi_N (by decide) fl_G_71 rfl rfl ?_
              refine r_top e5 ?_
              refine r_sipush (v := nI 2000) hX d_G_node_116 (by decide) ?_
              refine r_icmp_gt 132 hX d_G_node_119 (by decide) (fun c119 => ?_) (fun c119 => ?_)
              · have hn : nodeOk nn nf (nI k) a b c = false := by simp [nodeOk, hkk, hW, c119]
                refine r_iconst (v := -1) hX d_G_node_132 (by decide) ?_
                exact r_iret (nf4 nf nn (nI k) a b c B W L) hX hF d_G_node_133 (bad4 hn) (by rw [hn]; rfl) (by rw [hn]; rfl)
              · refine r_aload hX d_G_node_122 rfl ?_
                refine r_get (8 + nn) 6 hX d_G_node_124 (wc_at rfl hlt) rfl fi_N (by decide) fl_G_77 rfl rfl ?_
                refine r_top e6 ?_
                refine r_bipush (v := nI 8) hX d_G_node_127 (by decide) ?_
                refine r_icmp_le 134 hX d_G_node_129 (by decide) (fun c129 => ?_) (fun c129 => ?_)
                · have hn : nodeOk nn nf (nI k) a b c = true := by simp [nodeOk, hkk, hB, hW, hL, c1, c7, c108, c119, c129, hlt, hpl, hfit]
                  refine r_aload_n (i := 0) hX d_G_node_134 rfl rfl ?_
                  refine r_aload hX d_G_node_135 rfl ?_
                  refine r_callVwv (q0 := 0) hX d_G_node_137 cw_G_useOperands ml_G_80 (c_G_useOperands (t := t) nn k (opsN k) a b c hlt (by simp [nf4, nfFill, nfU, pk_us]) hk rfl (by simp [nf4, nfFill, nfU, pk_us]) (by simp [nf4, nfFill, nfU, pk_us]) (by simp [nf4, nfFill, nfU, pk_us]) hoM) (Or.inr rfl) rfl rfl rfl rfl (by decide) (Nat.le_of_ble_eq_true rfl) (fun _ => rfl) (fun _ _ => ?_)
                  refine r_aload_n (i := 0) hX d_G_node_140 rfl rfl ?_
                  refine r_dup hX d_G_node_141 rfl ?_
                  refine r_get 0 2 hX d_G_node_142 rfl rfl fi_G (by decide) fl_G_42 rfl rfl ?_
                  refine r_iconst (v := nI 1) hX d_G_node_145 (by decide) ?_
                  refine r_iadd hX d_G_node_146 ?_
                  refine r_top (nI_add _ _) ?_
                  refine r_put 0 2 hX d_G_node_147 rfl rfl fi_G ft_G_ok fn_G (by decide) fl_G_42 rfl rfl rfl rfl rfl (Nat.le_of_ble_eq_true rfl) ?_
                  refine r_aload_n (i := 0) hX d_G_node_150 rfl rfl ?_
                  refine r_get 0 2 hX d_G_node_151 rfl rfl fi_G (by decide) fl_G_42 rfl rfl ?_
                  refine r_iconst (v := nI 1) hX d_G_node_154 (by decide) ?_
                  refine r_isub hX d_G_node_155 ?_
                  refine r_top (pk_sub (by omega)) ?_
                  exact r_iret (useN (nf4 nf nn (nI k) a b c B W L) (opsN k) a b c) hX hF d_G_node_156 ⟨fun j hj i hi => (useN_o hi).trans (elt j hj i), fun q => (by rw [hn] at q; cases q), fun _ => (by rw [hkk, hB, hW, hL]; exact ⟨fun j hj => useN_c (elt j hj 7), (useN_o (by decide)).trans (by simp [nf4, nfFill, nfU, pk_us]), (useN_o (by decide)).trans (by simp [nf4, nfFill, nfU, pk_us]), (useN_o (by decide)).trans (by simp [nf4, nfFill, nfU, pk_us]), (useN_o (by decide)).trans (by simp [nf4, nfFill, nfU, pk_us]), (useN_o (by decide)).trans e4, (useN_o (by decide)).trans e5, (useN_o (by decide)).trans e6, (useN_n (m5 hk) hnn hmm).trans (by simp [nf4, nfFill, nfU, pk_us])⟩)⟩ (by rw [hn]; rfl) (by rw [hn]; rfl)
                · have hn : nodeOk nn nf (nI k) a b c = false := by simp [nodeOk, hkk, hL, c129]
                  refine r_iconst (v := -1) hX d_G_node_132 (by decide) ?_
                  exact r_iret (nf4 nf nn (nI k) a b c B W L) hX hF d_G_node_133 (bad4 hn) (by rw [hn]; rfl) (by rw [hn]; rfl)
          · have hn : nodeOk nn nf (nI k) a b c = false := by have := bI_0 c42; simp [nodeOk, hkk, this]
            refine r_iconst (v := -1) hX d_G_node_45 (by decide) ?_
            exact r_iret nf hX hF d_G_node_46 (bad hn) (by rw [hn]; rfl) (by rw [hn]; rfl)
      · have hn : nodeOk nn nf x a b c = false := by
          have : ¬ nn < 60 := fun h => c16 (nI_lt h (by decide))
          simp [nodeOk, this]
        refine r_iconst (v := -1) hX d_G_node_19 (by decide) ?_
        exact r_iret nf hX hF d_G_node_20 (bad hn) (by rw [hn]; rfl) (by rw [hn]; rfl)
end ClassC
