/-! solve: by induction on the LEVEL. -/
theorem stGet_row {f : Nat → Int32} {ro v : Nat} (hv : v < 4) : stGet (gRow f ro).2 (1 + v) = f (6 * ro + 2 + v) := by
  unfold stGet
  rw [dif_pos (by omega)]
  show f (6 * ro + 1 + (1 + v)) = _
  congr 1
  omega
section ClassG
variable {l : Launch} {D : va_G} {cI cZ cN : ClassId} {ad : Nat → Nat} {nn qt tl qz : Nat} {ch qf : Nat → Int32} {nf : Nat → Nat → Int32}
set_option maxRecDepth 100000 in
set_option maxHeartbeats 4000000 in
theorem c_G_solve (ht : tl ≤ 24) (hn60 : nn ≤ 60) (hw : WFn nn nf) : ∀ n j, j < nn → vN nf j ≤ n → SV l D cI cZ cN ad nn qt tl ch qz qf nf (2 * n + 6) (128 * n) j (ev tl ch (ndOf nf) n j) := by
  intro n
  induction n with
  | zero =>
    intro j hj hv
    have := (hw j hj).2.2.2.1
    omega
  | succ n ih =>
    intro j hj hv ro z rf hro hz hok
    obtain ⟨h0, hk, h6, hv1, hv8, h4, hB, hbnd, hpl, hop, hlA, hlB, hlC⟩ := hw j hj
    obtain ⟨hp1, hp2⟩ := okSt_pl hok ht
    have hj60 : j < 60 := by omega
    have hp : rf (6 * ro + 1) = nI (stPl (gRow rf ro).2) := hp2
    have hA : (8 ≤ kN nf j ∧ kN nf j ≠ 17 ∧ kN nf j ≠ 18) → ∃ a, a < nn ∧ nf 1 j = nI a ∧ opN (nf 1 j) = a ∧ 1 ≤ n ∧ SV l D cI cZ cN ad nn qt tl ch qz qf nf (2 * n + 6) (128 * n) a (ev tl ch (ndOf nf) n a) ∧ ∀ s, okSt tl s → (ev tl ch (ndOf nf) n a s).length ≤ 64 ∧ ∀ r ∈ ev tl ch (ndOf nf) n a s, okSt tl r.2 := by
      intro q
      obtain ⟨a, ha, he⟩ := hop.1 q
      have hlt := hlA q
      have ho : opN (nf 1 j) = a := by rw [he]; exact opN_nI (by omega)
      rw [ho] at hlt
      have hwa := hw a (by omega)
      exact ⟨a, by omega, he, ho, by have := hwa.2.2.2.1; omega, ih a (by omega) (by omega), fun s hs => ⟨Nat.le_trans (ev_ok ht nn hn60 hw n a (by omega) (by omega) s hs).1 hwa.2.2.2.2.2.2.1, (ev_ok ht nn hn60 hw n a (by omega) (by omega) s hs).2⟩⟩
    have hBb : (9 ≤ kN nf j ∧ kN nf j ≤ 19) → ∃ a, a < nn ∧ nf 2 j = nI a ∧ opN (nf 2 j) = a ∧ 1 ≤ n ∧ SV l D cI cZ cN ad nn qt tl ch qz qf nf (2 * n + 6) (128 * n) a (ev tl ch (ndOf nf) n a) ∧ ∀ s, okSt tl s → (ev tl ch (ndOf nf) n a s).length ≤ 64 ∧ ∀ r ∈ ev tl ch (ndOf nf) n a s, okSt tl r.2 := by
      intro q
      obtain ⟨a, ha, he⟩ := hop.2.1 q
      have hlt := hlB q
      have ho : opN (nf 2 j) = a := by rw [he]; exact opN_nI (by omega)
      rw [ho] at hlt
      have hwa := hw a (by omega)
      exact ⟨a, by omega, he, ho, by have := hwa.2.2.2.1; omega, ih a (by omega) (by omega), fun s hs => ⟨Nat.le_trans (ev_ok ht nn hn60 hw n a (by omega) (by omega) s hs).1 hwa.2.2.2.2.2.2.1, (ev_ok ht nn hn60 hw n a (by omega) (by omega) s hs).2⟩⟩
    have hCc : kN nf j = 19 → ∃ a, a < nn ∧ nf 3 j = nI a ∧ opN (nf 3 j) = a ∧ 1 ≤ n ∧ SV l D cI cZ cN ad nn qt tl ch qz qf nf (2 * n + 6) (128 * n) a (ev tl ch (ndOf nf) n a) ∧ ∀ s, okSt tl s → (ev tl ch (ndOf nf) n a s).length ≤ 64 ∧ ∀ r ∈ ev tl ch (ndOf nf) n a s, okSt tl r.2 := by
      intro q
      obtain ⟨a, ha, he⟩ := hop.2.2 q
      have hlt := hlC q
      have ho : opN (nf 3 j) = a := by rw [he]; exact opN_nI (by omega)
      rw [ho] at hlt
      have hwa := hw a (by omega)
      exact ⟨a, by omega, he, ho, by have := hwa.2.2.2.1; omega, ih a (by omega) (by omega), fun s hs => ⟨Nat.le_trans (ev_ok ht nn hn60 hw n a (by omega) (by omega) s hs).1 hwa.2.2.2.2.2.2.1, (ev_ok ht nn hn60 hw n a (by omega) (by omega) s hs).2⟩⟩
    have hevl := Nat.le_trans (ev_ok (ch := ch) ht nn hn60 hw (n + 1) j hj hv _ hok).1 hB
    have hNa : (ndOf nf).2.1 j = nf 1 j := rfl
    have hNb : (ndOf nf).2.2.1 j = nf 2 j := rfl
    have hNc : (ndOf nf).2.2.2 j = nf 3 j := rfl
    have hN1 : (ndOf nf).1 j = kN nf j := rfl
    refine CT.of (by decide) (Nat.le_of_ble_eq_true rfl) ?_
    intro X A hl hX hF
    subst hl
    generalize hkk : kN nf j = k at *

    refine r_aload_n (i := 0) hX d_G_solve_0 rfl rfl ?_
    refine r_get 0 1 hX d_G_solve_1 rfl rfl fi_G (by decide) fl_G_18 rfl rfl ?_
    refine r_iload_n (i := 1) hX d_G_solve_4 rfl rfl ?_
    refine r_aald 3 2 (j) hX d_G_solve_5 rfl rfl rfl (by omega) (by decide) rfl ?_
    refine r_astore_n (i := 3) hX d_G_solve_6 rfl (by decide) ?_
    refine r_aload_n (i := 3) hX d_G_solve_7 rfl rfl ?_
    refine r_get (8 + j) 0 hX d_G_solve_8 (wc_at rfl hj60) rfl fi_N (by decide) fl_G_129 rfl rfl ?_
    refine r_top h0 ?_
    rcases k22 hk with rfl | rfl | rfl | rfl | rfl | rfl | rfl | rfl | rfl | rfl | rfl | rfl | rfl | rfl | rfl | rfl | rfl | rfl | rfl | rfl | rfl | rfl
    · rw [ev_k0 hkk, hNa] at hF
      refine r_tableIn (off := 101) 112 hX d_G_solve_11 (by decide) (by decide) (by decide) (by decide) ?_
      refine r_aload_n (i := 0) hX d_G_solve_112 rfl rfl ?_
      refine r_get 0 3 hX d_G_solve_113 rfl rfl fi_G (by decide) fl_G_28 rfl rfl ?_
      refine r_aload_n (i := 3) hX d_G_solve_116 rfl rfl ?_
      refine r_get (8 + j) 1 hX d_G_solve_117 (wc_at rfl hj60) rfl fi_N (by decide) fl_G_132 rfl rfl ?_
      refine r_iload_n (i := 2) hX d_G_solve_120 rfl rfl ?_
      refine r_callVv (q0 := 0) [4, 5] hX d_G_solve_121 cw_R_push ml_G_160 (c_R_push (nf 1 j) ro z (by omega) (by omega) (by omega) (by decide) (by decide)) (Or.inl rfl) rfl rfl rfl rfl (by omega) (Nat.le_of_ble_eq_true rfl) rfl (fun _ => rfl) rfl (fun _ _ => ?_)
      exact r_goto 312 hX d_G_solve_124 (by decide) (r_vret (pushF rf ro z (nf 1 j)) hX hF d_G_solve_312 (slP.nil.push hro rfl) rfl rfl)
    · obtain ⟨v, hv4, hev⟩ := inR_of (by simpa [plainF] using hpl) (by decide)
      rw [ev_k1 hkk, hNa, hev, opN_nI (by omega), stGet_row hv4] at hF
      refine r_tableIn (off := 116) 127 hX d_G_solve_11 (by decide) (by decide) (by decide) (by decide) ?_
      refine r_aload_n (i := 0) hX d_G_solve_127 rfl rfl ?_
      refine r_get 0 3 hX d_G_solve_128 rfl rfl fi_G (by decide) fl_G_28 rfl rfl ?_
      refine r_aload_n (i := 0) hX d_G_solve_131 rfl rfl ?_
      refine r_get 0 3 hX d_G_solve_132 rfl rfl fi_G (by decide) fl_G_28 rfl rfl ?_
      refine r_iload_n (i := 2) hX d_G_solve_135 rfl rfl ?_
      refine r_aload_n (i := 3) hX d_G_solve_136 rfl rfl ?_
      refine r_get (8 + j) 1 hX d_G_solve_137 (wc_at rfl hj60) rfl fi_N (by decide) fl_G_132 rfl rfl ?_
      refine r_top hev ?_
      refine r_callVi (q0 := 0) [4, 5] hX d_G_solve_140 cw_R_variableAt ml_G_104 (c_R_variableAt ro v (by omega) (by decide)) (Or.inl rfl) rfl rfl rfl rfl (by omega) (Nat.le_of_ble_eq_true rfl) rfl (fun _ => rfl) rfl (fun _ _ => ?_)
      refine r_iload_n (i := 2) hX d_G_solve_143 rfl rfl ?_
      refine r_callVv (q0 := 0) [4, 5] hX d_G_solve_144 cw_R_push ml_G_160 (c_R_push (rf (6 * ro + 2 + v)) ro z (by omega) (by omega) (by omega) (by decide) (by decide)) (Or.inl rfl) rfl rfl rfl rfl (by omega) (Nat.le_of_ble_eq_true rfl) rfl (fun _ => rfl) rfl (fun _ _ => ?_)
      exact r_goto 312 hX d_G_solve_147 (by decide) (r_vret (pushF rf ro z (rf (6 * ro + 2 + v))) hX hF d_G_solve_312 (slP.nil.push hro rfl) rfl rfl)
    · rw [ev_k2 hkk] at hF
      refine r_tableIn (off := 139) 150 hX d_G_solve_11 (by decide) (by decide) (by decide) (by decide) ?_
      refine r_aload_n (i := 0) hX d_G_solve_150 rfl rfl ?_
      refine r_get 0 3 hX d_G_solve_151 rfl rfl fi_G (by decide) fl_G_28 rfl rfl ?_
      refine r_aload_n (i := 0) hX d_G_solve_154 rfl rfl ?_
      refine r_get 0 3 hX d_G_solve_155 rfl rfl fi_G (by decide) fl_G_28 rfl rfl ?_
      refine r_iload_n (i := 2) hX d_G_solve_158 rfl rfl ?_
      refine r_callVi (q0 := 0) [4, 5] hX d_G_solve_159 cw_R_placeAt ml_G_98 (c_R_placeAt ro (by omega) (by decide)) (Or.inl rfl) rfl rfl rfl rfl (by omega) (Nat.le_of_ble_eq_true rfl) rfl (fun _ => rfl) rfl (fun _ _ => ?_)
      refine r_iload_n (i := 2) hX d_G_solve_162 rfl rfl ?_
      refine r_callVv (q0 := 0) [4, 5] hX d_G_solve_163 cw_R_push ml_G_160 (c_R_push (rf (6 * ro + 1)) ro z (by omega) (by omega) (by omega) (by decide) (by decide)) (Or.inl rfl) rfl rfl rfl rfl (by omega) (Nat.le_of_ble_eq_true rfl) rfl (fun _ => rfl) rfl (fun _ _ => ?_)
      exact r_goto 312 hX d_G_solve_166 (by decide) (r_vret (pushF rf ro z (rf (6 * ro + 1))) hX hF d_G_solve_312 (slP.nil.push hro rfl) rfl rfl)
    · rw [ev_k3 hkk] at hF
      refine r_tableIn (off := 158) 169 hX d_G_solve_11 (by decide) (by decide) (by decide) (by decide) ?_
      refine r_aload_n (i := 0) hX d_G_solve_169 rfl rfl ?_
      refine r_get 0 3 hX d_G_solve_170 rfl rfl fi_G (by decide) fl_G_28 rfl rfl ?_
      refine r_aload_n (i := 0) hX d_G_solve_173 rfl rfl ?_
      refine r_get 0 0 hX d_G_solve_174 rfl rfl fi_G (by decide) fl_G_12 rfl rfl ?_
      refine r_get 1 1 hX d_G_solve_177 rfl rfl fi_T (by decide) fl_G_35 rfl rfl ?_
      refine r_iload_n (i := 2) hX d_G_solve_180 rfl rfl ?_
      refine r_callVv (q0 := 0) [4, 5] hX d_G_solve_181 cw_R_push ml_G_160 (c_R_push (nI tl) ro z (by omega) (by omega) (by omega) (by decide) (by decide)) (Or.inl rfl) rfl rfl rfl rfl (by omega) (Nat.le_of_ble_eq_true rfl) rfl (fun _ => rfl) rfl (fun _ _ => ?_)
      exact r_goto 312 hX d_G_solve_184 (by decide) (r_vret (pushF rf ro z (nI tl)) hX hF d_G_solve_312 (slP.nil.push hro rfl) rfl rfl)
    · refine r_tableIn (off := 176) 187 hX d_G_solve_11 (by decide) (by decide) (by decide) (by decide) ?_
      refine r_aload_n (i := 0) hX d_G_solve_187 rfl rfl ?_
      refine r_aload_n (i := 3) hX d_G_solve_188 rfl rfl ?_
      refine r_get (8 + j) 1 hX d_G_solve_189 (wc_at rfl hj60) rfl fi_N (by decide) fl_G_132 rfl rfl ?_
      refine r_iload_n (i := 2) hX d_G_solve_192 rfl rfl ?_
      refine r_callVwv (q0 := 0) hX d_G_solve_193 cw_G_solveOne ml_G_163 (c_G_solveOne (nf 1 j) ro (stPl (gRow rf ro).2) hro (by omega) hp hp1 ht (ev tl ch (ndOf nf) (n + 1) j (gRow rf ro).2) (ev_k4 (N := ndOf nf) hkk)) (Or.inl rfl) rfl rfl rfl rfl (by omega) (Nat.le_of_ble_eq_true rfl) (fun _ => rfl) (fun u hu => ?_)
      exact r_goto 312 hX d_G_solve_196 (by decide) (r_vret u hX hF d_G_solve_312 hu rfl rfl)
    · refine r_tableIn (off := 188) 199 hX d_G_solve_11 (by decide) (by decide) (by decide) (by decide) ?_
      refine r_aload_n (i := 0) hX d_G_solve_199 rfl rfl ?_
      refine r_aload_n (i := 3) hX d_G_solve_200 rfl rfl ?_
      refine r_get (8 + j) 1 hX d_G_solve_201 (wc_at rfl hj60) rfl fi_N (by decide) fl_G_132 rfl rfl ?_
      refine r_iload_n (i := 2) hX d_G_solve_204 rfl rfl ?_
      refine r_callVwv (q0 := 0) hX d_G_solve_205 cw_G_solveRun ml_G_166 (c_G_solveRun (nf 1 j) ro (stPl (gRow rf ro).2) _ hro (by omega) hp hp1 ht rfl (ev tl ch (ndOf nf) (n + 1) j (gRow rf ro).2) (ev_k5 (N := ndOf nf) hkk)) (Or.inl rfl) rfl rfl rfl rfl (by omega) (Nat.le_of_ble_eq_true rfl) (fun _ => rfl) (fun u hu => ?_)
      exact r_goto 312 hX d_G_solve_208 (by decide) (r_vret u hX hF d_G_solve_312 hu rfl rfl)
    · refine r_tableIn (off := 200) 211 hX d_G_solve_11 (by decide) (by decide) (by decide) (by decide) ?_
      refine r_aload_n (i := 0) hX d_G_solve_211 rfl rfl ?_
      refine r_iload_n (i := 2) hX d_G_solve_212 rfl rfl ?_
      refine r_callVwv (q0 := 0) hX d_G_solve_213 cw_G_solveValue ml_G_169 (c_G_solveValue ro (stPl (gRow rf ro).2) _ hro (by omega) hp hp1 ht rfl (ev tl ch (ndOf nf) (n + 1) j (gRow rf ro).2) (ev_k6 (N := ndOf nf) hkk)) (Or.inl rfl) rfl rfl rfl rfl (by omega) (Nat.le_of_ble_eq_true rfl) (fun _ => rfl) (fun u hu => ?_)
      exact r_goto 312 hX d_G_solve_216 (by decide) (r_vret u hX hF d_G_solve_312 hu rfl rfl)
    · refine r_tableIn (off := 208) 219 hX d_G_solve_11 (by decide) (by decide) (by decide) (by decide) ?_
      refine r_aload_n (i := 0) hX d_G_solve_219 rfl rfl ?_
      refine r_aload_n (i := 3) hX d_G_solve_220 rfl rfl ?_
      refine r_get (8 + j) 1 hX d_G_solve_221 (wc_at rfl hj60) rfl fi_N (by decide) fl_G_132 rfl rfl ?_
      refine r_iload_n (i := 2) hX d_G_solve_224 rfl rfl ?_
      refine r_callVwv (q0 := 0) hX d_G_solve_225 cw_G_solveSeek ml_G_172 (c_G_solveSeek (nf 1 j) ro (stPl (gRow rf ro).2) hro (by omega) hp hp1 ht (ev tl ch (ndOf nf) (n + 1) j (gRow rf ro).2) (ev_k7 (N := ndOf nf) hkk)) (Or.inl rfl) rfl rfl rfl rfl (by omega) (Nat.le_of_ble_eq_true rfl) (fun _ => rfl) (fun u hu => ?_)
      exact r_goto 312 hX d_G_solve_228 (by decide) (r_vret u hX hF d_G_solve_312 hu rfl rfl)
    · obtain ⟨ja, hja, hea, hoa, hn1, hSa, hra⟩ := hA (by decide)
      rw [ev_k8 hkk, hNa, hoa] at hF
      refine r_tableIn (off := 220) 231 hX d_G_solve_11 (by decide) (by decide) (by decide) (by decide) ?_
      refine r_aload_n (i := 0) hX d_G_solve_231 rfl rfl ?_
      refine r_aload_n (i := 3) hX d_G_solve_232 rfl rfl ?_
      refine r_iload_n (i := 2) hX d_G_solve_233 rfl rfl ?_
      refine r_callVwv (q0 := 0) hX d_G_solve_234 cw_G_solveGo ml_G_175 (c_G_solveGo (2 * n + 6) (128 * n) j ja ro _ hj60 hea hSa (by omega) hro (by omega) ht hok (hra _ hok).1) (Or.inl rfl) rfl rfl rfl rfl (by omega) (Nat.le_of_ble_eq_true rfl) (fun _ => rfl) (fun u hu => ?_)
      exact r_goto 312 hX d_G_solve_237 (by decide) (r_vret u hX hF d_G_solve_312 hu rfl rfl)
    · obtain ⟨ja, hja, hea, hoa, hn1, hSa, hra⟩ := hA (by decide)
      obtain ⟨jb, hjb, heb, hob, hn1b, hSb, hrb⟩ := hBb (by decide)
      rw [ev_pairs (by rw [hN1]; omega), hN1, hNa, hNb, hoa, hob] at hF hevl
      refine r_tableIn (off := 295) 306 hX d_G_solve_11 (by decide) (by decide) (by decide) (by decide) ?_
      refine r_aload_n (i := 0) hX d_G_solve_306 rfl rfl ?_
      refine r_aload_n (i := 3) hX d_G_solve_307 rfl rfl ?_
      refine r_iload_n (i := 2) hX d_G_solve_308 rfl rfl ?_
      refine r_callVwv (q0 := 0) hX d_G_solve_309 cw_G_solvePairs ml_G_194 (c_G_solvePairs (2 * n + 6) (128 * n) j _ ja jb ro _ _ hj60 h0 (by omega) hea heb hSa hSb (by omega) (by omega) hro (by omega) hok (hra _ hok).1 (hra _ hok).2 (fun s hs => (hrb s hs).1) hevl) (Or.inl rfl) rfl rfl rfl rfl (by omega) (Nat.le_of_ble_eq_true rfl) (fun _ => rfl) (fun u hu => ?_)
      exact r_vret u hX hF d_G_solve_312 hu rfl rfl
    · obtain ⟨ja, hja, hea, hoa, hn1, hSa, hra⟩ := hA (by decide)
      obtain ⟨jb, hjb, heb, hob, hn1b, hSb, hrb⟩ := hBb (by decide)
      rw [ev_pairs (by rw [hN1]; omega), hN1, hNa, hNb, hoa, hob] at hF hevl
      refine r_tableIn (off := 295) 306 hX d_G_solve_11 (by decide) (by decide) (by decide) (by decide) ?_
      refine r_aload_n (i := 0) hX d_G_solve_306 rfl rfl ?_
      refine r_aload_n (i := 3) hX d_G_solve_307 rfl rfl ?_
      refine r_iload_n (i := 2) hX d_G_solve_308 rfl rfl ?_
      refine r_callVwv (q0 := 0) hX d_G_solve_309 cw_G_solvePairs ml_G_194 (c_G_solvePairs (2 * n + 6) (128 * n) j _ ja jb ro _ _ hj60 h0 (by omega) hea heb hSa hSb (by omega) (by omega) hro (by omega) hok (hra _ hok).1 (hra _ hok).2 (fun s hs => (hrb s hs).1) hevl) (Or.inl rfl) rfl rfl rfl rfl (by omega) (Nat.le_of_ble_eq_true rfl) (fun _ => rfl) (fun u hu => ?_)
      exact r_vret u hX hF d_G_solve_312 hu rfl rfl
    · obtain ⟨ja, hja, hea, hoa, hn1, hSa, hra⟩ := hA (by decide)
      obtain ⟨jb, hjb, heb, hob, hn1b, hSb, hrb⟩ := hBb (by decide)
      rw [ev_pairs (by rw [hN1]; omega), hN1, hNa, hNb, hoa, hob] at hF hevl
      refine r_tableIn (off := 295) 306 hX d_G_solve_11 (by decide) (by decide) (by decide) (by decide) ?_
      refine r_aload_n (i := 0) hX d_G_solve_306 rfl rfl ?_
      refine r_aload_n (i := 3) hX d_G_solve_307 rfl rfl ?_
      refine r_iload_n (i := 2) hX d_G_solve_308 rfl rfl ?_
      refine r_callVwv (q0 := 0) hX d_G_solve_309 cw_G_solvePairs ml_G_194 (c_G_solvePairs (2 * n + 6) (128 * n) j _ ja jb ro _ _ hj60 h0 (by omega) hea heb hSa hSb (by omega) (by omega) hro (by omega) hok (hra _ hok).1 (hra _ hok).2 (fun s hs => (hrb s hs).1) hevl) (Or.inl rfl) rfl rfl rfl rfl (by omega) (Nat.le_of_ble_eq_true rfl) (fun _ => rfl) (fun u hu => ?_)
      exact r_vret u hX hF d_G_solve_312 hu rfl rfl
    · obtain ⟨ja, hja, hea, hoa, hn1, hSa, hra⟩ := hA (by decide)
      obtain ⟨jb, hjb, heb, hob, hn1b, hSb, hrb⟩ := hBb (by decide)
      rw [ev_pairs (by rw [hN1]; omega), hN1, hNa, hNb, hoa, hob] at hF hevl
      refine r_tableIn (off := 295) 306 hX d_G_solve_11 (by decide) (by decide) (by decide) (by decide) ?_
      refine r_aload_n (i := 0) hX d_G_solve_306 rfl rfl ?_
      refine r_aload_n (i := 3) hX d_G_solve_307 rfl rfl ?_
      refine r_iload_n (i := 2) hX d_G_solve_308 rfl rfl ?_
      refine r_callVwv (q0 := 0) hX d_G_solve_309 cw_G_solvePairs ml_G_194 (c_G_solvePairs (2 * n + 6) (128 * n) j _ ja jb ro _ _ hj60 h0 (by omega) hea heb hSa hSb (by omega) (by omega) hro (by omega) hok (hra _ hok).1 (hra _ hok).2 (fun s hs => (hrb s hs).1) hevl) (Or.inl rfl) rfl rfl rfl rfl (by omega) (Nat.le_of_ble_eq_true rfl) (fun _ => rfl) (fun u hu => ?_)
      exact r_vret u hX hF d_G_solve_312 hu rfl rfl
    · obtain ⟨ja, hja, hea, hoa, hn1, hSa, hra⟩ := hA (by decide)
      obtain ⟨jb, hjb, heb, hob, hn1b, hSb, hrb⟩ := hBb (by decide)
      rw [ev_pairs (by rw [hN1]; omega), hN1, hNa, hNb, hoa, hob] at hF hevl
      refine r_tableIn (off := 295) 306 hX d_G_solve_11 (by decide) (by decide) (by decide) (by decide) ?_
      refine r_aload_n (i := 0) hX d_G_solve_306 rfl rfl ?_
      refine r_aload_n (i := 3) hX d_G_solve_307 rfl rfl ?_
      refine r_iload_n (i := 2) hX d_G_solve_308 rfl rfl ?_
      refine r_callVwv (q0 := 0) hX d_G_solve_309 cw_G_solvePairs ml_G_194 (c_G_solvePairs (2 * n + 6) (128 * n) j _ ja jb ro _ _ hj60 h0 (by omega) hea heb hSa hSb (by omega) (by omega) hro (by omega) hok (hra _ hok).1 (hra _ hok).2 (fun s hs => (hrb s hs).1) hevl) (Or.inl rfl) rfl rfl rfl rfl (by omega) (Nat.le_of_ble_eq_true rfl) (fun _ => rfl) (fun u hu => ?_)
      exact r_vret u hX hF d_G_solve_312 hu rfl rfl
    · obtain ⟨ja, hja, hea, hoa, hn1, hSa, hra⟩ := hA (by decide)
      obtain ⟨jb, hjb, heb, hob, hn1b, hSb, hrb⟩ := hBb (by decide)
      rw [ev_pairs (by rw [hN1]; omega), hN1, hNa, hNb, hoa, hob] at hF hevl
      refine r_tableIn (off := 295) 306 hX d_G_solve_11 (by decide) (by decide) (by decide) (by decide) ?_
      refine r_aload_n (i := 0) hX d_G_solve_306 rfl rfl ?_
      refine r_aload_n (i := 3) hX d_G_solve_307 rfl rfl ?_
      refine r_iload_n (i := 2) hX d_G_solve_308 rfl rfl ?_
      refine r_callVwv (q0 := 0) hX d_G_solve_309 cw_G_solvePairs ml_G_194 (c_G_solvePairs (2 * n + 6) (128 * n) j _ ja jb ro _ _ hj60 h0 (by omega) hea heb hSa hSb (by omega) (by omega) hro (by omega) hok (hra _ hok).1 (hra _ hok).2 (fun s hs => (hrb s hs).1) hevl) (Or.inl rfl) rfl rfl rfl rfl (by omega) (Nat.le_of_ble_eq_true rfl) (fun _ => rfl) (fun u hu => ?_)
      exact r_vret u hX hF d_G_solve_312 hu rfl rfl
    · obtain ⟨ja, hja, hea, hoa, hn1, hSa, hra⟩ := hA (by decide)
      obtain ⟨jb, hjb, heb, hob, hn1b, hSb, hrb⟩ := hBb (by decide)
      rw [ev_k15 hkk, hNa, hNb, hoa, hob] at hF
      have hSa1 := hSa ro z rf hro (by omega) hok
      have hla := (hra _ hok).1
      refine r_tableIn (off := 229) 240 hX d_G_solve_11 (by decide) (by decide) (by decide) (by decide) ?_
      refine r_aload_n (i := 0) hX d_G_solve_240 rfl rfl ?_
      refine r_aload_n (i := 3) hX d_G_solve_241 rfl rfl ?_
      refine r_get (8 + j) 1 hX d_G_solve_242 (wc_at rfl hj60) rfl fi_N (by decide) fl_G_132 rfl rfl ?_
      refine r_top hea ?_
      refine r_iload_n (i := 2) hX d_G_solve_245 rfl rfl ?_
      refine r_callVwv (q0 := 0) hX d_G_solve_246 cw_G_solve ml_G_152 (hSa1) (Or.inl rfl) rfl rfl rfl rfl (by omega) (Nat.le_of_ble_eq_true rfl) (fun _ => rfl) (fun f1 hu1 => ?_)
      have hrow : gRow f1 ro = gRow rf ro := hu1.1.row (by omega)
      have hSb1 := hSb ro (z + (ev tl ch (ndOf nf) n ja (gRow rf ro).2).length) f1 (by omega) (by omega) (by rw [hrow]; exact hok)
      rw [hrow] at hSb1
      refine r_aload_n (i := 0) hX d_G_solve_249 rfl rfl ?_
      refine r_aload_n (i := 3) hX d_G_solve_250 rfl rfl ?_
      refine r_get (8 + j) 2 hX d_G_solve_251 (wc_at rfl hj60) rfl fi_N (by decide) fl_G_135 rfl rfl ?_
      refine r_top heb ?_
      refine r_iload_n (i := 2) hX d_G_solve_254 rfl rfl ?_
      refine r_callVwv (q0 := 0) hX d_G_solve_255 cw_G_solve ml_G_152 (hSb1) (Or.inl rfl) rfl rfl rfl rfl (by omega) (Nat.le_of_ble_eq_true rfl) (fun _ => rfl) (fun f2 hu2 => ?_)
      exact r_goto 312 hX d_G_solve_258 (by decide) (r_vret f2 hX hF d_G_solve_312 (hu1.app hu2 rfl) rfl (by rw [List.length_append, ← Nat.add_assoc]))
    · obtain ⟨ja, hja, hea, hoa, hn1, hSa, hra⟩ := hA (by decide)
      obtain ⟨jb, hjb, heb, hob, hn1b, hSb, hrb⟩ := hBb (by decide)
      rw [ev_pairs (by rw [hN1]; omega), hN1, hNa, hNb, hoa, hob] at hF hevl
      refine r_tableIn (off := 295) 306 hX d_G_solve_11 (by decide) (by decide) (by decide) (by decide) ?_
      refine r_aload_n (i := 0) hX d_G_solve_306 rfl rfl ?_
      refine r_aload_n (i := 3) hX d_G_solve_307 rfl rfl ?_
      refine r_iload_n (i := 2) hX d_G_solve_308 rfl rfl ?_
      refine r_callVwv (q0 := 0) hX d_G_solve_309 cw_G_solvePairs ml_G_194 (c_G_solvePairs (2 * n + 6) (128 * n) j _ ja jb ro _ _ hj60 h0 (by omega) hea heb hSa hSb (by omega) (by omega) hro (by omega) hok (hra _ hok).1 (hra _ hok).2 (fun s hs => (hrb s hs).1) hevl) (Or.inl rfl) rfl rfl rfl rfl (by omega) (Nat.le_of_ble_eq_true rfl) (fun _ => rfl) (fun u hu => ?_)
      exact r_vret u hX hF d_G_solve_312 hu rfl rfl
    · obtain ⟨jb, hjb, heb, hob, hn1b, hSb, hrb⟩ := hBb (by decide)
      obtain ⟨v, hv4, hev⟩ := inR_of (by simpa [plainF] using hpl) (by decide)
      rw [ev_k17 hkk, hNa, hNb, hob, hev, opN_nI (by omega)] at hF
      refine r_tableIn (off := 250) 261 hX d_G_solve_11 (by decide) (by decide) (by decide) (by decide) ?_
      refine r_aload_n (i := 0) hX d_G_solve_261 rfl rfl ?_
      refine r_aload_n (i := 3) hX d_G_solve_262 rfl rfl ?_
      refine r_iload_n (i := 2) hX d_G_solve_263 rfl rfl ?_
      refine r_callVwv (q0 := 0) hX d_G_solve_264 cw_G_solveSet ml_G_179 (c_G_solveSet (2 * n + 6) (128 * n) j jb v ro _ hj60 hev hv4 heb hSb (by omega) hro (by omega) ht hok (hrb _ hok).1) (Or.inl rfl) rfl rfl rfl rfl (by omega) (Nat.le_of_ble_eq_true rfl) (fun _ => rfl) (fun u hu => ?_)
      exact r_goto 312 hX d_G_solve_267 (by decide) (r_vret u hX hF d_G_solve_312 hu rfl rfl)
    · obtain ⟨jb, hjb, heb, hob, hn1b, hSb, hrb⟩ := hBb (by decide)
      obtain ⟨v, hv8, hev⟩ := cnt8_of (by simpa [plainF] using hpl)
      rw [ev_k18 hkk, hNa, hNb, hob, hev, opN_nI (by omega)] at hF
      refine r_tableIn (off := 259) 270 hX d_G_solve_11 (by decide) (by decide) (by decide) (by decide) ?_
      refine r_aload_n (i := 0) hX d_G_solve_270 rfl rfl ?_
      refine r_aload_n (i := 3) hX d_G_solve_271 rfl rfl ?_
      refine r_iload_n (i := 2) hX d_G_solve_272 rfl rfl ?_
      refine r_callVwv (q0 := 0) hX d_G_solve_273 cw_G_solveFirst ml_G_182 (c_G_solveFirst (2 * n + 6) (128 * n) j jb v ro _ hj60 hev hv8 heb hSb (by omega) hro (by omega) hok (hrb _ hok).1) (Or.inl rfl) rfl rfl rfl rfl (by omega) (Nat.le_of_ble_eq_true rfl) (fun _ => rfl) (fun u hu => ?_)
      exact r_goto 312 hX d_G_solve_276 (by decide) (r_vret u hX hF d_G_solve_312 hu rfl rfl)
    · obtain ⟨ja, hja, hea, hoa, hn1, hSa, hra⟩ := hA (by decide)
      obtain ⟨jb, hjb, heb, hob, hn1b, hSb, hrb⟩ := hBb (by decide)
      obtain ⟨jc, hjc, hec, hoc, hn1c, hSc, hrc⟩ := hCc rfl
      refine r_tableIn (off := 268) 279 hX d_G_solve_11 (by decide) (by decide) (by decide) (by decide) ?_
      refine r_aload_n (i := 0) hX d_G_solve_279 rfl rfl ?_
      refine r_aload_n (i := 3) hX d_G_solve_280 rfl rfl ?_
      refine r_iload_n (i := 2) hX d_G_solve_281 rfl rfl ?_
      refine r_callVwv (q0 := 0) hX d_G_solve_282 cw_G_solveIf ml_G_185 (c_G_solveIf (2 * n + 6) (128 * n) j ja jb jc ro _ _ _ hj60 hea heb hec hSa hSb hSc (by omega) hro (by omega) hok (hra _ hok).1 (hra _ hok).2 (fun s hs => (hrb s hs).1) (ev tl ch (ndOf nf) (n + 1) j (gRow rf ro).2) ((ev_k19 (N := ndOf nf) hkk).trans (by rw [hNa, hNb, hNc, hoa, hob, hoc]; cases ev tl ch (ndOf nf) n ja (gRow rf ro).2 <;> rfl))) (Or.inl rfl) rfl rfl rfl rfl (by omega) (Nat.le_of_ble_eq_true rfl) (fun _ => rfl) (fun u hu => ?_)
      exact r_goto 312 hX d_G_solve_285 (by decide) (r_vret u hX hF d_G_solve_312 hu rfl rfl)
    · obtain ⟨ja, hja, hea, hoa, hn1, hSa, hra⟩ := hA (by decide)
      refine r_tableIn (off := 277) 288 hX d_G_solve_11 (by decide) (by decide) (by decide) (by decide) ?_
      refine r_aload_n (i := 0) hX d_G_solve_288 rfl rfl ?_
      refine r_aload_n (i := 3) hX d_G_solve_289 rfl rfl ?_
      refine r_iload_n (i := 2) hX d_G_solve_290 rfl rfl ?_
      refine r_callVwv (q0 := 0) hX d_G_solve_291 cw_G_solveNot ml_G_188 (c_G_solveNot (2 * n + 6) (128 * n) j ja ro _ hj60 hea hSa (by omega) hro (by omega) hok (hra _ hok).1 (ev tl ch (ndOf nf) (n + 1) j (gRow rf ro).2) ((ev_k20 (N := ndOf nf) hkk).trans (by rw [hNa, hoa]))) (Or.inl rfl) rfl rfl rfl rfl (by omega) (Nat.le_of_ble_eq_true rfl) (fun _ => rfl) (fun u hu => ?_)
      exact r_goto 312 hX d_G_solve_294 (by decide) (r_vret u hX hF d_G_solve_312 hu rfl rfl)
    · obtain ⟨ja, hja, hea, hoa, hn1, hSa, hra⟩ := hA (by decide)
      refine r_tableIn (off := 286) 297 hX d_G_solve_11 (by decide) (by decide) (by decide) (by decide) ?_
      refine r_aload_n (i := 0) hX d_G_solve_297 rfl rfl ?_
      refine r_aload_n (i := 3) hX d_G_solve_298 rfl rfl ?_
      refine r_iload_n (i := 2) hX d_G_solve_299 rfl rfl ?_
      refine r_callVwv (q0 := 0) hX d_G_solve_300 cw_G_solveMost ml_G_191 (c_G_solveMost (2 * n + 6) (128 * n) j ja ro _ hj60 hea hSa (by omega) hro (by omega) hok (hra _ hok).1 (ev tl ch (ndOf nf) (n + 1) j (gRow rf ro).2) ((ev_k21 (N := ndOf nf) hkk).trans (by rw [hNa, hoa]; cases ev tl ch (ndOf nf) n ja (gRow rf ro).2 <;> rfl))) (Or.inl rfl) rfl rfl rfl rfl (by omega) (Nat.le_of_ble_eq_true rfl) (fun _ => rfl) (fun u hu => ?_)
      exact r_goto 312 hX d_G_solve_303 (by decide) (r_vret u hX hF d_G_solve_312 hu rfl rfl)
end ClassG
