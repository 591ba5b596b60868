/-! What the machine comes to: a level's rows are what ev gives. -/
theorem stOf_eq {f g : Nat → Int32} {v : Nat} (h : ∀ c, c < 5 * (v + 1) → f c = g c) : stOf f v = stOf g v := by
  funext c
  exact h _ (by have := c.isLt; omega)
theorem Holds.low {f g : Nat → Int32} {b m : Nat} {L : List Rs} (h : Holds f b L) (hs : ∀ c, 6 * b ≤ c → c < 6 * (b + 64) → g c = f c) (hl : L.length ≤ 64) : Holds g b L := fun k hk => by
  rw [← h k hk]
  exact gRow_ext fun c hc => hs _ (by omega) (by omega)
theorem sv_low {sv u : Nat → Int32} {d : Nat} {s : St} (h : svP sv d s u) {v : Nat} (hv : v ≤ d) : ∀ c, c < 5 * v → u c = sv c := fun c hc => h.1 c (Or.inl (by omega))
section Run
variable {D : va_G} {cI cZ cN : ClassId} {am : Nat → Nat} {tl nn rs ae : Nat} {tx : Nat → Int32} {mf : Nat → Nat → Int32} {X : rx_T} {A : Nat → Prop}
set_option maxRecDepth 100000 in
set_option maxHeartbeats 4000000 in
theorem run_ev (hX : rx_ok X b_M_work 4 y_M_work.cls D (tyL cI cZ cN) A 3 0 0 none) (ht : tl ≤ 24) (hn60 : nn ≤ 60) (hw : WFn nn mf) : ∀ (n v i : Nat) (s : St) (M : MS), v + n ≤ 8 → i < nn → vN mf i ≤ n → okSt tl s → M.2.2.1 v = nI i → M.2.2.2.1 v = nI 0 → M.2.1 v = nI 0 → stOf M.2.2.2.2.2 v = s → (∀ M', Bl v M M' → Holds M'.1 (64 * v) (ev tl tx (ndOf mf) n i s) → M'.2.1 v = nI (ev tl tx (ndOf mf) n i s).length → Lp X D A am cI cZ tl nn rs ae tx mf v M') → Lp X D A am cI cZ tl nn rs ae tx mf (v + 1) M := by
  intro n
  induction n with
  | zero =>
    intro v i s M hvn hi hv
    have := (hw i hi).2.2.2.1
    omega
  | succ n ih =>
    intro v i s M hvn hi hvi hok hnv hph hsz hst kk
    obtain ⟨h0, hk, h6, hv1, hv8, h4, hB, hbnd, hpl, hop, hlA, hlB, hlC⟩ := hw i hi
    obtain ⟨hp1, hp2⟩ := okSt_pl hok ht
    have hi60 : i < 60 := by omega
    have hv8 : v < 8 := by omega
    have hev64 := Nat.le_trans (ev_ok (ch := tx) ht nn hn60 hw (n + 1) i hi hvi _ hok).1 hB
    have hA : (8 ≤ kN mf i ∧ kN mf i ≠ 17 ∧ kN mf i ≠ 18) → ∃ a, a < nn ∧ mf 1 i = nI a ∧ opN (mf 1 i) = a ∧ 1 ≤ n ∧ vN mf a ≤ n ∧ ∀ s, okSt tl s → (ev tl tx (ndOf mf) n a s).length ≤ 64 ∧ ∀ r ∈ ev tl tx (ndOf mf) n a s, okSt tl r.2 := by
      intro q
      obtain ⟨a, ha, he⟩ := hop.1 q
      have hlt := hlA q
      have ho : opN (mf 1 i) = a := by rw [he]; exact opN_nI (by omega)
      rw [ho] at hlt
      have hwa := hw a (by omega)
      exact ⟨a, by omega, he, ho, by have := hwa.2.2.2.1; omega, by omega, fun s hs => ⟨Nat.le_trans (ev_ok ht nn hn60 hw n a (by omega) (by omega) s hs).1 hwa.2.2.2.2.2.2.1, (ev_ok ht nn hn60 hw n a (by omega) (by omega) s hs).2⟩⟩
    have hBb : (9 ≤ kN mf i ∧ kN mf i ≤ 19) → ∃ a, a < nn ∧ mf 2 i = nI a ∧ opN (mf 2 i) = a ∧ 1 ≤ n ∧ vN mf a ≤ n ∧ ∀ s, okSt tl s → (ev tl tx (ndOf mf) n a s).length ≤ 64 ∧ ∀ r ∈ ev tl tx (ndOf mf) n a s, okSt tl r.2 := by
      intro q
      obtain ⟨a, ha, he⟩ := hop.2.1 q
      have hlt := hlB q
      have ho : opN (mf 2 i) = a := by rw [he]; exact opN_nI (by omega)
      rw [ho] at hlt
      have hwa := hw a (by omega)
      exact ⟨a, by omega, he, ho, by have := hwa.2.2.2.1; omega, by omega, fun s hs => ⟨Nat.le_trans (ev_ok ht nn hn60 hw n a (by omega) (by omega) s hs).1 hwa.2.2.2.2.2.2.1, (ev_ok ht nn hn60 hw n a (by omega) (by omega) s hs).2⟩⟩
    have hCc : kN mf i = 19 → ∃ a, a < nn ∧ mf 3 i = nI a ∧ opN (mf 3 i) = a ∧ 1 ≤ n ∧ vN mf a ≤ n ∧ ∀ s, okSt tl s → (ev tl tx (ndOf mf) n a s).length ≤ 64 ∧ ∀ r ∈ ev tl tx (ndOf mf) n a s, okSt tl r.2 := by
      intro q
      obtain ⟨a, ha, he⟩ := hop.2.2 q
      have hlt := hlC q
      have ho : opN (mf 3 i) = a := by rw [he]; exact opN_nI (by omega)
      rw [ho] at hlt
      have hwa := hw a (by omega)
      exact ⟨a, by omega, he, ho, by have := hwa.2.2.2.1; omega, by omega, fun s hs => ⟨Nat.le_trans (ev_ok ht nn hn60 hw n a (by omega) (by omega) s hs).1 hwa.2.2.2.2.2.2.1, (ev_ok ht nn hn60 hw n a (by omega) (by omega) s hs).2⟩⟩
    have hNa : (ndOf mf).2.1 i = mf 1 i := rfl
    have hNb : (ndOf mf).2.2.1 i = mf 2 i := rfl
    have hNc : (ndOf mf).2.2.2 i = mf 3 i := rfl
    have hN1 : (ndOf mf).1 i = kN mf i := rfl
    generalize hkk : kN mf i = k at *
    have leaf : k < 8 → Lp X D A am cI cZ tl nn rs ae tx mf (v + 1) M := by
      intro hk8
      refine wk_leaf hX n v i k (stPl s) M s hv8 hi60 hnv hkk h0 hk8 hpl hsz hst hp2 hp1 ht (fun u hu => ?_)
      exact kk _ ⟨hu.low hv8, (fun j hj => by first | rfl | exact pk_un (by omega) | exact (pk_un (by omega)).trans (pk_un (by omega))), fun _ _ => rfl, fun _ _ => rfl, fun _ _ => rfl, fun _ _ => rfl⟩ hu.2 pk_us
    have kOr : k = 15 → Lp X D A am cI cZ tl nn rs ae tx mf (v + 1) M := by
      intro hk15
      subst hk15
      obtain ⟨ja, hja, hea, hoa, hn1, hva, hra⟩ := hA (by omega)
      obtain ⟨jb, hjb, heb, hob, hn1b, hvb, hrb⟩ := hBb (by omega)
      rw [ev_k15 hkk, hNa, hNb, hoa, hob] at kk hev64
      have hv1 : v + 1 < 8 := by omega
      refine wk_or hX v i 15 rfl M hv8 hi60 hnv h0 (c_M_stepOr0 i v ja hi60 hv1 hph hea) (fun _ => rfl) (fun u hu => ?_)
      refine ih (v + 1) ja s (M.1, upd M.2.1 (v + 1) (nI 0), upd M.2.2.1 (v + 1) (nI ja), upd (upd M.2.2.2.1 v (nI 1)) (v + 1) (nI 0), M.2.2.2.2.1, u) (by omega) hja hva hok pk_us pk_us pk_us (hu.2.trans hst) ?_
      intro M1 b1 hL1 hs1
      have bM1 : Bl v M M1 := Bl.trans (M' := (M.1, upd M.2.1 (v + 1) (nI 0), upd M.2.2.1 (v + 1) (nI ja), upd (upd M.2.2.2.1 v (nI 1)) (v + 1) (nI 0), M.2.2.2.2.1, u)) ⟨fun _ _ => rfl, (fun j hj => by first | rfl | exact pk_un (by omega) | exact (pk_un (by omega)).trans (pk_un (by omega))), (fun j hj => by first | rfl | exact pk_un (by omega) | exact (pk_un (by omega)).trans (pk_un (by omega))), (fun j hj => by first | rfl | exact pk_un (by omega) | exact (pk_un (by omega)).trans (pk_un (by omega))), fun _ _ => rfl, sv_low hu (by omega)⟩ b1.down
      have p1 : M1.2.2.2.1 v = nI 1 := (b1.2.2.2.1 v (by omega)).trans ((pk_un (by omega)).trans pk_us)
      have n1 : M1.2.2.1 v = nI i := (b1.2.2.1 v (by omega)).trans ((pk_un (by omega)).trans hnv)
      have z1 : M1.2.1 v = nI 0 := (b1.2.1 v (Or.inl (by omega))).trans ((pk_un (by omega)).trans hsz)
      have s1 : stOf M1.2.2.2.2.2 v = s := (stOf_eq fun c hc => (b1.2.2.2.2.2 c hc).trans (hu.1 c (Or.inl hc))).trans hst
      have hl1 := (hra s hok).1
      generalize ev tl tx (ndOf mf) n ja s = La at *
      refine wk_or hX v i 15 rfl M1 hv8 hi60 n1 h0 (c_M_stepOr1 i v jb La hi60 hv1 p1 heb z1 hs1 hL1 hl1) (fun _ => rfl) (fun u' hu' => ?_)
      obtain ⟨f, u2⟩ := u'
      obtain ⟨hf, hu2⟩ := hu'
      dsimp only at hf hu2
      refine ih (v + 1) jb s (f, upd (upd M1.2.1 v (nI La.length)) (v + 1) (nI 0), upd M1.2.2.1 (v + 1) (nI jb), upd (upd M1.2.2.2.1 v (nI (1 + 1))) (v + 1) (nI 0), M1.2.2.2.2.1, u2) (by omega) hjb hvb hok pk_us pk_us pk_us (hu2.2.trans s1) ?_
      intro M2 b2 hL2 hs2
      have bM2 : Bl v M M2 := bM1.trans (Bl.trans (M' := (f, upd (upd M1.2.1 v (nI La.length)) (v + 1) (nI 0), upd M1.2.2.1 (v + 1) (nI jb), upd (upd M1.2.2.2.1 v (nI (1 + 1))) (v + 1) (nI 0), M1.2.2.2.2.1, u2)) ⟨hf.low hv8, (fun j hj => by first | rfl | exact pk_un (by omega) | exact (pk_un (by omega)).trans (pk_un (by omega))), (fun j hj => by first | rfl | exact pk_un (by omega) | exact (pk_un (by omega)).trans (pk_un (by omega))), (fun j hj => by first | rfl | exact pk_un (by omega) | exact (pk_un (by omega)).trans (pk_un (by omega))), fun _ _ => rfl, sv_low hu2 (by omega)⟩ b2.down)
      have p2 : M2.2.2.2.1 v = nI 2 := (b2.2.2.2.1 v (by omega)).trans ((pk_un (by omega)).trans pk_us)
      have n2 : M2.2.2.1 v = nI i := (b2.2.2.1 v (by omega)).trans ((pk_un (by omega)).trans n1)
      have z2 : M2.2.1 v = nI La.length := (b2.2.1 v (Or.inl (by omega))).trans ((pk_un (by omega)).trans pk_us)
      have hK2 : Holds M2.1 (64 * v) La := Holds.low (m := 0) hf.2 (fun c h1 h2 => b2.1 c (Or.inl (by omega))) hl1
      refine wk_or hX v i 15 rfl M2 hv8 hi60 n2 h0 (c_M_stepOr2 i v La _ hi60 hv1 p2 z2 hs2 hK2 hL2 (by rw [← List.length_append]; exact hev64)) (fun _ => rfl) (fun u3 hu3 => ?_)
      exact kk (u3, upd M2.2.1 v (nI (La ++ ev tl tx (ndOf mf) n jb s).length), M2.2.2.1, upd M2.2.2.2.1 v (nI (2 + 1)), M2.2.2.2.2.1, M2.2.2.2.2.2) (bM2.trans ⟨hu3.low hv8, (fun j hj => by first | rfl | exact pk_un (by omega) | exact (pk_un (by omega)).trans (pk_un (by omega))), fun _ _ => rfl, (fun j hj => by first | rfl | exact pk_un (by omega) | exact (pk_un (by omega)).trans (pk_un (by omega))), fun _ _ => rfl, fun _ _ => rfl⟩) hu3.2 pk_us
    have kO8 : k = 8 → Lp X D A am cI cZ tl nn rs ae tx mf (v + 1) M := by
      intro hkq
      subst hkq
      obtain ⟨ja, hja, hea, hoa, hn1, hva, hra⟩ := hA (by omega)
      have hkx : 8 = 8 ∨ 8 = 17 ∨ 8 = 18 ∨ 8 = 20 ∨ 8 = 21 := by decide
      have hv1 : v + 1 < 8 := by omega
      rw [ev_k8 hkk, hNa, hoa] at kk
      refine wk_one hX v i 8 hkx M hv8 hi60 hnv h0 (c_M_stepOne0A i v ja 8 hi60 hv1 (Or.inl rfl) hph hea) (fun _ => rfl) (fun u hu => ?_)
      refine ih (v + 1) ja s (M.1, upd M.2.1 (v + 1) (nI 0), upd M.2.2.1 (v + 1) (nI ja), upd (upd M.2.2.2.1 v (nI 1)) (v + 1) (nI 0), M.2.2.2.2.1, u) (by omega) hja hva hok pk_us pk_us pk_us (hu.2.trans hst) ?_
      intro M1 b1 hL1 hs1
      have bM1 : Bl v M M1 := Bl.trans (M' := (M.1, upd M.2.1 (v + 1) (nI 0), upd M.2.2.1 (v + 1) (nI ja), upd (upd M.2.2.2.1 v (nI 1)) (v + 1) (nI 0), M.2.2.2.2.1, u)) ⟨fun _ _ => rfl, (fun j hj => by first | rfl | exact pk_un (by omega) | exact (pk_un (by omega)).trans (pk_un (by omega))), (fun j hj => by first | rfl | exact pk_un (by omega) | exact (pk_un (by omega)).trans (pk_un (by omega))), (fun j hj => by first | rfl | exact pk_un (by omega) | exact (pk_un (by omega)).trans (pk_un (by omega))), fun _ _ => rfl, sv_low hu (by omega)⟩ b1.down
      have p1 : M1.2.2.2.1 v = nI 1 := (b1.2.2.2.1 v (by omega)).trans ((pk_un (by omega)).trans pk_us)
      have n1 : M1.2.2.1 v = nI i := (b1.2.2.1 v (by omega)).trans ((pk_un (by omega)).trans hnv)
      have z1 : M1.2.1 v = nI 0 := (b1.2.1 v (Or.inl (by omega))).trans ((pk_un (by omega)).trans hsz)
      have s1 : stOf M1.2.2.2.2.2 v = s := (stOf_eq fun c hc => (b1.2.2.2.2.2 c hc).trans (hu.1 c (Or.inl hc))).trans hst
      have hl1 := (hra s hok).1
      generalize ev tl tx (ndOf mf) n ja s = La at *
      refine wk_one hX v i 8 hkx M1 hv8 hi60 n1 h0 (c_M_stepOne_8 i v La ht hi60 hv1 p1 z1 hs1 hL1 hl1) (fun _ => rfl) (fun u3 hu3 => ?_)
      exact kk (u3, upd M1.2.1 v (nI (La.flatMap (goL tl)).length), M1.2.2) (bM1.trans ⟨hu3.low hv8, (fun j hj => by first | rfl | exact pk_un (by omega) | exact (pk_un (by omega)).trans (pk_un (by omega))), fun _ _ => rfl, fun _ _ => rfl, fun _ _ => rfl, fun _ _ => rfl⟩) hu3.2 pk_us
    have kO20 : k = 20 → Lp X D A am cI cZ tl nn rs ae tx mf (v + 1) M := by
      intro hkq
      subst hkq
      obtain ⟨ja, hja, hea, hoa, hn1, hva, hra⟩ := hA (by omega)
      have hkx : 20 = 8 ∨ 20 = 17 ∨ 20 = 18 ∨ 20 = 20 ∨ 20 = 21 := by decide
      have hv1 : v + 1 < 8 := by omega
      rw [ev_k20 hkk, hNa, hoa] at kk
      refine wk_one hX v i 20 hkx M hv8 hi60 hnv h0 (c_M_stepOne0A i v ja 20 hi60 hv1 (Or.inr (Or.inl rfl)) hph hea) (fun _ => rfl) (fun u hu => ?_)
      refine ih (v + 1) ja s (M.1, upd M.2.1 (v + 1) (nI 0), upd M.2.2.1 (v + 1) (nI ja), upd (upd M.2.2.2.1 v (nI 1)) (v + 1) (nI 0), M.2.2.2.2.1, u) (by omega) hja hva hok pk_us pk_us pk_us (hu.2.trans hst) ?_
      intro M1 b1 hL1 hs1
      have bM1 : Bl v M M1 := Bl.trans (M' := (M.1, upd M.2.1 (v + 1) (nI 0), upd M.2.2.1 (v + 1) (nI ja), upd (upd M.2.2.2.1 v (nI 1)) (v + 1) (nI 0), M.2.2.2.2.1, u)) ⟨fun _ _ => rfl, (fun j hj => by first | rfl | exact pk_un (by omega) | exact (pk_un (by omega)).trans (pk_un (by omega))), (fun j hj => by first | rfl | exact pk_un (by omega) | exact (pk_un (by omega)).trans (pk_un (by omega))), (fun j hj => by first | rfl | exact pk_un (by omega) | exact (pk_un (by omega)).trans (pk_un (by omega))), fun _ _ => rfl, sv_low hu (by omega)⟩ b1.down
      have p1 : M1.2.2.2.1 v = nI 1 := (b1.2.2.2.1 v (by omega)).trans ((pk_un (by omega)).trans pk_us)
      have n1 : M1.2.2.1 v = nI i := (b1.2.2.1 v (by omega)).trans ((pk_un (by omega)).trans hnv)
      have z1 : M1.2.1 v = nI 0 := (b1.2.1 v (Or.inl (by omega))).trans ((pk_un (by omega)).trans hsz)
      have s1 : stOf M1.2.2.2.2.2 v = s := (stOf_eq fun c hc => (b1.2.2.2.2.2 c hc).trans (hu.1 c (Or.inl hc))).trans hst
      have hl1 := (hra s hok).1
      generalize ev tl tx (ndOf mf) n ja s = La at *
      have hc20 := c_M_stepOne_20 (l := X.2.1) (D := D) (cI := cI) (cZ := cZ) (cN := cN) (am := am) (tl := tl) (nn := nn) (rs := rs) (ae := ae) (tx := tx) (rw := M1.1) (sz := M1.2.1) (nv := M1.2.2.1) (ph := M1.2.2.2.1) (tu := M1.2.2.2.2.1) (sv := M1.2.2.2.2.2) (mf := mf) i v La hi60 hv1 p1 z1 hs1 hL1 hl1
      rw [s1] at hc20
      refine wk_one hX v i 20 hkx M1 hv8 hi60 n1 h0 (hc20) (fun _ => rfl) (fun u3 hu3 => ?_)
      exact kk (u3, upd M1.2.1 v (nI (if La.isEmpty = true then [(nI 0, s)] else []).length), M1.2.2) (bM1.trans ⟨hu3.low hv8, (fun j hj => by first | rfl | exact pk_un (by omega) | exact (pk_un (by omega)).trans (pk_un (by omega))), fun _ _ => rfl, fun _ _ => rfl, fun _ _ => rfl, fun _ _ => rfl⟩) hu3.2 pk_us
    have kO21 : k = 21 → Lp X D A am cI cZ tl nn rs ae tx mf (v + 1) M := by
      intro hkq
      subst hkq
      obtain ⟨ja, hja, hea, hoa, hn1, hva, hra⟩ := hA (by omega)
      have hkx : 21 = 8 ∨ 21 = 17 ∨ 21 = 18 ∨ 21 = 20 ∨ 21 = 21 := by decide
      have hv1 : v + 1 < 8 := by omega
      have h21 : ev tl tx (ndOf mf) (n + 1) i s = mostL (ev tl tx (ndOf mf) n ja s) := by
        rw [ev_k21 hkk, hNa, hoa]
        cases ev tl tx (ndOf mf) n ja s <;> rfl
      rw [h21] at kk
      refine wk_one hX v i 21 hkx M hv8 hi60 hnv h0 (c_M_stepOne0A i v ja 21 hi60 hv1 (Or.inr (Or.inr rfl)) hph hea) (fun _ => rfl) (fun u hu => ?_)
      refine ih (v + 1) ja s (M.1, upd M.2.1 (v + 1) (nI 0), upd M.2.2.1 (v + 1) (nI ja), upd (upd M.2.2.2.1 v (nI 1)) (v + 1) (nI 0), M.2.2.2.2.1, u) (by omega) hja hva hok pk_us pk_us pk_us (hu.2.trans hst) ?_
      intro M1 b1 hL1 hs1
      have bM1 : Bl v M M1 := Bl.trans (M' := (M.1, upd M.2.1 (v + 1) (nI 0), upd M.2.2.1 (v + 1) (nI ja), upd (upd M.2.2.2.1 v (nI 1)) (v + 1) (nI 0), M.2.2.2.2.1, u)) ⟨fun _ _ => rfl, (fun j hj => by first | rfl | exact pk_un (by omega) | exact (pk_un (by omega)).trans (pk_un (by omega))), (fun j hj => by first | rfl | exact pk_un (by omega) | exact (pk_un (by omega)).trans (pk_un (by omega))), (fun j hj => by first | rfl | exact pk_un (by omega) | exact (pk_un (by omega)).trans (pk_un (by omega))), fun _ _ => rfl, sv_low hu (by omega)⟩ b1.down
      have p1 : M1.2.2.2.1 v = nI 1 := (b1.2.2.2.1 v (by omega)).trans ((pk_un (by omega)).trans pk_us)
      have n1 : M1.2.2.1 v = nI i := (b1.2.2.1 v (by omega)).trans ((pk_un (by omega)).trans hnv)
      have z1 : M1.2.1 v = nI 0 := (b1.2.1 v (Or.inl (by omega))).trans ((pk_un (by omega)).trans hsz)
      have s1 : stOf M1.2.2.2.2.2 v = s := (stOf_eq fun c hc => (b1.2.2.2.2.2 c hc).trans (hu.1 c (Or.inl hc))).trans hst
      have hl1 := (hra s hok).1
      generalize ev tl tx (ndOf mf) n ja s = La at *
      refine wk_one hX v i 21 hkx M1 hv8 hi60 n1 h0 (c_M_stepOne_21 i v La hi60 hv1 p1 z1 hs1 hL1 hl1) (fun _ => rfl) (fun u3 hu3 => ?_)
      exact kk (u3, upd M1.2.1 v (nI (mostL La).length), M1.2.2) (bM1.trans ⟨hu3.low hv8, (fun j hj => by first | rfl | exact pk_un (by omega) | exact (pk_un (by omega)).trans (pk_un (by omega))), fun _ _ => rfl, fun _ _ => rfl, fun _ _ => rfl, fun _ _ => rfl⟩) hu3.2 pk_us
    have kO17 : k = 17 → Lp X D A am cI cZ tl nn rs ae tx mf (v + 1) M := by
      intro hkq
      subst hkq
      obtain ⟨jb, hjb, heb, hob, hn1b, hvb, hrb⟩ := hBb (by omega)
      have hkx : 17 = 8 ∨ 17 = 17 ∨ 17 = 18 ∨ 17 = 20 ∨ 17 = 21 := by decide
      have hv1 : v + 1 < 8 := by omega
      obtain ⟨va, hva4, hev⟩ := inR_of (by simpa [plainF] using hpl) (by decide)
      rw [ev_k17 hkk, hNa, hNb, hob, hev, opN_nI (by omega)] at kk
      refine wk_one hX v i 17 hkx M hv8 hi60 hnv h0 (c_M_stepOne0B i v jb 17 hi60 hv1 (Or.inl rfl) hph heb) (fun _ => rfl) (fun u hu => ?_)
      refine ih (v + 1) jb s (M.1, upd M.2.1 (v + 1) (nI 0), upd M.2.2.1 (v + 1) (nI jb), upd (upd M.2.2.2.1 v (nI 1)) (v + 1) (nI 0), M.2.2.2.2.1, u) (by omega) hjb hvb hok pk_us pk_us pk_us (hu.2.trans hst) ?_
      intro M1 b1 hL1 hs1
      have bM1 : Bl v M M1 := Bl.trans (M' := (M.1, upd M.2.1 (v + 1) (nI 0), upd M.2.2.1 (v + 1) (nI jb), upd (upd M.2.2.2.1 v (nI 1)) (v + 1) (nI 0), M.2.2.2.2.1, u)) ⟨fun _ _ => rfl, (fun j hj => by first | rfl | exact pk_un (by omega) | exact (pk_un (by omega)).trans (pk_un (by omega))), (fun j hj => by first | rfl | exact pk_un (by omega) | exact (pk_un (by omega)).trans (pk_un (by omega))), (fun j hj => by first | rfl | exact pk_un (by omega) | exact (pk_un (by omega)).trans (pk_un (by omega))), fun _ _ => rfl, sv_low hu (by omega)⟩ b1.down
      have p1 : M1.2.2.2.1 v = nI 1 := (b1.2.2.2.1 v (by omega)).trans ((pk_un (by omega)).trans pk_us)
      have n1 : M1.2.2.1 v = nI i := (b1.2.2.1 v (by omega)).trans ((pk_un (by omega)).trans hnv)
      have z1 : M1.2.1 v = nI 0 := (b1.2.1 v (Or.inl (by omega))).trans ((pk_un (by omega)).trans hsz)
      have s1 : stOf M1.2.2.2.2.2 v = s := (stOf_eq fun c hc => (b1.2.2.2.2.2 c hc).trans (hu.1 c (Or.inl hc))).trans hst
      have hl1 := (hrb s hok).1
      generalize ev tl tx (ndOf mf) n jb s = La at *
      refine wk_one hX v i 17 hkx M1 hv8 hi60 n1 h0 (c_M_stepOne_17 i v La va hva4 hev hi60 hv1 p1 z1 hs1 hL1 hl1) (fun _ => rfl) (fun u3 hu3 => ?_)
      exact kk (u3, upd M1.2.1 v (nI (La.map (fun r => (r.1, stSet r.2 (1 + va) r.1))).length), M1.2.2) (bM1.trans ⟨hu3.low hv8, (fun j hj => by first | rfl | exact pk_un (by omega) | exact (pk_un (by omega)).trans (pk_un (by omega))), fun _ _ => rfl, fun _ _ => rfl, fun _ _ => rfl, fun _ _ => rfl⟩) hu3.2 pk_us
    have kO18 : k = 18 → Lp X D A am cI cZ tl nn rs ae tx mf (v + 1) M := by
      intro hkq
      subst hkq
      obtain ⟨jb, hjb, heb, hob, hn1b, hvb, hrb⟩ := hBb (by omega)
      have hkx : 18 = 8 ∨ 18 = 17 ∨ 18 = 18 ∨ 18 = 20 ∨ 18 = 21 := by decide
      have hv1 : v + 1 < 8 := by omega
      obtain ⟨va, hva8, hev⟩ := cnt8_of (by simpa [plainF] using hpl)
      rw [ev_k18 hkk, hNa, hNb, hob, hev, opN_nI (by omega)] at kk
      refine wk_one hX v i 18 hkx M hv8 hi60 hnv h0 (c_M_stepOne0B i v jb 18 hi60 hv1 (Or.inr rfl) hph heb) (fun _ => rfl) (fun u hu => ?_)
      refine ih (v + 1) jb s (M.1, upd M.2.1 (v + 1) (nI 0), upd M.2.2.1 (v + 1) (nI jb), upd (upd M.2.2.2.1 v (nI 1)) (v + 1) (nI 0), M.2.2.2.2.1, u) (by omega) hjb hvb hok pk_us pk_us pk_us (hu.2.trans hst) ?_
      intro M1 b1 hL1 hs1
      have bM1 : Bl v M M1 := Bl.trans (M' := (M.1, upd M.2.1 (v + 1) (nI 0), upd M.2.2.1 (v + 1) (nI jb), upd (upd M.2.2.2.1 v (nI 1)) (v + 1) (nI 0), M.2.2.2.2.1, u)) ⟨fun _ _ => rfl, (fun j hj => by first | rfl | exact pk_un (by omega) | exact (pk_un (by omega)).trans (pk_un (by omega))), (fun j hj => by first | rfl | exact pk_un (by omega) | exact (pk_un (by omega)).trans (pk_un (by omega))), (fun j hj => by first | rfl | exact pk_un (by omega) | exact (pk_un (by omega)).trans (pk_un (by omega))), fun _ _ => rfl, sv_low hu (by omega)⟩ b1.down
      have p1 : M1.2.2.2.1 v = nI 1 := (b1.2.2.2.1 v (by omega)).trans ((pk_un (by omega)).trans pk_us)
      have n1 : M1.2.2.1 v = nI i := (b1.2.2.1 v (by omega)).trans ((pk_un (by omega)).trans hnv)
      have z1 : M1.2.1 v = nI 0 := (b1.2.1 v (Or.inl (by omega))).trans ((pk_un (by omega)).trans hsz)
      have s1 : stOf M1.2.2.2.2.2 v = s := (stOf_eq fun c hc => (b1.2.2.2.2.2 c hc).trans (hu.1 c (Or.inl hc))).trans hst
      have hl1 := (hrb s hok).1
      generalize ev tl tx (ndOf mf) n jb s = La at *
      refine wk_one hX v i 18 hkx M1 hv8 hi60 n1 h0 (c_M_stepOne_18 i v La va hva8 hev hi60 hv1 p1 z1 hs1 hL1 hl1) (fun _ => rfl) (fun u3 hu3 => ?_)
      exact kk (u3, upd M1.2.1 v (nI (La.take va).length), M1.2.2) (bM1.trans ⟨hu3.low hv8, (fun j hj => by first | rfl | exact pk_un (by omega) | exact (pk_un (by omega)).trans (pk_un (by omega))), fun _ _ => rfl, fun _ _ => rfl, fun _ _ => rfl, fun _ _ => rfl⟩) hu3.2 pk_us
    have kIf : k = 19 → Lp X D A am cI cZ tl nn rs ae tx mf (v + 1) M := by
      intro hkq
      subst hkq
      obtain ⟨ja, hja, hea, hoa, hn1, hva, hra⟩ := hA (by omega)
      obtain ⟨jb, hjb, heb, hob, hn1b, hvb, hrb⟩ := hBb (by omega)
      obtain ⟨jc, hjc, hec, hoc, hn1c, hvc, hrc⟩ := hCc rfl
      have hv1 : v + 1 < 8 := by omega
      have h19 := ev_k19 (tl := tl) (ch := tx) (N := ndOf mf) (n := n) (i := i) (s := s) hkk
      rw [hNa, hNb, hNc, hoa, hob, hoc] at h19
      refine wk_if hX v i 19 rfl M hv8 hi60 hnv h0 (c_M_stepIf0 i v ja hi60 hv1 hph hea) (fun _ => rfl) (fun u hu => ?_)
      refine ih (v + 1) ja s (M.1, upd M.2.1 (v + 1) (nI 0), upd M.2.2.1 (v + 1) (nI ja), upd (upd M.2.2.2.1 v (nI 1)) (v + 1) (nI 0), M.2.2.2.2.1, u) (by omega) hja hva hok pk_us pk_us pk_us (hu.2.trans hst) ?_
      intro M1 b1 hL1 hs1
      have bM1 : Bl v M M1 := Bl.trans (M' := (M.1, upd M.2.1 (v + 1) (nI 0), upd M.2.2.1 (v + 1) (nI ja), upd (upd M.2.2.2.1 v (nI 1)) (v + 1) (nI 0), M.2.2.2.2.1, u)) ⟨fun _ _ => rfl, (fun j hj => by first | rfl | exact pk_un (by omega) | exact (pk_un (by omega)).trans (pk_un (by omega))), (fun j hj => by first | rfl | exact pk_un (by omega) | exact (pk_un (by omega)).trans (pk_un (by omega))), (fun j hj => by first | rfl | exact pk_un (by omega) | exact (pk_un (by omega)).trans (pk_un (by omega))), fun _ _ => rfl, sv_low hu (by omega)⟩ b1.down
      have p1 : M1.2.2.2.1 v = nI 1 := (b1.2.2.2.1 v (by omega)).trans ((pk_un (by omega)).trans pk_us)
      have n1 : M1.2.2.1 v = nI i := (b1.2.2.1 v (by omega)).trans ((pk_un (by omega)).trans hnv)
      have z1 : M1.2.1 v = nI 0 := (b1.2.1 v (Or.inl (by omega))).trans ((pk_un (by omega)).trans hsz)
      have s1 : stOf M1.2.2.2.2.2 v = s := (stOf_eq fun c hc => (b1.2.2.2.2.2 c hc).trans (hu.1 c (Or.inl hc))).trans hst
      have hl1 := (hra s hok).1
      have hok1 := (hra s hok).2
      have last : ∀ (M2 : MS) (Lx : List Rs), Bl v M M2 → M2.2.2.1 v = nI i → M2.2.2.2.1 v = nI 2 → M2.2.1 v = nI 0 → Holds M2.1 (64 * (v + 1)) Lx → M2.2.1 (v + 1) = nI Lx.length → Lx.length ≤ 64 → ev tl tx (ndOf mf) (n + 1) i s = Lx → Lp X D A am cI cZ tl nn rs ae tx mf (v + 1) M2 := by
        intro M2 Lx bM2 n2 p2 z2 hL2 hs2 hl2 he
        rw [he] at kk
        refine wk_if hX v i 19 rfl M2 hv8 hi60 n2 h0 (c_M_stepIf2 i v Lx hi60 hv1 p2 z2 hs2 hL2 hl2) (fun _ => rfl) (fun u3 hu3 => ?_)
        exact kk (u3, upd M2.2.1 v (nI Lx.length), M2.2.2.1, upd M2.2.2.2.1 v (nI (2 + 1)), M2.2.2.2.2.1, M2.2.2.2.2.2) (bM2.trans ⟨hu3.low hv8, (fun j hj => by first | rfl | exact pk_un (by omega) | exact (pk_un (by omega)).trans (pk_un (by omega))), fun _ _ => rfl, (fun j hj => by first | rfl | exact pk_un (by omega) | exact (pk_un (by omega)).trans (pk_un (by omega))), fun _ _ => rfl, fun _ _ => rfl⟩) hu3.2 pk_us
      cases hE : ev tl tx (ndOf mf) n ja s with
      | nil =>
        rw [hE] at hs1 h19
        refine wk_if hX v i 19 rfl M1 hv8 hi60 n1 h0 (c_M_stepIf1b i v jc hi60 hv1 p1 hec hs1) (fun _ => rfl) (fun u2 hu2 => ?_)
        refine ih (v + 1) jc s (M1.1, upd M1.2.1 (v + 1) (nI 0), upd M1.2.2.1 (v + 1) (nI jc), upd (upd M1.2.2.2.1 v (nI (1 + 1))) (v + 1) (nI 0), M1.2.2.2.2.1, u2) (by omega) hjc hvc hok pk_us pk_us pk_us (hu2.2.trans s1) ?_
        intro M2 b2 hL2 hs2
        exact last M2 _ (bM1.trans (Bl.trans (M' := (M1.1, upd M1.2.1 (v + 1) (nI 0), upd M1.2.2.1 (v + 1) (nI jc), upd (upd M1.2.2.2.1 v (nI (1 + 1))) (v + 1) (nI 0), M1.2.2.2.2.1, u2)) ⟨fun _ _ => rfl, (fun j hj => by first | rfl | exact pk_un (by omega) | exact (pk_un (by omega)).trans (pk_un (by omega))), (fun j hj => by first | rfl | exact pk_un (by omega) | exact (pk_un (by omega)).trans (pk_un (by omega))), (fun j hj => by first | rfl | exact pk_un (by omega) | exact (pk_un (by omega)).trans (pk_un (by omega))), fun _ _ => rfl, sv_low hu2 (by omega)⟩ b2.down)) ((b2.2.2.1 v (by omega)).trans ((pk_un (by omega)).trans n1)) ((b2.2.2.2.1 v (by omega)).trans ((pk_un (by omega)).trans pk_us)) ((b2.2.1 v (Or.inl (by omega))).trans ((pk_un (by omega)).trans z1)) hL2 hs2 (hrc s hok).1 h19
      | cons x T =>
        rw [hE] at hs1 h19 hL1 hl1
        have hx0 : gRow M1.1 (64 * (v + 1) + 0) = x := hL1.cons.1
        have hxok : okSt tl x.2 := hok1 x (by rw [hE]; exact List.mem_cons_self)
        refine wk_if hX v i 19 rfl M1 hv8 hi60 n1 h0 (c_M_stepIf1a i v jb _ hi60 hv1 p1 heb hs1 (by simp) hl1) (fun _ => rfl) (fun u2 hu2 => ?_)
        refine ih (v + 1) jb x.2 (M1.1, upd M1.2.1 (v + 1) (nI 0), upd M1.2.2.1 (v + 1) (nI jb), upd (upd M1.2.2.2.1 v (nI (1 + 1))) (v + 1) (nI 0), M1.2.2.2.2.1, u2) (by omega) hjb hvb hxok pk_us pk_us pk_us (hu2.2.trans (congrArg Prod.snd hx0)) ?_
        intro M2 b2 hL2 hs2
        exact last M2 _ (bM1.trans (Bl.trans (M' := (M1.1, upd M1.2.1 (v + 1) (nI 0), upd M1.2.2.1 (v + 1) (nI jb), upd (upd M1.2.2.2.1 v (nI (1 + 1))) (v + 1) (nI 0), M1.2.2.2.2.1, u2)) ⟨fun _ _ => rfl, (fun j hj => by first | rfl | exact pk_un (by omega) | exact (pk_un (by omega)).trans (pk_un (by omega))), (fun j hj => by first | rfl | exact pk_un (by omega) | exact (pk_un (by omega)).trans (pk_un (by omega))), (fun j hj => by first | rfl | exact pk_un (by omega) | exact (pk_un (by omega)).trans (pk_un (by omega))), fun _ _ => rfl, sv_low hu2 (by omega)⟩ b2.down)) ((b2.2.2.1 v (by omega)).trans ((pk_un (by omega)).trans n1)) ((b2.2.2.2.1 v (by omega)).trans ((pk_un (by omega)).trans pk_us)) ((b2.2.1 v (Or.inl (by omega))).trans ((pk_un (by omega)).trans z1)) hL2 hs2 (hrb x.2 hxok).1 h19
    have kPairs : ((9 ≤ k ∧ k ≤ 14) ∨ k = 16) → Lp X D A am cI cZ tl nn rs ae tx mf (v + 1) M := by
      intro hkq
      have hkx : k = 9 ∨ k = 10 ∨ k = 11 ∨ k = 12 ∨ k = 13 ∨ k = 14 ∨ k = 16 := by omega
      obtain ⟨ja, hja, hea, hoa, hn1, hva, hra⟩ := hA (by omega)
      obtain ⟨jb, hjb, heb, hob, hn1b, hvb, hrb⟩ := hBb (by omega)
      have hv1 : v + 1 < 8 := by omega
      rw [ev_pairs (by rw [hN1]; exact hkq), hN1, hNa, hNb, hoa, hob] at kk hev64
      refine wk_pairs hX v i k hkx M hv8 hi60 hnv h0 (c_M_stepPairs0 i v ja k hi60 hv1 hph hea) (fun _ => rfl) (fun u hu => ?_)
      refine ih (v + 1) ja s (M.1, upd M.2.1 (v + 1) (nI 0), upd M.2.2.1 (v + 1) (nI ja), upd (upd M.2.2.2.1 v (nI 1)) (v + 1) (nI 0), M.2.2.2.2.1, u) (by omega) hja hva hok pk_us pk_us pk_us (hu.2.trans hst) ?_
      intro M1 b1 hL1 hs1
      have bM1 : Bl v M M1 := Bl.trans (M' := (M.1, upd M.2.1 (v + 1) (nI 0), upd M.2.2.1 (v + 1) (nI ja), upd (upd M.2.2.2.1 v (nI 1)) (v + 1) (nI 0), M.2.2.2.2.1, u)) ⟨fun _ _ => rfl, (fun j hj => by first | rfl | exact pk_un (by omega) | exact (pk_un (by omega)).trans (pk_un (by omega))), (fun j hj => by first | rfl | exact pk_un (by omega) | exact (pk_un (by omega)).trans (pk_un (by omega))), (fun j hj => by first | rfl | exact pk_un (by omega) | exact (pk_un (by omega)).trans (pk_un (by omega))), fun _ _ => rfl, sv_low hu (by omega)⟩ b1.down
      have p1 : M1.2.2.2.1 v = nI 1 := (b1.2.2.2.1 v (by omega)).trans ((pk_un (by omega)).trans pk_us)
      have n1 : M1.2.2.1 v = nI i := (b1.2.2.1 v (by omega)).trans ((pk_un (by omega)).trans hnv)
      have z1 : M1.2.1 v = nI 0 := (b1.2.1 v (Or.inl (by omega))).trans ((pk_un (by omega)).trans hsz)
      have s1 : stOf M1.2.2.2.2.2 v = s := (stOf_eq fun c hc => (b1.2.2.2.2.2 c hc).trans (hu.1 c (Or.inl hc))).trans hst
      have hl1 := (hra s hok).1
      have hok1 := (hra s hok).2
      generalize hXe : ev tl tx (ndOf mf) n ja s = Xl at *
      have inner : ∀ (Q P : List Rs) (x : Rs) (M0 : MS), Xl = P ++ x :: Q → Bl v M M0 → M0.2.2.1 v = nI i → M0.2.2.2.1 v = nI 2 → M0.2.2.2.2.1 v = nI P.length → M0.2.1 (8 + v) = nI Xl.length → Holds M0.1 (64 * (8 + v)) Xl → M0.2.1 v = nI (P.flatMap (gX k (ev tl tx (ndOf mf) n jb))).length → Holds M0.1 (64 * v) (P.flatMap (gX k (ev tl tx (ndOf mf) n jb))) → M0.2.2.1 (v + 1) = nI jb → M0.2.2.2.1 (v + 1) = nI 0 → M0.2.1 (v + 1) = nI 0 → stOf M0.2.2.2.2.2 (v + 1) = x.2 → Lp X D A am cI cZ tl nn rs ae tx mf (v + 1 + 1) M0 := by
        intro Q
        induction Q with
        | nil =>
          intro P x M0 hP bM0 n0 p0 t0 z8 hX0 z0 hK0 cn cp cz cs
          have hxok : okSt tl x.2 := hok1 x (by rw [hP]; simp)
          have hXL : Xl.length = P.length + 1 := by rw [hP]; simp
          have hFL : Xl.flatMap (gX k (ev tl tx (ndOf mf) n jb)) = P.flatMap (gX k (ev tl tx (ndOf mf) n jb)) ++ (ev tl tx (ndOf mf) n jb x.2).flatMap (gP k x) := by rw [hP]; simp [gX]
          refine ih (v + 1) jb x.2 M0 (by omega) hjb hvb hxok cn cp cz cs ?_
          intro M1 b1 hL1 hs1
          have hKl : (P.flatMap (gX k (ev tl tx (ndOf mf) n jb))).length ≤ 64 := by rw [hFL, List.length_append] at hev64; omega
          have hX1 : Holds M1.1 (64 * (8 + v)) Xl := Holds.low (m := 0) hX0 (fun c h1 h2 => b1.1 c (Or.inr (by omega))) hl1
          refine wk_pairs hX v i k hkx M1 hv8 hi60 ((b1.2.2.1 v (by omega)).trans n0) h0 (c_M_stepPairs2b i v k Xl.length P.length x _ _ hi60 hv1 ((b1.2.2.2.1 v (by omega)).trans p0) hkq ((b1.2.2.2.2.1 v (by omega)).trans t0) hl1 ((b1.2.1 (8 + v) (Or.inr (by omega))).trans z8) (Holds.mid (hP ▸ hX1)) ((b1.2.1 v (Or.inl (by omega))).trans z0) (Holds.low (m := 0) hK0 (fun c h1 h2 => b1.1 c (Or.inl (by omega))) hKl) hs1 hL1 (hrb x.2 hxok).1 (by rw [← List.length_append, ← hFL]; exact hev64) (by omega)) (fun _ => rfl) (fun u3 hu3 => ?_)
          rw [hFL] at kk
          exact kk (u3, upd M1.2.1 v (nI (P.flatMap (gX k (ev tl tx (ndOf mf) n jb)) ++ (ev tl tx (ndOf mf) n jb x.2).flatMap (gP k x)).length), M1.2.2.1, M1.2.2.2.1, upd M1.2.2.2.2.1 v (nI (P.length + 1)), M1.2.2.2.2.2) (bM0.trans (b1.down.trans ⟨hu3.low hv8, (fun j hj => by first | rfl | exact pk_un (by omega) | exact (pk_un (by omega)).trans (pk_un (by omega))), fun _ _ => rfl, fun _ _ => rfl, (fun j hj => by first | rfl | exact pk_un (by omega) | exact (pk_un (by omega)).trans (pk_un (by omega))), fun _ _ => rfl⟩)) hu3.2 pk_us
        | cons x' Q ihQ =>
          intro P x M0 hP bM0 n0 p0 t0 z8 hX0 z0 hK0 cn cp cz cs
          have hxok : okSt tl x.2 := hok1 x (by rw [hP]; simp)
          have hXL : Xl.length = P.length + (Q.length + 2) := by rw [hP]; simp
          have hFL : (Xl.flatMap (gX k (ev tl tx (ndOf mf) n jb))).length = (P.flatMap (gX k (ev tl tx (ndOf mf) n jb))).length + (((ev tl tx (ndOf mf) n jb x.2).flatMap (gP k x)).length + ((x' :: Q).flatMap (gX k (ev tl tx (ndOf mf) n jb))).length) := by rw [hP]; simp [gX]
          refine ih (v + 1) jb x.2 M0 (by omega) hjb hvb hxok cn cp cz cs ?_
          intro M1 b1 hL1 hs1
          have hX1 : Holds M1.1 (64 * (8 + v)) Xl := Holds.low (m := 0) hX0 (fun c h1 h2 => b1.1 c (Or.inr (by omega))) hl1
          refine wk_pairs hX v i k hkx M1 hv8 hi60 ((b1.2.2.1 v (by omega)).trans n0) h0 (c_M_stepPairs2a i v k Xl.length P.length x _ _ hi60 hv1 ((b1.2.2.2.1 v (by omega)).trans p0) hkq ((b1.2.2.2.2.1 v (by omega)).trans t0) hl1 ((b1.2.1 (8 + v) (Or.inr (by omega))).trans z8) (Holds.mid (hP ▸ hX1)) ((b1.2.1 v (Or.inl (by omega))).trans z0) (Holds.low (m := 0) hK0 (fun c h1 h2 => b1.1 c (Or.inl (by omega))) (by omega)) hs1 hL1 (hrb x.2 hxok).1 (by omega) (by omega) jb heb) (fun _ => rfl) (fun u' hu' => ?_)
          obtain ⟨f, u2⟩ := u'
          obtain ⟨hf, hu2⟩ := hu'
          dsimp only at hf hu2
          have hfs : (P ++ [x]).flatMap (gX k (ev tl tx (ndOf mf) n jb)) = P.flatMap (gX k (ev tl tx (ndOf mf) n jb)) ++ (ev tl tx (ndOf mf) n jb x.2).flatMap (gP k x) := by simp [gX]
          have hX2 : Holds f (64 * (8 + v)) Xl := Holds.low (m := 0) hX1 (fun c h1 h2 => hf.1 c (Or.inr (by omega))) hl1
          have hPx : Xl = (P ++ [x]) ++ x' :: Q := by rw [hP]; simp
          refine ihQ (P ++ [x]) x' (f, upd (upd M1.2.1 v (nI (P.flatMap (gX k (ev tl tx (ndOf mf) n jb)) ++ (ev tl tx (ndOf mf) n jb x.2).flatMap (gP k x)).length)) (v + 1) (nI 0), upd M1.2.2.1 (v + 1) (nI jb), upd M1.2.2.2.1 (v + 1) (nI 0), upd M1.2.2.2.2.1 v (nI (P.length + 1)), u2) hPx (bM0.trans (b1.down.trans ⟨hf.low hv8, (fun j hj => by first | rfl | exact pk_un (by omega) | exact (pk_un (by omega)).trans (pk_un (by omega))), (fun j hj => by first | rfl | exact pk_un (by omega) | exact (pk_un (by omega)).trans (pk_un (by omega))), (fun j hj => by first | rfl | exact pk_un (by omega) | exact (pk_un (by omega)).trans (pk_un (by omega))), (fun j hj => by first | rfl | exact pk_un (by omega) | exact (pk_un (by omega)).trans (pk_un (by omega))), sv_low hu2 (by omega)⟩)) ((pk_un (by omega)).trans ((b1.2.2.1 v (by omega)).trans n0)) ((pk_un (by omega)).trans ((b1.2.2.2.1 v (by omega)).trans p0)) (by rw [show (P ++ [x]).length = P.length + 1 by simp]; exact pk_us) ((pk_un (by omega)).trans ((pk_un (by omega)).trans ((b1.2.1 (8 + v) (Or.inr (by omega))).trans z8))) hX2 (by rw [hfs]; exact (pk_un (by omega)).trans pk_us) (by rw [hfs]; exact hf.2) pk_us pk_us pk_us ?_
          have hmid := Holds.mid (hPx ▸ hX2)
          rw [show (P ++ [x]).length = P.length + 1 by simp] at hmid
          exact hu2.2.trans (congrArg Prod.snd hmid)
      cases hXc : Xl with
      | nil =>
        rw [hXc] at kk hs1
        refine wk_pairs hX v i k hkx M1 hv8 hi60 n1 h0 (c_M_stepPairs1b i v k 0 hi60 hv1 p1 hs1 (by decide) rfl) (fun _ => rfl) (fun _ _ => ?_)
        refine kk (cpF M1.1 (64 * (v + 1)) (64 * (8 + v)) (0 * 6), upd M1.2.1 (8 + v) (nI 0), M1.2.2.1, upd M1.2.2.2.1 v (nI 2), upd M1.2.2.2.2.1 v (nI 0), M1.2.2.2.2.2) (bM1.trans ⟨fun c hc => cp_off (by omega), (fun j hj => by first | rfl | exact pk_un (by omega) | exact (pk_un (by omega)).trans (pk_un (by omega))), fun _ _ => rfl, (fun j hj => by first | rfl | exact pk_un (by omega) | exact (pk_un (by omega)).trans (pk_un (by omega))), (fun j hj => by first | rfl | exact pk_un (by omega) | exact (pk_un (by omega)).trans (pk_un (by omega))), fun _ _ => rfl⟩) (Holds.nil _ _) ?_
        exact (pk_un (by omega)).trans z1
      | cons x T =>
        have hXn : 1 ≤ Xl.length := by rw [hXc]; simp
        refine wk_pairs hX v i k hkx M1 hv8 hi60 n1 h0 (c_M_stepPairs1a i v k Xl.length hi60 hv1 p1 hs1 hl1 hXn jb heb) (fun _ => rfl) (fun u2 hu2 => ?_)
        have hXX : Holds (cpF M1.1 (64 * (v + 1)) (64 * (8 + v)) (Xl.length * 6)) (64 * (8 + v)) Xl := fun r hr => by
          rw [cp_row hr]
          exact hL1 r hr
        refine inner T [] x (cpF M1.1 (64 * (v + 1)) (64 * (8 + v)) (Xl.length * 6), upd (upd M1.2.1 (8 + v) (nI Xl.length)) (v + 1) (nI 0), upd M1.2.2.1 (v + 1) (nI jb), upd (upd M1.2.2.2.1 v (nI 2)) (v + 1) (nI 0), upd M1.2.2.2.2.1 v (nI 0), u2) hXc (bM1.trans ⟨fun c hc => cp_off (by omega), (fun j hj => by first | rfl | exact pk_un (by omega) | exact (pk_un (by omega)).trans (pk_un (by omega))), (fun j hj => by first | rfl | exact pk_un (by omega) | exact (pk_un (by omega)).trans (pk_un (by omega))), (fun j hj => by first | rfl | exact pk_un (by omega) | exact (pk_un (by omega)).trans (pk_un (by omega))), (fun j hj => by first | rfl | exact pk_un (by omega) | exact (pk_un (by omega)).trans (pk_un (by omega))), sv_low hu2 (by omega)⟩) ((pk_un (by omega)).trans n1) ((pk_un (by omega)).trans pk_us) pk_us ((pk_un (by omega)).trans pk_us) hXX ((pk_un (by omega)).trans ((pk_un (by omega)).trans z1)) (Holds.nil _ _) pk_us pk_us pk_us ?_
        exact hu2.2.trans (congrArg Prod.snd (hXc ▸ hXX : Holds _ _ (x :: T)).cons.1)
    rcases k22 hk with hq | hq | hq | hq | hq | hq | hq | hq | hq | hq | hq | hq | hq | hq | hq | hq | hq | hq | hq | hq | hq | hq
    · exact leaf (by omega)
    · exact leaf (by omega)
    · exact leaf (by omega)
    · exact leaf (by omega)
    · exact leaf (by omega)
    · exact leaf (by omega)
    · exact leaf (by omega)
    · exact leaf (by omega)
    · exact kO8 hq
    · exact kPairs (by omega)
    · exact kPairs (by omega)
    · exact kPairs (by omega)
    · exact kPairs (by omega)
    · exact kPairs (by omega)
    · exact kPairs (by omega)
    · exact kOr hq
    · exact kPairs (by omega)
    · exact kO17 hq
    · exact kO18 hq
    · exact kIf hq
    · exact kO20 hq
    · exact kO21 hq
end Run
