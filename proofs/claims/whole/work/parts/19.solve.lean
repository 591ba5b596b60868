/-! Nodes as they are made; how many RESULTS there can be; solve itself. -/
def kN (nf : Nat → Nat → Int32) (i : Nat) : Nat := opN (nf 0 i)
def vN (nf : Nat → Nat → Int32) (i : Nat) : Nat := opN (nf 6 i)
def BN (nf : Nat → Nat → Int32) (i : Nat) : Nat := opN (nf 4 i)
def ndOf (nf : Nat → Nat → Int32) : Nd := (kN nf, nf 1, nf 2, nf 3)
/-- a node that node has made: its kind, LEVEL and BOUND are numbers, its operands are nodes made before it, of lower LEVEL -/
def NW (nf : Nat → Nat → Int32) (i : Nat) : Prop :=
  nf 0 i = nI (kN nf i) ∧ kN nf i ≤ 21 ∧ nf 6 i = nI (vN nf i) ∧ 1 ≤ vN nf i ∧ vN nf i ≤ 8 ∧ nf 4 i = nI (BN nf i) ∧ BN nf i ≤ 64 ∧ nf 4 i = bndF nf (kN nf i) (nf 1 i) (nf 2 i) (nf 3 i) ∧ plainF (kN nf i) (nf 1 i) = true ∧ okOpsN i (kN nf i) (nf 1 i) (nf 2 i) (nf 3 i) ∧
  (8 ≤ kN nf i ∧ kN nf i ≠ 17 ∧ kN nf i ≠ 18 → vN nf (opN (nf 1 i)) < vN nf i) ∧ (9 ≤ kN nf i ∧ kN nf i ≤ 19 → vN nf (opN (nf 2 i)) < vN nf i) ∧ (kN nf i = 19 → vN nf (opN (nf 3 i)) < vN nf i)
def WFn (nn : Nat) (nf : Nat → Nat → Int32) : Prop := ∀ i, i < nn → NW nf i
theorem okSt_set {tl : Nat} {s : St} {p : Nat} (h : p ≤ tl) : okSt tl (stSet s 0 (nI p)) := ⟨p, h, by simp [stSet]⟩
theorem okSt_var {tl k : Nat} {s : St} {x : Int32} (h : okSt tl s) : okSt tl (stSet s (1 + k) x) := by
  obtain ⟨p, h1, h2⟩ := h
  exact ⟨p, h1, by simp [stSet]; rw [if_neg (by omega)]; exact h2⟩
theorem okSt_pl {tl : Nat} {s : St} (h : okSt tl s) (ht : tl ≤ 24) : stPl s ≤ tl ∧ s 0 = nI (stPl s) := by
  obtain ⟨p, h1, h2⟩ := h
  unfold stPl
  rw [h2, nI_clamp (by omega)]
  exact ⟨h1, rfl⟩
theorem bestL_mem : ∀ (l : List Rs) (b : Rs), bestL b l = b ∨ bestL b l ∈ l
  | [], b => Or.inl rfl
  | r :: l, b => by
    unfold bestL
    rcases bestL_mem l (if b.1 < r.1 then r else b) with h | h
    · rw [h]
      split
      · exact Or.inr List.mem_cons_self
      · exact Or.inl rfl
    · exact Or.inr (List.mem_cons_of_mem _ h)
theorem seekL_len (b : Nat → Bool) : ∀ n q k, (seekL b n q k).length ≤ k
  | 0, _, _ => Nat.zero_le _
  | n + 1, q, k => by
    unfold seekL
    split
    · exact Nat.zero_le _
    split
    · have := seekL_len b n (q + 1) (k - 1)
      rw [List.length_cons]
      omega
    · exact seekL_len b n (q + 1) k
theorem pairL_len (k : Nat) (x y : Int32) : (pairL k x y).length ≤ (if k = 14 then 8 else 1) := by
  unfold pairL
  repeat' split
  all_goals first | (simp_all; done) | (simp [serL]; exact serN_8 x y) | omega
theorem flat_lenG {α β : Type} (g : α → List β) (b : Nat) : ∀ l : List α, (∀ a ∈ l, (g a).length ≤ b) → (l.flatMap g).length ≤ l.length * b
  | [], _ => by simp
  | a :: l, h => by
    rw [List.flatMap_cons, List.length_append, List.length_cons, Nat.add_mul]
    have h1 := h a List.mem_cons_self
    have h2 := flat_lenG g b l (fun a ha => h a (List.mem_cons_of_mem _ ha))
    omega
theorem gX_len {k B : Nat} {EB : St → List Rs} {x : Rs} (h : (EB x.2).length ≤ B) : (gX k EB x).length ≤ B * (if k = 14 then 8 else 1) := by
  refine Nat.le_trans (flat_lenG (gP k x) (if k = 14 then 8 else 1) _ fun y _ => ?_) (Nat.mul_le_mul_right _ h)
  unfold gP
  rw [List.length_map]
  exact pairL_len k x.1 y.1
/-- the kinds of ev, one by one -/
theorem ev_pairs {tl : Nat} {ch : Nat → Int32} {N : Nd} {n i : Nat} {s : St} (h : (9 ≤ N.1 i ∧ N.1 i ≤ 14) ∨ N.1 i = 16) : ev tl ch N (n + 1) i s = (ev tl ch N n (opN (N.2.1 i)) s).flatMap (gX (N.1 i) (ev tl ch N n (opN (N.2.2.1 i)))) := by
  simp only [ev]
  rw [if_neg (by omega), if_neg (by omega), if_neg (by omega), if_neg (by omega), if_neg (by omega), if_neg (by omega), if_neg (by omega), if_neg (by omega), if_neg (by omega), if_neg (by omega), if_neg (by omega), if_neg (by omega), if_neg (by omega), if_neg (by omega), if_neg (by omega)]
  rfl
section Evs
variable {tl : Nat} {ch : Nat → Int32} {N : Nd} {n i : Nat} {s : St}
theorem ev_k0 (h : N.1 i = 0) : ev tl ch N (n + 1) i s = [(N.2.1 i, s)] := by
  simp only [ev, h]
  first | done | rfl
theorem ev_k1 (h : N.1 i = 1) : ev tl ch N (n + 1) i s = [(stGet s (1 + opN (N.2.1 i)), s)] := by
  simp only [ev, h]
  first | done | rfl
theorem ev_k2 (h : N.1 i = 2) : ev tl ch N (n + 1) i s = [(s 0, s)] := by
  simp only [ev, h]
  first | done | rfl
theorem ev_k3 (h : N.1 i = 3) : ev tl ch N (n + 1) i s = [(nI tl, s)] := by
  simp only [ev, h]
  first | done | rfl
theorem ev_k4 (h : N.1 i = 4) : ev tl ch N (n + 1) i s = (if atSort tl ch (N.2.1 i) (stPl s) = true then [(ch (stPl s), stSet s 0 (nI (stPl s + 1)))] else []) := by
  simp only [ev, h]
  first | done | rfl
theorem ev_k5 (h : N.1 i = 5) : ev tl ch N (n + 1) i s = (if stPl s < runL (atSort tl ch (N.2.1 i)) 24 (stPl s) then [(nI (runL (atSort tl ch (N.2.1 i)) 24 (stPl s) - stPl s), stSet s 0 (nI (runL (atSort tl ch (N.2.1 i)) 24 (stPl s))))] else []) := by
  simp only [ev, h]
  rfl
theorem ev_k6 (h : N.1 i = 6) : ev tl ch N (n + 1) i s = (if stPl s < runL (atSort tl ch (nI 0)) 9 (stPl s) then [(decL ch (runL (atSort tl ch (nI 0)) 9 (stPl s) - stPl s) (stPl s) (nI 0), stSet s 0 (nI (runL (atSort tl ch (nI 0)) 9 (stPl s))))] else []) := by
  simp only [ev, h]
  rfl
theorem ev_k7 (h : N.1 i = 7) : ev tl ch N (n + 1) i s = (seekL (atSort tl ch (N.2.1 i)) (tl - stPl s) (stPl s) 8).map (fun j => (nI j, s)) := by
  simp only [ev, h]
  first | done | rfl
theorem ev_k8 (h : N.1 i = 8) : ev tl ch N (n + 1) i s = (ev tl ch N n (opN (N.2.1 i)) s).flatMap (goL tl) := by
  simp only [ev, h]
  first | done | rfl
theorem ev_k15 (h : N.1 i = 15) : ev tl ch N (n + 1) i s = ev tl ch N n (opN (N.2.1 i)) s ++ ev tl ch N n (opN (N.2.2.1 i)) s := by
  simp only [ev, h]
  first | done | rfl
theorem ev_k17 (h : N.1 i = 17) : ev tl ch N (n + 1) i s = (ev tl ch N n (opN (N.2.2.1 i)) s).map (fun r => (r.1, stSet r.2 (1 + opN (N.2.1 i)) r.1)) := by
  simp only [ev, h]
  first | done | rfl
theorem ev_k18 (h : N.1 i = 18) : ev tl ch N (n + 1) i s = (ev tl ch N n (opN (N.2.2.1 i)) s).take (opN (N.2.1 i)) := by
  simp only [ev, h]
  first | done | rfl
theorem ev_k19 (h : N.1 i = 19) : ev tl ch N (n + 1) i s = (match ev tl ch N n (opN (N.2.1 i)) s with | [] => ev tl ch N n (opN (N.2.2.2 i)) s | x :: _ => ev tl ch N n (opN (N.2.2.1 i)) x.2) := by
  simp only [ev, h]
  rfl
theorem ev_k20 (h : N.1 i = 20) : ev tl ch N (n + 1) i s = (if (ev tl ch N n (opN (N.2.1 i)) s).isEmpty = true then [(nI 0, s)] else []) := by
  simp only [ev, h]
  first | done | rfl
theorem ev_k21 (h : N.1 i = 21) : ev tl ch N (n + 1) i s = (match ev tl ch N n (opN (N.2.1 i)) s with | [] => [] | x :: l => [bestL x l]) := by
  simp only [ev, h]
  rfl
end Evs
theorem nI_inj {a b : Nat} (ha : a < 2 ^ 31) (hb : b < 2 ^ 31) (h : nI a = nI b) : a = b := (nI_eq ha hb).mp h
theorem cnt8_of {a : Int32} (h : cnt8 a = true) : ∃ v, v ≤ 8 ∧ a = nI v := by
  simp only [cnt8, Bool.and_eq_true, decide_eq_true_eq] at h
  have h1 : ¬ a < 0 := fun hq => h.1 (by
    rw [Int32.lt_iff_toInt_lt] at hq ⊢
    have h5 : (nI 1).toInt = 1 := by decide
    rw [Int32.toInt_zero] at hq
    omega)
  exact nI_of2 (M := nI 8) (n := 8) (by decide) h1 (Int32.not_lt.mp h.2)
/-- at most as many RESULTS as THE BOUND says; their places are in the text -/
theorem ev_ok {tl : Nat} {ch : Nat → Int32} {nf : Nat → Nat → Int32} (ht : tl ≤ 24) (nn : Nat) (hn60 : nn ≤ 60) (hw : WFn nn nf) : ∀ (n i : Nat), i < nn → vN nf i ≤ n → ∀ s, okSt tl s → (ev tl ch (ndOf nf) n i s).length ≤ BN nf i ∧ ∀ r ∈ ev tl ch (ndOf nf) n i s, okSt tl r.2 := by
  intro n
  induction n with
  | zero =>
    intro i hi hv s hs
    have := (hw i hi).2.2.2.1
    omega
  | succ n ih =>
    intro i hi hv s hs
    obtain ⟨h0, hk, h6, hv1, hv8, h4, hB, hbnd, hpl, hop, hlA, hlB, hlC⟩ := hw i hi
    obtain ⟨hp1, hp2⟩ := okSt_pl hs ht
    have hA : (8 ≤ kN nf i ∧ kN nf i ≠ 17 ∧ kN nf i ≠ 18) → ∃ j, j < i ∧ nf 1 i = nI j ∧ opN (nf 1 i) = j ∧ nf 4 j = nI (BN nf j) ∧ BN nf j ≤ 64 ∧ ∀ s, okSt tl s → (ev tl ch (ndOf nf) n j s).length ≤ BN nf j ∧ ∀ r ∈ ev tl ch (ndOf nf) n j s, okSt tl r.2 := by
      intro q
      obtain ⟨j, hj, he⟩ := hop.1 q
      have hlt := hlA q
      have ho : opN (nf 1 i) = j := by rw [he]; exact opN_nI (by omega)
      rw [ho] at hlt
      have hwj := hw j (by omega)
      exact ⟨j, hj, he, ho, hwj.2.2.2.2.2.1, hwj.2.2.2.2.2.2.1, fun s hs => ih j (by omega) (by omega) s hs⟩
    have hBb : (9 ≤ kN nf i ∧ kN nf i ≤ 19) → ∃ j, j < i ∧ nf 2 i = nI j ∧ opN (nf 2 i) = j ∧ nf 4 j = nI (BN nf j) ∧ BN nf j ≤ 64 ∧ ∀ s, okSt tl s → (ev tl ch (ndOf nf) n j s).length ≤ BN nf j ∧ ∀ r ∈ ev tl ch (ndOf nf) n j s, okSt tl r.2 := by
      intro q
      obtain ⟨j, hj, he⟩ := hop.2.1 q
      have hlt := hlB q
      have ho : opN (nf 2 i) = j := by rw [he]; exact opN_nI (by omega)
      rw [ho] at hlt
      have hwj := hw j (by omega)
      exact ⟨j, hj, he, ho, hwj.2.2.2.2.2.1, hwj.2.2.2.2.2.2.1, fun s hs => ih j (by omega) (by omega) s hs⟩
    have hCc : kN nf i = 19 → ∃ j, j < i ∧ nf 3 i = nI j ∧ opN (nf 3 i) = j ∧ nf 4 j = nI (BN nf j) ∧ BN nf j ≤ 64 ∧ ∀ s, okSt tl s → (ev tl ch (ndOf nf) n j s).length ≤ BN nf j ∧ ∀ r ∈ ev tl ch (ndOf nf) n j s, okSt tl r.2 := by
      intro q
      obtain ⟨j, hj, he⟩ := hop.2.2 q
      have hlt := hlC q
      have ho : opN (nf 3 i) = j := by rw [he]; exact opN_nI (by omega)
      rw [ho] at hlt
      have hwj := hw j (by omega)
      exact ⟨j, hj, he, ho, hwj.2.2.2.2.2.1, hwj.2.2.2.2.2.2.1, fun s hs => ih j (by omega) (by omega) s hs⟩
    have hN1 : (ndOf nf).1 i = kN nf i := rfl
    have hNa : (ndOf nf).2.1 i = nf 1 i := rfl
    have hNb : (ndOf nf).2.2.1 i = nf 2 i := rfl
    have hNc : (ndOf nf).2.2.2 i = nf 3 i := rfl
    rw [h4] at hbnd
    generalize hkk : kN nf i = k at *
    have pairs : ((9 ≤ k ∧ k ≤ 14) ∨ k = 16) → (ev tl ch (ndOf nf) (n + 1) i s).length ≤ BN nf i ∧ ∀ r ∈ ev tl ch (ndOf nf) (n + 1) i s, okSt tl r.2 := by
      intro q
      obtain ⟨ja, hja, hea, hoa, hba, hBa, hra⟩ := hA (by omega)
      obtain ⟨jb, hjb, heb, hob, hbb, hBb2, hrb⟩ := hBb (by omega)
      rw [ev_pairs (by rw [hN1]; exact q), hN1, hNa, hNb, hoa, hob]
      have hBeq : BN nf i = BN nf ja * (BN nf jb * (if k = 14 then 8 else 1)) := by
        have hm1 : BN nf ja * BN nf jb ≤ 64 * 64 := Nat.mul_le_mul hBa hBb2
        by_cases e : k = 14
        · rw [if_pos e]
          subst e
          have : bndF nf 14 (nf 1 i) (nf 2 i) (nf 3 i) = nI (8 * BN nf ja * BN nf jb) := by
            simp [bndF, hoa, hob, hba, hbb, pk_mul]
          rw [this] at hbnd
          have := nI_inj (by omega) (by rw [Nat.mul_assoc]; omega) hbnd
          rw [this, Nat.mul_assoc, Nat.mul_comm 8, Nat.mul_assoc]
        · rw [if_neg e, Nat.mul_one]
          have : bndF nf k (nf 1 i) (nf 2 i) (nf 3 i) = nI (BN nf ja * BN nf jb) := by
            have e1 : ¬ k = 7 := by omega
            have e2 : ¬ k = 8 := by omega
            have e3 : ¬ k = 17 := by omega
            have e4 : ¬ k = 15 := by omega
            have e5 : ¬ k = 18 := by omega
            have e6 : ¬ k = 19 := by omega
            have e7 : 9 ≤ k ∧ k ≤ 16 := by omega
            simp only [bndF, e, e1, e2, e3, e4, e5, e6, if_false, if_pos e7, hoa, hob, hba, hbb, pk_mul]
          rw [this] at hbnd
          exact nI_inj (by omega) (by omega) hbnd
      constructor
      · rw [hBeq]
        refine Nat.le_trans (flat_lenG _ (BN nf jb * (if k = 14 then 8 else 1)) _ fun x hx => gX_len (hrb x.2 ((hra s hs).2 x hx)).1) (Nat.mul_le_mul_right _ (hra s hs).1)
      · intro r hr
        obtain ⟨x, hx, hr⟩ := List.mem_flatMap.mp hr
        obtain ⟨y, hy, hr⟩ := List.mem_flatMap.mp hr
        obtain ⟨v, -, rfl⟩ := List.mem_map.mp hr
        exact (hrb x.2 ((hra s hs).2 x hx)).2 y hy
    rcases k22 hk with rfl | rfl | rfl | rfl | rfl | rfl | rfl | rfl | rfl | rfl | rfl | rfl | rfl | rfl | rfl | rfl | rfl | rfl | rfl | rfl | rfl | rfl
    · have : BN nf i = 1 := nI_inj (by omega) (by decide) (hbnd.trans (by simp [bndF]))
      rw [ev_k0 hkk]
      exact ⟨by simp; omega, fun r hr => by rw [List.mem_singleton.mp hr]; exact hs⟩
    · have : BN nf i = 1 := nI_inj (by omega) (by decide) (hbnd.trans (by simp [bndF]))
      rw [ev_k1 hkk]
      exact ⟨by simp; omega, fun r hr => by rw [List.mem_singleton.mp hr]; exact hs⟩
    · have : BN nf i = 1 := nI_inj (by omega) (by decide) (hbnd.trans (by simp [bndF]))
      rw [ev_k2 hkk]
      exact ⟨by simp; omega, fun r hr => by rw [List.mem_singleton.mp hr]; exact hs⟩
    · have : BN nf i = 1 := nI_inj (by omega) (by decide) (hbnd.trans (by simp [bndF]))
      rw [ev_k3 hkk]
      exact ⟨by simp; omega, fun r hr => by rw [List.mem_singleton.mp hr]; exact hs⟩
    · have : BN nf i = 1 := nI_inj (by omega) (by decide) (hbnd.trans (by simp [bndF]))
      rw [ev_k4 hkk]
      split
      · rename_i hq
        exact ⟨by simp; omega, fun r hr => by rw [List.mem_singleton.mp hr]; exact okSt_set (atSort_lt hq)⟩
      · exact ⟨Nat.zero_le _, fun r hr => absurd hr List.not_mem_nil⟩
    · have : BN nf i = 1 := nI_inj (by omega) (by decide) (hbnd.trans (by simp [bndF]))
      rw [ev_k5 hkk]
      split
      · exact ⟨by simp; omega, fun r hr => by rw [List.mem_singleton.mp hr]; exact okSt_set (runL_le _ tl (fun j hj => atSort_lt hj) _ _ hp1)⟩
      · exact ⟨Nat.zero_le _, fun r hr => absurd hr List.not_mem_nil⟩
    · have : BN nf i = 1 := nI_inj (by omega) (by decide) (hbnd.trans (by simp [bndF]))
      rw [ev_k6 hkk]
      split
      · exact ⟨by simp; omega, fun r hr => by rw [List.mem_singleton.mp hr]; exact okSt_set (runL_le _ tl (fun j hj => atSort_lt hj) _ _ hp1)⟩
      · exact ⟨Nat.zero_le _, fun r hr => absurd hr List.not_mem_nil⟩
    · have : BN nf i = 8 := nI_inj (by omega) (by decide) (hbnd.trans (by simp [bndF]))
      rw [ev_k7 hkk]
      refine ⟨by rw [List.length_map, this]; exact seekL_len _ _ _ _, fun r hr => ?_⟩
      obtain ⟨x, -, rfl⟩ := List.mem_map.mp hr
      exact hs
    · obtain ⟨ja, hja, hea, hoa, hba, hBa, hra⟩ := hA (by omega)
      have : BN nf i = BN nf ja := nI_inj (by omega) (by omega) (hbnd.trans (by simp [bndF, hoa, hba]))
      rw [ev_k8 hkk, hNa, hoa]
      refine ⟨?_, fun r hr => ?_⟩
      · have h1 := flat_lenG (goL tl) 1 (ev tl ch (ndOf nf) n ja s) (fun a _ => goL_len tl a)
        have h2 := (hra s hs).1
        omega
      · obtain ⟨x, -, hg⟩ := List.mem_flatMap.mp hr
        unfold goL at hg
        split at hg
        · rename_i hq
          rw [List.mem_singleton.mp hg]
          obtain ⟨m, hm, he⟩ := nI_of2 (M := nI tl) (n := tl) (nI_toInt (by omega)) hq.1 hq.2
          rw [he]
          exact okSt_set hm
        · exact absurd hg List.not_mem_nil
    · exact pairs (by omega)
    · exact pairs (by omega)
    · exact pairs (by omega)
    · exact pairs (by omega)
    · exact pairs (by omega)
    · exact pairs (by omega)
    · obtain ⟨ja, hja, hea, hoa, hba, hBa, hra⟩ := hA (by omega)
      obtain ⟨jb, hjb, heb, hob, hbb, hBb2, hrb⟩ := hBb (by omega)
      have : BN nf i = BN nf ja + BN nf jb := nI_inj (by omega) (by omega) (hbnd.trans (by simp [bndF, hoa, hob, hba, hbb, nI_add]))
      rw [ev_k15 hkk, hNa, hNb, hoa, hob]
      have h1 := hra s hs
      have h2 := hrb s hs
      refine ⟨by rw [List.length_append]; omega, fun r hr => ?_⟩
      rcases List.mem_append.mp hr with hr | hr
      · exact h1.2 _ hr
      · exact h2.2 _ hr
    · exact pairs (by omega)
    · obtain ⟨jb, hjb, heb, hob, hbb, hBb2, hrb⟩ := hBb (by omega)
      have : BN nf i = BN nf jb := nI_inj (by omega) (by omega) (hbnd.trans (by simp [bndF, hob, hbb]))
      rw [ev_k17 hkk, hNb, hob]
      have h2 := hrb s hs
      refine ⟨by rw [List.length_map]; omega, fun r hr => ?_⟩
      obtain ⟨x, hx, rfl⟩ := List.mem_map.mp hr
      exact okSt_var (h2.2 _ hx)
    · obtain ⟨jb, hjb, heb, hob, hbb, hBb2, hrb⟩ := hBb (by omega)
      have h2 := hrb s hs
      obtain ⟨v, hv8', hev⟩ := cnt8_of (by simpa [plainF] using hpl)
      have : BN nf i = min v (BN nf jb) := by
        have e : bndF nf 18 (nf 1 i) (nf 2 i) (nf 3 i) = nI (min v (BN nf jb)) := by
          rw [show bndF nf 18 (nf 1 i) (nf 2 i) (nf 3 i) = (if nf 4 (opN (nf 2 i)) < nf 1 i then nf 4 (opN (nf 2 i)) else nf 1 i) by simp [bndF], hob, hbb, hev]
          exact rx_min (by omega) (by omega)
        exact nI_inj (by omega) (by omega) (hbnd.trans e)
      have hov : opN (nf 1 i) = v := by rw [hev]; exact opN_nI (by omega)
      rw [ev_k18 hkk, hNa, hNb, hob, hov]
      refine ⟨by rw [List.length_take]; omega, fun r hr => h2.2 _ (List.mem_of_mem_take hr)⟩
    · obtain ⟨ja, hja, hea, hoa, hba, hBa, hra⟩ := hA (by omega)
      obtain ⟨jb, hjb, heb, hob, hbb, hBb2, hrb⟩ := hBb (by omega)
      obtain ⟨jc, hjc, hec, hoc, hbc, hBc, hrc⟩ := hCc rfl
      have : BN nf i = max (BN nf jb) (BN nf jc) := by
        have e : bndF nf 19 (nf 1 i) (nf 2 i) (nf 3 i) = nI (max (BN nf jb) (BN nf jc)) := by
          rw [show bndF nf 19 (nf 1 i) (nf 2 i) (nf 3 i) = mx (nf 4 (opN (nf 2 i))) (nf 4 (opN (nf 3 i))) by simp [bndF], hob, hoc, hbb, hbc]
          unfold mx
          by_cases hq : BN nf jb < BN nf jc
          · rw [if_pos (nI_lt hq (by omega)), Nat.max_eq_right (by omega)]
          · rw [if_neg (nI_nlt (by omega) (by omega)), Nat.max_eq_left (by omega)]
        exact nI_inj (by omega) (by omega) (hbnd.trans e)
      rw [ev_k19 hkk, hNa, hNb, hNc, hoa, hob, hoc]
      cases hE : ev tl ch (ndOf nf) n ja s with
      | nil =>
        have h3 := hrc s hs
        exact ⟨Nat.le_trans h3.1 (by omega), h3.2⟩
      | cons x l =>
        have h3 := hrb x.2 ((hra s hs).2 x (by rw [hE]; exact List.mem_cons_self))
        exact ⟨Nat.le_trans h3.1 (by omega), h3.2⟩
    · have : BN nf i = 1 := nI_inj (by omega) (by decide) (hbnd.trans (by simp [bndF]))
      rw [ev_k20 hkk]
      split
      · exact ⟨by simp; omega, fun r hr => by rw [List.mem_singleton.mp hr]; exact hs⟩
      · exact ⟨Nat.zero_le _, fun r hr => absurd hr List.not_mem_nil⟩
    · obtain ⟨ja, hja, hea, hoa, hba, hBa, hra⟩ := hA (by omega)
      have : BN nf i = 1 := nI_inj (by omega) (by decide) (hbnd.trans (by simp [bndF]))
      rw [ev_k21 hkk, hNa, hoa]
      cases hE : ev tl ch (ndOf nf) n ja s with
      | nil => exact ⟨Nat.zero_le _, fun r hr => absurd hr List.not_mem_nil⟩
      | cons x l =>
        refine ⟨by simp; omega, fun r hr => ?_⟩
        rw [List.mem_singleton.mp hr]
        have h3 := (hra s hs).2
        rw [hE] at h3
        rcases bestL_mem l x with h4 | h4
        · rw [h4]
          exact h3 x List.mem_cons_self
        · exact h3 _ (List.mem_cons_of_mem _ h4)
