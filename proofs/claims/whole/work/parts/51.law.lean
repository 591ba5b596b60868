/-! The law: rows for its script, calls beside another object's cells, one theorem a call of the switch, the loop. -/
theorem wput_mid : ∀ (cs A P B : va_W), cs.length = A.length → wput (P ++ (A ++ B)) (List.range' P.length A.length) cs = P ++ (cs ++ B)
  | [], [], P, B, _ => by simp [wput]
  | [], a :: A, P, B, h => by simp at h
  | q :: cs, [], P, B, h => by simp at h
  | q :: cs, a :: A, P, B, h => by
    have ih := wput_mid cs A (P ++ [q]) B (by simpa using h)
    rw [List.length_cons, List.range'_succ]
    show wput ((P ++ (a :: A ++ B)).set P.length q) _ cs = _
    rw [show (P ++ (a :: A ++ B)).set P.length q = (P ++ [q]) ++ (A ++ B) by simp]
    rw [List.length_append, List.length_singleton] at ih
    rw [ih]
    simp
theorem mid_map (P A B : va_W) : (List.range' P.length A.length).map (fun i => (P ++ (A ++ B))[i]?) = A.map some := by
  refine List.ext_getElem? fun k => ?_
  rw [List.getElem?_map, List.getElem?_map]
  by_cases h : k < A.length
  · rw [List.getElem?_eq_getElem (l := List.range' P.length A.length) (by simpa using h), List.getElem_range', List.getElem?_eq_getElem h]
    simp only [Option.map_some, Nat.one_mul]
    rw [List.getElem?_append_right (by omega), Nat.add_sub_cancel_left, List.getElem?_append_left h, List.getElem?_eq_getElem h]
  · rw [List.getElem?_eq_none (by simp; omega), List.getElem?_eq_none (by omega)]
    rfl
theorem nd_range' (a n : Nat) : va_nd (List.range' a n) = true := by
  have key : ∀ l : List Nat, l.Nodup → va_nd l = true := by
    intro l
    induction l with
    | nil => intro _; rfl
    | cons a l ih =>
      intro h
      rw [List.nodup_cons] at h
      unfold va_nd
      rw [ih h.2, Bool.and_true]
      exact decide_eq_true h.1
  exact key _ List.nodup_range'
theorem ad_len {a b : va_W} (h : a.map (fun q => q.1) = b.map (fun q => q.1)) : a.length = b.length := by
  have := congrArg List.length h
  simpa using this
section RDL
variable {X : rx_T} {cc : ByteArray} {nL : Nat} {own : String} {z z' : Option Nat} {D : va_G} {tys : List (ClassId × FieldType)} {A : Nat → Prop} {d d' kc ks pc : Nat} {ws wi B : va_W} {lv : List (Nat × Value)} {rest st : List Value} {S : Type} {post : S → Prop} {rv : S → Option Value} {wo : S → va_W} {y : MethodName} {cy : ByteArray} {ny n index b : Nat} {ret : Option FieldType} {As : List Value}
/-- a call whose cells stand first -/
theorem r_callLi {ri : S → Int32} {ci : Nat} {T : u_T} {N q0 : Nat} {fs : List Value} (h : rx_ok X cc nL own D tys A d kc ks z) (hd : decode cc pc = .ok (.invokevirtual index, 3)) (hcw : CWV y cy ny ret n) (hlink : Cond.methodLink own index y ∈ TB) (hM : CT X.2.1 D tys z' y cy ny ret d' (.ref b :: As) wi post (fun u => some (.int (ri u))) wo) (hz : z' = none ∨ z' = z) (hst : As.reverse ++ .ref b :: rest = st) (hn : As.length = n) (hrecv : wi[q0]? = some (b, .inr (ci, fs))) (hci : vwCl[ci]? = some (y.cls, T, N)) (hd' : d' < d) (hrest : (rest.map fun v => v.category).sum ≤ 8) (had : ∀ u, (wo u).map (fun q => q.1) = wi.map (fun q => q.1))
    (k : ∀ u, post u → RR X nL D A kc ks (wo u ++ B) lv (pc + 3) (.int (ri u) :: rest)) : RR X nL D A kc ks (wi ++ B) lv pc st :=
  r_callVi (List.range' 0 wi.length) h hd hcw hlink hM hz hst hn hrecv hci hd' hrest (mid_map [] wi B) had (nd_range' _ _) (fun u hu => r_ws (wput_mid (wo u) wi [] B (ad_len (had u))) (k u hu))
/-- a call whose cells stand last -/
theorem r_callRi {ri : S → Int32} {ci : Nat} {T : u_T} {N q0 : Nat} {fs : List Value} (h : rx_ok X cc nL own D tys A d kc ks z) (hd : decode cc pc = .ok (.invokevirtual index, 3)) (hcw : CWV y cy ny ret n) (hlink : Cond.methodLink own index y ∈ TB) (hM : CT X.2.1 D tys z' y cy ny ret d' (.ref b :: As) wi post (fun u => some (.int (ri u))) wo) (hz : z' = none ∨ z' = z) (hst : As.reverse ++ .ref b :: rest = st) (hn : As.length = n) (hrecv : wi[q0]? = some (b, .inr (ci, fs))) (hci : vwCl[ci]? = some (y.cls, T, N)) (hd' : d' < d) (hrest : (rest.map fun v => v.category).sum ≤ 8) (had : ∀ u, (wo u).map (fun q => q.1) = wi.map (fun q => q.1))
    (k : ∀ u, post u → RR X nL D A kc ks (B ++ wo u) lv (pc + 3) (.int (ri u) :: rest)) : RR X nL D A kc ks (B ++ wi) lv pc st :=
  r_callVi (List.range' B.length wi.length) h hd hcw hlink hM hz hst hn hrecv hci hd' hrest (by have := mid_map B wi []; rwa [List.append_nil] at this) had (nd_range' _ _) (fun u hu => r_ws (by have := wput_mid (wo u) wi B [] (ad_len (had u)); rwa [List.append_nil, List.append_nil] at this) (k u hu))
/-- a call whose cells stand first -/
theorem r_callLl {ri : S → Int64} {ci : Nat} {T : u_T} {N q0 : Nat} {fs : List Value} (h : rx_ok X cc nL own D tys A d kc ks z) (hd : decode cc pc = .ok (.invokevirtual index, 3)) (hcw : CWV y cy ny ret n) (hlink : Cond.methodLink own index y ∈ TB) (hM : CT X.2.1 D tys z' y cy ny ret d' (.ref b :: As) wi post (fun u => some (.long (ri u))) wo) (hz : z' = none ∨ z' = z) (hst : As.reverse ++ .ref b :: rest = st) (hn : As.length = n) (hrecv : wi[q0]? = some (b, .inr (ci, fs))) (hci : vwCl[ci]? = some (y.cls, T, N)) (hd' : d' < d) (hrest : (rest.map fun v => v.category).sum ≤ 8) (had : ∀ u, (wo u).map (fun q => q.1) = wi.map (fun q => q.1))
    (k : ∀ u, post u → RR X nL D A kc ks (wo u ++ B) lv (pc + 3) (.long (ri u) :: rest)) : RR X nL D A kc ks (wi ++ B) lv pc st :=
  r_callVl (List.range' 0 wi.length) h hd hcw hlink hM hz hst hn hrecv hci hd' hrest (mid_map [] wi B) had (nd_range' _ _) (fun u hu => r_ws (wput_mid (wo u) wi [] B (ad_len (had u))) (k u hu))
/-- a call whose cells stand last -/
theorem r_callRl {ri : S → Int64} {ci : Nat} {T : u_T} {N q0 : Nat} {fs : List Value} (h : rx_ok X cc nL own D tys A d kc ks z) (hd : decode cc pc = .ok (.invokevirtual index, 3)) (hcw : CWV y cy ny ret n) (hlink : Cond.methodLink own index y ∈ TB) (hM : CT X.2.1 D tys z' y cy ny ret d' (.ref b :: As) wi post (fun u => some (.long (ri u))) wo) (hz : z' = none ∨ z' = z) (hst : As.reverse ++ .ref b :: rest = st) (hn : As.length = n) (hrecv : wi[q0]? = some (b, .inr (ci, fs))) (hci : vwCl[ci]? = some (y.cls, T, N)) (hd' : d' < d) (hrest : (rest.map fun v => v.category).sum ≤ 8) (had : ∀ u, (wo u).map (fun q => q.1) = wi.map (fun q => q.1))
    (k : ∀ u, post u → RR X nL D A kc ks (B ++ wo u) lv (pc + 3) (.long (ri u) :: rest)) : RR X nL D A kc ks (B ++ wi) lv pc st :=
  r_callVl (List.range' B.length wi.length) h hd hcw hlink hM hz hst hn hrecv hci hd' hrest (by have := mid_map B wi []; rwa [List.append_nil] at this) had (nd_range' _ _) (fun u hu => r_ws (by have := wput_mid (wo u) wi B [] (ad_len (had u)); rwa [List.append_nil, List.append_nil] at this) (k u hu))
/-- the law's script: L ints xs at b, which nothing changes -/
def rx_sc (X : rx_T) (A : Nat → Prop) (b L : Nat) (xs : Nat → Int32) : Prop :=
  match X with
  | (_, _, _, _, s, _, _, _, _, _, _) => va_X b L xs s s.heap ∧ b < s.heap.size ∧ ¬ A b
theorem r_sld {L j : Nat} {xs : Nat → Int32} {i : Int32} (h : rx_ok X cc nL own D tys A d kc ks z) (hs : rx_sc X A b L xs) (hd : decode cc pc = .ok (.iaload, 1)) (hi : i = nI j) (hj : j < L) (hL : L < 2 ^ 31) (k : RR X nL D A kc ks ws lv (pc + 1) (.int (xs j) :: rest)) : RR X nL D A kc ks ws lv pc (.int i :: .ref b :: rest) := by
  obtain ⟨p, l, e, R, s, m, args, below, meth, c, Q⟩ := X
  obtain ⟨hx, hb, hml, hown, hts, hK, hA, hR, hRC, hE⟩ := h
  obtain ⟨s1, s2, s3⟩ := hs
  obtain ⟨h1, h2⟩ := rx_in hi hj hL
  intro H locs ls hP hD hS hl
  refine va_sld hx hb s1 s2 s3 hS h1 hd ?_
  rw [h2]
  exact k H locs ls hP hD hS hl
theorem r_slen {L : Nat} {xs : Nat → Int32} (h : rx_ok X cc nL own D tys A d kc ks z) (hs : rx_sc X A b L xs) (hd : decode cc pc = .ok (.arraylength, 1)) (k : RR X nL D A kc ks ws lv (pc + 1) (.int (nI L) :: rest)) : RR X nL D A kc ks ws lv pc (.ref b :: rest) := by
  obtain ⟨p, l, e, R, s, m, args, below, meth, c, Q⟩ := X
  obtain ⟨hx, hb, hml, hown, hts, hK, hA, hR, hRC, hE⟩ := h
  obtain ⟨s1, s2, s3⟩ := hs
  intro H locs ls hP hD hS hl
  exact va_slen hx hb s1 s2 s3 hS hd (k H locs ls hP hD hS hl)
end RDL
theorem wc_ad {ad : Nat → Nat} {cI cN : ClassId} {nn qt tl rz qz nn' qt' tl' rz' qz' : Nat} {ch rf qf ch' rf' qf' : Nat → Int32} {nf nf' : Nat → Nat → Int32} : (WC ad cI cN nn qt tl ch rz rf qz qf nf).map (fun q => q.1) = (WC ad cI cN nn' qt' tl' ch' rz' rf' qz' qf' nf').map (fun q => q.1) := by
  unfold WC WCn
  rw [List.map_append, List.map_append, List.map_map, List.map_map]
  rfl
/-- what holds between two calls: the text, the nodes and the kept RESULTS of both -/
def LI (nn qt tl ae qz : Nat) (rf qf rw : Nat → Int32) (nf mf : Nat → Nat → Int32) : Prop := tl ≤ 24 ∧ nn ≤ 60 ∧ WFn nn nf ∧ Agr nn nf mf ∧ zero6 rf ∧ ∃ Lr : List Rs, Lr.length ≤ 64 ∧ Lr.length = qz ∧ Holds qf 0 Lr ∧ Holds rw 1024 Lr ∧ cntP qf (nI qt) qz = ae
abbrev lwV (ad am : Nat → Nat) (b i : Nat) : List (Nat × Value) := [(0, .ref b), (1, .ref (ad 0)), (2, .ref (am 0)), (3, .int (nI i))]
def lwN (X : rx_T) (D : va_G) (A : Nat → Prop) (kc ks : Nat) (cI cZ cN : ClassId) (ad am : Nat → Nat) (b i pc : Nat) : Prop :=
  ∀ (nn qt tl : Nat) (ch : Nat → Int32) (rz : Nat) (rf : Nat → Int32) (qz : Nat) (qf : Nat → Int32) (nf : Nat → Nat → Int32) (ae dp : Nat) (mf : Nat → Nat → Int32) (rw sz nv ph tu sv : Nat → Int32), LI nn qt tl ae qz rf qf rw nf mf → RR X 4 D A kc ks (WC ad cI cN nn qt tl ch rz rf qz qf nf ++ WM am cI cZ tl nn qz ae dp ch mf rw sz nv ph tu sv) (lwV ad am b i) pc []
theorem lg_cmp_same (x : Int64) : lg_cmp x x = 0 := by simp [lg_cmp]
theorem sw13 (a : Int32) : (∃ k, k ≤ 12 ∧ a = nI k) ∨ (a.toInt < 0 ∨ 12 < a.toInt) := by
  by_cases h : a < 0
  · exact Or.inr (Or.inl (by have := Int32.lt_iff_toInt_lt.mp h; rwa [Int32.toInt_zero] at this))
  by_cases h2 : nI 12 < a
  · exact Or.inr (Or.inr (by have := Int32.lt_iff_toInt_lt.mp h2; rwa [nI_toInt (by decide)] at this))
  · exact Or.inl (nI_of2 (M := nI 12) (n := 12) (by decide) h (Int32.not_lt.mp h2))
theorem k13 {k : Nat} (h : k ≤ 12) : k = 0 ∨ k = 1 ∨ k = 2 ∨ k = 3 ∨ k = 4 ∨ k = 5 ∨ k = 6 ∨ k = 7 ∨ k = 8 ∨ k = 9 ∨ k = 10 ∨ k = 11 ∨ k = 12 := by omega
theorem used_agr {nn : Nat} {nf mf : Nat → Nat → Int32} (hn : nn ≤ 60) (h : Agr nn nf mf) (r : Int32) : bI (inR r (nI nn) && !decide (nf 7 (opN r) = 0)) = bI (inR r (nI nn) && !decide (mf 7 (opN r) = 0)) := by
  cases hr : inR r (nI nn) with
  | false => rfl
  | true =>
    obtain ⟨j, hj, rfl⟩ := inR_of hr (by omega)
    rw [opN_nI (by omega), h 7 (by decide) j hj]
theorem fld_agr {nn : Nat} {nf mf : Nat → Nat → Int32} (hn : nn ≤ 60) (h : Agr nn nf mf) (i : Nat) (hi : i < 8) (r : Int32) : (if inR r (nI nn) = true then nf i (opN r) else -1) = (if inR r (nI nn) = true then mf i (opN r) else -1) := by
  split
  · rename_i hr
    obtain ⟨j, hj, rfl⟩ := inR_of hr (by omega)
    rw [opN_nI (by omega), h i hi j hj]
  · rfl
theorem res_agr {qf rw : Nat → Int32} {Lr : List Rs} (hl : Lr.length ≤ 64) (h1 : Holds qf 0 Lr) (h2 : Holds rw 1024 Lr) {r : Int32} (hr : inR r (nI Lr.length) = true) : ∀ c, c < 6 → qf (6 * opN r + c) = rw (6 * (1024 + opN r) + c) := by
  obtain ⟨j, hj, rfl⟩ := inR_of hr (by omega)
  rw [opN_nI (by omega)]
  exact two_rows h1 h2 hj
theorem inR4 {v : Int32} (h : inR v (nI 4) = true) : opN v < 4 := by
  obtain ⟨j, hj, rfl⟩ := inR_of h (by decide)
  rw [opN_nI (by omega)]
  exact hj
section LawL
variable {X : rx_T} {D : va_G} {A : Nat → Prop} {kc ks : Nat} {cI cZ cN : ClassId} {ad am : Nat → Nat} {b L i t : Nat} {xs : Nat → Int32} {nn qt tl rz qz ae dp : Nat} {ch rf qf rw sz nv ph tu sv : Nat → Int32} {nf mf : Nat → Nat → Int32}
set_option maxRecDepth 100000 in
set_option maxHeartbeats 4000000 in
theorem law_type (hX : rx_ok X code 4 "GoalScannerLaw" D (tyL cI cZ cN) A 100 kc ks (some t)) (hs : rx_sc X A b L xs) (hL : L ≤ 2560) (hi : i + 5 ≤ L) (hI : LI nn qt tl ae qz rf qf rw nf mf) (nxt : lwN X D A kc ks cI cZ cN ad am b i 421) : RR X 4 D A kc ks (WC ad cI cN nn qt tl ch rz rf qz qf nf ++ WM am cI cZ tl nn qz ae dp ch mf rw sz nv ph tu sv) (lwV ad am b i) 100 [] := by
  obtain ⟨ht, hnn, hw, hag, h0, Lr, hl64, hlz, hq1, hq2, hae⟩ := id hI
  have hwm := WFn_agr hnn hw hag
  have hq : qz ≤ 64 := by omega
  refine r_aload_n (i := 1) hX d_L_law_100 rfl rfl ?_
  refine r_aload_n (i := 0) hX d_L_law_101 rfl rfl ?_
  refine r_iload_n (i := 3) hX d_L_law_102 rfl rfl ?_
  refine r_iconst (v := nI 1) hX d_L_law_103 (by decide) ?_
  refine r_iadd hX d_L_law_104 ?_
  refine r_sld (j := i + 1) hX hs d_L_law_105 (nI_add i 1) (by omega) (by omega) ?_
  refine r_callLi (q0 := 0) hX d_L_law_106 cw_G_type ml_L_13 (c_G_type (xs (i + 1)) ht) (Or.inl rfl) rfl rfl rfl rfl (by decide) (Nat.le_of_ble_eq_true rfl) (fun _ => wc_ad) (fun u hu => ?_)
  refine r_aload_n (i := 2) hX d_L_law_109 rfl rfl ?_
  refine r_aload_n (i := 0) hX d_L_law_110 rfl rfl ?_
  refine r_iload_n (i := 3) hX d_L_law_111 rfl rfl ?_
  refine r_iconst (v := nI 1) hX d_L_law_112 (by decide) ?_
  refine r_iadd hX d_L_law_113 ?_
  refine r_sld (j := i + 1) hX hs d_L_law_114 (nI_add i 1) (by omega) (by omega) ?_
  refine r_callRi (q0 := 0) hX d_L_law_115 cw_M_type ml_L_17 (c_M_type (xs (i + 1)) ht) (Or.inl rfl) rfl rfl rfl rfl (by decide) (Nat.le_of_ble_eq_true rfl) (fun _ => rfl) (fun v hv => ?_)
  refine r_icmp_eq 421 hX d_L_law_118 (by decide) (fun _ => ?_) (fun c => absurd rfl c)
  refine nxt _ _ _ _ _ _ _ _ _ _ _ _ _ _ _ _ _ _ ⟨?_, hnn, hw, hag, h0, Lr, hl64, hlz, hq1, hq2, hae⟩
  split
  · rename_i h
    simp only [typeOk, Bool.and_eq_true, decide_eq_true_eq] at h
    omega
  · exact ht
set_option maxRecDepth 100000 in
set_option maxHeartbeats 4000000 in
theorem law_wipe (hX : rx_ok X code 4 "GoalScannerLaw" D (tyL cI cZ cN) A 100 kc ks (some t)) (hs : rx_sc X A b L xs) (hL : L ≤ 2560) (hi : i + 5 ≤ L) (hI : LI nn qt tl ae qz rf qf rw nf mf) (nxt : lwN X D A kc ks cI cZ cN ad am b i 421) : RR X 4 D A kc ks (WC ad cI cN nn qt tl ch rz rf qz qf nf ++ WM am cI cZ tl nn qz ae dp ch mf rw sz nv ph tu sv) (lwV ad am b i) 123 [] := by
  obtain ⟨ht, hnn, hw, hag, h0, Lr, hl64, hlz, hq1, hq2, hae⟩ := id hI
  have hwm := WFn_agr hnn hw hag
  have hq : qz ≤ 64 := by omega
  refine r_aload_n (i := 1) hX d_L_law_123 rfl rfl ?_
  refine r_callLi (q0 := 0) hX d_L_law_124 cw_G_wipe ml_L_18 (c_G_wipe) (Or.inl rfl) rfl rfl rfl rfl (by decide) (Nat.le_of_ble_eq_true rfl) (fun _ => wc_ad) (fun u hu => ?_)
  refine r_aload_n (i := 2) hX d_L_law_127 rfl rfl ?_
  refine r_callRi (q0 := 0) hX d_L_law_128 cw_M_wipe ml_L_22 (c_M_wipe) (Or.inl rfl) rfl rfl rfl rfl (by decide) (Nat.le_of_ble_eq_true rfl) (fun _ => rfl) (fun v hv => ?_)
  refine r_icmp_eq 421 hX d_L_law_131 (by decide) (fun _ => ?_) (fun c => absurd rfl c)
  exact nxt _ _ _ _ _ _ _ _ _ _ _ _ _ _ _ _ _ _ ⟨by omega, hnn, hw, hag, h0, Lr, hl64, hlz, hq1, hq2, hae⟩
set_option maxRecDepth 100000 in
set_option maxHeartbeats 4000000 in
theorem law_node (hX : rx_ok X code 4 "GoalScannerLaw" D (tyL cI cZ cN) A 100 kc ks (some t)) (hs : rx_sc X A b L xs) (hL : L ≤ 2560) (hi : i + 5 ≤ L) (hI : LI nn qt tl ae qz rf qf rw nf mf) (nxt : lwN X D A kc ks cI cZ cN ad am b i 421) : RR X 4 D A kc ks (WC ad cI cN nn qt tl ch rz rf qz qf nf ++ WM am cI cZ tl nn qz ae dp ch mf rw sz nv ph tu sv) (lwV ad am b i) 136 [] := by
  obtain ⟨ht, hnn, hw, hag, h0, Lr, hl64, hlz, hq1, hq2, hae⟩ := id hI
  have hwm := WFn_agr hnn hw hag
  have hq : qz ≤ 64 := by omega
  refine r_aload_n (i := 1) hX d_L_law_136 rfl rfl ?_
  refine r_aload_n (i := 0) hX d_L_law_137 rfl rfl ?_
  refine r_iload_n (i := 3) hX d_L_law_138 rfl rfl ?_
  refine r_iconst (v := nI 1) hX d_L_law_139 (by decide) ?_
  refine r_iadd hX d_L_law_140 ?_
  refine r_sld (j := i + 1) hX hs d_L_law_141 (nI_add i 1) (by omega) (by omega) ?_
  refine r_aload_n (i := 0) hX d_L_law_142 rfl rfl ?_
  refine r_iload_n (i := 3) hX d_L_law_143 rfl rfl ?_
  refine r_iconst (v := nI 2) hX d_L_law_144 (by decide) ?_
  refine r_iadd hX d_L_law_145 ?_
  refine r_sld (j := i + 2) hX hs d_L_law_146 (nI_add i 2) (by omega) (by omega) ?_
  refine r_aload_n (i := 0) hX d_L_law_147 rfl rfl ?_
  refine r_iload_n (i := 3) hX d_L_law_148 rfl rfl ?_
  refine r_iconst (v := nI 3) hX d_L_law_149 (by decide) ?_
  refine r_iadd hX d_L_law_150 ?_
  refine r_sld (j := i + 3) hX hs d_L_law_151 (nI_add i 3) (by omega) (by omega) ?_
  refine r_aload_n (i := 0) hX d_L_law_152 rfl rfl ?_
  refine r_iload_n (i := 3) hX d_L_law_153 rfl rfl ?_
  refine r_iconst (v := nI 4) hX d_L_law_154 (by decide) ?_
  refine r_iadd hX d_L_law_155 ?_
  refine r_sld (j := i + 4) hX hs d_L_law_156 (nI_add i 4) (by omega) (by omega) ?_
  refine r_callLi (q0 := 0) hX d_L_law_157 cw_G_node ml_L_23 (c_G_node (t := t) (xs (i + 1)) (xs (i + 2)) (xs (i + 3)) (xs (i + 4)) hnn) (Or.inr rfl) rfl rfl rfl rfl (by decide) (Nat.le_of_ble_eq_true rfl) (fun _ => wc_ad) (fun u hu => ?_)
  refine r_aload_n (i := 2) hX d_L_law_160 rfl rfl ?_
  refine r_aload_n (i := 0) hX d_L_law_161 rfl rfl ?_
  refine r_iload_n (i := 3) hX d_L_law_162 rfl rfl ?_
  refine r_iconst (v := nI 1) hX d_L_law_163 (by decide) ?_
  refine r_iadd hX d_L_law_164 ?_
  refine r_sld (j := i + 1) hX hs d_L_law_165 (nI_add i 1) (by omega) (by omega) ?_
  refine r_aload_n (i := 0) hX d_L_law_166 rfl rfl ?_
  refine r_iload_n (i := 3) hX d_L_law_167 rfl rfl ?_
  refine r_iconst (v := nI 2) hX d_L_law_168 (by decide) ?_
  refine r_iadd hX d_L_law_169 ?_
  refine r_sld (j := i + 2) hX hs d_L_law_170 (nI_add i 2) (by omega) (by omega) ?_
  refine r_aload_n (i := 0) hX d_L_law_171 rfl rfl ?_
  refine r_iload_n (i := 3) hX d_L_law_172 rfl rfl ?_
  refine r_iconst (v := nI 3) hX d_L_law_173 (by decide) ?_
  refine r_iadd hX d_L_law_174 ?_
  refine r_sld (j := i + 3) hX hs d_L_law_175 (nI_add i 3) (by omega) (by omega) ?_
  refine r_aload_n (i := 0) hX d_L_law_176 rfl rfl ?_
  refine r_iload_n (i := 3) hX d_L_law_177 rfl rfl ?_
  refine r_iconst (v := nI 4) hX d_L_law_178 (by decide) ?_
  refine r_iadd hX d_L_law_179 ?_
  refine r_sld (j := i + 4) hX hs d_L_law_180 (nI_add i 4) (by omega) (by omega) ?_
  refine r_callRi (q0 := 0) hX d_L_law_181 cw_M_node ml_L_27 (c_M_node (xs (i + 1)) (xs (i + 2)) (xs (i + 3)) (xs (i + 4)) hnn) (Or.inl rfl) rfl rfl rfl rfl (by decide) (Nat.le_of_ble_eq_true rfl) (fun _ => rfl) (fun v hv => ?_)
  rw [nodeOk_agr hnn hag]
  refine r_icmp_eq 421 hX d_L_law_184 (by decide) (fun _ => ?_) (fun c => absurd rfl c)
  refine nxt _ _ _ _ _ _ _ _ _ _ _ _ _ _ _ _ _ _ ⟨ht, ?_, nd_wf hnn hw hu, nd_agr hnn hag hu hv, h0, Lr, hl64, hlz, hq1, hq2, hae⟩
  split
  · rename_i h
    have := (nodeOk_of h).2.2.1
    omega
  · exact hnn
set_option maxRecDepth 100000 in
set_option maxHeartbeats 4000000 in
theorem law_clear (hX : rx_ok X code 4 "GoalScannerLaw" D (tyL cI cZ cN) A 100 kc ks (some t)) (hs : rx_sc X A b L xs) (hL : L ≤ 2560) (hi : i + 5 ≤ L) (hI : LI nn qt tl ae qz rf qf rw nf mf) (nxt : lwN X D A kc ks cI cZ cN ad am b i 421) : RR X 4 D A kc ks (WC ad cI cN nn qt tl ch rz rf qz qf nf ++ WM am cI cZ tl nn qz ae dp ch mf rw sz nv ph tu sv) (lwV ad am b i) 189 [] := by
  obtain ⟨ht, hnn, hw, hag, h0, Lr, hl64, hlz, hq1, hq2, hae⟩ := id hI
  have hwm := WFn_agr hnn hw hag
  have hq : qz ≤ 64 := by omega
  refine r_aload_n (i := 1) hX d_L_law_189 rfl rfl ?_
  refine r_callLi (q0 := 0) hX d_L_law_190 cw_G_clear ml_L_28 (c_G_clear) (Or.inl rfl) rfl rfl rfl rfl (by decide) (Nat.le_of_ble_eq_true rfl) (fun _ => wc_ad) (fun u hu => ?_)
  refine r_aload_n (i := 2) hX d_L_law_193 rfl rfl ?_
  refine r_callRi (q0 := 0) hX d_L_law_194 cw_M_clear ml_L_31 (c_M_clear) (Or.inl rfl) rfl rfl rfl rfl (by decide) (Nat.le_of_ble_eq_true rfl) (fun _ => rfl) (fun v hv => ?_)
  refine r_icmp_eq 421 hX d_L_law_197 (by decide) (fun _ => ?_) (fun c => absurd rfl c)
  exact nxt _ _ _ _ _ _ _ _ _ _ _ _ _ _ _ _ _ _ ⟨ht, by omega, fun i hi => absurd hi (Nat.not_lt_zero i), fun i _ j hj => absurd hj (Nat.not_lt_zero j), h0, Lr, hl64, hlz, hq1, hq2, hae⟩
set_option maxRecDepth 100000 in
set_option maxHeartbeats 4000000 in
theorem law_evaluate (hX : rx_ok X code 4 "GoalScannerLaw" D (tyL cI cZ cN) A 100 kc ks (some t)) (hs : rx_sc X A b L xs) (hL : L ≤ 2560) (hi : i + 5 ≤ L) (hI : LI nn qt tl ae qz rf qf rw nf mf) (nxt : lwN X D A kc ks cI cZ cN ad am b i 421) : RR X 4 D A kc ks (WC ad cI cN nn qt tl ch rz rf qz qf nf ++ WM am cI cZ tl nn qz ae dp ch mf rw sz nv ph tu sv) (lwV ad am b i) 202 [] := by
  obtain ⟨ht, hnn, hw, hag, h0, Lr, hl64, hlz, hq1, hq2, hae⟩ := id hI
  have hwm := WFn_agr hnn hw hag
  have hq : qz ≤ 64 := by omega
  refine r_aload_n (i := 1) hX d_L_law_202 rfl rfl ?_
  refine r_aload_n (i := 0) hX d_L_law_203 rfl rfl ?_
  refine r_iload_n (i := 3) hX d_L_law_204 rfl rfl ?_
  refine r_iconst (v := nI 1) hX d_L_law_205 (by decide) ?_
  refine r_iadd hX d_L_law_206 ?_
  refine r_sld (j := i + 1) hX hs d_L_law_207 (nI_add i 1) (by omega) (by omega) ?_
  refine r_callLi (q0 := 0) hX d_L_law_208 cw_G_evaluate ml_L_32 (c_G_evaluate (xs (i + 1)) ht hnn hw h0) (Or.inl rfl) rfl rfl rfl rfl (by decide) (Nat.le_of_ble_eq_true rfl) (fun _ => wc_ad) (fun u hu => ?_)
  refine r_aload_n (i := 2) hX d_L_law_211 rfl rfl ?_
  refine r_aload_n (i := 0) hX d_L_law_212 rfl rfl ?_
  refine r_iload_n (i := 3) hX d_L_law_213 rfl rfl ?_
  refine r_iconst (v := nI 1) hX d_L_law_214 (by decide) ?_
  refine r_iadd hX d_L_law_215 ?_
  refine r_sld (j := i + 1) hX hs d_L_law_216 (nI_add i 1) (by omega) (by omega) ?_
  refine r_callRi (q0 := 0) hX d_L_law_217 cw_M_evaluate ml_L_35 (c_M_evaluate (xs (i + 1)) ht hnn hwm) (Or.inl rfl) rfl rfl rfl rfl (by decide) (Nat.le_of_ble_eq_true rfl) (fun _ => rfl) (fun v hv => ?_)
  obtain ⟨z0, hu1, hu2⟩ := hu
  obtain ⟨hv1, hv2⟩ := hv
  cases hr : inR (xs (i + 1)) (nI nn) with
  | true =>
    rw [if_pos rfl, if_pos rfl, if_pos rfl, if_pos rfl, if_pos rfl, if_pos rfl, kpL_agr hnn hw hag 64 hr]
    have hv1 := hv1 hr
    rw [kpL_agr hnn hw hag 64 hr] at hv1
    have hlen : (kpL tl ch nf 64 (xs (i + 1))).length ≤ 64 := Nat.le_trans (by unfold kpL; exact List.length_take_le _ _) (by decide)
    refine r_icmp_eq 421 hX d_L_law_220 (by decide) (fun _ => ?_) (fun c => absurd rfl c)
    exact nxt _ _ _ _ _ _ _ _ _ _ _ _ _ _ _ _ _ _ ⟨ht, hnn, hw, hag, z0, kpL tl ch nf 64 (xs (i + 1)), hlen, rfl, hu1 hr, hv1, by rw [cntP_list _ _ (hu1 hr) (Nat.le_refl _), List.take_length]⟩
  | false =>
    rw [if_neg Bool.false_ne_true, if_neg Bool.false_ne_true, if_neg Bool.false_ne_true, if_neg Bool.false_ne_true, if_neg Bool.false_ne_true, if_neg Bool.false_ne_true]
    refine r_icmp_eq 421 hX d_L_law_220 (by decide) (fun _ => ?_) (fun c => absurd rfl c)
    exact nxt _ _ _ _ _ _ _ _ _ _ _ _ _ _ _ _ _ _ ⟨ht, hnn, hw, hag, z0, Lr, hl64, hlz, by rw [hu2 hr]; exact hq1, by rw [hv2 hr]; exact hq2, by rw [hu2 hr]; exact hae⟩
set_option maxRecDepth 100000 in
set_option maxHeartbeats 4000000 in
theorem law_attempt (hX : rx_ok X code 4 "GoalScannerLaw" D (tyL cI cZ cN) A 100 kc ks (some t)) (hs : rx_sc X A b L xs) (hL : L ≤ 2560) (hi : i + 5 ≤ L) (hI : LI nn qt tl ae qz rf qf rw nf mf) (nxt : lwN X D A kc ks cI cZ cN ad am b i 421) : RR X 4 D A kc ks (WC ad cI cN nn qt tl ch rz rf qz qf nf ++ WM am cI cZ tl nn qz ae dp ch mf rw sz nv ph tu sv) (lwV ad am b i) 225 [] := by
  obtain ⟨ht, hnn, hw, hag, h0, Lr, hl64, hlz, hq1, hq2, hae⟩ := id hI
  have hwm := WFn_agr hnn hw hag
  have hq : qz ≤ 64 := by omega
  refine r_aload_n (i := 1) hX d_L_law_225 rfl rfl ?_
  refine r_aload_n (i := 0) hX d_L_law_226 rfl rfl ?_
  refine r_iload_n (i := 3) hX d_L_law_227 rfl rfl ?_
  refine r_iconst (v := nI 1) hX d_L_law_228 (by decide) ?_
  refine r_iadd hX d_L_law_229 ?_
  refine r_sld (j := i + 1) hX hs d_L_law_230 (nI_add i 1) (by omega) (by omega) ?_
  refine r_callLi (q0 := 0) hX d_L_law_231 cw_G_attempt ml_L_36 (c_G_attempt (xs (i + 1)) ht hnn hw h0) (Or.inl rfl) rfl rfl rfl rfl (by decide) (Nat.le_of_ble_eq_true rfl) (fun _ => wc_ad) (fun u hu => ?_)
  refine r_aload_n (i := 2) hX d_L_law_234 rfl rfl ?_
  refine r_aload_n (i := 0) hX d_L_law_235 rfl rfl ?_
  refine r_iload_n (i := 3) hX d_L_law_236 rfl rfl ?_
  refine r_iconst (v := nI 1) hX d_L_law_237 (by decide) ?_
  refine r_iadd hX d_L_law_238 ?_
  refine r_sld (j := i + 1) hX hs d_L_law_239 (nI_add i 1) (by omega) (by omega) ?_
  refine r_callRi (q0 := 0) hX d_L_law_240 cw_M_attempt ml_L_39 (c_M_attempt (xs (i + 1)) ht hnn hwm) (Or.inl rfl) rfl rfl rfl rfl (by decide) (Nat.le_of_ble_eq_true rfl) (fun _ => rfl) (fun v hv => ?_)
  obtain ⟨z0, hu1, hu2⟩ := hu
  obtain ⟨hv1, hv2⟩ := hv
  cases hr : inR (xs (i + 1)) (nI nn) with
  | true =>
    rw [if_pos rfl, if_pos rfl, if_pos rfl, if_pos rfl, if_pos rfl, if_pos rfl, kpL_agr hnn hw hag 1 hr]
    have hv1 := hv1 hr
    rw [kpL_agr hnn hw hag 1 hr] at hv1
    have hlen : (kpL tl ch nf 1 (xs (i + 1))).length ≤ 64 := Nat.le_trans (by unfold kpL; exact List.length_take_le _ _) (by decide)
    refine r_icmp_eq 421 hX d_L_law_243 (by decide) (fun _ => ?_) (fun c => absurd rfl c)
    exact nxt _ _ _ _ _ _ _ _ _ _ _ _ _ _ _ _ _ _ ⟨ht, hnn, hw, hag, z0, kpL tl ch nf 1 (xs (i + 1)), hlen, rfl, hu1 hr, hv1, by rw [cntP_list _ _ (hu1 hr) (Nat.le_refl _), List.take_length]⟩
  | false =>
    rw [if_neg Bool.false_ne_true, if_neg Bool.false_ne_true, if_neg Bool.false_ne_true, if_neg Bool.false_ne_true, if_neg Bool.false_ne_true, if_neg Bool.false_ne_true]
    refine r_icmp_eq 421 hX d_L_law_243 (by decide) (fun _ => ?_) (fun c => absurd rfl c)
    exact nxt _ _ _ _ _ _ _ _ _ _ _ _ _ _ _ _ _ _ ⟨ht, hnn, hw, hag, z0, Lr, hl64, hlz, by rw [hu2 hr]; exact hq1, by rw [hv2 hr]; exact hq2, by rw [hu2 hr]; exact hae⟩
set_option maxRecDepth 100000 in
set_option maxHeartbeats 4000000 in
theorem law_result (hX : rx_ok X code 4 "GoalScannerLaw" D (tyL cI cZ cN) A 100 kc ks (some t)) (hs : rx_sc X A b L xs) (hL : L ≤ 2560) (hi : i + 5 ≤ L) (hI : LI nn qt tl ae qz rf qf rw nf mf) (nxt : lwN X D A kc ks cI cZ cN ad am b i 421) : RR X 4 D A kc ks (WC ad cI cN nn qt tl ch rz rf qz qf nf ++ WM am cI cZ tl nn qz ae dp ch mf rw sz nv ph tu sv) (lwV ad am b i) 248 [] := by
  obtain ⟨ht, hnn, hw, hag, h0, Lr, hl64, hlz, hq1, hq2, hae⟩ := id hI
  have hwm := WFn_agr hnn hw hag
  have hq : qz ≤ 64 := by omega
  refine r_aload_n (i := 1) hX d_L_law_248 rfl rfl ?_
  refine r_aload_n (i := 0) hX d_L_law_249 rfl rfl ?_
  refine r_iload_n (i := 3) hX d_L_law_250 rfl rfl ?_
  refine r_iconst (v := nI 1) hX d_L_law_251 (by decide) ?_
  refine r_iadd hX d_L_law_252 ?_
  refine r_sld (j := i + 1) hX hs d_L_law_253 (nI_add i 1) (by omega) (by omega) ?_
  refine r_callLl (q0 := 0) hX d_L_law_254 cw_G_result ml_L_40 (c_G_result (xs (i + 1)) hq) (Or.inl rfl) rfl rfl rfl rfl (by decide) (Nat.le_of_ble_eq_true rfl) (fun _ => wc_ad) (fun u hu => ?_)
  refine r_aload_n (i := 2) hX d_L_law_257 rfl rfl ?_
  refine r_aload_n (i := 0) hX d_L_law_258 rfl rfl ?_
  refine r_iload_n (i := 3) hX d_L_law_259 rfl rfl ?_
  refine r_iconst (v := nI 1) hX d_L_law_260 (by decide) ?_
  refine r_iadd hX d_L_law_261 ?_
  refine r_sld (j := i + 1) hX hs d_L_law_262 (nI_add i 1) (by omega) (by omega) ?_
  refine r_callRl (q0 := 0) hX d_L_law_263 cw_M_result ml_L_44 (c_M_result (xs (i + 1)) hq) (Or.inl rfl) rfl rfl rfl rfl (by decide) (Nat.le_of_ble_eq_true rfl) (fun _ => rfl) (fun v hv => ?_)
  refine r_lcmp hX d_L_law_266 ?_
  have e : (if inR (xs (i + 1)) (nI qz) = true then (qf (6 * opN (xs (i + 1)))).toInt64 else (1000000000000 : Int64)) = (if inR (xs (i + 1)) (nI qz) = true then (rw (6 * (1024 + opN (xs (i + 1))))).toInt64 else 1000000000000) := by
    subst hlz
    split
    · rename_i hr
      exact congrArg Int32.toInt64 (res_agr hl64 hq1 hq2 hr 0 (by decide))
    · rfl
  rw [e, lg_cmp_same]
  refine r_if_eq 421 hX d_L_law_267 (by decide) (fun _ => ?_) (fun c => absurd rfl c)
  exact nxt _ _ _ _ _ _ _ _ _ _ _ _ _ _ _ _ _ _ ⟨ht, hnn, hw, hag, h0, Lr, hl64, hlz, hq1, hq2, hae⟩
set_option maxRecDepth 100000 in
set_option maxHeartbeats 4000000 in
theorem law_place (hX : rx_ok X code 4 "GoalScannerLaw" D (tyL cI cZ cN) A 100 kc ks (some t)) (hs : rx_sc X A b L xs) (hL : L ≤ 2560) (hi : i + 5 ≤ L) (hI : LI nn qt tl ae qz rf qf rw nf mf) (nxt : lwN X D A kc ks cI cZ cN ad am b i 421) : RR X 4 D A kc ks (WC ad cI cN nn qt tl ch rz rf qz qf nf ++ WM am cI cZ tl nn qz ae dp ch mf rw sz nv ph tu sv) (lwV ad am b i) 272 [] := by
  obtain ⟨ht, hnn, hw, hag, h0, Lr, hl64, hlz, hq1, hq2, hae⟩ := id hI
  have hwm := WFn_agr hnn hw hag
  have hq : qz ≤ 64 := by omega
  refine r_aload_n (i := 1) hX d_L_law_272 rfl rfl ?_
  refine r_aload_n (i := 0) hX d_L_law_273 rfl rfl ?_
  refine r_iload_n (i := 3) hX d_L_law_274 rfl rfl ?_
  refine r_iconst (v := nI 1) hX d_L_law_275 (by decide) ?_
  refine r_iadd hX d_L_law_276 ?_
  refine r_sld (j := i + 1) hX hs d_L_law_277 (nI_add i 1) (by omega) (by omega) ?_
  refine r_callLi (q0 := 0) hX d_L_law_278 cw_G_place ml_L_45 (c_G_place (xs (i + 1)) hq) (Or.inl rfl) rfl rfl rfl rfl (by decide) (Nat.le_of_ble_eq_true rfl) (fun _ => wc_ad) (fun u hu => ?_)
  refine r_aload_n (i := 2) hX d_L_law_281 rfl rfl ?_
  refine r_aload_n (i := 0) hX d_L_law_282 rfl rfl ?_
  refine r_iload_n (i := 3) hX d_L_law_283 rfl rfl ?_
  refine r_iconst (v := nI 1) hX d_L_law_284 (by decide) ?_
  refine r_iadd hX d_L_law_285 ?_
  refine r_sld (j := i + 1) hX hs d_L_law_286 (nI_add i 1) (by omega) (by omega) ?_
  refine r_callRi (q0 := 0) hX d_L_law_287 cw_M_place ml_L_48 (c_M_place (xs (i + 1)) hq) (Or.inl rfl) rfl rfl rfl rfl (by decide) (Nat.le_of_ble_eq_true rfl) (fun _ => rfl) (fun v hv => ?_)
  refine r_icmp_eq 421 hX d_L_law_290 (by decide) (fun _ => ?_) (fun c => absurd ?_ c)
  · exact nxt _ _ _ _ _ _ _ _ _ _ _ _ _ _ _ _ _ _ ⟨ht, hnn, hw, hag, h0, Lr, hl64, hlz, hq1, hq2, hae⟩
  · subst hlz
    split
    · rename_i hr
      exact res_agr hl64 hq1 hq2 hr 1 (by decide)
    · rfl
set_option maxRecDepth 100000 in
set_option maxHeartbeats 4000000 in
theorem law_variable (hX : rx_ok X code 4 "GoalScannerLaw" D (tyL cI cZ cN) A 100 kc ks (some t)) (hs : rx_sc X A b L xs) (hL : L ≤ 2560) (hi : i + 5 ≤ L) (hI : LI nn qt tl ae qz rf qf rw nf mf) (nxt : lwN X D A kc ks cI cZ cN ad am b i 421) : RR X 4 D A kc ks (WC ad cI cN nn qt tl ch rz rf qz qf nf ++ WM am cI cZ tl nn qz ae dp ch mf rw sz nv ph tu sv) (lwV ad am b i) 295 [] := by
  obtain ⟨ht, hnn, hw, hag, h0, Lr, hl64, hlz, hq1, hq2, hae⟩ := id hI
  have hwm := WFn_agr hnn hw hag
  have hq : qz ≤ 64 := by omega
  refine r_aload_n (i := 1) hX d_L_law_295 rfl rfl ?_
  refine r_aload_n (i := 0) hX d_L_law_296 rfl rfl ?_
  refine r_iload_n (i := 3) hX d_L_law_297 rfl rfl ?_
  refine r_iconst (v := nI 1) hX d_L_law_298 (by decide) ?_
  refine r_iadd hX d_L_law_299 ?_
  refine r_sld (j := i + 1) hX hs d_L_law_300 (nI_add i 1) (by omega) (by omega) ?_
  refine r_aload_n (i := 0) hX d_L_law_301 rfl rfl ?_
  refine r_iload_n (i := 3) hX d_L_law_302 rfl rfl ?_
  refine r_iconst (v := nI 2) hX d_L_law_303 (by decide) ?_
  refine r_iadd hX d_L_law_304 ?_
  refine r_sld (j := i + 2) hX hs d_L_law_305 (nI_add i 2) (by omega) (by omega) ?_
  refine r_callLl (q0 := 0) hX d_L_law_306 cw_G_variable ml_L_49 (c_G_variable (xs (i + 1)) (xs (i + 2)) hq) (Or.inl rfl) rfl rfl rfl rfl (by decide) (Nat.le_of_ble_eq_true rfl) (fun _ => wc_ad) (fun u hu => ?_)
  refine r_aload_n (i := 2) hX d_L_law_309 rfl rfl ?_
  refine r_aload_n (i := 0) hX d_L_law_310 rfl rfl ?_
  refine r_iload_n (i := 3) hX d_L_law_311 rfl rfl ?_
  refine r_iconst (v := nI 1) hX d_L_law_312 (by decide) ?_
  refine r_iadd hX d_L_law_313 ?_
  refine r_sld (j := i + 1) hX hs d_L_law_314 (nI_add i 1) (by omega) (by omega) ?_
  refine r_aload_n (i := 0) hX d_L_law_315 rfl rfl ?_
  refine r_iload_n (i := 3) hX d_L_law_316 rfl rfl ?_
  refine r_iconst (v := nI 2) hX d_L_law_317 (by decide) ?_
  refine r_iadd hX d_L_law_318 ?_
  refine r_sld (j := i + 2) hX hs d_L_law_319 (nI_add i 2) (by omega) (by omega) ?_
  refine r_callRl (q0 := 0) hX d_L_law_320 cw_M_variable ml_L_53 (c_M_variable (xs (i + 1)) (xs (i + 2)) hq) (Or.inl rfl) rfl rfl rfl rfl (by decide) (Nat.le_of_ble_eq_true rfl) (fun _ => rfl) (fun v hv => ?_)
  refine r_lcmp hX d_L_law_323 ?_
  have e : (if inR (xs (i + 1)) (nI qz) = true ∧ inR (xs (i + 2)) (nI 4) = true then (qf (6 * opN (xs (i + 1)) + 2 + opN (xs (i + 2)))).toInt64 else 1000000000000) = (if inR (xs (i + 1)) (nI qz) = true ∧ inR (xs (i + 2)) (nI 4) = true then (rw (6 * (1024 + opN (xs (i + 1))) + 2 + opN (xs (i + 2)))).toInt64 else (1000000000000 : Int64)) := by
    subst hlz
    split
    · rename_i hr
      have h4 := inR4 hr.2
      rw [Nat.add_assoc, Nat.add_assoc, res_agr hl64 hq1 hq2 hr.1 (2 + opN (xs (i + 2))) (by omega)]
    · rfl
  rw [e, lg_cmp_same]
  refine r_if_eq 421 hX d_L_law_324 (by decide) (fun _ => ?_) (fun c => absurd rfl c)
  exact nxt _ _ _ _ _ _ _ _ _ _ _ _ _ _ _ _ _ _ ⟨ht, hnn, hw, hag, h0, Lr, hl64, hlz, hq1, hq2, hae⟩
set_option maxRecDepth 100000 in
set_option maxHeartbeats 4000000 in
theorem law_bound (hX : rx_ok X code 4 "GoalScannerLaw" D (tyL cI cZ cN) A 100 kc ks (some t)) (hs : rx_sc X A b L xs) (hL : L ≤ 2560) (hi : i + 5 ≤ L) (hI : LI nn qt tl ae qz rf qf rw nf mf) (nxt : lwN X D A kc ks cI cZ cN ad am b i 421) : RR X 4 D A kc ks (WC ad cI cN nn qt tl ch rz rf qz qf nf ++ WM am cI cZ tl nn qz ae dp ch mf rw sz nv ph tu sv) (lwV ad am b i) 329 [] := by
  obtain ⟨ht, hnn, hw, hag, h0, Lr, hl64, hlz, hq1, hq2, hae⟩ := id hI
  have hwm := WFn_agr hnn hw hag
  have hq : qz ≤ 64 := by omega
  refine r_aload_n (i := 1) hX d_L_law_329 rfl rfl ?_
  refine r_aload_n (i := 0) hX d_L_law_330 rfl rfl ?_
  refine r_iload_n (i := 3) hX d_L_law_331 rfl rfl ?_
  refine r_iconst (v := nI 1) hX d_L_law_332 (by decide) ?_
  refine r_iadd hX d_L_law_333 ?_
  refine r_sld (j := i + 1) hX hs d_L_law_334 (nI_add i 1) (by omega) (by omega) ?_
  refine r_callLi (q0 := 0) hX d_L_law_335 cw_G_bound ml_L_54 (c_G_bound (xs (i + 1)) hnn) (Or.inl rfl) rfl rfl rfl rfl (by decide) (Nat.le_of_ble_eq_true rfl) (fun _ => wc_ad) (fun u hu => ?_)
  refine r_aload_n (i := 2) hX d_L_law_338 rfl rfl ?_
  refine r_aload_n (i := 0) hX d_L_law_339 rfl rfl ?_
  refine r_iload_n (i := 3) hX d_L_law_340 rfl rfl ?_
  refine r_iconst (v := nI 1) hX d_L_law_341 (by decide) ?_
  refine r_iadd hX d_L_law_342 ?_
  refine r_sld (j := i + 1) hX hs d_L_law_343 (nI_add i 1) (by omega) (by omega) ?_
  refine r_callRi (q0 := 0) hX d_L_law_344 cw_M_bound ml_L_57 (c_M_bound (xs (i + 1)) hnn) (Or.inl rfl) rfl rfl rfl rfl (by decide) (Nat.le_of_ble_eq_true rfl) (fun _ => rfl) (fun v hv => ?_)
  refine r_icmp_eq 421 hX d_L_law_347 (by decide) (fun _ => ?_) (fun c => absurd ?_ c)
  · exact nxt _ _ _ _ _ _ _ _ _ _ _ _ _ _ _ _ _ _ ⟨ht, hnn, hw, hag, h0, Lr, hl64, hlz, hq1, hq2, hae⟩
  · exact fld_agr hnn hag 4 (by decide) _
set_option maxRecDepth 100000 in
set_option maxHeartbeats 4000000 in
theorem law_level (hX : rx_ok X code 4 "GoalScannerLaw" D (tyL cI cZ cN) A 100 kc ks (some t)) (hs : rx_sc X A b L xs) (hL : L ≤ 2560) (hi : i + 5 ≤ L) (hI : LI nn qt tl ae qz rf qf rw nf mf) (nxt : lwN X D A kc ks cI cZ cN ad am b i 421) : RR X 4 D A kc ks (WC ad cI cN nn qt tl ch rz rf qz qf nf ++ WM am cI cZ tl nn qz ae dp ch mf rw sz nv ph tu sv) (lwV ad am b i) 352 [] := by
  obtain ⟨ht, hnn, hw, hag, h0, Lr, hl64, hlz, hq1, hq2, hae⟩ := id hI
  have hwm := WFn_agr hnn hw hag
  have hq : qz ≤ 64 := by omega
  refine r_aload_n (i := 1) hX d_L_law_352 rfl rfl ?_
  refine r_aload_n (i := 0) hX d_L_law_353 rfl rfl ?_
  refine r_iload_n (i := 3) hX d_L_law_354 rfl rfl ?_
  refine r_iconst (v := nI 1) hX d_L_law_355 (by decide) ?_
  refine r_iadd hX d_L_law_356 ?_
  refine r_sld (j := i + 1) hX hs d_L_law_357 (nI_add i 1) (by omega) (by omega) ?_
  refine r_callLi (q0 := 0) hX d_L_law_358 cw_G_level ml_L_58 (c_G_level (xs (i + 1)) hnn) (Or.inl rfl) rfl rfl rfl rfl (by decide) (Nat.le_of_ble_eq_true rfl) (fun _ => wc_ad) (fun u hu => ?_)
  refine r_aload_n (i := 2) hX d_L_law_361 rfl rfl ?_
  refine r_aload_n (i := 0) hX d_L_law_362 rfl rfl ?_
  refine r_iload_n (i := 3) hX d_L_law_363 rfl rfl ?_
  refine r_iconst (v := nI 1) hX d_L_law_364 (by decide) ?_
  refine r_iadd hX d_L_law_365 ?_
  refine r_sld (j := i + 1) hX hs d_L_law_366 (nI_add i 1) (by omega) (by omega) ?_
  refine r_callRi (q0 := 0) hX d_L_law_367 cw_M_level ml_L_61 (c_M_level (xs (i + 1)) hnn) (Or.inl rfl) rfl rfl rfl rfl (by decide) (Nat.le_of_ble_eq_true rfl) (fun _ => rfl) (fun v hv => ?_)
  refine r_icmp_eq 421 hX d_L_law_370 (by decide) (fun _ => ?_) (fun c => absurd ?_ c)
  · exact nxt _ _ _ _ _ _ _ _ _ _ _ _ _ _ _ _ _ _ ⟨ht, hnn, hw, hag, h0, Lr, hl64, hlz, hq1, hq2, hae⟩
  · exact fld_agr hnn hag 6 (by decide) _
set_option maxRecDepth 100000 in
set_option maxHeartbeats 4000000 in
theorem law_used (hX : rx_ok X code 4 "GoalScannerLaw" D (tyL cI cZ cN) A 100 kc ks (some t)) (hs : rx_sc X A b L xs) (hL : L ≤ 2560) (hi : i + 5 ≤ L) (hI : LI nn qt tl ae qz rf qf rw nf mf) (nxt : lwN X D A kc ks cI cZ cN ad am b i 421) : RR X 4 D A kc ks (WC ad cI cN nn qt tl ch rz rf qz qf nf ++ WM am cI cZ tl nn qz ae dp ch mf rw sz nv ph tu sv) (lwV ad am b i) 375 [] := by
  obtain ⟨ht, hnn, hw, hag, h0, Lr, hl64, hlz, hq1, hq2, hae⟩ := id hI
  have hwm := WFn_agr hnn hw hag
  have hq : qz ≤ 64 := by omega
  refine r_aload_n (i := 1) hX d_L_law_375 rfl rfl ?_
  refine r_aload_n (i := 0) hX d_L_law_376 rfl rfl ?_
  refine r_iload_n (i := 3) hX d_L_law_377 rfl rfl ?_
  refine r_iconst (v := nI 1) hX d_L_law_378 (by decide) ?_
  refine r_iadd hX d_L_law_379 ?_
  refine r_sld (j := i + 1) hX hs d_L_law_380 (nI_add i 1) (by omega) (by omega) ?_
  refine r_callLi (q0 := 0) hX d_L_law_381 cw_G_used ml_L_62 (c_G_used (xs (i + 1)) hnn) (Or.inl rfl) rfl rfl rfl rfl (by decide) (Nat.le_of_ble_eq_true rfl) (fun _ => wc_ad) (fun u hu => ?_)
  refine r_aload_n (i := 2) hX d_L_law_384 rfl rfl ?_
  refine r_aload_n (i := 0) hX d_L_law_385 rfl rfl ?_
  refine r_iload_n (i := 3) hX d_L_law_386 rfl rfl ?_
  refine r_iconst (v := nI 1) hX d_L_law_387 (by decide) ?_
  refine r_iadd hX d_L_law_388 ?_
  refine r_sld (j := i + 1) hX hs d_L_law_389 (nI_add i 1) (by omega) (by omega) ?_
  refine r_callRi (q0 := 0) hX d_L_law_390 cw_M_used ml_L_66 (c_M_used (xs (i + 1)) hnn) (Or.inl rfl) rfl rfl rfl rfl (by decide) (Nat.le_of_ble_eq_true rfl) (fun _ => rfl) (fun v hv => ?_)
  refine r_icmp_eq 421 hX d_L_law_393 (by decide) (fun _ => ?_) (fun c => absurd ?_ c)
  · exact nxt _ _ _ _ _ _ _ _ _ _ _ _ _ _ _ _ _ _ ⟨ht, hnn, hw, hag, h0, Lr, hl64, hlz, hq1, hq2, hae⟩
  · exact used_agr hnn hag _
set_option maxRecDepth 100000 in
set_option maxHeartbeats 4000000 in
theorem law_count (hX : rx_ok X code 4 "GoalScannerLaw" D (tyL cI cZ cN) A 100 kc ks (some t)) (hs : rx_sc X A b L xs) (hL : L ≤ 2560) (hi : i + 5 ≤ L) (hI : LI nn qt tl ae qz rf qf rw nf mf) (nxt : lwN X D A kc ks cI cZ cN ad am b i 421) : RR X 4 D A kc ks (WC ad cI cN nn qt tl ch rz rf qz qf nf ++ WM am cI cZ tl nn qz ae dp ch mf rw sz nv ph tu sv) (lwV ad am b i) 398 [] := by
  obtain ⟨ht, hnn, hw, hag, h0, Lr, hl64, hlz, hq1, hq2, hae⟩ := id hI
  have hwm := WFn_agr hnn hw hag
  have hq : qz ≤ 64 := by omega
  refine r_aload_n (i := 1) hX d_L_law_398 rfl rfl ?_
  refine r_aload_n (i := 0) hX d_L_law_399 rfl rfl ?_
  refine r_iload_n (i := 3) hX d_L_law_400 rfl rfl ?_
  refine r_iconst (v := nI 1) hX d_L_law_401 (by decide) ?_
  refine r_iadd hX d_L_law_402 ?_
  refine r_sld (j := i + 1) hX hs d_L_law_403 (nI_add i 1) (by omega) (by omega) ?_
  refine r_callLi (q0 := 0) hX d_L_law_404 cw_G_count ml_L_67 (c_G_count (xs (i + 1)) hq) (Or.inl rfl) rfl rfl rfl rfl (by decide) (Nat.le_of_ble_eq_true rfl) (fun _ => wc_ad) (fun u hu => ?_)
  refine r_aload_n (i := 2) hX d_L_law_407 rfl rfl ?_
  refine r_aload_n (i := 0) hX d_L_law_408 rfl rfl ?_
  refine r_iload_n (i := 3) hX d_L_law_409 rfl rfl ?_
  refine r_iconst (v := nI 1) hX d_L_law_410 (by decide) ?_
  refine r_iadd hX d_L_law_411 ?_
  refine r_sld (j := i + 1) hX hs d_L_law_412 (nI_add i 1) (by omega) (by omega) ?_
  refine r_callRi (q0 := 0) hX d_L_law_413 cw_M_count ml_L_70 (c_M_count (xs (i + 1))) (Or.inl rfl) rfl rfl rfl rfl (by decide) (Nat.le_of_ble_eq_true rfl) (fun _ => rfl) (fun v hv => ?_)
  refine r_icmp_eq 421 hX d_L_law_416 (by decide) (fun _ => ?_) (fun c => absurd ?_ c)
  · exact nxt _ _ _ _ _ _ _ _ _ _ _ _ _ _ _ _ _ _ ⟨ht, hnn, hw, hag, h0, Lr, hl64, hlz, hq1, hq2, hae⟩
  · rw [hae]
theorem sc_more {L i : Nat} (hL : L ≤ 2560) (hi : i ≤ 2560) (h : ¬ nI L - nI 5 < nI i) : i + 5 ≤ L := by
  have h1 : ¬ (nI L - nI 5).toInt < (nI i).toInt := fun q => h (Int32.lt_iff_toInt_lt.mpr q)
  rw [pk_sub_toInt (by omega) (by decide), nI_toInt (by omega)] at h1
  omega
set_option maxRecDepth 100000 in
set_option maxHeartbeats 4000000 in
theorem law_loop (hX : rx_ok X code 4 "GoalScannerLaw" D (tyL cI cZ cN) A 100 kc ks (some t)) (hs : rx_sc X A b L xs) (hL : L ≤ 2560) (fin : ∀ (ws : va_W) (lv : List (Nat × Value)), RR X 4 D A kc ks ws lv 428 [.int (nI 1)]) : ∀ n i, i ≤ 2560 → L < i + n → lwN X D A kc ks cI cZ cN ad am b i 18 := by
  intro n
  induction n with
  | zero =>
    intro i hi hn nn qt tl ch rz rf qz qf nf ae dp mf rw sz nv ph tu sv hI
    have hX18 := hX
    refine r_iload_n (i := 3) hX d_L_law_18 rfl rfl ?_
    refine r_aload_n (i := 0) hX d_L_law_19 rfl rfl ?_
    refine r_slen hX hs d_L_law_20 ?_
    refine r_iconst (v := nI 5) hX d_L_law_21 (by decide) ?_
    refine r_isub hX d_L_law_22 ?_
    refine r_icmp_gt 427 hX d_L_law_23 (by decide) (fun c => ?_) (fun c => absurd (sc_more hL hi c) (by omega))
    refine r_iconst (v := nI 1) hX d_L_law_427 (by decide) ?_
    exact fin _ _
  | succ n ih =>
    intro i hi hn nn qt tl ch rz rf qz qf nf ae dp mf rw sz nv ph tu sv hI
    refine r_iload_n (i := 3) hX d_L_law_18 rfl rfl ?_
    refine r_aload_n (i := 0) hX d_L_law_19 rfl rfl ?_
    refine r_slen hX hs d_L_law_20 ?_
    refine r_iconst (v := nI 5) hX d_L_law_21 (by decide) ?_
    refine r_isub hX d_L_law_22 ?_
    refine r_icmp_gt 427 hX d_L_law_23 (by decide) (fun c => ?_) (fun c => ?_)
    · refine r_iconst (v := nI 1) hX d_L_law_427 (by decide) ?_
      exact fin _ _
    have hi5 := sc_more hL hi c
    have nxt : lwN X D A kc ks cI cZ cN ad am b i 421 := by
      intro nn qt tl ch rz rf qz qf nf ae dp mf rw sz nv ph tu sv hI
      refine r_iinc (v := nI (i + 5)) hX d_L_law_421 rfl (nI_add i 5) (by decide) ?_
      refine r_goto 18 hX d_L_law_424 (by decide) ?_
      exact r_lv [0, 1, 2, 3] (ih (i + 5) (by omega) (by omega) nn qt tl ch rz rf qz qf nf ae dp mf rw sz nv ph tu sv hI)
    refine r_aload_n (i := 0) hX d_L_law_26 rfl rfl ?_
    refine r_iload_n (i := 3) hX d_L_law_27 rfl rfl ?_
    refine r_sld (j := i) hX hs d_L_law_28 rfl (by omega) (by omega) ?_
    refine r_bipush (v := nI 15) hX d_L_law_29 (by decide) ?_
    refine r_iand hX d_L_law_31 ?_
    refine r_gen (fun y _ => ?_)
    rcases sw13 y with ⟨k, hk, rfl⟩ | hout
    · rcases k13 hk with rfl | rfl | rfl | rfl | rfl | rfl | rfl | rfl | rfl | rfl | rfl | rfl | rfl
      · refine r_tableIn (off := 68) 100 hX d_L_law_32 (by decide) (by decide) (by decide) (by decide) ?_
        exact law_type hX hs hL hi5 hI nxt
      · refine r_tableIn (off := 91) 123 hX d_L_law_32 (by decide) (by decide) (by decide) (by decide) ?_
        exact law_wipe hX hs hL hi5 hI nxt
      · refine r_tableIn (off := 104) 136 hX d_L_law_32 (by decide) (by decide) (by decide) (by decide) ?_
        exact law_node hX hs hL hi5 hI nxt
      · refine r_tableIn (off := 157) 189 hX d_L_law_32 (by decide) (by decide) (by decide) (by decide) ?_
        exact law_clear hX hs hL hi5 hI nxt
      · refine r_tableIn (off := 170) 202 hX d_L_law_32 (by decide) (by decide) (by decide) (by decide) ?_
        exact law_evaluate hX hs hL hi5 hI nxt
      · refine r_tableIn (off := 193) 225 hX d_L_law_32 (by decide) (by decide) (by decide) (by decide) ?_
        exact law_attempt hX hs hL hi5 hI nxt
      · refine r_tableIn (off := 216) 248 hX d_L_law_32 (by decide) (by decide) (by decide) (by decide) ?_
        exact law_result hX hs hL hi5 hI nxt
      · refine r_tableIn (off := 240) 272 hX d_L_law_32 (by decide) (by decide) (by decide) (by decide) ?_
        exact law_place hX hs hL hi5 hI nxt
      · refine r_tableIn (off := 263) 295 hX d_L_law_32 (by decide) (by decide) (by decide) (by decide) ?_
        exact law_variable hX hs hL hi5 hI nxt
      · refine r_tableIn (off := 297) 329 hX d_L_law_32 (by decide) (by decide) (by decide) (by decide) ?_
        exact law_bound hX hs hL hi5 hI nxt
      · refine r_tableIn (off := 320) 352 hX d_L_law_32 (by decide) (by decide) (by decide) (by decide) ?_
        exact law_level hX hs hL hi5 hI nxt
      · refine r_tableIn (off := 343) 375 hX d_L_law_32 (by decide) (by decide) (by decide) (by decide) ?_
        exact law_used hX hs hL hi5 hI nxt
      · refine r_tableIn (off := 366) 398 hX d_L_law_32 (by decide) (by decide) (by decide) (by decide) ?_
        exact law_count hX hs hL hi5 hI nxt
    · refine r_tableOut 421 hX d_L_law_32 hout (by decide) ?_
      exact nxt nn qt tl ch rz rf qz qf nf ae dp mf rw sz nv ph tu sv hI
end LawL
