/-! Making: rows for new objects and arrays, contracts with cells and slots, the constructors. -/
theorem rx_ok.at {X : rx_T} {cc : ByteArray} {nL : Nat} {own : String} {D : va_G} {tys : List (ClassId × FieldType)} {A : Nat → Prop} {d mc ms kc ks : Nat} {z : Option Nat} (h : rx_ok X cc nL own D tys A d mc ms z) (h1 : kc ≤ mc) (h2 : ks ≤ ms) : rx_ok X cc nL own D tys A d kc ks z := by
  obtain ⟨p, l, e, R, s, m, args, below, meth, c, Q⟩ := X
  obtain ⟨hx, hb, hml, hown, hts, hK, hA, hR, hC, hE⟩ := h
  exact ⟨hx, hb, hml, hown, hts, hK, hA, hR, ⟨Nat.le_trans h1 hC.1, Nat.le_trans h2 hC.2⟩, hE⟩
theorem tw_oi : Cond.instanceMethod Lib.objectInit ∈ TB := tm1 14 rfl rfl
theorem tw_oc : Cond.code Lib.objectInit ⟨#[0xb1]⟩ 1 none ∈ TB := tm1 15 rfl rfl
theorem tw_ai : Cond.arrayClass .int ∈ TB := tm1 31 rfl rfl
theorem tw_az : Cond.arrayClass .boolean ∈ TB := tm2 178 rfl rfl
theorem in_L : Cond.initialized "GoalScannerLaw" ∈ TB := tm1 0 rfl rfl
theorem in_G : Cond.initialized "GoalScanner" ∈ TB := tm1 1 rfl rfl
theorem in_T : Cond.initialized "GoalScanner$Text" ∈ TB := tm1 2 rfl rfl
theorem in_N : Cond.initialized "GoalScanner$Node" ∈ TB := tm1 3 rfl rfl
theorem in_R : Cond.initialized "GoalScanner$Rows" ∈ TB := tm1 4 rfl rfl
theorem in_M : Cond.initialized "GoalScannerModel" ∈ TB := tm1 5 rfl rfl
theorem cl_L_7 : Cond.classLink "GoalScannerLaw" 7 "GoalScanner" ∈ TB := tm1 8 rfl rfl
theorem ib_G : Cond.instantiable "GoalScanner" 6 ∈ TB := tm1 9 rfl rfl
theorem im_G : Cond.instanceMethod y_G_init ∈ TB := tm1 11 rfl rfl
theorem ic_G : Cond.code y_G_init b_G_init 2 none ∈ TB := tm1 12 rfl rfl
theorem cl_G_9 : Cond.classLink "GoalScanner" 9 "GoalScanner$Text" ∈ TB := tm1 16 rfl rfl
theorem ib_T : Cond.instantiable "GoalScanner$Text" 2 ∈ TB := tm1 17 rfl rfl
theorem im_T : Cond.instanceMethod y_T_init ∈ TB := tm1 19 rfl rfl
theorem ic_T : Cond.code y_T_init b_T_init 1 none ∈ TB := tm1 20 rfl rfl
theorem cl_G_16 : Cond.classLink "GoalScanner" 16 "GoalScanner$Node" ∈ TB := tm1 32 rfl rfl
theorem ib_N : Cond.instantiable "GoalScanner$Node" 8 ∈ TB := tm1 34 rfl rfl
theorem im_N : Cond.instanceMethod y_N_init ∈ TB := tm1 36 rfl rfl
theorem ic_N : Cond.code y_N_init b_N_init 1 none ∈ TB := tm1 37 rfl rfl
theorem cl_G_23 : Cond.classLink "GoalScanner" 23 "GoalScanner$Rows" ∈ TB := tm1 69 rfl rfl
theorem ib_R : Cond.instantiable "GoalScanner$Rows" 3 ∈ TB := tm1 70 rfl rfl
theorem im_R : Cond.instanceMethod y_R_init ∈ TB := tm1 72 rfl rfl
theorem ic_R : Cond.code y_R_init b_R_init 2 none ∈ TB := tm1 73 rfl rfl
theorem cl_L_10 : Cond.classLink "GoalScannerLaw" 10 "GoalScannerModel" ∈ TB := tm2 111 rfl rfl
theorem ib_M : Cond.instantiable "GoalScannerModel" 20 ∈ TB := tm2 112 rfl rfl
theorem im_M : Cond.instanceMethod y_M_init ∈ TB := tm2 114 rfl rfl
theorem ic_M : Cond.code y_M_init b_M_init 1 none ∈ TB := tm2 115 rfl rfl
section RM
variable {X : rx_T} {cc : ByteArray} {nL : Nat} {own : String} {z : Option Nat} {D : va_G} {tys : List (ClassId × FieldType)} {A : Nat → Prop} {d kc ks mc ms pc : Nat} {ws : va_W} {lv : List (Nat × Value)} {rest st : List Value}
theorem r_widen {kc' ks' : Nat} (h1 : kc ≤ kc') (h2 : ks ≤ ks') (k : RR X nL D A kc' ks' ws lv pc st) : RR X nL D A kc ks ws lv pc st := by
  obtain ⟨p, l, e, R, s, m, args, below, meth, c, Q⟩ := X
  intro H locs ls hP hD hS hl
  exact W.widen h1 h2 (k H locs ls hP hD hS hl)
theorem r_objInit {idx a : Nat} (h : rx_ok X cc nL own D tys A d kc ks z) (hd : decode cc pc = .ok (.invokespecial idx, 3)) (hlink : Cond.methodLink own idx Lib.objectInit ∈ TB) (hd1 : 1 ≤ d) (hrest : (rest.map fun v => v.category).sum ≤ 8) (k : RR X nL D A kc ks ws lv (pc + 3) rest) : RR X nL D A kc ks ws lv pc (.ref a :: rest) := by
  obtain ⟨p, l, e, R, s, m, args, below, meth, c, Q⟩ := X
  obtain ⟨hx, hb, hml, hown, hts, hK, hA, hR, hC, hE⟩ := h
  intro H locs ls hP hD hS hl
  have hr := lv_room (m := m) (pc := pc) (ls := ls) (rest := .ref a :: rest) hrest
  exact W.objInit hx hb hown (hts _ hlink) (hts _ tw_oi) (hts _ tw_oc) rfl (hl.1.trans hml.symm) rfl hd (by omega) (by omega) (k H locs ls hP hD hS hl)
theorem r_new {index ci N : Nat} {C : String} {T : u_T} {ty0 : Nat → FieldType} {fs : List Value} (h : rx_ok X cc nL own D tys A d mc ms z) (hd : decode cc pc = .ok (.new index, 3)) (hin : ∀ w ∈ u_ws C T N, w ∈ TB) (hty : ∀ k, k < N → parseFieldDescriptor (T k).2.2.1 = some (ty0 k)) (hcl : Cond.classLink own index C ∈ TB) (hinst : Cond.instantiable C N ∈ TB) (hini : Cond.initialized C ∈ TB) (hc : vwCl[ci]? = some (C, T, N)) (hfs : ∀ j, j < N → defaultValue (ty0 j) = vp_V fs j) (hk : kc + 1 ≤ mc) (hs : ks + N ≤ ms)
    (k : ∀ q, RR X nL D A (kc + 1) (ks + N) (ws ++ [(q, .inr (ci, fs))]) lv (pc + 3) (.ref q :: rest)) : RR X nL D A kc ks ws lv pc rest := by
  obtain ⟨p, l, e, R, s, m, args, below, meth, c, Q⟩ := X
  obtain ⟨hx, hb, hml, hown, hts, hK, hA, hR, hC, hE⟩ := h
  intro H locs ls hP hD hS hl
  exact va_new hx hb hts hin ty0 hty hown (hts _ hcl) (hts _ hinst) (hts _ hini) hK hP hD hS hA hc hfs (Nat.le_trans hk hC.1) (Nat.le_trans hs hC.2) hd (fun q H hP hD hS => k q H locs ls hP hD hS hl)
theorem r_newa {atype : ArrayType} {ty : FieldType} {n : Int32} {N' : Nat} {cA : ClassId} (t0 : Nat) (h : rx_ok X cc nL own D tys A d mc ms z) (hd : decode cc pc = .ok (.newarray atype, 2)) (harr : Cond.arrayClass ty ∈ TB) (hty : newarray.typeOf atype = ty) (ht : tys[t0]? = some (cA, ty)) (hra : ∀ (U : State) (c1 c2 : ClassId), va_RA U c1 ty → va_RA U c2 ty → c1 = c2) (ha : ∀ cA : ClassId, vp_cell cA (N', .inl (fun _ => 0)) = arrV cA N' (fun _ => defaultValue ty)) (hn : n = nI N') (hN : N' < 2 ^ 20) (hcb : componentBytes ty ≤ 8) (hk : kc + 1 ≤ mc) (hs : ks + N' ≤ ms)
    (k : ∀ q, RR X nL D A (kc + 1) (ks + N') (ws ++ [(q, .inl (cA, N', .inl (fun _ => 0)))]) lv (pc + 2) (.ref q :: rest)) : RR X nL D A kc ks ws lv pc (.int n :: rest) := by
  obtain ⟨p, l, e, R, s, m, args, below, meth, c, Q⟩ := X
  obtain ⟨hx, hb, hml, hown, hts, hK, hA, hR, hC, hE⟩ := h
  subst hn
  intro H locs ls hP hD hS hl
  have hby : N' * componentBytes ty ≤ 536870912 := Nat.le_trans (Nat.mul_le_mul (Nat.le_of_lt hN) hcb) (by decide)
  refine va_newa hx hb (by rw [hty]; exact hts _ harr) hty hK hP hD hS hA ha (nI_pos (by omega)) (nI_clamp (by omega)) hby (Nat.le_trans hk hC.1) (Nat.le_trans hs hC.2) hd (fun q cB H1 hK1 hP1 hD1 hS1 => ?_)
  have h1 := (hK1.2 tys.length (cB, ty) (by rw [List.getElem?_append_right (Nat.le_refl _), Nat.sub_self]; rfl)).2
  have h2 := (hK.2 t0 _ ht).2
  have he := hra _ _ _ h1 h2
  subst he
  exact k q H1 locs ls hP1 hD1 hS1 hl
theorem ra_int (U : State) (c1 c2 : ClassId) (h1 : va_RA U c1 .int) (h2 : va_RA U c2 .int) : c1 = c2 := Option.some.inj (h1.symm.trans h2)
theorem ra_bool (U : State) (c1 c2 : ClassId) (h1 : va_RA U c1 .boolean) (h2 : va_RA U c2 .boolean) : c1 = c2 := Option.some.inj (h1.symm.trans h2)
theorem r_newq {index : Nat} {C : String} {n : Int32} {N' : Nat} {cA : ClassId} (t0 : Nat) (h : rx_ok X cc nL own D tys A d mc ms z) (hd : decode cc pc = .ok (.anewarray index, 3)) (hcl : Cond.classLink own index C ∈ TB) (hover : va_AO C X.2.2.2.2.1) (ht : tys[t0]? = some (cA, .object C)) (hn : n = nI N') (hN : N' < 2 ^ 20) (hk : kc + 1 ≤ mc) (hs : ks + N' ≤ ms)
    (k : ∀ q, RR X nL D A (kc + 1) (ks + N') (ws ++ [(q, .inl (cA, N', .inr (.inr (.inr (.inr (fun _ => none))))))]) lv (pc + 3) (.ref q :: rest)) : RR X nL D A kc ks ws lv pc (.int n :: rest) := by
  obtain ⟨p, l, e, R, s, m, args, below, meth, c, Q⟩ := X
  obtain ⟨hx, hb, hml, hown, hts, hK, hA, hR, hC, hE⟩ := h
  subst hn
  intro H locs ls hP hD hS hl
  refine va_newq hx hb hown (hts _ hcl) hover hK hP hD hS hA (nI_pos (by omega)) (nI_clamp (by omega)) (by omega) (Nat.le_trans hk hC.1) (Nat.le_trans hs hC.2) hd (fun q cB H1 hK1 hP1 hD1 hS1 => ?_)
  have h1 := (hK1.2 tys.length (cB, .object C) (by rw [List.getElem?_append_right (Nat.le_refl _), Nat.sub_self]; rfl)).2
  have h2 := (hK.2 t0 _ ht).2
  obtain ⟨_, _, _, _, _, e1⟩ := h1
  obtain ⟨_, _, _, _, _, e2⟩ := h2
  have he := Option.some.inj (e1.symm.trans e2)
  subst he
  exact k q H1 locs ls hP1 hD1 hS1 hl
theorem r_aast {a n v : Nat} {cA : ClassId} {r : vw_C} {vs : List Value} {f : Nat → Option Nat} {i : Int32} (q0 t0 qk ci j : Nat) (h : rx_ok X cc nL own D tys A d kc ks z) (hd : decode cc pc = .ok (.aastore, 1)) (ha : ws[q0]? = some (a, .inl (cA, n, .inr (.inr (.inr (.inr f)))))) (ht : tys[t0]? = some (cA, .object r.1)) (hv : ws[qk]? = some (v, .inr (ci, vs))) (hc : vwCl[ci]? = some r) (hi : i = nI j) (hj : j < n) (hn : n < 2 ^ 31)
    (k : RR X nL D A kc ks (ws.set q0 (a, .inl (cA, n, .inr (.inr (.inr (.inr (va_up f j (some v)))))))) lv (pc + 1) rest) : RR X nL D A kc ks ws lv pc (.ref v :: .int i :: .ref a :: rest) := by
  obtain ⟨p, l, e, R, s, m, args, below, meth, c, Q⟩ := X
  obtain ⟨hx, hb, hml, hown, hts, hK, hA, hR, hC, hE⟩ := h
  obtain ⟨h1, h2⟩ := rx_in hi hj hn
  intro H locs ls hP hD hS hl
  refine va_astq hx hb hK hP hD hS q0 t0 qk ci ha ht hv hc h1 hd (fun H locs hP hD hS => ?_)
  rw [h2] at hP hD
  exact k H locs ls hP hD hS hl
/-- another order of the cells -/
theorem r_perm {ws' : va_W} (hm : ∀ q ∈ ws', q ∈ ws) (hd : ∀ A : Nat → Prop, va_D A ws → va_D A ws') (k : RR X nL D A kc ks ws' lv pc st) : RR X nL D A kc ks ws lv pc st := by
  obtain ⟨p, l, e, R, s, m, args, below, meth, c, Q⟩ := X
  intro H locs ls hP hD hS hl
  refine k H locs ls (fun j q hj => ?_) (hd _ hD) hS hl
  obtain ⟨i, hi⟩ := List.getElem?_of_mem (hm q (List.mem_of_getElem? hj))
  exact hP i q hi
end RM
/-- the contract of a constructor: mc cells of ms slots come -/
def cm_Q {S : Type} (D : va_G) (wi : va_W) (sz : Nat) (post : S → Prop) (wo : S → va_W) : Array Value → State → Outcome → State → Prop :=
  fun _ st oc t => (∃ u : S, post u ∧ oc = .returned none ∧ va_P D vwCl (wo u) t.heap ∧ va_D (va_A wi sz) (wo u)) ∧ va_F (va_A wi sz) st t
def CTm {S : Type} (l : Launch) (D : va_G) (tys : List (ClassId × FieldType)) (y : MethodName) (cc : ByteArray) (nL d mc ms : Nat) (E : State → Prop) (av : List Value) (wi : va_W) (post : S → Prop) (wo : S → va_W) : Prop :=
  ∀ sz : Nat, Met l y (Cond.code y cc nL none :: TB) { frames := d, cells := mc, slots := ms, locals := 40 * d } (fun v U => ct_P D tys none av wi sz v U ∧ E U) (cm_Q D wi sz post wo) mc ms (va_A wi sz)
def rx_fim {S : Type} (X : rx_T) (D : va_G) (wi : va_W) (A : Nat → Prop) (mc ms : Nat) (post : S → Prop) (wo : S → va_W) : Prop :=
  match X with
  | (_, _, _, _, s, _, args, below, meth, _, Q) => meth.sig.returnType = none ∧ meth.locks = false ∧ ∃ sz : Nat, A = va_A wi sz ∧ Q = MQ below (cm_Q D wi sz post wo) args s mc ms (va_A wi sz)
theorem CTm.of {S : Type} {l : Launch} {D : va_G} {tys : List (ClassId × FieldType)} {y : MethodName} {cc : ByteArray} {nL d mc ms : Nat} {E : State → Prop} {av : List Value} {wi : va_W} {post : S → Prop} {wo : S → va_W} (hy : plainName y.cls = true) (hyn : y.name = "<init>") (hlen : (lg_sl av).length ≤ nL)
    (body : ∀ (X : rx_T) (A : Nat → Prop), X.2.1 = l → X.2.2.2.2.2.2.2.2.1.name = "<init>" → E X.2.2.2.2.1 → rx_ok X cc nL y.cls D tys A d mc ms none → rx_fim X D wi A mc ms post wo → RR X nL D A 0 0 wi (lv_args 0 av) 0 []) : CTm l D tys y cc nL d mc ms E av wi post wo := by
  intro sz
  refine Met.ofW (cc := cc) (maxL := nL) (ret := none) hy rfl ?_
  intro p e s m args below meth c s₁ B hml hv
  obtain ⟨⟨rfl, hsz, hP, hK, hD0, hE⟩, hEE⟩ := hv
  have hts := atoms_spec (ws := Cond.code y cc nL none :: TB) B.pre
  have hown : s.vm.findClass y.cls = some m.cls := findClass_of_methodNamed B.named
  have hin : meth.name = "<init>" := ((name_of_methodNamed B.named B.method).1).trans hyn
  subst hsz
  have hD := hD0.self (sz := s.heap.size)
  rw [lg_entry_eq]
  have hl := lv_entry av (n := nL) hlen
  exact body (p, l, e, _, s, m, _, below, meth, c, _) (va_A wi s.heap.size) rfl hin hEE ⟨B.exec, B.bytes, hml, hown, fun w hw => hts w (List.mem_cons_of_mem _ hw), hK, fun q h => Or.inr h, ⟨Nat.le_refl _, Nat.le_refl _⟩, ⟨Nat.le_refl _, Nat.le_refl _⟩, trivial⟩ ⟨B.returns, B.notSynchronized, s.heap.size, rfl, rfl⟩ s.heap [] _ hP hD va_S.rf hl
section RN
variable {X : rx_T} {cc : ByteArray} {nL : Nat} {own : String} {z : Option Nat} {D : va_G} {tys : List (ClassId × FieldType)} {A : Nat → Prop} {d d' kc ks mc ms kc' ks' pc : Nat} {ws wi wr : va_W} {lv : List (Nat × Value)} {rest st : List Value} {S : Type} {post : S → Prop} {wo : S → va_W} {y : MethodName} {cy : ByteArray} {ny n index b : Nat} {As : List Value} {E : State → Prop}
theorem r_vretm (u : S) (h : rx_ok X cc nL own D tys A d mc ms z) (hf : rx_fim X D wi A mc ms post wo) (hd : decode cc pc = .ok (.return_, 1)) (hp : post u) (hw : ws = wo u) : RR X nL D A mc ms ws lv pc [] := by
  obtain ⟨p, l, e, R, s, m, args, below, meth, c, Q⟩ := X
  obtain ⟨hx, hb, hml, hown, hts, hK, hA, hR, hC, hE⟩ := h
  obtain ⟨hr, hlk, sz, rfl, rfl⟩ := hf
  intro H locs ls hP hD hS hl
  exact W.vret hx hb hr (fun t ht _ => ⟨⟨u, hp, rfl, by rw [ht, ← hw]; exact hP, by rw [← hw]; exact hD⟩, hS.F ht⟩) hS.2.2 hd hlk
theorem w_callm {p : Program} {l : Launch} {e : Env} {R : Room} {s : State} {m : MethodId} {args a : Array Value} {below : List Frame} {meth : Method} {c : Code} {H : Heap} {locs : List Loc} {Q : State → Prop} {ls : Array Slot} {st0 : List Value} (isC isR : List Nat)
    (hP : va_P D vwCl ws H) (hD : va_D A ws) (hS : va_S A s.heap H locs) (hA : ∀ q, s.heap.size ≤ q → A q) (hC : isC.map (fun i => ws[i]?) = wi.map some) (hRr : isR.map (fun i => ws[i]?) = wr.map some) (hn : va_nd isR = true) (hdis : ∀ i ∈ isR, i ∉ isC)
    (hr : va_Run p l e R s m args below meth c H locs kc ks mc ms (F0 m pc ls st0) rest (cm_Q D wi H.size post wo a) (va_A wi H.size))
    (kk : ∀ (u : S) (H1 : Heap) (locs1 : List Loc), post u → va_P D vwCl (wr ++ wo u) H1 → va_D A (wr ++ wo u) → va_S A s.heap H1 locs1 → W p l e R s m args below meth c H1 locs1 (kc + mc) (ks + ms) Q (F0 m (pc + 3) ls rest)) : W p l e R s m args below meth c H locs kc ks Q (F0 m pc ls st0) := by
  have hF := va_free hD hS hA isC hC
  intro T hT X
  obtain ⟨v, st₀, t, T', L, h0, X', hL, e1, e2, ⟨⟨u, hp, hv, hP1, hD1⟩, hz, hk⟩, stp⟩ := hr T hT X
  cases hv
  rw [h0] at hz hk
  have hk1 : ∀ q : Nat, q < H.size → ¬ va_A wi H.size q → T'.heap[q]? = H[q]? := fun q h1 h2 => by rw [e1]; exact hk q h1 h2
  obtain ⟨j1, j2⟩ := va_join hP hD isC isR hC hRr hn hdis hk1 hF (by rw [e1]; exact hP1) hD1
  obtain ⟨t2, a1, b1⟩ := kk u T'.heap (locs ++ L) hp j1 j2
    ⟨Nat.le_trans hS.1 (by rw [e1]; exact hz), fun q h1 h2 => by rw [hk1 q (Nat.lt_of_lt_of_le h1 hS.1) (fun w => h2 (hF q w))]; exact hS.2.1 q h1 h2, fun q hq => by
      rcases List.mem_append.mp hq with h | h
      · exact hS.2.2 q h
      · exact hF _ (hL q h)⟩ T' rfl X'
  exact ⟨t2, stp t2 a1, b1⟩
theorem cm_blind {av : List Value} {sz : Nat} (hE : ∀ (a : Array Value) (U : State) (g : JFrame) (mk : MethodId), E U → E (U.calling g mk a)) : FrameBlind (fun v U => ct_P D tys none av wi sz v U ∧ E U) := fun a U g mk q => ⟨ct_blind a U g mk q.1, hE a U g mk q.2⟩
/-- a constructor is called: its cells come behind the others -/
theorem r_callI (isC isR : List Nat) (h : rx_ok X cc nL own D tys A d kc' ks' z) (hd : decode cc pc = .ok (.invokespecial index, 3)) (hyn : y.name = "<init>") (hdy : y.cls ≠ "java/lang/invoke/MethodHandle" ∧ y.cls ≠ "java/lang/invoke/VarHandle" ∧ (parseMethodDescriptor y.desc).map (fun d => d.parameters.length) = some n) (hny : ny ≤ 21) (hini : Cond.initialized y.cls ∈ TB) (hcode : Cond.code y cy ny none ∈ TB) (hinst : Cond.instanceMethod y ∈ TB) (hlink : Cond.methodLink own index y ∈ TB ∨ ∃ host, va_Nw (.methodLinkNest own index y host) X.2.2.2.2.1) (hM : CTm X.2.1 D tys y cy ny d' mc ms E (.ref b :: As) wi post wo) (hEb : ∀ (a : Array Value) (U : State) (g : JFrame) (mk : MethodId), E U → E (U.calling g mk a)) (hEs : ∀ U : State, X.2.2.2.2.1.WarmedH U.vm → E U) (hst : As.reverse ++ .ref b :: rest = st) (hn : As.length = n) (hd' : d' < d) (hrest : (rest.map fun v => v.category).sum ≤ 8) (hC : isC.map (fun i => ws[i]?) = wi.map some) (hRr : isR.map (fun i => ws[i]?) = wr.map some) (hnc : va_nd isC = true) (hnr : va_nd isR = true) (hdis : ∀ i ∈ isR, i ∉ isC) (hk : kc + mc ≤ kc') (hs : ks + ms ≤ ks')
    (k : ∀ u, post u → RR X nL D A (kc + mc) (ks + ms) (wr ++ wo u) lv (pc + 3) rest) : RR X nL D A kc ks ws lv pc st := by
  obtain ⟨p, l, e, R, s, m, args, below, meth, c, Q⟩ := X
  obtain ⟨hx, hb, hml, hown, hts, hK, hA, hR, hRC, hEz⟩ := h
  subst hst
  intro H locs ls hP hD hS hl
  have hPc : va_P D vwCl wi H := fun j q hj => by
    obtain ⟨i, -, hi⟩ := wmap_back hC hj
    exact hP i q hi
  have hDc : va_D (fun _ => True) wi := (hD.sub isC hnc hC).weaken (fun _ _ _ _ => trivial)
  have hpre : PreS s H (fun v U => ct_P D tys none (.ref b :: As) wi H.size v U ∧ E U) (.ref b :: As) := ⟨cm_blind hEb, fun U hU hW => ⟨⟨rfl, by rw [hU], by rw [hU]; exact hPc, va_K.moved hW.alike hK, hDc, trivial⟩, hEs U hW⟩⟩
  have hroom : d' + 1 ≤ R.frames ∧ 8 + (ny + 11) + 40 * d' ≤ R.locals := ⟨by omega, by omega⟩
  have hfit : kc + mc ≤ R.cells ∧ ks + ms ≤ R.slots := ⟨Nat.le_trans hk hRC.1, Nat.le_trans hs hRC.2⟩
  have hrun : va_Run p l e R s m args below meth c H locs kc ks mc ms (F0 m pc ls (As.reverse ++ .ref b :: rest)) rest (cm_Q D wi H.size post wo (Value.ref b :: As).toArray) (va_A wi H.size) := by
    rcases hlink with hlink | ⟨host, hlink⟩
    · exact va_runI (As := As) (rest := rest) ⟨hx, hb, hml, hown, hts⟩ (hM H.size) (cwI n hts (tb_in hcode) rfl rfl rfl (hts _ hini) (hts _ hlink) (hts _ hinst) hyn hdy hroom) hpre rfl hn hl.1 rfl (lv_room hrest) hd hfit
    · exact va_runIN (As := As) (rest := rest) ⟨hx, hb, hml, hown, hts⟩ (hM H.size) ⟨va_cnB n hts (tb_in hcode) rfl rfl rfl hlink (hts _ hini) hdy hroom, hyn, hts _ hinst⟩ hpre rfl hn hl.1 rfl (lv_room hrest) hd hfit
  refine w_callm isC isR hP hD hS hA hC hRr hnr hdis hrun ?_
  intro u H1 locs1 hp hP hD hS
  exact k u hp H1 locs1 ls hP hD hS hl
end RN
section Inits
variable {l : Launch} {D : va_G} {cI cZ cN : ClassId}
set_option maxRecDepth 100000 in
set_option maxHeartbeats 4000000 in
theorem c_N_init {o : Nat} {w : List Value} : CTm l D (tyL cI cZ cN) y_N_init b_N_init 1 1 0 0 (fun _ => True) [.ref o] [(o, .inr (0, w))] (fun _ : Unit => True) (fun _ => [(o, .inr (0, w))]) := by
  refine CTm.of (by decide) rfl (Nat.le_of_ble_eq_true rfl) ?_
  intro X A hl hin _ hX hF
  refine r_aload_n (i := 0) hX d_N_init_0 rfl rfl ?_
  refine r_objInit hX d_N_init_1 ml_N_1 (by decide) (Nat.le_of_ble_eq_true rfl) ?_
  exact r_vretm () hX hF d_N_init_4 trivial rfl
set_option maxRecDepth 100000 in
set_option maxHeartbeats 4000000 in
theorem c_T_init {o : Nat} : CTm l D (tyL cI cZ cN) y_T_init b_T_init 1 1 1 24 (fun _ => True) [.ref o] [(o, .inr (2, [.null, .int 0]))] (fun _ : Nat => True) (fun q => [(o, .inr (2, [.ref q, .int 0])), (q, .inl (cI, 24, .inl (fun _ => 0)))]) := by
  refine CTm.of (by decide) rfl (Nat.le_of_ble_eq_true rfl) ?_
  intro X A hl hin _ hX hF
  have hX0 := hX.at (kc := 0) (ks := 0) (by decide) (by decide)
  refine r_aload_n (i := 0) hX0 d_T_init_0 rfl rfl ?_
  refine r_objInit hX0 d_T_init_1 ml_T_3 (by decide) (Nat.le_of_ble_eq_true rfl) ?_
  refine r_aload_n (i := 0) hX0 d_T_init_4 rfl rfl ?_
  refine r_bipush (v := nI 24) hX0 d_T_init_5 (by decide) ?_
  refine r_newa 0 hX d_T_init_7 tw_ai rfl rfl ra_int (fun _ => rfl) rfl (by decide) (by decide) (by decide) (by decide) (fun q => ?_)
  refine r_putF 0 0 hX hin d_T_init_9 rfl rfl fi_T ft_T_ok fn_T (by decide) fl_T_9 rfl rfl rfl rfl rfl rfl (Nat.le_of_ble_eq_true rfl) ?_
  exact r_vretm q hX hF d_T_init_12 trivial rfl
set_option maxRecDepth 100000 in
set_option maxHeartbeats 4000000 in
theorem c_R_init {o : Nat} (n : Nat) (hn : n < 2000) : CTm l D (tyL cI cZ cN) y_R_init b_R_init 2 1 1 (n * 6) (fun _ => True) [.ref o, .int (nI n)] [(o, .inr (1, [.null, .int 0, .int 0]))] (fun _ : Nat => True) (fun q => [(o, .inr (1, [.ref q, .int (nI n), .int 0])), (q, .inl (cI, n * 6, .inl (fun _ => 0)))]) := by
  refine CTm.of (by decide) rfl (Nat.le_of_ble_eq_true rfl) ?_
  intro X A hl hin _ hX hF
  have hX0 := hX.at (kc := 0) (ks := 0) (by decide) (Nat.zero_le _)
  have hX1 := hX.at (kc := 0 + 1) (ks := 0 + n * 6) (by decide) (by omega)
  refine r_aload_n (i := 0) hX0 d_R_init_0 rfl rfl ?_
  refine r_objInit hX0 d_R_init_1 ml_R_5 (by decide) (Nat.le_of_ble_eq_true rfl) ?_
  refine r_aload_n (i := 0) hX0 d_R_init_4 rfl rfl ?_
  refine r_iload_n (i := 1) hX0 d_R_init_5 rfl rfl ?_
  refine r_bipush (v := nI 6) hX0 d_R_init_6 (by decide) ?_
  refine r_imul hX0 d_R_init_8 ?_
  refine r_top (pk_mul _ _) ?_
  refine r_newa 0 hX d_R_init_9 tw_ai rfl rfl ra_int (fun _ => rfl) rfl (by omega) (by decide) (by decide) (by omega) (fun q => ?_)
  refine r_putF 0 0 hX1 hin d_R_init_11 rfl rfl fi_R ft_R_ok fn_R (by decide) fl_R_11 rfl rfl rfl rfl rfl rfl (Nat.le_of_ble_eq_true rfl) ?_
  refine r_aload_n (i := 0) hX1 d_R_init_14 rfl rfl ?_
  refine r_iload_n (i := 1) hX1 d_R_init_15 rfl rfl ?_
  refine r_putF 0 1 hX1 hin d_R_init_16 rfl rfl fi_R ft_R_ok fn_R (by decide) fl_R_15 rfl rfl rfl rfl rfl rfl (Nat.le_of_ble_eq_true rfl) ?_
  refine r_widen (kc' := 1) (ks' := n * 6) (by decide) (by omega) ?_
  exact r_vretm q hX hF d_R_init_19 trivial rfl
end Inits
