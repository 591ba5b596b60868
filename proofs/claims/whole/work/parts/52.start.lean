/-! The start and the claim. -/
/-! THE CLAIM OUT OF ONE WALK OF THE LAW'S BODY. Your part is whole_start (and what it stands on); all else here is the same for every law, but numbers. -/
def R_law : String := "GoalScannerLaw"
def lw_P (b : Addr) (xs : List Int32) (args : Array Value) (s : State) : Prop := args = #[.ref b] ∧ s.IntsAt b xs ∧ xs.length ≤ 2560 ∧ (Jvm.Cond.and given_1 narrow_1).before args s = true
def lw_Q (_ : Array Value) (s : State) (o : Outcome) (t : State) : Prop := o = .returned (some (.int 1)) ∧ Framed s o t [] 600000 7302250
def lw_Z (below : List Frame) (a : Array Value) (s : State) : State → Prop := fun t => ∃ o, t.status = .running ∧ Ended t below o ∧ lw_Q a s o t
/-- the law's own end, with 1 on the stack, nothing written that was there before, its room as the claim has it -/
theorem lw_ret {p : Program} {l : Launch} {e : Env} {s : State} {m : MethodId} {below : List Frame} {meth : Method} {c : Code} {b : Nat} (hx : p.tables.exec = Jvm.exec) (hb : c.code = code) (hr : meth.sig.returnType = ret) (hlocks : meth.locks = false) {pc : Nat} {H : Heap} {ls : Array Slot} (hdg : decode code pc = .ok (.ireturn, 1)) : W p l e room_1 s m #[Value.ref b] below meth c H [] 600000 7302250 (lw_Z below #[Value.ref b] s) (F0 m pc ls [.int 1]) := by
  intro T hT X
  obtain ⟨fs, hret, hrun, hended, hW, hframe⟩ := X.leave (v := some (.int 1)) (hlocks := hlocks) (fun h => by rw [hr] at h; cases h)
  have hmeth' : T.vm.method? m = some meth := X.method'
  refine ⟨T.setFrames fs, ?_, .returned (some (.int 1)), hrun, hended, rfl, ⟨_, rfl⟩, hW, hframe⟩
  jvm_step X.here [X.here.top, hx, hb, hdg, hmeth', hr, ret, narrow_b1]
  (try refine ⟨rfl, ?_⟩); (try refine ⟨rfl, ?_⟩)
  first | (intro acts; rw [hret _ acts rfl rfl rfl]) | rw [hret _ _ rfl rfl rfl]
  exact Steps.refl _
/-- what holds at the law's entry: the machine, the code, the tables' words (any of lw_tbl by 'hts w (by decide +kernel)'), the script of L ints xs at the cell b, what the Statement gives of the start (any of its parts by flat_of_before) -/
def lw_At (p : Program) (s : State) (m : MethodId) (meth : Method) (c : Code) (b L : Nat) (xs : Nat → Int32) : Prop :=
  p.tables.exec = Jvm.exec ∧ c.code = code ∧ meth.sig.returnType = ret ∧ c.maxLocals = 4 ∧ s.vm.findClass R_law = some m.cls ∧ (∀ w ∈ lw_tbl, w.before #[Value.ref b] s = true) ∧ va_X b L xs s s.heap ∧ b < s.heap.size ∧ meth.locks = false ∧ (Jvm.Cond.and given_1 narrow_1).before #[Value.ref b] s = true
theorem gE_calling (a : Array Value) (U : State) (g : JFrame) (mk : MethodId) (h : gE U) : gE (U.calling g mk a) := ⟨va_AO.moved (u := U) (U := U.calling g mk a) (Vm.Alike.refl U.vm) h.1, va_Nw.same (u := U) (U := U.calling g mk a) rfl rfl h.2.1, va_Nw.same (u := U) (U := U.calling g mk a) rfl rfl h.2.2⟩
theorem gE_warmed {s U : State} (hW : s.WarmedH U.vm) (h : gE s) : gE U := ⟨va_AO.moved hW.alike h.1, va_Nw.warmM hW h.2.1, va_Nw.warmM hW h.2.2⟩
theorem wc_len {ad : Nat → Nat} {cI cN : ClassId} {nn qt tl rz qz : Nat} {ch rf qf : Nat → Int32} {nf : Nat → Nat → Int32} : (WC ad cI cN nn qt tl ch rz rf qz qf nf).length = 68 := by simp [WCn]
/-- the masks as the start gives them -/
theorem op_words : ∀ j, j < 22 → Cond.eq (.elem (.static "GoalScanner" "OPERANDS" "[I") (.int (Int32.ofNat j))) (.int (nI (opsN j))) ∈ flatC (Jvm.Cond.and given_1 narrow_1) := by decide +kernel
set_option maxRecDepth 100000 in
set_option maxHeartbeats 4000000 in
theorem whole_start {p : Program} {e : Env} {s : State} {m : MethodId} {below : List Frame} {meth : Method} {c : Code} (l : Launch) {b L : Nat} {xs : Nat → Int32} (hL : L ≤ 2560) (C0 : lw_At p s m meth c b L xs) : W p l e room_1 s m #[Value.ref b] below meth c s.heap [] 0 0 (lw_Z below #[Value.ref b] s) (entryFrame m ([Value.ref b] : List Value).toArray 4) := by
  obtain ⟨hx, hb, hr, hml, hown, hts, hX, hbl, hlocks, hgv⟩ := id C0
  have hT : ∀ w ∈ TB, w.before #[Value.ref b] s = true := fun w hw => hts w (List.mem_filter.mp hw).1
  have h11 : ∀ (k : Nat) (w : Cond), tables_1_1[k]? = some w → w.before #[Value.ref b] s = true := fun k w h => hts w (List.mem_append_right _ (List.mem_append_left _ (List.mem_of_getElem? h)))
  obtain ⟨c0, iS0, hKn0⟩ := u_known (C := R_N) (T := F_N) (N := 8) (n := 8) hT fi_N (hT _ ib_N)
  obtain ⟨c1, iS1, hKn1⟩ := u_known (C := R_R) (T := F_R) (N := 3) (n := 3) hT fi_R (hT _ ib_R)
  obtain ⟨c2, iS2, hKn2⟩ := u_known (C := R_T) (T := F_T) (N := 2) (n := 2) hT fi_T (hT _ ib_T)
  obtain ⟨c3, iS3, hKn3⟩ := u_known (C := R_G) (T := F_G) (N := 6) (n := 6) hT fi_G (hT _ ib_G)
  obtain ⟨c4, iS4, hKn4⟩ := u_known (C := R_M) (T := F_M) (N := 20) (n := 20) hT fi_M (hT _ ib_M)
  obtain ⟨dC, dI, hKc⟩ : ∃ (dC : Nat → ClassId) (dI : Nat → Nat → Nat), ∀ (k : Nat) (q : vw_C), vwCl[k]? = some q → u_Kn s q.1 q.2.1 q.2.2 (dC k) (dI k) := by
    refine ⟨fun k => if k = 0 then c0 else if k = 1 then c1 else if k = 2 then c2 else if k = 3 then c3 else c4, fun k => if k = 0 then iS0 else if k = 1 then iS1 else if k = 2 then iS2 else if k = 3 then iS3 else iS4, ?_⟩
    intro k q hq
    match k, hq with
    | 0, hq => cases hq; exact hKn0
    | 1, hq => cases hq; exact hKn1
    | 2, hq => cases hq; exact hKn2
    | 3, hq => cases hq; exact hKn3
    | 4, hq => cases hq; exact hKn4
    | k + 5, hq => simp [vwCl] at hq
  have hAO : va_AO "GoalScanner$Node" s := va_AO.of (h11 33 _ rfl)
  have hgE : gE s := ⟨hAO, va_Nw.of rfl (h11 18 _ rfl), va_Nw.of rfl (h11 35 _ rfl)⟩
  obtain ⟨cI, kI, oI, fI1, fI2, fI3⟩ := Cond.arrayClass_spec (hT _ tw_ai)
  obtain ⟨cZ, kZ, oZ, fZ1, fZ2, fZ3⟩ := Cond.arrayClass_spec (hT _ tw_az)
  obtain ⟨oN, cN, kN', fN1, fN2, fN3, fN4, fN5⟩ := Cond.arrayOver_spec hAO
  have hK : va_K (dC, dI) vwCl (tyL cI cZ cN) s := by
    refine ⟨hKc, fun k q hq => ?_⟩
    match k, hq with
    | 0, hq => cases hq; exact ⟨fun n z => ⟨fun k h => (by cases h), kI, fI2, oI, fI3⟩, fI1⟩
    | 1, hq => cases hq; exact ⟨fun n z => ⟨fun k h => (by cases h), kZ, fZ2, oZ, fZ3⟩, fZ1⟩
    | 2, hq => cases hq; exact ⟨fun n z => ⟨fun k h => (by cases h), kN', fN3, oN, fN4⟩, kN', oN, fN3, fN4, fN1, fN5⟩
    | k + 3, hq => simp at hq
  have hfl := flat_of_before _ hgv
  have hAn : ∀ a : Nat, a < s.heap.size → ¬ (fun q : Nat => s.heap.size ≤ q) a := fun a ha => Nat.not_le.mpr ha
  obtain ⟨t, ht, hTt⟩ := va_Tof (args := #[Value.ref b]) (s := s) (tm := .static "GoalScanner" "OPERANDS" "[I") (ty := .int) (f := fun k => .int (nI (opsN k))) (A := fun q : Nat => s.heap.size ≤ q) (N := 22) (by decide) (hfl _ (by decide +kernel)) (va_eqt (hfl (.eq (.length (.static "GoalScanner" "OPERANDS" "[I")) (.int (Int32.ofNat 22))) (by decide +kernel))) (fun j hj => va_eqt (hfl _ (op_words j hj))) hAn
  have hZ := va_Zref (C := "GoalScanner") (n := "OPERANDS") (d := "[I") (h11 131 _ rfl) (hT _ in_G) ht hAn
  have hXk : rx_ok (p, l, e, room_1, s, m, #[Value.ref b], below, meth, c, lw_Z below #[Value.ref b] s) code 4 "GoalScannerLaw" (dC, dI) (tyL cI cZ cN) (fun q : Nat => s.heap.size ≤ q) 100 84 14245 (some t) := ⟨hx, hb, hml, hown, hT, hK, fun _ h => h, ⟨by decide, by decide⟩, ⟨by decide, by decide⟩, hZ, hTt⟩
  have hsc : rx_sc (p, l, e, room_1, s, m, #[Value.ref b], below, meth, c, lw_Z below #[Value.ref b] s) (fun q : Nat => s.heap.size ≤ q) b L xs := ⟨hX, hbl, Nat.not_le.mpr hbl⟩
  have fin : ∀ (ws : va_W) (lv : List (Nat × Value)), RR (p, l, e, room_1, s, m, #[Value.ref b], below, meth, c, lw_Z below #[Value.ref b] s) 4 (dC, dI) (fun q : Nat => s.heap.size ≤ q) 84 14245 ws lv 428 [.int (nI 1)] := by
    intro ws lv H locs ls hP hD hS hl
    refine va_forget (fun q hq => hS.2.2 q hq) ?_
    refine W.widen (k := 600000) (n := 7302250) (by decide) (by decide) ?_
    exact lw_ret hx hb hr hlocks d_L_law_428
  have hP : va_P (dC, dI) vwCl [] s.heap := fun k q h => by simp at h
  have hD : va_D (fun q : Nat => s.heap.size ≤ q) [] := ⟨fun i j p q h => by simp at h, fun k q h => by simp at h⟩
  have hl := lv_entry ([.ref b]) (n := 4) (Nat.le_of_ble_eq_true rfl)
  rw [lg_entry_eq]
  suffices K : RR (p, l, e, room_1, s, m, #[Value.ref b], below, meth, c, lw_Z below #[Value.ref b] s) 4 (dC, dI) (fun q : Nat => s.heap.size ≤ q) 0 0 [] [(0, .ref b)] 0 [] from K s.heap [] _ hP hD va_S.rf hl
  generalize hXe : (p, l, e, room_1, s, m, #[Value.ref b], below, meth, c, lw_Z below #[Value.ref b] s) = X at hXk hsc fin ⊢
  have hXs : X.2.2.2.2.1 = s := by rw [← hXe]
  refine r_new (ci := 3) (fs := [.null, .null, .int 0, .null, .null, .int 0]) hXk d_L_law_0 fi_G ft_G_ok cl_L_7 ib_G in_G rfl (fun j hj => by rcases (show j = 0 ∨ j = 1 ∨ j = 2 ∨ j = 3 ∨ j = 4 ∨ j = 5 by omega) with rfl | rfl | rfl | rfl | rfl | rfl <;> rfl) (by decide) (by decide) (fun g => ?_)
  refine r_widen (kc' := 1) (ks' := 6) (by decide) (by decide) ?_
  have hX1 := hXk.at (kc := 1) (ks := 6) (by decide) (by decide)
  refine r_dup hX1 d_L_law_3 rfl ?_
  refine r_callI (wr := []) [0] [] hXk d_L_law_4 rfl ⟨by decide, by decide, by decide +kernel⟩ (by decide) in_G ic_G im_G (Or.inl ml_L_9) (c_G_init (a0 := g)) gE_calling (fun U hW => gE_warmed (by rw [hXs] at hW; exact hW) hgE) rfl rfl (by decide) (Nat.le_of_ble_eq_true rfl) rfl rfl rfl rfl (by decide) (by decide) (by decide) (fun ad had => ?_)
  refine r_widen (kc' := 68) (ks' := 7112) (by decide) (by decide) ?_
  have hX2 := hXk.at (kc := 68) (ks := 7112) (by decide) (by decide)
  refine r_astore_n (i := 1) hX2 d_L_law_7 rfl (by decide) ?_
  refine r_new (ci := 4) (fs := [.int 0, .int 0, .int 0, .int 0, .null, .null, .null, .null, .null, .null, .null, .null, .null, .null, .null, .int 0, .null, .null, .null, .null]) hXk d_L_law_8 fi_M ft_M_ok cl_L_10 ib_M in_M rfl (fun j hj => by rcases (show j = 0 ∨ j = 1 ∨ j = 2 ∨ j = 3 ∨ j = 4 ∨ j = 5 ∨ j = 6 ∨ j = 7 ∨ j = 8 ∨ j = 9 ∨ j = 10 ∨ j = 11 ∨ j = 12 ∨ j = 13 ∨ j = 14 ∨ j = 15 ∨ j = 16 ∨ j = 17 ∨ j = 18 ∨ j = 19 by omega) with rfl | rfl | rfl | rfl | rfl | rfl | rfl | rfl | rfl | rfl | rfl | rfl | rfl | rfl | rfl | rfl | rfl | rfl | rfl | rfl <;> rfl) (by decide) (by decide) (fun g2 => ?_)
  refine r_widen (kc' := 69) (ks' := 7132) (by decide) (by decide) ?_
  have hX3 := hXk.at (kc := 69) (ks := 7132) (by decide) (by decide)
  refine r_dup hX3 d_L_law_11 rfl ?_
  refine r_callI (wr := WC ad cI cN 0 0 0 (fun _ => 0) 0 (fun _ => 0) 0 (fun _ => 0) (fun _ _ => 0)) [68] (List.range 68) hXk d_L_law_12 rfl ⟨by decide, by decide, by decide +kernel⟩ (by decide) in_M ic_M im_M (Or.inl ml_L_12) (c_M_init (a0 := g2)) (fun _ _ _ _ _ => trivial) (fun _ _ => trivial) rfl rfl (by decide) (Nat.le_of_ble_eq_true rfl) (one_map wc_len) (range_map wc_len) rfl (nd_range 68) (range_dis 68) (by decide) (by decide) (fun am ham => ?_)
  refine r_widen (kc' := 84) (ks' := 14245) (by decide) (by decide) ?_
  refine r_astore_n (i := 2) hXk d_L_law_15 rfl (by decide) ?_
  refine r_iconst (v := nI 0) hXk d_L_law_16 (by decide) ?_
  refine r_istore_n (i := 3) hXk d_L_law_17 rfl (by decide) ?_
  refine r_lv [0, 1, 2, 3] ?_
  refine r_lve (lv' := lwV ad am b 0) (by rw [← had, ← ham]; rfl) ?_
  exact law_loop hXk hsc hL fin (L + 1) 0 (by decide) (by omega) 0 0 0 (fun _ => 0) 0 (fun _ => 0) 0 (fun _ => 0) (fun _ _ => 0) 0 0 (fun _ _ => 0) (fun _ => 0) (fun _ => 0) (fun _ => 0) (fun _ => 0) (fun _ => 0) (fun _ => 0) ⟨by decide, by decide, fun i hi => absurd hi (Nat.not_lt_zero i), fun i _ j hj => absurd hj (Nat.not_lt_zero j), fun _ _ => rfl, [], by decide, rfl, Holds.nil _ _, Holds.nil _ _, rfl⟩
-- ===== YOUR PART ENDS =====
set_option maxHeartbeats 4000000 in
theorem lw_walk (l : Launch) (b : Addr) (xs : List Int32) : MetFree l x (headSpec (Jvm.Cond.code x code maxLocals ret :: tables_1) room_1) (lw_P b xs) (fun _ _ _ _ _ => True) lw_Q := by
  refine MetFree.of_bodyS (code := code) (maxLocals := maxLocals) (ret := ret) (by decide) ?_ ?_
  · intro args s m h hn
    obtain ⟨meth, c, h1, h2, h3, h4, h5, h6, -, -⟩ := Cond.code_spec hn (atoms_spec (ws := Jvm.Cond.code x code maxLocals ret :: tables_1) h _ List.mem_cons_self)
    exact ⟨meth, c, h1, h2, h3, h4, h5, h6⟩
  · intro p e s m args below meth c s₁ B hml0 hP _
    obtain ⟨rfl, hx, hbd, hgv⟩ := hP
    obtain ⟨scr, harrAt, hlist, hof, hsmall⟩ := hx
    obtain ⟨hcb, hkn, -, -⟩ := State.arrayAt?_spec harrAt
    have hown : s.vm.findClass R_law = some m.cls := findClass_of_methodNamed B.named
    have hts0 : ∀ c ∈ (Jvm.Cond.code x code maxLocals ret :: tables_1), c.before #[Value.ref b] s = true := atoms_spec (ws := Jvm.Cond.code x code maxLocals ret :: tables_1) B.pre
    have hts : ∀ w ∈ lw_tbl, w.before #[Value.ref b] s = true := k2_hts_sels lw_privs (fun w hw => hts0 w (List.mem_cons_of_mem _ hw)) lw_privs_ok
    have hml : c.maxLocals = 4 := B.maxLocals_eq (hts0 _ List.mem_cons_self)
    have X₀ : Stand p l e room_1 s m #[Value.ref b] below meth c s₁ [] 0 0 := Stand.of_body B
    have hh0 : s₁.heap = s.heap := by rw [B.state]; rfl
    have hsz : scr.slots.size = xs.length := by rw [← Array.length_toList, hlist, List.length_map]
    have hval : ∀ j : Nat, j < xs.length → scr.slots[j]? = some (.int (xs.getD j 0)) := fun j hj => by
      rw [← Array.getElem?_toList, hlist]
      simp [hj]
    have hbl : b < s.heap.size := (Array.getElem?_eq_some_iff.mp hcb).1
    have hX : va_X b xs.length (fun j => xs.getD j 0) s s.heap := ⟨scr, hcb, hof, hkn, hsz, hval⟩
    have K : W p l e room_1 s m #[Value.ref b] below meth c s₁.heap [] 0 0 (lw_Z below #[Value.ref b] s) (entryFrame m ([Value.ref b] : List Value).toArray 4) := by
      rw [hh0]
      exact whole_start l hbd ⟨B.exec, B.bytes, B.returns, hml, hown, hts, hX, hbl, B.notSynchronized, hgv⟩
    obtain ⟨t, a1, o, b1, b2, b3⟩ := K s₁ rfl X₀
    exact ⟨t, o, a1, b1, b2, b3⟩
theorem lw_pre_spec {args : Array Value} {s : State} (h : (Jvm.Cond.and given_1 narrow_1).before args s = true) (hr : rest_1_c.before args s = true) : ∃ (b : Addr) (xs : List Int32), lw_P b xs args s := by
  have hs := flat_of_before _ h
  have hq := flat_of_before _ hr
  have hc : (Cond.count 1).before args s = true := hs _ (by decide +kernel)
  have harr : (Cond.arrayOf (.arg 0) .int).before args s = true := hs _ (by decide +kernel)
  have hle : (Cond.le (.length (.arg 0)) (.int 2560)).before args s = true := hs _ (by decide +kernel)
  have hlen : (Cond.isInt (.length (.arg 0))).before args s = true := hq _ (by decide +kernel)
  have hall : (Cond.all (.arg 0) (.isInt (.elem (.arg 0) (.index 0)))).before args s = true := hq _ (by decide +kernel)
  obtain ⟨b, xs, hb, hx⟩ := State.ints_of_pre rfl harr hlen hall
  have hsm : xs.length < 2 ^ 31 := hx.choose_spec.2.2.2
  have hev : (Term.length (.arg 0)).eval args s none [] s = some (.int xs.length.toInt32) := hx.length_eval hb
  have hv := Cond.le_ints hev (show (Term.int 2560).eval args s none [] s = some (.int 2560) from rfl)
  have hd : xs.length.toInt32 ≤ 2560 := by
    simpa [Cond.before, Cond.holds, hv] using hle
  have hN : xs.length ≤ 2560 := (Int32.ofNat_le_ofNat hsm (by decide)).mp (show Int32.ofNat xs.length ≤ Int32.ofNat 2560 from hd)
  exact ⟨b, xs, Cond.one_arg hc (show args[0]? = some (.ref b) from hb), hx, hN, h⟩
theorem lw_comes (l : Launch) : Comes l x (Jvm.Cond.code x code maxLocals ret :: tables_1) room_1 (fun tb e args s => Calls_1 tb e args s ∧ rest_1 tb e args s ∧ Pre_1 tb e args s)
    (fun _ _ args s o t => lw_Q args s o t) := by
  intro p e ha hc hk s m args below hf hfit hheap happ hpre
  obtain ⟨b, xs, hP⟩ := lw_pre_spec hpre.2.2 hpre.2.1
  obtain ⟨k, o, h1, h2, h3, hQ⟩ := lw_walk l b xs p e ha hc hk s m args below hf ((Spec.applies_iff_loose hf).mp happ).1 hP trivial
  exact ⟨k, o, h1, h2, h3, hQ⟩
theorem lw_frame {s t : State} {o : Outcome} {args : Array Value} (h : Framed s o t [] 600000 7302250) :
    Framed s o t (fieldLocs frame_1_writes args s ++ arrayLocs frame_1_arrays args s ++ staticLocs frame_1_statics s) 600000 7302250 := h
theorem lw_limb (L : Cond) (hL : ∀ (args : Array Value) (s t : State), L.after args s (.returned (some (.int 1))) t = true) :
    ArmFor flags0 classFile x code maxLocals ret World_1 tables_1 room_1 Calls_1 rest_1 Pre_1
      (fun tb e a s o t => postC L tb e a s o t ∧ Framed s o t (fieldLocs frame_1_writes a s ++ arrayLocs frame_1_arrays a s ++ staticLocs frame_1_statics s) 600000 7302250) := by
  intro l _ _ _ p e ha hc hk s m args below hf hfit hheap happ hpre
  obtain ⟨k, o, h1, h2, h3, rfl, hF⟩ := lw_comes l p e ha hc hk s m args below hf hfit hheap happ hpre
  exact ⟨k, _, h1, h2, h3, hL args s _, lw_frame hF⟩
theorem i_vc : Claimed_1_1 ∧ Claimed_1_2 := ⟨lw_limb limb_1_1 (fun args s t => by simp [limb_1_1, Cond.after, Cond.holds, Cond.value]), lw_limb limb_1_2 (fun args s t => Cond.after_iff.mpr (by
  first | (rw [show limb_1_2 = Cond.eq .result (.int 1) from rfl, Cond.eq_ints (x := 1) (y := 1) rfl rfl]; simp; done) | (simp [limb_1_2, Cond.value, Term.eval]; done)))⟩
