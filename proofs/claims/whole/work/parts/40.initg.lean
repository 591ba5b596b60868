/-! The class's constructor. -/
/-- the array of nodes while it fills; the nodes made so far -/
def fnI (i : Nat) (nd : Nat → Nat) : Nat → Option Nat := fun j => if j < i then some (nd j) else none
def plI (i : Nat) (nd : Nat → Nat) : va_W := (List.range i).map (fun j => (nd j, .inr (0, ndF (fun _ _ => 0) j)))
abbrev hdI (cI cN : ClassId) (a0 t c na i : Nat) (nd : Nat → Nat) (r q : Value) : va_W := [(a0, .inr (3, [.ref t, .ref na, .int 0, r, q, .int 0])), (t, .inr (2, [.ref c, .int 0])), (c, .inl (cI, 24, .inl (fun _ => 0))), (na, .inl (cN, 60, .inr (.inr (.inr (.inr (fnI i nd))))))]
theorem fnI_0 (nd : Nat → Nat) : fnI 0 nd = fun _ => none := by
  funext j
  simp [fnI]
theorem fnI_s (i : Nat) (nd : Nat → Nat) (q : Nat) : va_up (fnI i nd) i (some q) = fnI (i + 1) (va_up nd i q) := by
  funext j
  unfold va_up fnI
  by_cases h : j = i
  · subst h
    simp
  · by_cases h2 : j < i
    · rw [if_neg h, if_pos h2, if_pos (by omega)]
      show _ = some (if j = i then q else nd j)
      rw [if_neg h]
    · rw [if_neg h, if_neg h2, if_neg (by omega)]
theorem plI_s (i : Nat) (nd : Nat → Nat) (q : Nat) : plI i nd ++ [(q, .inr (0, ndF (fun _ _ => 0) i))] = plI (i + 1) (va_up nd i q) := by
  unfold plI
  rw [List.range_succ, List.map_append]
  congr 1
  · refine List.map_congr_left fun j hj => ?_
    have hj := List.mem_range.mp hj
    unfold va_up
    rw [if_neg (by omega)]
  · simp [va_up]
theorem range_map {A B : va_W} {n : Nat} (hn : A.length = n) : (List.range n).map (fun i => (A ++ B)[i]?) = A.map some := by
  subst hn
  refine List.ext_getElem? fun k => ?_
  rw [List.getElem?_map, List.getElem?_map]
  by_cases h : k < A.length
  · rw [List.getElem?_range h]
    simp only [Option.map_some]
    rw [List.getElem?_append_left h, List.getElem?_eq_getElem h]
    rfl
  · rw [List.getElem?_eq_none (by simp; omega), List.getElem?_eq_none (by omega)]
    rfl
theorem nd_range : ∀ n, va_nd (List.range n) = true := by
  have key : ∀ l : List Nat, l.Nodup → va_nd l = true := by
    intro l
    induction l with
    | nil => intro _; rfl
    | cons a l ih =>
      intro h
      rw [List.nodup_cons] at h
      unfold va_nd
      rw [ih h.2, Bool.and_true]
      exact decide_eq_true h.1
  exact fun n => key _ List.nodup_range
theorem one_map {A : va_W} {n : Nat} {c : Nat × va_E} {B : va_W} (hn : A.length = n) : [n].map (fun i => (A ++ c :: B)[i]?) = [c].map some := by
  subst hn
  simp
theorem range_dis (n : Nat) : ∀ i ∈ List.range n, i ∉ [n] := fun i hi h => by
  have := List.mem_range.mp hi
  simp at h
  omega
theorem arrV_ext {cA : ClassId} {n : Nat} {F G : Nat → Value} (h : ∀ j, j < n → F j = G j) : arrV cA n F = arrV cA n G := by
  unfold arrV
  congr 1
  congr 1
  funext j
  exact h j.val j.isLt
section InitsG
variable {l : Launch} {D : va_G} {cI cZ cN : ClassId}
/-- what the making of nodes needs of the tables -/
def gE (U : State) : Prop := va_AO "GoalScanner$Node" U ∧ va_Nw (.methodLinkNest "GoalScanner" 11 y_T_init "GoalScanner") U ∧ va_Nw (.methodLinkNest "GoalScanner" 22 y_N_init "GoalScanner") U
theorem va_P_arr {X : rx_T} {nL : Nat} {A : Nat → Prop} {kc ks pc : Nat} {B C : va_W} {lv : List (Nat × Value)} {st : List Value} {a n : Nat} {cA : ClassId} {f g : Nat → Option Nat} (h : ∀ j, j < n → f j = g j) (k : RR X nL D A kc ks (B ++ (a, .inl (cA, n, .inr (.inr (.inr (.inr g))))) :: C) lv pc st) : RR X nL D A kc ks (B ++ (a, .inl (cA, n, .inr (.inr (.inr (.inr f))))) :: C) lv pc st := by
  obtain ⟨p, l, e, R, s, m, args, below, meth, c, Q⟩ := X
  intro H locs ls hP hD hS hl
  refine k H locs ls (fun j q hj => ?_) ?_ hS hl
  · rcases List.mem_append.mp (List.mem_of_getElem? hj) with hq | hq
    · obtain ⟨i, hi⟩ := List.getElem?_of_mem (List.mem_append_left _ hq)
      exact hP i q hi
    · rcases List.mem_cons.mp hq with rfl | hq
      · have h1 := hP B.length (a, .inl (cA, n, .inr (.inr (.inr (.inr f))))) (by rw [List.getElem?_append_right (Nat.le_refl _)]; simp)
        show H[a]? = some (vp_cell cA (n, .inr (.inr (.inr (.inr g)))))
        have h2 : H[a]? = some (vp_cell cA (n, .inr (.inr (.inr (.inr f))))) := h1
        rw [h2, vp_cell_q, vp_cell_q, arrV_ext (fun j hj => by rw [h j hj])]
      · obtain ⟨i, hi⟩ := List.getElem?_of_mem (List.mem_append_right B (List.mem_cons_of_mem (a, .inl (cA, n, .inr (.inr (.inr (.inr f))))) hq))
        exact hP i q hi
  · exact wall_D hD (by simp)
set_option maxRecDepth 100000 in
set_option maxHeartbeats 4000000 in
theorem c_G_init {a0 : Nat} : CTm l D (tyL cI cZ cN) y_G_init b_G_init 2 3 67 7106 gE [.ref a0] [(a0, .inr (3, [.null, .null, .int 0, .null, .null, .int 0]))] (fun u : Nat → Nat => u 0 = a0) (fun u => WC u cI cN 0 0 0 (fun _ => 0) 0 (fun _ => 0) 0 (fun _ => 0) (fun _ _ => 0)) := by
  refine CTm.of (by decide) rfl (Nat.le_of_ble_eq_true rfl) ?_
  intro X A hl hin hE hX hF
  have hX0 := hX.at (kc := 0) (ks := 0) (by decide) (by decide)
  refine r_aload_n (i := 0) hX0 d_G_init_0 rfl rfl ?_
  refine r_objInit hX0 d_G_init_1 ml_G_3 (by decide) (Nat.le_of_ble_eq_true rfl) ?_
  refine r_aload_n (i := 0) hX0 d_G_init_4 rfl rfl ?_
  refine r_new (ci := 2) (fs := [.null, .int 0]) hX d_G_init_5 fi_T ft_T_ok cl_G_9 ib_T in_T rfl (fun j hj => by rcases (show j = 0 ∨ j = 1 by omega) with rfl | rfl <;> rfl) (by decide) (by decide) (fun t => ?_)
  refine r_widen (kc' := 1) (ks' := 2) (by decide) (by decide) ?_
  have hX1 := hX.at (kc := 1) (ks := 2) (by decide) (by decide)
  refine r_dup hX1 d_G_init_8 rfl ?_
  refine r_callI (wr := [(a0, .inr (3, [.null, .null, .int 0, .null, .null, .int 0]))]) [1] [0] hX d_G_init_9 rfl ⟨by decide, by decide, by decide +kernel⟩ (by decide) in_T ic_T im_T (Or.inr ⟨_, hE.2.1⟩) (c_T_init (o := t)) (fun _ _ _ _ _ => trivial) (fun _ _ => trivial) rfl rfl (by decide) (Nat.le_of_ble_eq_true rfl) rfl rfl rfl rfl (by decide) (by decide) (by decide) (fun c _ => ?_)
  refine r_widen (kc' := 2) (ks' := 26) (by decide) (by decide) ?_
  have hX2 := hX.at (kc := 2) (ks := 26) (by decide) (by decide)
  refine r_putF 0 0 hX2 hin d_G_init_12 rfl rfl fi_G ft_G_ok fn_G (by decide) fl_G_12 rfl rfl rfl rfl rfl rfl (Nat.le_of_ble_eq_true rfl) ?_
  refine r_aload_n (i := 0) hX2 d_G_init_15 rfl rfl ?_
  refine r_bipush (v := nI 60) hX2 d_G_init_16 (by decide) ?_
  refine r_newq 2 hX d_G_init_18 cl_G_16 hE.1 rfl rfl (by decide) (by decide) (by decide) (fun na => ?_)
  refine r_widen (kc' := 3) (ks' := 86) (by decide) (by decide) ?_
  have hX3 := hX.at (kc := 3) (ks := 86) (by decide) (by decide)
  refine r_putF 0 1 hX3 hin d_G_init_21 rfl rfl fi_G ft_G_ok fn_G (by decide) fl_G_18 rfl rfl rfl rfl rfl rfl (Nat.le_of_ble_eq_true rfl) ?_
  refine r_iconst (v := nI 0) hX3 d_G_init_24 (by decide) ?_
  refine r_istore_n (i := 1) hX3 d_G_init_25 rfl (by decide) ?_
  have fin : ∀ nd : Nat → Nat, RR X 2 D A 63 566 (hdI cI cN a0 t c na 60 nd .null .null ++ plI 60 nd) [(0, .ref a0)] 51 [] := by
    intro nd
    have hl60 : (hdI cI cN a0 t c na 60 nd .null .null ++ plI 60 nd).length = 64 := by simp [plI]
    have hX4 := hX.at (kc := 63) (ks := 566) (by decide) (by decide)
    refine r_aload_n (i := 0) hX4 d_G_init_51 rfl rfl ?_
    refine r_new (ci := 1) (fs := [.null, .int 0, .int 0]) hX d_G_init_52 fi_R ft_R_ok cl_G_23 ib_R in_R rfl (fun j hj => by rcases (show j = 0 ∨ j = 1 ∨ j = 2 by omega) with rfl | rfl | rfl <;> rfl) (by decide) (by decide) (fun r => ?_)
    refine r_widen (kc' := 64) (ks' := 569) (by decide) (by decide) ?_
    have hX5 := hX.at (kc := 64) (ks := 569) (by decide) (by decide)
    refine r_dup hX5 d_G_init_55 rfl ?_
    refine r_sipush (v := nI 1025) hX5 d_G_init_56 (by decide) ?_
    refine r_callI (wr := hdI cI cN a0 t c na 60 nd .null .null ++ plI 60 nd) [64] (List.range 64) hX d_G_init_59 rfl ⟨by decide, by decide, by decide +kernel⟩ (by decide) in_R ic_R im_R (Or.inl ml_G_25) (c_R_init (o := r) 1025 (by decide)) (fun _ _ _ _ _ => trivial) (fun _ _ => trivial) rfl rfl (by decide) (Nat.le_of_ble_eq_true rfl) (one_map hl60) (range_map hl60) rfl (nd_range 64) (range_dis 64) (by decide) (by decide) (fun rc _ => ?_)
    refine r_widen (kc' := 65) (ks' := 6719) (by decide) (by decide) ?_
    have hX6 := hX.at (kc := 65) (ks := 6719) (by decide) (by decide)
    refine r_putF 0 3 hX6 hin d_G_init_62 rfl rfl fi_G ft_G_ok fn_G (by decide) fl_G_28 rfl rfl rfl rfl rfl rfl (Nat.le_of_ble_eq_true rfl) ?_
    refine r_ws (ws' := (hdI cI cN a0 t c na 60 nd (.ref r) .null ++ plI 60 nd) ++ [(r, .inr (1, [.ref rc, .int (nI 1025), .int 0])), (rc, .inl (cI, 1025 * 6, .inl (fun _ => 0)))]) rfl ?_
    have hl62 : ((hdI cI cN a0 t c na 60 nd (.ref r) .null ++ plI 60 nd) ++ [(r, .inr (1, [.ref rc, .int (nI 1025), .int 0])), (rc, .inl (cI, 1025 * 6, .inl (fun _ => 0)))] : va_W).length = 66 := by simp [plI]
    refine r_aload_n (i := 0) hX6 d_G_init_65 rfl rfl ?_
    refine r_new (ci := 1) (fs := [.null, .int 0, .int 0]) hX d_G_init_66 fi_R ft_R_ok cl_G_23 ib_R in_R rfl (fun j hj => by rcases (show j = 0 ∨ j = 1 ∨ j = 2 by omega) with rfl | rfl | rfl <;> rfl) (by decide) (by decide) (fun q => ?_)
    refine r_widen (kc' := 66) (ks' := 6722) (by decide) (by decide) ?_
    have hX7 := hX.at (kc := 66) (ks := 6722) (by decide) (by decide)
    refine r_dup hX7 d_G_init_69 rfl ?_
    refine r_bipush (v := nI 64) hX7 d_G_init_70 (by decide) ?_
    refine r_callI (wr := (hdI cI cN a0 t c na 60 nd (.ref r) .null ++ plI 60 nd) ++ [(r, .inr (1, [.ref rc, .int (nI 1025), .int 0])), (rc, .inl (cI, 1025 * 6, .inl (fun _ => 0)))]) [66] (List.range 66) hX d_G_init_72 rfl ⟨by decide, by decide, by decide +kernel⟩ (by decide) in_R ic_R im_R (Or.inl ml_G_25) (c_R_init (o := q) 64 (by decide)) (fun _ _ _ _ _ => trivial) (fun _ _ => trivial) rfl rfl (by decide) (Nat.le_of_ble_eq_true rfl) (one_map hl62) (range_map hl62) rfl (nd_range 66) (range_dis 66) (by decide) (by decide) (fun qc _ => ?_)
    refine r_widen (kc' := 67) (ks' := 7106) (by decide) (by decide) ?_
    refine r_putF 0 4 hX hin d_G_init_75 rfl rfl fi_G ft_G_ok fn_G (by decide) fl_G_32 rfl rfl rfl rfl rfl rfl (Nat.le_of_ble_eq_true rfl) ?_
    refine r_ws (ws' := (hdI cI cN a0 t c na 60 nd (.ref r) (.ref q) ++ plI 60 nd) ++ [(r, .inr (1, [.ref rc, .int (nI 1025), .int 0])), (rc, .inl (cI, 1025 * 6, .inl (fun _ => 0)))] ++ [(q, .inr (1, [.ref qc, .int (nI 64), .int 0])), (qc, .inl (cI, 64 * 6, .inl (fun _ => 0)))]) rfl ?_
    refine r_perm (ws' := (hdI cI cN a0 t c na 60 nd (.ref r) (.ref q) ++ [(r, .inr (1, [.ref rc, .int (nI 1025), .int 0])), (rc, .inl (cI, 1025 * 6, .inl (fun _ => 0)))] ++ [(q, .inr (1, [.ref qc, .int (nI 64), .int 0])), (qc, .inl (cI, 64 * 6, .inl (fun _ => 0)))]) ++ plI 60 nd) ?_ ?_ ?_
    · intro x hx
      simp only [List.mem_append] at hx ⊢
      rcases hx with ((h | h) | h) | h
      · exact Or.inl (Or.inl (Or.inl h))
      · exact Or.inl (Or.inr h)
      · exact Or.inr h
      · exact Or.inl (Or.inl (Or.inr h))
    · intro A hD
      refine hD.sub ([0, 1, 2, 3, 64, 65, 66, 67] ++ (List.range 60).map (fun j => 4 + j)) (by decide +kernel) ?_
      rw [List.map_append, List.map_append]
      congr 1
    · refine va_P_arr (B := [_, _, _]) (f := fnI 60 nd) (g := fun j => some (nd j)) (fun j hj => by simp [fnI, hj]) ?_
      refine r_vretm (fun k => if k < 8 then [a0, t, c, na, r, rc, q, qc].getD k 0 else nd (k - 8)) hX hF d_G_init_78 rfl ?_
      have e1 : plI 60 nd = WCn (fun k => if k < 8 then [a0, t, c, na, r, rc, q, qc].getD k 0 else nd (k - 8)) (fun _ _ => 0) := by
        unfold plI WCn
        refine List.map_congr_left fun j _ => ?_
        dsimp only
        rw [if_neg (by omega), Nat.add_sub_cancel_left]
      have e2 : (fun j => some (nd j)) = (fun j => some ((fun k => if k < 8 then [a0, t, c, na, r, rc, q, qc].getD k 0 else nd (k - 8)) (8 + j))) := by
        funext j
        dsimp only
        rw [if_neg (by omega), Nat.add_sub_cancel_left]
      rw [e1, e2]
      rfl
  have loop : ∀ n i nd, i + n = 60 → RR X 2 D A (3 + i) (86 + 8 * i) (hdI cI cN a0 t c na i nd .null .null ++ plI i nd) [(0, .ref a0), (1, .int (nI i))] 26 [] := by
    intro n
    induction n with
    | zero =>
      intro i nd hi
      have hi : i = 60 := by omega
      subst hi
      have hX4 := hX.at (kc := 3 + 60) (ks := 86 + 8 * 60) (by decide) (by decide)
      refine r_iload_n (i := 1) hX4 d_G_init_26 rfl rfl ?_
      refine r_bipush (v := nI 60) hX4 d_G_init_27 (by decide) ?_
      refine r_icmp_ge 51 hX4 d_G_init_29 (by decide) (fun c29 => ?_) (fun c29 => absurd (by decide) c29)
      exact r_lv [0] (fin nd)
    | succ n ih =>
      intro i nd hi
      have hX4 := hX.at (kc := 3 + i) (ks := 86 + 8 * i) (by omega) (by omega)
      have hX5 := hX.at (kc := 3 + (i + 1)) (ks := 86 + 8 * (i + 1)) (by omega) (by omega)
      have hll : (hdI cI cN a0 t c na i nd .null .null ++ plI i nd).length = 4 + i := by simp [plI]; omega
      refine r_iload_n (i := 1) hX4 d_G_init_26 rfl rfl ?_
      refine r_bipush (v := nI 60) hX4 d_G_init_27 (by decide) ?_
      refine r_icmp_ge 51 hX4 d_G_init_29 (by decide) (fun c29 => absurd c29 (nI_ge (by omega) (by decide))) (fun c29 => ?_)
      refine r_aload_n (i := 0) hX4 d_G_init_32 rfl rfl ?_
      refine r_get 0 1 hX4 d_G_init_33 rfl rfl fi_G (by decide) fl_G_18 rfl rfl ?_
      refine r_iload_n (i := 1) hX4 d_G_init_36 rfl rfl ?_
      refine r_new (ci := 0) (fs := ndF (fun _ _ => 0) i) hX d_G_init_37 fi_N ft_N_ok cl_G_16 ib_N in_N rfl (fun j hj => by rcases (show j = 0 ∨ j = 1 ∨ j = 2 ∨ j = 3 ∨ j = 4 ∨ j = 5 ∨ j = 6 ∨ j = 7 by omega) with rfl | rfl | rfl | rfl | rfl | rfl | rfl | rfl <;> rfl) (by omega) (by omega) (fun q => ?_)
      refine r_widen (kc' := 3 + (i + 1)) (ks' := 86 + 8 * (i + 1)) (by omega) (by omega) ?_
      refine r_dup hX5 d_G_init_40 rfl ?_
      refine r_callI (wr := hdI cI cN a0 t c na i nd .null .null ++ plI i nd) [4 + i] (List.range (4 + i)) hX d_G_init_41 rfl ⟨by decide, by decide, by decide +kernel⟩ (by decide) in_N ic_N im_N (Or.inr ⟨_, hE.2.2⟩) (c_N_init (o := q) (w := ndF (fun _ _ => 0) i)) (fun _ _ _ _ _ => trivial) (fun _ _ => trivial) rfl rfl (by decide) (Nat.le_of_ble_eq_true rfl) (one_map hll) (range_map hll) rfl (nd_range _) (range_dis _) (by omega) (by omega) (fun _ _ => ?_)
      refine r_aast 3 2 (4 + i) 0 i hX5 d_G_init_44 rfl rfl (by rw [← hll, List.getElem?_append_right (Nat.le_refl _), Nat.sub_self]; rfl) rfl rfl (by omega) (by decide) ?_
      refine r_ws (ws' := hdI cI cN a0 t c na (i + 1) (va_up nd i q) .null .null ++ plI (i + 1) (va_up nd i q)) (by rw [← plI_s]; unfold hdI; rw [← fnI_s]; rfl) ?_
      refine r_iinc hX5 d_G_init_45 rfl (rx_inc _) (by decide) ?_
      refine r_goto 26 hX5 d_G_init_48 (by decide) ?_
      exact r_lv [0, 1] (ih (i + 1) (va_up nd i q) (by omega))
  refine r_ws (ws' := hdI cI cN a0 t c na 0 (fun _ => 0) .null .null ++ plI 0 (fun _ => 0)) (by unfold hdI; rw [fnI_0]; rfl) ?_
  exact r_lv [0, 1] (loop 60 0 (fun _ => 0) (by omega))
end InitsG
