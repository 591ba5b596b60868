/-! The reference's constructor. -/
section InitsM
variable {l : Launch} {D : va_G} {cI cZ cN : ClassId}
set_option maxRecDepth 100000 in
set_option maxHeartbeats 4000000 in
theorem c_M_init {a0 : Nat} : CTm l D (tyL cI cZ cN) y_M_init b_M_init 1 1 15 7113 (fun _ => True) [.ref a0] [(a0, .inr (4, [.int 0, .int 0, .int 0, .int 0, .null, .null, .null, .null, .null, .null, .null, .null, .null, .null, .null, .int 0, .null, .null, .null, .null]))] (fun u : Nat → Nat => u 0 = a0) (fun u => WM u cI cZ 0 0 0 0 0 (fun _ => 0) (fun _ _ => 0) (fun _ => 0) (fun _ => 0) (fun _ => 0) (fun _ => 0) (fun _ => 0) (fun _ => 0)) := by
  refine CTm.of (by decide) rfl (Nat.le_of_ble_eq_true rfl) ?_
  intro X A hl hin _ hX hF
  have hX0 := hX.at (kc := 0) (ks := 0) (by decide) (by decide)
  refine r_aload_n (i := 0) hX0 d_M_init_0 rfl rfl ?_
  refine r_objInit hX0 d_M_init_1 ml_M_1 (by decide) (Nat.le_of_ble_eq_true rfl) ?_
  refine r_aload_n (i := 0) hX0 d_M_init_4 rfl rfl ?_
  refine r_iconst (v := nI 0) hX0 d_M_init_5 (by decide) ?_
  refine r_put 0 0 hX0 d_M_init_6 rfl rfl fi_M ft_M_ok fn_M (by decide) fl_M_7 rfl rfl rfl rfl rfl (Nat.le_of_ble_eq_true rfl) ?_
  refine r_ws (ws' := [(a0, .inr (4, [.int 0, .int 0, .int 0, .int 0, .null, .null, .null, .null, .null, .null, .null, .null, .null, .null, .null, .int 0, .null, .null, .null, .null]))]) rfl ?_
  refine r_aload_n (i := 0) hX0 d_M_init_9 rfl rfl ?_
  refine r_iconst (v := nI 0) hX0 d_M_init_10 (by decide) ?_
  refine r_put 0 1 hX0 d_M_init_11 rfl rfl fi_M ft_M_ok fn_M (by decide) fl_M_13 rfl rfl rfl rfl rfl (Nat.le_of_ble_eq_true rfl) ?_
  refine r_ws (ws' := [(a0, .inr (4, [.int 0, .int 0, .int 0, .int 0, .null, .null, .null, .null, .null, .null, .null, .null, .null, .null, .null, .int 0, .null, .null, .null, .null]))]) rfl ?_
  refine r_aload_n (i := 0) hX0 d_M_init_14 rfl rfl ?_
  refine r_iconst (v := nI 0) hX0 d_M_init_15 (by decide) ?_
  refine r_put 0 2 hX0 d_M_init_16 rfl rfl fi_M ft_M_ok fn_M (by decide) fl_M_16 rfl rfl rfl rfl rfl (Nat.le_of_ble_eq_true rfl) ?_
  refine r_ws (ws' := [(a0, .inr (4, [.int 0, .int 0, .int 0, .int 0, .null, .null, .null, .null, .null, .null, .null, .null, .null, .null, .null, .int 0, .null, .null, .null, .null]))]) rfl ?_
  refine r_aload_n (i := 0) hX0 d_M_init_19 rfl rfl ?_
  refine r_iconst (v := nI 0) hX0 d_M_init_20 (by decide) ?_
  refine r_put 0 3 hX0 d_M_init_21 rfl rfl fi_M ft_M_ok fn_M (by decide) fl_M_19 rfl rfl rfl rfl rfl (Nat.le_of_ble_eq_true rfl) ?_
  refine r_ws (ws' := [(a0, .inr (4, [.int 0, .int 0, .int 0, .int 0, .null, .null, .null, .null, .null, .null, .null, .null, .null, .null, .null, .int 0, .null, .null, .null, .null]))]) rfl ?_
  refine r_aload_n (i := 0) hX0 d_M_init_24 rfl rfl ?_
  refine r_bipush (v := nI 24) hX0 d_M_init_25 (by decide) ?_
  refine r_newa 0 hX d_M_init_27 tw_ai rfl rfl ra_int (fun _ => rfl) rfl (by decide) (by decide) (by decide) (by decide) (fun q1 => ?_)
  refine r_widen (kc' := 1) (ks' := 24) (by decide) (by decide) ?_
  have hX_1 := hX.at (kc := 1) (ks := 24) (by decide) (by decide)
  refine r_putF 0 4 hX_1 hin d_M_init_29 rfl rfl fi_M ft_M_ok fn_M (by decide) fl_M_22 rfl rfl rfl rfl rfl rfl (Nat.le_of_ble_eq_true rfl) ?_
  refine r_ws (ws' := [(a0, .inr (4, [.int 0, .int 0, .int 0, .int 0, .ref q1, .null, .null, .null, .null, .null, .null, .null, .null, .null, .null, .int 0, .null, .null, .null, .null])), (q1, .inl (cI, 24, .inl (fun _ => 0)))]) rfl ?_
  refine r_aload_n (i := 0) hX_1 d_M_init_32 rfl rfl ?_
  refine r_bipush (v := nI 60) hX_1 d_M_init_33 (by decide) ?_
  refine r_newa 0 hX d_M_init_35 tw_ai rfl rfl ra_int (fun _ => rfl) rfl (by decide) (by decide) (by decide) (by decide) (fun q2 => ?_)
  refine r_widen (kc' := 2) (ks' := 84) (by decide) (by decide) ?_
  have hX_2 := hX.at (kc := 2) (ks := 84) (by decide) (by decide)
  refine r_putF 0 5 hX_2 hin d_M_init_37 rfl rfl fi_M ft_M_ok fn_M (by decide) fl_M_26 rfl rfl rfl rfl rfl rfl (Nat.le_of_ble_eq_true rfl) ?_
  refine r_ws (ws' := [(a0, .inr (4, [.int 0, .int 0, .int 0, .int 0, .ref q1, .ref q2, .null, .null, .null, .null, .null, .null, .null, .null, .null, .int 0, .null, .null, .null, .null])), (q1, .inl (cI, 24, .inl (fun _ => 0))), (q2, .inl (cI, 60, .inl (fun _ => 0)))]) rfl ?_
  refine r_aload_n (i := 0) hX_2 d_M_init_40 rfl rfl ?_
  refine r_bipush (v := nI 60) hX_2 d_M_init_41 (by decide) ?_
  refine r_newa 0 hX d_M_init_43 tw_ai rfl rfl ra_int (fun _ => rfl) rfl (by decide) (by decide) (by decide) (by decide) (fun q3 => ?_)
  refine r_widen (kc' := 3) (ks' := 144) (by decide) (by decide) ?_
  have hX_3 := hX.at (kc := 3) (ks := 144) (by decide) (by decide)
  refine r_putF 0 6 hX_3 hin d_M_init_45 rfl rfl fi_M ft_M_ok fn_M (by decide) fl_M_29 rfl rfl rfl rfl rfl rfl (Nat.le_of_ble_eq_true rfl) ?_
  refine r_ws (ws' := [(a0, .inr (4, [.int 0, .int 0, .int 0, .int 0, .ref q1, .ref q2, .ref q3, .null, .null, .null, .null, .null, .null, .null, .null, .int 0, .null, .null, .null, .null])), (q1, .inl (cI, 24, .inl (fun _ => 0))), (q2, .inl (cI, 60, .inl (fun _ => 0))), (q3, .inl (cI, 60, .inl (fun _ => 0)))]) rfl ?_
  refine r_aload_n (i := 0) hX_3 d_M_init_48 rfl rfl ?_
  refine r_bipush (v := nI 60) hX_3 d_M_init_49 (by decide) ?_
  refine r_newa 0 hX d_M_init_51 tw_ai rfl rfl ra_int (fun _ => rfl) rfl (by decide) (by decide) (by decide) (by decide) (fun q4 => ?_)
  refine r_widen (kc' := 4) (ks' := 204) (by decide) (by decide) ?_
  have hX_4 := hX.at (kc := 4) (ks := 204) (by decide) (by decide)
  refine r_putF 0 7 hX_4 hin d_M_init_53 rfl rfl fi_M ft_M_ok fn_M (by decide) fl_M_32 rfl rfl rfl rfl rfl rfl (Nat.le_of_ble_eq_true rfl) ?_
  refine r_ws (ws' := [(a0, .inr (4, [.int 0, .int 0, .int 0, .int 0, .ref q1, .ref q2, .ref q3, .ref q4, .null, .null, .null, .null, .null, .null, .null, .int 0, .null, .null, .null, .null])), (q1, .inl (cI, 24, .inl (fun _ => 0))), (q2, .inl (cI, 60, .inl (fun _ => 0))), (q3, .inl (cI, 60, .inl (fun _ => 0))), (q4, .inl (cI, 60, .inl (fun _ => 0)))]) rfl ?_
  refine r_aload_n (i := 0) hX_4 d_M_init_56 rfl rfl ?_
  refine r_bipush (v := nI 60) hX_4 d_M_init_57 (by decide) ?_
  refine r_newa 0 hX d_M_init_59 tw_ai rfl rfl ra_int (fun _ => rfl) rfl (by decide) (by decide) (by decide) (by decide) (fun q5 => ?_)
  refine r_widen (kc' := 5) (ks' := 264) (by decide) (by decide) ?_
  have hX_5 := hX.at (kc := 5) (ks := 264) (by decide) (by decide)
  refine r_putF 0 8 hX_5 hin d_M_init_61 rfl rfl fi_M ft_M_ok fn_M (by decide) fl_M_35 rfl rfl rfl rfl rfl rfl (Nat.le_of_ble_eq_true rfl) ?_
  refine r_ws (ws' := [(a0, .inr (4, [.int 0, .int 0, .int 0, .int 0, .ref q1, .ref q2, .ref q3, .ref q4, .ref q5, .null, .null, .null, .null, .null, .null, .int 0, .null, .null, .null, .null])), (q1, .inl (cI, 24, .inl (fun _ => 0))), (q2, .inl (cI, 60, .inl (fun _ => 0))), (q3, .inl (cI, 60, .inl (fun _ => 0))), (q4, .inl (cI, 60, .inl (fun _ => 0))), (q5, .inl (cI, 60, .inl (fun _ => 0)))]) rfl ?_
  refine r_aload_n (i := 0) hX_5 d_M_init_64 rfl rfl ?_
  refine r_bipush (v := nI 60) hX_5 d_M_init_65 (by decide) ?_
  refine r_newa 0 hX d_M_init_67 tw_ai rfl rfl ra_int (fun _ => rfl) rfl (by decide) (by decide) (by decide) (by decide) (fun q6 => ?_)
  refine r_widen (kc' := 6) (ks' := 324) (by decide) (by decide) ?_
  have hX_6 := hX.at (kc := 6) (ks := 324) (by decide) (by decide)
  refine r_putF 0 9 hX_6 hin d_M_init_69 rfl rfl fi_M ft_M_ok fn_M (by decide) fl_M_38 rfl rfl rfl rfl rfl rfl (Nat.le_of_ble_eq_true rfl) ?_
  refine r_ws (ws' := [(a0, .inr (4, [.int 0, .int 0, .int 0, .int 0, .ref q1, .ref q2, .ref q3, .ref q4, .ref q5, .ref q6, .null, .null, .null, .null, .null, .int 0, .null, .null, .null, .null])), (q1, .inl (cI, 24, .inl (fun _ => 0))), (q2, .inl (cI, 60, .inl (fun _ => 0))), (q3, .inl (cI, 60, .inl (fun _ => 0))), (q4, .inl (cI, 60, .inl (fun _ => 0))), (q5, .inl (cI, 60, .inl (fun _ => 0))), (q6, .inl (cI, 60, .inl (fun _ => 0)))]) rfl ?_
  refine r_aload_n (i := 0) hX_6 d_M_init_72 rfl rfl ?_
  refine r_bipush (v := nI 60) hX_6 d_M_init_73 (by decide) ?_
  refine r_newa 0 hX d_M_init_75 tw_ai rfl rfl ra_int (fun _ => rfl) rfl (by decide) (by decide) (by decide) (by decide) (fun q7 => ?_)
  refine r_widen (kc' := 7) (ks' := 384) (by decide) (by decide) ?_
  have hX_7 := hX.at (kc := 7) (ks := 384) (by decide) (by decide)
  refine r_putF 0 10 hX_7 hin d_M_init_77 rfl rfl fi_M ft_M_ok fn_M (by decide) fl_M_41 rfl rfl rfl rfl rfl rfl (Nat.le_of_ble_eq_true rfl) ?_
  refine r_ws (ws' := [(a0, .inr (4, [.int 0, .int 0, .int 0, .int 0, .ref q1, .ref q2, .ref q3, .ref q4, .ref q5, .ref q6, .ref q7, .null, .null, .null, .null, .int 0, .null, .null, .null, .null])), (q1, .inl (cI, 24, .inl (fun _ => 0))), (q2, .inl (cI, 60, .inl (fun _ => 0))), (q3, .inl (cI, 60, .inl (fun _ => 0))), (q4, .inl (cI, 60, .inl (fun _ => 0))), (q5, .inl (cI, 60, .inl (fun _ => 0))), (q6, .inl (cI, 60, .inl (fun _ => 0))), (q7, .inl (cI, 60, .inl (fun _ => 0)))]) rfl ?_
  refine r_aload_n (i := 0) hX_7 d_M_init_80 rfl rfl ?_
  refine r_bipush (v := nI 60) hX_7 d_M_init_81 (by decide) ?_
  refine r_newa 0 hX d_M_init_83 tw_ai rfl rfl ra_int (fun _ => rfl) rfl (by decide) (by decide) (by decide) (by decide) (fun q8 => ?_)
  refine r_widen (kc' := 8) (ks' := 444) (by decide) (by decide) ?_
  have hX_8 := hX.at (kc := 8) (ks := 444) (by decide) (by decide)
  refine r_putF 0 11 hX_8 hin d_M_init_85 rfl rfl fi_M ft_M_ok fn_M (by decide) fl_M_44 rfl rfl rfl rfl rfl rfl (Nat.le_of_ble_eq_true rfl) ?_
  refine r_ws (ws' := [(a0, .inr (4, [.int 0, .int 0, .int 0, .int 0, .ref q1, .ref q2, .ref q3, .ref q4, .ref q5, .ref q6, .ref q7, .ref q8, .null, .null, .null, .int 0, .null, .null, .null, .null])), (q1, .inl (cI, 24, .inl (fun _ => 0))), (q2, .inl (cI, 60, .inl (fun _ => 0))), (q3, .inl (cI, 60, .inl (fun _ => 0))), (q4, .inl (cI, 60, .inl (fun _ => 0))), (q5, .inl (cI, 60, .inl (fun _ => 0))), (q6, .inl (cI, 60, .inl (fun _ => 0))), (q7, .inl (cI, 60, .inl (fun _ => 0))), (q8, .inl (cI, 60, .inl (fun _ => 0)))]) rfl ?_
  refine r_aload_n (i := 0) hX_8 d_M_init_88 rfl rfl ?_
  refine r_bipush (v := nI 60) hX_8 d_M_init_89 (by decide) ?_
  refine r_newa 1 hX d_M_init_91 tw_az rfl rfl ra_bool (fun _ => rfl) rfl (by decide) (by decide) (by decide) (by decide) (fun q9 => ?_)
  refine r_widen (kc' := 9) (ks' := 504) (by decide) (by decide) ?_
  have hX_9 := hX.at (kc := 9) (ks := 504) (by decide) (by decide)
  refine r_putF 0 12 hX_9 hin d_M_init_93 rfl rfl fi_M ft_M_ok fn_M (by decide) fl_M_47 rfl rfl rfl rfl rfl rfl (Nat.le_of_ble_eq_true rfl) ?_
  refine r_ws (ws' := [(a0, .inr (4, [.int 0, .int 0, .int 0, .int 0, .ref q1, .ref q2, .ref q3, .ref q4, .ref q5, .ref q6, .ref q7, .ref q8, .ref q9, .null, .null, .int 0, .null, .null, .null, .null])), (q1, .inl (cI, 24, .inl (fun _ => 0))), (q2, .inl (cI, 60, .inl (fun _ => 0))), (q3, .inl (cI, 60, .inl (fun _ => 0))), (q4, .inl (cI, 60, .inl (fun _ => 0))), (q5, .inl (cI, 60, .inl (fun _ => 0))), (q6, .inl (cI, 60, .inl (fun _ => 0))), (q7, .inl (cI, 60, .inl (fun _ => 0))), (q8, .inl (cI, 60, .inl (fun _ => 0))), (q9, .inl (cZ, 60, .inl (fun _ => 0)))]) rfl ?_
  refine r_aload_n (i := 0) hX_9 d_M_init_96 rfl rfl ?_
  refine r_sipush (v := nI 6528) hX_9 d_M_init_97 (by decide) ?_
  refine r_newa 0 hX d_M_init_100 tw_ai rfl rfl ra_int (fun _ => rfl) rfl (by decide) (by decide) (by decide) (by decide) (fun q10 => ?_)
  refine r_widen (kc' := 10) (ks' := 7032) (by decide) (by decide) ?_
  have hX_10 := hX.at (kc := 10) (ks := 7032) (by decide) (by decide)
  refine r_putF 0 13 hX_10 hin d_M_init_102 rfl rfl fi_M ft_M_ok fn_M (by decide) fl_M_51 rfl rfl rfl rfl rfl rfl (Nat.le_of_ble_eq_true rfl) ?_
  refine r_ws (ws' := [(a0, .inr (4, [.int 0, .int 0, .int 0, .int 0, .ref q1, .ref q2, .ref q3, .ref q4, .ref q5, .ref q6, .ref q7, .ref q8, .ref q9, .ref q10, .null, .int 0, .null, .null, .null, .null])), (q1, .inl (cI, 24, .inl (fun _ => 0))), (q2, .inl (cI, 60, .inl (fun _ => 0))), (q3, .inl (cI, 60, .inl (fun _ => 0))), (q4, .inl (cI, 60, .inl (fun _ => 0))), (q5, .inl (cI, 60, .inl (fun _ => 0))), (q6, .inl (cI, 60, .inl (fun _ => 0))), (q7, .inl (cI, 60, .inl (fun _ => 0))), (q8, .inl (cI, 60, .inl (fun _ => 0))), (q9, .inl (cZ, 60, .inl (fun _ => 0))), (q10, .inl (cI, 6528, .inl (fun _ => 0)))]) rfl ?_
  refine r_aload_n (i := 0) hX_10 d_M_init_105 rfl rfl ?_
  refine r_bipush (v := nI 17) hX_10 d_M_init_106 (by decide) ?_
  refine r_newa 0 hX d_M_init_108 tw_ai rfl rfl ra_int (fun _ => rfl) rfl (by decide) (by decide) (by decide) (by decide) (fun q11 => ?_)
  refine r_widen (kc' := 11) (ks' := 7049) (by decide) (by decide) ?_
  have hX_11 := hX.at (kc := 11) (ks := 7049) (by decide) (by decide)
  refine r_putF 0 14 hX_11 hin d_M_init_110 rfl rfl fi_M ft_M_ok fn_M (by decide) fl_M_54 rfl rfl rfl rfl rfl rfl (Nat.le_of_ble_eq_true rfl) ?_
  refine r_ws (ws' := [(a0, .inr (4, [.int 0, .int 0, .int 0, .int 0, .ref q1, .ref q2, .ref q3, .ref q4, .ref q5, .ref q6, .ref q7, .ref q8, .ref q9, .ref q10, .ref q11, .int 0, .null, .null, .null, .null])), (q1, .inl (cI, 24, .inl (fun _ => 0))), (q2, .inl (cI, 60, .inl (fun _ => 0))), (q3, .inl (cI, 60, .inl (fun _ => 0))), (q4, .inl (cI, 60, .inl (fun _ => 0))), (q5, .inl (cI, 60, .inl (fun _ => 0))), (q6, .inl (cI, 60, .inl (fun _ => 0))), (q7, .inl (cI, 60, .inl (fun _ => 0))), (q8, .inl (cI, 60, .inl (fun _ => 0))), (q9, .inl (cZ, 60, .inl (fun _ => 0))), (q10, .inl (cI, 6528, .inl (fun _ => 0))), (q11, .inl (cI, 17, .inl (fun _ => 0)))]) rfl ?_
  refine r_aload_n (i := 0) hX_11 d_M_init_113 rfl rfl ?_
  refine r_iconst (v := nI 0) hX_11 d_M_init_114 (by decide) ?_
  refine r_put 0 15 hX_11 d_M_init_115 rfl rfl fi_M ft_M_ok fn_M (by decide) fl_M_57 rfl rfl rfl rfl rfl (Nat.le_of_ble_eq_true rfl) ?_
  refine r_ws (ws' := [(a0, .inr (4, [.int 0, .int 0, .int 0, .int 0, .ref q1, .ref q2, .ref q3, .ref q4, .ref q5, .ref q6, .ref q7, .ref q8, .ref q9, .ref q10, .ref q11, .int 0, .null, .null, .null, .null])), (q1, .inl (cI, 24, .inl (fun _ => 0))), (q2, .inl (cI, 60, .inl (fun _ => 0))), (q3, .inl (cI, 60, .inl (fun _ => 0))), (q4, .inl (cI, 60, .inl (fun _ => 0))), (q5, .inl (cI, 60, .inl (fun _ => 0))), (q6, .inl (cI, 60, .inl (fun _ => 0))), (q7, .inl (cI, 60, .inl (fun _ => 0))), (q8, .inl (cI, 60, .inl (fun _ => 0))), (q9, .inl (cZ, 60, .inl (fun _ => 0))), (q10, .inl (cI, 6528, .inl (fun _ => 0))), (q11, .inl (cI, 17, .inl (fun _ => 0)))]) rfl ?_
  refine r_aload_n (i := 0) hX_11 d_M_init_118 rfl rfl ?_
  refine r_bipush (v := nI 8) hX_11 d_M_init_119 (by decide) ?_
  refine r_newa 0 hX d_M_init_121 tw_ai rfl rfl ra_int (fun _ => rfl) rfl (by decide) (by decide) (by decide) (by decide) (fun q12 => ?_)
  refine r_widen (kc' := 12) (ks' := 7057) (by decide) (by decide) ?_
  have hX_12 := hX.at (kc := 12) (ks := 7057) (by decide) (by decide)
  refine r_putF 0 16 hX_12 hin d_M_init_123 rfl rfl fi_M ft_M_ok fn_M (by decide) fl_M_60 rfl rfl rfl rfl rfl rfl (Nat.le_of_ble_eq_true rfl) ?_
  refine r_ws (ws' := [(a0, .inr (4, [.int 0, .int 0, .int 0, .int 0, .ref q1, .ref q2, .ref q3, .ref q4, .ref q5, .ref q6, .ref q7, .ref q8, .ref q9, .ref q10, .ref q11, .int 0, .ref q12, .null, .null, .null])), (q1, .inl (cI, 24, .inl (fun _ => 0))), (q2, .inl (cI, 60, .inl (fun _ => 0))), (q3, .inl (cI, 60, .inl (fun _ => 0))), (q4, .inl (cI, 60, .inl (fun _ => 0))), (q5, .inl (cI, 60, .inl (fun _ => 0))), (q6, .inl (cI, 60, .inl (fun _ => 0))), (q7, .inl (cI, 60, .inl (fun _ => 0))), (q8, .inl (cI, 60, .inl (fun _ => 0))), (q9, .inl (cZ, 60, .inl (fun _ => 0))), (q10, .inl (cI, 6528, .inl (fun _ => 0))), (q11, .inl (cI, 17, .inl (fun _ => 0))), (q12, .inl (cI, 8, .inl (fun _ => 0)))]) rfl ?_
  refine r_aload_n (i := 0) hX_12 d_M_init_126 rfl rfl ?_
  refine r_bipush (v := nI 8) hX_12 d_M_init_127 (by decide) ?_
  refine r_newa 0 hX d_M_init_129 tw_ai rfl rfl ra_int (fun _ => rfl) rfl (by decide) (by decide) (by decide) (by decide) (fun q13 => ?_)
  refine r_widen (kc' := 13) (ks' := 7065) (by decide) (by decide) ?_
  have hX_13 := hX.at (kc := 13) (ks := 7065) (by decide) (by decide)
  refine r_putF 0 17 hX_13 hin d_M_init_131 rfl rfl fi_M ft_M_ok fn_M (by decide) fl_M_63 rfl rfl rfl rfl rfl rfl (Nat.le_of_ble_eq_true rfl) ?_
  refine r_ws (ws' := [(a0, .inr (4, [.int 0, .int 0, .int 0, .int 0, .ref q1, .ref q2, .ref q3, .ref q4, .ref q5, .ref q6, .ref q7, .ref q8, .ref q9, .ref q10, .ref q11, .int 0, .ref q12, .ref q13, .null, .null])), (q1, .inl (cI, 24, .inl (fun _ => 0))), (q2, .inl (cI, 60, .inl (fun _ => 0))), (q3, .inl (cI, 60, .inl (fun _ => 0))), (q4, .inl (cI, 60, .inl (fun _ => 0))), (q5, .inl (cI, 60, .inl (fun _ => 0))), (q6, .inl (cI, 60, .inl (fun _ => 0))), (q7, .inl (cI, 60, .inl (fun _ => 0))), (q8, .inl (cI, 60, .inl (fun _ => 0))), (q9, .inl (cZ, 60, .inl (fun _ => 0))), (q10, .inl (cI, 6528, .inl (fun _ => 0))), (q11, .inl (cI, 17, .inl (fun _ => 0))), (q12, .inl (cI, 8, .inl (fun _ => 0))), (q13, .inl (cI, 8, .inl (fun _ => 0)))]) rfl ?_
  refine r_aload_n (i := 0) hX_13 d_M_init_134 rfl rfl ?_
  refine r_bipush (v := nI 8) hX_13 d_M_init_135 (by decide) ?_
  refine r_newa 0 hX d_M_init_137 tw_ai rfl rfl ra_int (fun _ => rfl) rfl (by decide) (by decide) (by decide) (by decide) (fun q14 => ?_)
  refine r_widen (kc' := 14) (ks' := 7073) (by decide) (by decide) ?_
  have hX_14 := hX.at (kc := 14) (ks := 7073) (by decide) (by decide)
  refine r_putF 0 18 hX_14 hin d_M_init_139 rfl rfl fi_M ft_M_ok fn_M (by decide) fl_M_66 rfl rfl rfl rfl rfl rfl (Nat.le_of_ble_eq_true rfl) ?_
  refine r_ws (ws' := [(a0, .inr (4, [.int 0, .int 0, .int 0, .int 0, .ref q1, .ref q2, .ref q3, .ref q4, .ref q5, .ref q6, .ref q7, .ref q8, .ref q9, .ref q10, .ref q11, .int 0, .ref q12, .ref q13, .ref q14, .null])), (q1, .inl (cI, 24, .inl (fun _ => 0))), (q2, .inl (cI, 60, .inl (fun _ => 0))), (q3, .inl (cI, 60, .inl (fun _ => 0))), (q4, .inl (cI, 60, .inl (fun _ => 0))), (q5, .inl (cI, 60, .inl (fun _ => 0))), (q6, .inl (cI, 60, .inl (fun _ => 0))), (q7, .inl (cI, 60, .inl (fun _ => 0))), (q8, .inl (cI, 60, .inl (fun _ => 0))), (q9, .inl (cZ, 60, .inl (fun _ => 0))), (q10, .inl (cI, 6528, .inl (fun _ => 0))), (q11, .inl (cI, 17, .inl (fun _ => 0))), (q12, .inl (cI, 8, .inl (fun _ => 0))), (q13, .inl (cI, 8, .inl (fun _ => 0))), (q14, .inl (cI, 8, .inl (fun _ => 0)))]) rfl ?_
  refine r_aload_n (i := 0) hX_14 d_M_init_142 rfl rfl ?_
  refine r_bipush (v := nI 40) hX_14 d_M_init_143 (by decide) ?_
  refine r_newa 0 hX d_M_init_145 tw_ai rfl rfl ra_int (fun _ => rfl) rfl (by decide) (by decide) (by decide) (by decide) (fun q15 => ?_)
  refine r_widen (kc' := 15) (ks' := 7113) (by decide) (by decide) ?_
  have hX_15 := hX.at (kc := 15) (ks := 7113) (by decide) (by decide)
  refine r_putF 0 19 hX_15 hin d_M_init_147 rfl rfl fi_M ft_M_ok fn_M (by decide) fl_M_69 rfl rfl rfl rfl rfl rfl (Nat.le_of_ble_eq_true rfl) ?_
  refine r_ws (ws' := [(a0, .inr (4, [.int 0, .int 0, .int 0, .int 0, .ref q1, .ref q2, .ref q3, .ref q4, .ref q5, .ref q6, .ref q7, .ref q8, .ref q9, .ref q10, .ref q11, .int 0, .ref q12, .ref q13, .ref q14, .ref q15])), (q1, .inl (cI, 24, .inl (fun _ => 0))), (q2, .inl (cI, 60, .inl (fun _ => 0))), (q3, .inl (cI, 60, .inl (fun _ => 0))), (q4, .inl (cI, 60, .inl (fun _ => 0))), (q5, .inl (cI, 60, .inl (fun _ => 0))), (q6, .inl (cI, 60, .inl (fun _ => 0))), (q7, .inl (cI, 60, .inl (fun _ => 0))), (q8, .inl (cI, 60, .inl (fun _ => 0))), (q9, .inl (cZ, 60, .inl (fun _ => 0))), (q10, .inl (cI, 6528, .inl (fun _ => 0))), (q11, .inl (cI, 17, .inl (fun _ => 0))), (q12, .inl (cI, 8, .inl (fun _ => 0))), (q13, .inl (cI, 8, .inl (fun _ => 0))), (q14, .inl (cI, 8, .inl (fun _ => 0))), (q15, .inl (cI, 40, .inl (fun _ => 0)))]) rfl ?_
  exact r_vretm (fun k => [a0, q1, q2, q3, q4, q5, q6, q7, q8, q9, q10, q11, q12, q13, q14, q15].getD k 0) hX hF d_M_init_150 rfl rfl
end InitsM
