def rs_E2 (g : rs_G) (k : rs_k) (f : Nat → Int32) : va_E := match k.1 with
  | 0 => .inl (g.2.1.1, k.2.1, .inl f)
  | 1 => .inl (g.2.1.2.1, k.2.1, .inl f)
  | 2 => .inl (g.2.1.2.2.1, k.2.1, .inr (.inr (.inr (.inr (fun i => (k.2.2.map g.2.2)[i]?)))))
  | 3 => .inl (g.2.1.2.2.2, k.2.1, .inr (.inr (.inr (.inr (fun i => (k.2.2.map g.2.2)[i]?)))))
  | t + 4 => .inr (t, rs_fl g.2.2 f 0 k.2.2)
theorem rs_E_eq2 (g : rs_G) (k : rs_k) (f : Nat → Int32) : rs_E g k f = rs_E2 g k f := by
  obtain ⟨t, n, refs⟩ := k
  match t with
  | 0 => rfl
  | 1 => rfl
  | 2 => simp only [rs_E, rs_E2, List.getElem?_map]
  | 3 => simp only [rs_E, rs_E2, List.getElem?_map]
  | t + 4 => rfl
def rs_ws2 (g : rs_G) (kd : List rs_k) (M : rs_M) : va_W := (List.range kd.length).map (fun c => (g.2.2 c, rs_E2 g (kd.getD c (0, 0, [])) (M c)))
theorem rs_ws_eq2 (g : rs_G) (kd : List rs_k) (M : rs_M) : rs_ws g kd M = rs_ws2 g kd M := by simp only [rs_ws, rs_ws2, rs_E_eq2]
set_option maxHeartbeats 4000000 in
set_option maxRecDepth 100000 in
theorem ci_Steer (l : Launch) (g : rs_G) (t : Nat × Nat) : cs_C l g t yX5_init cX5_init 2 3 90 795 5 [.null, .null, .null, .null, .null, .null, .null, .null, .null, .null, .int 0] (cs_x g) (fun _ => True) := by
  refine cs_of (plainFor_of_name (by decide)) rfl (by decide) (fun h0 Z K hr => ?_)
  refine n_aload_n K 0 dX5_init_0 rfl rfl ?_
  refine n_objInit K (rest := []) dX5_init_1 qw_15 ⟨by decide, by decide⟩ ?_
  refine n_aload_n K 0 dX5_init_4 rfl rfl ?_
  refine n_new K (ci := 1) [.null, .null, .null, .int 0, .int 0, .int 0, .int 0, .int 0] uw_1 tyX1_ok qw_18 qw_19 qw_2 rfl df_1 (by decide) (by decide) dX5_init_5 (fun q1 => ?_)
  refine n_cs (c1 := 1) (s1 := 8) rfl rfl ?_
  refine n_dup K dX5_init_8 rfl ?_
  refine n_init K (ci_Line l g t) mf_X1_init rfl qw_21 qw_20 ⟨by decide, by decide⟩ ⟨by decide, by decide⟩ dX5_init_9 (Nat.le_of_ble_eq_true rfl) (fun u2 hu2 => ?_)
  obtain ⟨hu2, -⟩ := hu2
  subst hu2
  refine n_cs (c1 := 17) (s1 := 135) rfl rfl ?_
  refine n_putF K rfl rfl 0 rfl ff_5_line qw_189 rfl rfl (Nat.le_of_ble_eq_true rfl) dX5_init_12 ?_
  refine n_ws (ws1 := ([(h0, .inr (5, [.ref (u2.1 0), .null, .null, .null, .null, .null, .null, .null, .null, .null, .int 0]))] ++ cs_ln g u2)) rfl ?_
  refine n_aload_n K 0 dX5_init_15 rfl rfl ?_
  refine n_new K (ci := 1) [.null, .null, .null, .int 0, .int 0, .int 0, .int 0, .int 0] uw_1 tyX1_ok qw_18 qw_19 qw_2 rfl df_1 (by decide) (by decide) dX5_init_16 (fun q3 => ?_)
  refine n_cs (c1 := 18) (s1 := 143) rfl rfl ?_
  refine n_dup K dX5_init_19 rfl ?_
  refine n_init K (ci_Line l g t) mf_X1_init rfl qw_21 qw_20 ⟨by decide, by decide⟩ ⟨by decide, by decide⟩ dX5_init_20 (Nat.le_of_ble_eq_true rfl) (fun u4 hu4 => ?_)
  obtain ⟨hu4, -⟩ := hu4
  subst hu4
  refine n_cs (c1 := 34) (s1 := 270) rfl rfl ?_
  refine n_putF K rfl rfl 0 rfl ff_5_draft qw_190 rfl rfl (Nat.le_of_ble_eq_true rfl) dX5_init_23 ?_
  refine n_ws (ws1 := (([(h0, .inr (5, [.ref (u2.1 0), .ref (u4.1 0), .null, .null, .null, .null, .null, .null, .null, .null, .int 0]))] ++ cs_ln g u2) ++ cs_ln g u4)) rfl ?_
  refine n_aload_n K 0 dX5_init_26 rfl rfl ?_
  refine n_iconst K (v := 2) dX5_init_27 (by decide) ?_
  refine n_newqL K (N := 2) qw_18 (by decide) (by decide) (Nat.le_of_ble_eq_true rfl) (Nat.le_of_ble_eq_true rfl) (Nat.le_of_ble_eq_true rfl) dX5_init_28 (fun q5 => ?_)
  refine n_ws (ws1 := ((([(h0, .inr (5, [.ref (u2.1 0), .ref (u4.1 0), .null, .null, .null, .null, .null, .null, .null, .null, .int 0]))] ++ cs_ln g u2) ++ cs_ln g u4) ++ [(q5, .inl (g.2.1.2.2.2, 2, .inr (.inr (.inr (.inr (fun _ => none))))))])) rfl ?_
  refine n_cs (c1 := 35) (s1 := 272) rfl rfl ?_
  refine n_putF K rfl rfl 0 rfl ff_5_images qw_191 rfl rfl (Nat.le_of_ble_eq_true rfl) dX5_init_31 ?_
  refine n_ws (ws1 := ((([(h0, .inr (5, [.ref (u2.1 0), .ref (u4.1 0), .ref q5, .null, .null, .null, .null, .null, .null, .null, .int 0]))] ++ cs_ln g u2) ++ cs_ln g u4) ++ [(q5, .inl (g.2.1.2.2.2, 2, .inr (.inr (.inr (.inr (fun _ => none))))))])) rfl ?_
  refine n_aload_n K 0 dX5_init_34 rfl rfl ?_
  refine n_iconst K (v := 2) dX5_init_35 (by decide) ?_
  refine n_newaZ K (N := 2) (by decide) (by decide) (Nat.le_of_ble_eq_true rfl) (Nat.le_of_ble_eq_true rfl) (Nat.le_of_ble_eq_true rfl) dX5_init_36 (fun q6 => ?_)
  refine n_ws (ws1 := ((([(h0, .inr (5, [.ref (u2.1 0), .ref (u4.1 0), .ref q5, .null, .null, .null, .null, .null, .null, .null, .int 0]))] ++ cs_ln g u2) ++ cs_ln g u4) ++ [(q5, .inl (g.2.1.2.2.2, 2, .inr (.inr (.inr (.inr (fun _ => none)))))), (q6, .inl (g.2.1.2.1, 2, .inl (fun _ => 0)))])) rfl ?_
  refine n_cs (c1 := 36) (s1 := 274) rfl rfl ?_
  refine n_putF K rfl rfl 0 rfl ff_5_kept qw_192 rfl rfl (Nat.le_of_ble_eq_true rfl) dX5_init_38 ?_
  refine n_ws (ws1 := ((([(h0, .inr (5, [.ref (u2.1 0), .ref (u4.1 0), .ref q5, .ref q6, .null, .null, .null, .null, .null, .null, .int 0]))] ++ cs_ln g u2) ++ cs_ln g u4) ++ [(q5, .inl (g.2.1.2.2.2, 2, .inr (.inr (.inr (.inr (fun _ => none)))))), (q6, .inl (g.2.1.2.1, 2, .inl (fun _ => 0)))])) rfl ?_
  refine n_aload_n K 0 dX5_init_41 rfl rfl ?_
  refine n_new K (ci := 2) [.null, .int 0, .int 0, .int 0, .int 0, .int 0, .int 0, .int 0, .null] uw_2 tyX2_ok qw_100 qw_101 qw_4 rfl df_2 (by decide) (by decide) dX5_init_42 (fun q7 => ?_)
  refine n_cs (c1 := 37) (s1 := 283) rfl rfl ?_
  refine n_dup K dX5_init_45 rfl ?_
  refine n_initN K (ci_Script l g t) mf_X2_init rfl qw_103 (by decide) ⟨by decide, by decide⟩ ⟨by decide, by decide⟩ dX5_init_46 (Nat.le_of_ble_eq_true rfl) (fun u8 hu8 => ?_)
  obtain ⟨hu8, -⟩ := hu8
  subst hu8
  refine n_cs (c1 := 39) (s1 := 406) rfl rfl ?_
  refine n_putF K rfl rfl 0 rfl ff_5_script qw_193 rfl rfl (Nat.le_of_ble_eq_true rfl) dX5_init_49 ?_
  refine n_ws (ws1 := (((([(h0, .inr (5, [.ref (u2.1 0), .ref (u4.1 0), .ref q5, .ref q6, .ref (u8.1 0), .null, .null, .null, .null, .null, .int 0]))] ++ cs_ln g u2) ++ cs_ln g u4) ++ [(q5, .inl (g.2.1.2.2.2, 2, .inr (.inr (.inr (.inr (fun _ => none)))))), (q6, .inl (g.2.1.2.1, 2, .inl (fun _ => 0)))]) ++ cs_sc g u8)) rfl ?_
  refine n_aload_n K 0 dX5_init_52 rfl rfl ?_
  refine n_new K (ci := 0) [.null, .null, .null, .null, .int 0] uw_0 tyX0_ok qw_136 qw_137 qw_5 rfl df_0 (by decide) (by decide) dX5_init_53 (fun q9 => ?_)
  refine n_cs (c1 := 40) (s1 := 411) rfl rfl ?_
  refine n_dup K dX5_init_56 rfl ?_
  refine n_initN K (ci_Deeds l g t) mf_X0_init rfl qw_139 (by decide) ⟨by decide, by decide⟩ ⟨by decide, by decide⟩ dX5_init_57 (Nat.le_of_ble_eq_true rfl) (fun u10 hu10 => ?_)
  obtain ⟨hu10, -⟩ := hu10
  subst hu10
  refine n_cs (c1 := 44) (s1 := 459) rfl rfl ?_
  refine n_putF K rfl rfl 0 rfl ff_5_deeds qw_194 rfl rfl (Nat.le_of_ble_eq_true rfl) dX5_init_60 ?_
  refine n_ws (ws1 := ((((([(h0, .inr (5, [.ref (u2.1 0), .ref (u4.1 0), .ref q5, .ref q6, .ref (u8.1 0), .ref (u10.1 0), .null, .null, .null, .null, .int 0]))] ++ cs_ln g u2) ++ cs_ln g u4) ++ [(q5, .inl (g.2.1.2.2.2, 2, .inr (.inr (.inr (.inr (fun _ => none)))))), (q6, .inl (g.2.1.2.1, 2, .inl (fun _ => 0)))]) ++ cs_sc g u8) ++ cs_de g u10)) rfl ?_
  refine n_aload_n K 0 dX5_init_63 rfl rfl ?_
  refine n_new K (ci := 3) [.null, .null, .int 0, .int 0, .int 0] uw_3 tyX3_ok qw_159 qw_160 qw_6 rfl df_3 (by decide) (by decide) dX5_init_64 (fun q11 => ?_)
  refine n_cs (c1 := 45) (s1 := 464) rfl rfl ?_
  refine n_dup K dX5_init_67 rfl ?_
  refine n_init K (ci_Search l g t) mf_X3_init rfl qw_162 qw_161 ⟨by decide, by decide⟩ ⟨by decide, by decide⟩ dX5_init_68 (Nat.le_of_ble_eq_true rfl) (fun u12 hu12 => ?_)
  obtain ⟨hu12, -⟩ := hu12
  subst hu12
  refine n_cs (c1 := 53) (s1 := 511) rfl rfl ?_
  refine n_putF K rfl rfl 0 rfl ff_5_search qw_195 rfl rfl (Nat.le_of_ble_eq_true rfl) dX5_init_71 ?_
  refine n_ws (ws1 := (((((([(h0, .inr (5, [.ref (u2.1 0), .ref (u4.1 0), .ref q5, .ref q6, .ref (u8.1 0), .ref (u10.1 0), .ref (u12.1 0), .null, .null, .null, .int 0]))] ++ cs_ln g u2) ++ cs_ln g u4) ++ [(q5, .inl (g.2.1.2.2.2, 2, .inr (.inr (.inr (.inr (fun _ => none)))))), (q6, .inl (g.2.1.2.1, 2, .inl (fun _ => 0)))]) ++ cs_sc g u8) ++ cs_de g u10) ++ cs_se g u12)) rfl ?_
  refine n_aload_n K 0 dX5_init_74 rfl rfl ?_
  refine n_new K (ci := 4) [.int 0, .int 0, .int 0, .int 0, .int 0, .int 0] uw_4 tyX4_ok qw_187 qw_26 qw_3 rfl df_4 (by decide) (by decide) dX5_init_75 (fun q13 => ?_)
  refine n_cs (c1 := 54) (s1 := 517) rfl rfl ?_
  refine n_dup K dX5_init_78 rfl ?_
  refine n_initN K (ci_Spot l g t) mf_X4_init rfl qw_28 (by decide) ⟨by decide, by decide⟩ ⟨by decide, by decide⟩ dX5_init_79 (Nat.le_of_ble_eq_true rfl) (fun u14 hu14 => ?_)
  obtain ⟨hu14, -⟩ := hu14
  subst hu14
  refine n_ws (ws1 := ((((((([(h0, .inr (5, [.ref (u2.1 0), .ref (u4.1 0), .ref q5, .ref q6, .ref (u8.1 0), .ref (u10.1 0), .ref (u12.1 0), .null, .null, .null, .int 0]))] ++ cs_ln g u2) ++ cs_ln g u4) ++ [(q5, .inl (g.2.1.2.2.2, 2, .inr (.inr (.inr (.inr (fun _ => none)))))), (q6, .inl (g.2.1.2.1, 2, .inl (fun _ => 0)))]) ++ cs_sc g u8) ++ cs_de g u10) ++ cs_se g u12) ++ [((u14.1 0), .inr (4, [.int 0, .int (-9), .int 0, .int 0, .int 0, .int 0]))])) rfl ?_
  refine n_cs (c1 := 54) (s1 := 517) rfl rfl ?_
  refine n_putF K rfl rfl 0 rfl ff_5_probe qw_196 rfl rfl (Nat.le_of_ble_eq_true rfl) dX5_init_82 ?_
  refine n_ws (ws1 := ((((((([(h0, .inr (5, [.ref (u2.1 0), .ref (u4.1 0), .ref q5, .ref q6, .ref (u8.1 0), .ref (u10.1 0), .ref (u12.1 0), .ref (u14.1 0), .null, .null, .int 0]))] ++ cs_ln g u2) ++ cs_ln g u4) ++ [(q5, .inl (g.2.1.2.2.2, 2, .inr (.inr (.inr (.inr (fun _ => none)))))), (q6, .inl (g.2.1.2.1, 2, .inl (fun _ => 0)))]) ++ cs_sc g u8) ++ cs_de g u10) ++ cs_se g u12) ++ [((u14.1 0), .inr (4, [.int 0, .int (-9), .int 0, .int 0, .int 0, .int 0]))])) rfl ?_
  refine n_aload_n K 0 dX5_init_85 rfl rfl ?_
  refine n_iconst K (v := 4) dX5_init_86 (by decide) ?_
  refine n_newaI K (N := 4) (by decide) (by decide) (Nat.le_of_ble_eq_true rfl) (Nat.le_of_ble_eq_true rfl) (Nat.le_of_ble_eq_true rfl) dX5_init_87 (fun q15 => ?_)
  refine n_ws (ws1 := ((((((([(h0, .inr (5, [.ref (u2.1 0), .ref (u4.1 0), .ref q5, .ref q6, .ref (u8.1 0), .ref (u10.1 0), .ref (u12.1 0), .ref (u14.1 0), .null, .null, .int 0]))] ++ cs_ln g u2) ++ cs_ln g u4) ++ [(q5, .inl (g.2.1.2.2.2, 2, .inr (.inr (.inr (.inr (fun _ => none)))))), (q6, .inl (g.2.1.2.1, 2, .inl (fun _ => 0)))]) ++ cs_sc g u8) ++ cs_de g u10) ++ cs_se g u12) ++ [((u14.1 0), .inr (4, [.int 0, .int (-9), .int 0, .int 0, .int 0, .int 0])), (q15, .inl (g.2.1.1, 4, .inl (fun _ => 0)))])) rfl ?_
  refine n_cs (c1 := 55) (s1 := 521) rfl rfl ?_
  refine n_putF K rfl rfl 0 rfl ff_5_seenX qw_197 rfl rfl (Nat.le_of_ble_eq_true rfl) dX5_init_89 ?_
  refine n_ws (ws1 := ((((((([(h0, .inr (5, [.ref (u2.1 0), .ref (u4.1 0), .ref q5, .ref q6, .ref (u8.1 0), .ref (u10.1 0), .ref (u12.1 0), .ref (u14.1 0), .ref q15, .null, .int 0]))] ++ cs_ln g u2) ++ cs_ln g u4) ++ [(q5, .inl (g.2.1.2.2.2, 2, .inr (.inr (.inr (.inr (fun _ => none)))))), (q6, .inl (g.2.1.2.1, 2, .inl (fun _ => 0)))]) ++ cs_sc g u8) ++ cs_de g u10) ++ cs_se g u12) ++ [((u14.1 0), .inr (4, [.int 0, .int (-9), .int 0, .int 0, .int 0, .int 0])), (q15, .inl (g.2.1.1, 4, .inl (fun _ => 0)))])) rfl ?_
  refine n_aload_n K 0 dX5_init_92 rfl rfl ?_
  refine n_iconst K (v := 4) dX5_init_93 (by decide) ?_
  refine n_newaI K (N := 4) (by decide) (by decide) (Nat.le_of_ble_eq_true rfl) (Nat.le_of_ble_eq_true rfl) (Nat.le_of_ble_eq_true rfl) dX5_init_94 (fun q16 => ?_)
  refine n_ws (ws1 := ((((((([(h0, .inr (5, [.ref (u2.1 0), .ref (u4.1 0), .ref q5, .ref q6, .ref (u8.1 0), .ref (u10.1 0), .ref (u12.1 0), .ref (u14.1 0), .ref q15, .null, .int 0]))] ++ cs_ln g u2) ++ cs_ln g u4) ++ [(q5, .inl (g.2.1.2.2.2, 2, .inr (.inr (.inr (.inr (fun _ => none)))))), (q6, .inl (g.2.1.2.1, 2, .inl (fun _ => 0)))]) ++ cs_sc g u8) ++ cs_de g u10) ++ cs_se g u12) ++ [((u14.1 0), .inr (4, [.int 0, .int (-9), .int 0, .int 0, .int 0, .int 0])), (q15, .inl (g.2.1.1, 4, .inl (fun _ => 0))), (q16, .inl (g.2.1.1, 4, .inl (fun _ => 0)))])) rfl ?_
  refine n_cs (c1 := 56) (s1 := 525) rfl rfl ?_
  refine n_putF K rfl rfl 0 rfl ff_5_seenY qw_198 rfl rfl (Nat.le_of_ble_eq_true rfl) dX5_init_96 ?_
  refine n_ws (ws1 := ((((((([(h0, .inr (5, [.ref (u2.1 0), .ref (u4.1 0), .ref q5, .ref q6, .ref (u8.1 0), .ref (u10.1 0), .ref (u12.1 0), .ref (u14.1 0), .ref q15, .ref q16, .int 0]))] ++ cs_ln g u2) ++ cs_ln g u4) ++ [(q5, .inl (g.2.1.2.2.2, 2, .inr (.inr (.inr (.inr (fun _ => none)))))), (q6, .inl (g.2.1.2.1, 2, .inl (fun _ => 0)))]) ++ cs_sc g u8) ++ cs_de g u10) ++ cs_se g u12) ++ [((u14.1 0), .inr (4, [.int 0, .int (-9), .int 0, .int 0, .int 0, .int 0])), (q15, .inl (g.2.1.1, 4, .inl (fun _ => 0))), (q16, .inl (g.2.1.1, 4, .inl (fun _ => 0)))])) rfl ?_
  refine n_aload_n K 0 dX5_init_99 rfl rfl ?_
  refine n_iconst K (v := 0) dX5_init_100 (by decide) ?_
  refine n_putI K 0 rfl ff_5_seen qw_199 rfl rfl (Nat.le_of_ble_eq_true rfl) dX5_init_101 ?_
  refine n_ws (ws1 := ((((((([(h0, .inr (5, [.ref (u2.1 0), .ref (u4.1 0), .ref q5, .ref q6, .ref (u8.1 0), .ref (u10.1 0), .ref (u12.1 0), .ref (u14.1 0), .ref q15, .ref q16, .int 0]))] ++ cs_ln g u2) ++ cs_ln g u4) ++ [(q5, .inl (g.2.1.2.2.2, 2, .inr (.inr (.inr (.inr (fun _ => none)))))), (q6, .inl (g.2.1.2.1, 2, .inl (fun _ => 0)))]) ++ cs_sc g u8) ++ cs_de g u10) ++ cs_se g u12) ++ [((u14.1 0), .inr (4, [.int 0, .int (-9), .int 0, .int 0, .int 0, .int 0])), (q15, .inl (g.2.1.1, 4, .inl (fun _ => 0))), (q16, .inl (g.2.1.1, 4, .inl (fun _ => 0)))])) rfl ?_
  refine n_iconst K (v := 0) dX5_init_104 (by decide) ?_
  refine n_istore_n K [(1, .int 0), (0, .ref h0)] dX5_init_105 rfl (by decide) rfl ?_
  refine n_iload_n K 0 dX5_init_106 rfl rfl ?_
  refine n_iconst K (v := 2) dX5_init_107 (by decide) ?_
  refine n_icmp_ge K 130 dX5_init_108 (by decide) (fun h => absurd h (by decide)) (fun _ => ?_)
  refine n_aload_n K 1 dX5_init_111 rfl rfl ?_
  refine n_get K 0 rfl ff_5_images qw_191 rfl dX5_init_112 ?_
  refine n_iload_n K 0 dX5_init_115 rfl rfl ?_
  refine n_new K (ci := 1) [.null, .null, .null, .int 0, .int 0, .int 0, .int 0, .int 0] uw_1 tyX1_ok qw_18 qw_19 qw_2 rfl df_1 (by decide) (by decide) dX5_init_116 (fun q17 => ?_)
  refine n_cs (c1 := 57) (s1 := 533) rfl rfl ?_
  refine n_dup K dX5_init_119 rfl ?_
  refine n_init K (ci_Line l g t) mf_X1_init rfl qw_21 qw_20 ⟨by decide, by decide⟩ ⟨by decide, by decide⟩ dX5_init_120 (Nat.le_of_ble_eq_true rfl) (fun u18 hu18 => ?_)
  obtain ⟨hu18, -⟩ := hu18
  subst hu18
  refine n_cs (c1 := 73) (s1 := 660) rfl rfl ?_
  refine n_aastL K 35 57 rfl rfl (vp_in_nI (show 0 < 2 by decide) (by decide)) dX5_init_123 ?_
  refine n_ws (ws1 := (((((((([(h0, .inr (5, [.ref (u2.1 0), .ref (u4.1 0), .ref q5, .ref q6, .ref (u8.1 0), .ref (u10.1 0), .ref (u12.1 0), .ref (u14.1 0), .ref q15, .ref q16, .int 0]))] ++ cs_ln g u2) ++ cs_ln g u4) ++ [(q5, .inl (g.2.1.2.2.2, 2, .inr (.inr (.inr (.inr (va_up (fun _ => none) (0 : Int32).toNatClampNeg (some (u18.1 0)))))))), (q6, .inl (g.2.1.2.1, 2, .inl (fun _ => 0)))]) ++ cs_sc g u8) ++ cs_de g u10) ++ cs_se g u12) ++ [((u14.1 0), .inr (4, [.int 0, .int (-9), .int 0, .int 0, .int 0, .int 0])), (q15, .inl (g.2.1.1, 4, .inl (fun _ => 0))), (q16, .inl (g.2.1.1, 4, .inl (fun _ => 0)))]) ++ cs_ln g u18)) rfl ?_
  refine n_iinc K 0 [(1, .int 1), (0, .ref h0)] dX5_init_124 rfl (by decide) (by decide) rfl ?_
  refine n_goto K 106 dX5_init_127 (by decide) ?_
  refine n_iload_n K 0 dX5_init_106 rfl rfl ?_
  refine n_iconst K (v := 2) dX5_init_107 (by decide) ?_
  refine n_icmp_ge K 130 dX5_init_108 (by decide) (fun h => absurd h (by decide)) (fun _ => ?_)
  refine n_aload_n K 1 dX5_init_111 rfl rfl ?_
  refine n_get K 0 rfl ff_5_images qw_191 rfl dX5_init_112 ?_
  refine n_iload_n K 0 dX5_init_115 rfl rfl ?_
  refine n_new K (ci := 1) [.null, .null, .null, .int 0, .int 0, .int 0, .int 0, .int 0] uw_1 tyX1_ok qw_18 qw_19 qw_2 rfl df_1 (by decide) (by decide) dX5_init_116 (fun q19 => ?_)
  refine n_cs (c1 := 74) (s1 := 668) rfl rfl ?_
  refine n_dup K dX5_init_119 rfl ?_
  refine n_init K (ci_Line l g t) mf_X1_init rfl qw_21 qw_20 ⟨by decide, by decide⟩ ⟨by decide, by decide⟩ dX5_init_120 (Nat.le_of_ble_eq_true rfl) (fun u20 hu20 => ?_)
  obtain ⟨hu20, -⟩ := hu20
  subst hu20
  refine n_cs (c1 := 90) (s1 := 795) rfl rfl ?_
  refine n_aastL K 35 74 rfl rfl (vp_in_nI (show 1 < 2 by decide) (by decide)) dX5_init_123 ?_
  refine n_ws (ws1 := ((((((((([(h0, .inr (5, [.ref (u2.1 0), .ref (u4.1 0), .ref q5, .ref q6, .ref (u8.1 0), .ref (u10.1 0), .ref (u12.1 0), .ref (u14.1 0), .ref q15, .ref q16, .int 0]))] ++ cs_ln g u2) ++ cs_ln g u4) ++ [(q5, .inl (g.2.1.2.2.2, 2, .inr (.inr (.inr (.inr (va_up (va_up (fun _ => none) (0 : Int32).toNatClampNeg (some (u18.1 0))) (1 : Int32).toNatClampNeg (some (u20.1 0)))))))), (q6, .inl (g.2.1.2.1, 2, .inl (fun _ => 0)))]) ++ cs_sc g u8) ++ cs_de g u10) ++ cs_se g u12) ++ [((u14.1 0), .inr (4, [.int 0, .int (-9), .int 0, .int 0, .int 0, .int 0])), (q15, .inl (g.2.1.1, 4, .inl (fun _ => 0))), (q16, .inl (g.2.1.1, 4, .inl (fun _ => 0)))]) ++ cs_ln g u18) ++ cs_ln g u20)) rfl ?_
  refine n_iinc K 0 [(1, .int 2), (0, .ref h0)] dX5_init_124 rfl (by decide) (by decide) rfl ?_
  refine n_goto K 106 dX5_init_127 (by decide) ?_
  refine n_iload_n K 0 dX5_init_106 rfl rfl ?_
  refine n_iconst K (v := 2) dX5_init_107 (by decide) ?_
  refine n_icmp_ge K 130 dX5_init_108 (by decide) (fun _ => ?_) (fun h => absurd (by decide) h)
  have e : (va_up (va_up (fun _ => none) (0 : Int32).toNatClampNeg (some (u18.1 0))) (1 : Int32).toNatClampNeg (some (u20.1 0))) = fun i : Nat => ([u18.1 0, u20.1 0] : List Nat)[i]? := by
    have z0 : (0 : Int32).toNatClampNeg = 0 := by decide
    have z1 : (1 : Int32).toNatClampNeg = 1 := by decide
    rw [z0, z1]
    funext i
    match i with
    | 0 => rfl
    | 1 => rfl
    | i + 2 => simp [va_up]
  exact hr _ (fun c => ([h0] ++ (List.range 17).map u2.1 ++ (List.range 17).map u4.1 ++ [q5, q6] ++ (List.range 3).map u8.1 ++ (List.range 5).map u10.1 ++ (List.range 9).map u12.1 ++ [(u14.1 0), q15, q16] ++ (List.range 17).map u18.1 ++ (List.range 17).map u20.1).getD c 0) (c_M []) _ _ dX5_init_130 (by rw [e]; simp only [cs_ln, cs_sc, cs_de, cs_se, cs_x, rs_ws_eq2]; rfl) rfl trivial
def m_phi (M : rs_M) : Prop := m_row (M 1) ab_L0 ∧ M 0 0 = 1 ∧ (∀ j, j ≠ 0 → M 0 j = 0) ∧ ∀ c, c ≠ 0 → c ≠ 1 → M c = c_z
set_option maxHeartbeats 4000000 in
set_option maxRecDepth 100000 in
theorem ci_Model (l : Launch) (g : rs_G) (t : Nat × Nat) : cs_C l g t yX6_init cX6_init 1 2 13 1068 6 [.int 0, .null, .int 0, .int 0, .null, .int 0, .null, .null, .null, .null, .null, .null, .null, .null, .null, .int 0, .null, .int 0, .int 0, .int 0, .int 0, .int 0, .int 0, .int 0, .int 0, .null, .int 0, .int 0, .int 0] (cs_m g) m_phi := by
  refine cs_of (plainFor_of_name (by decide)) rfl (by decide) (fun h0 Z K hr => ?_)
  refine n_aload_n K 0 dX6_init_0 rfl rfl ?_
  refine n_objInit K (rest := []) dX6_init_1 qw_540 ⟨by decide, by decide⟩ ?_
  refine n_aload_n K 0 dX6_init_4 rfl rfl ?_
  refine n_bipush K (v := 53) dX6_init_5 (by decide) ?_
  refine n_newaI K (N := 53) (by decide) (by decide) (Nat.le_of_ble_eq_true rfl) (Nat.le_of_ble_eq_true rfl) (Nat.le_of_ble_eq_true rfl) dX6_init_7 (fun q1 => ?_)
  refine n_ws (ws1 := [(h0, .inr (6, [.int 0, .null, .int 0, .int 0, .null, .int 0, .null, .null, .null, .null, .null, .null, .null, .null, .null, .int 0, .null, .int 0, .int 0, .int 0, .int 0, .int 0, .int 0, .int 0, .int 0, .null, .int 0, .int 0, .int 0])), (q1, .inl (g.2.1.1, 53, .inl (fun _ => 0)))]) rfl ?_
  refine n_cs (c1 := 1) (s1 := 53) rfl rfl ?_
  refine n_putF K rfl rfl 0 rfl ff_6_now qw_545 rfl rfl (Nat.le_of_ble_eq_true rfl) dX6_init_9 ?_
  refine n_ws (ws1 := [(h0, .inr (6, [.int 0, .ref q1, .int 0, .int 0, .null, .int 0, .null, .null, .null, .null, .null, .null, .null, .null, .null, .int 0, .null, .int 0, .int 0, .int 0, .int 0, .int 0, .int 0, .int 0, .int 0, .null, .int 0, .int 0, .int 0])), (q1, .inl (g.2.1.1, 53, .inl (fun _ => 0)))]) rfl ?_
  refine n_aload_n K 0 dX6_init_12 rfl rfl ?_
  refine n_sipush K (v := 636) dX6_init_13 (by decide) ?_
  refine n_newaI K (N := 636) (by decide) (by decide) (Nat.le_of_ble_eq_true rfl) (Nat.le_of_ble_eq_true rfl) (Nat.le_of_ble_eq_true rfl) dX6_init_16 (fun q2 => ?_)
  refine n_ws (ws1 := [(h0, .inr (6, [.int 0, .ref q1, .int 0, .int 0, .null, .int 0, .null, .null, .null, .null, .null, .null, .null, .null, .null, .int 0, .null, .int 0, .int 0, .int 0, .int 0, .int 0, .int 0, .int 0, .int 0, .null, .int 0, .int 0, .int 0])), (q1, .inl (g.2.1.1, 53, .inl (fun _ => 0))), (q2, .inl (g.2.1.1, 636, .inl (fun _ => 0)))]) rfl ?_
  refine n_cs (c1 := 2) (s1 := 689) rfl rfl ?_
  refine n_putF K rfl rfl 0 rfl ff_6_undos qw_548 rfl rfl (Nat.le_of_ble_eq_true rfl) dX6_init_18 ?_
  refine n_ws (ws1 := [(h0, .inr (6, [.int 0, .ref q1, .int 0, .int 0, .ref q2, .int 0, .null, .null, .null, .null, .null, .null, .null, .null, .null, .int 0, .null, .int 0, .int 0, .int 0, .int 0, .int 0, .int 0, .int 0, .int 0, .null, .int 0, .int 0, .int 0])), (q1, .inl (g.2.1.1, 53, .inl (fun _ => 0))), (q2, .inl (g.2.1.1, 636, .inl (fun _ => 0)))]) rfl ?_
  refine n_aload_n K 0 dX6_init_21 rfl rfl ?_
  refine n_iconst K (v := 4) dX6_init_22 (by decide) ?_
  refine n_newaI K (N := 4) (by decide) (by decide) (Nat.le_of_ble_eq_true rfl) (Nat.le_of_ble_eq_true rfl) (Nat.le_of_ble_eq_true rfl) dX6_init_23 (fun q3 => ?_)
  refine n_ws (ws1 := [(h0, .inr (6, [.int 0, .ref q1, .int 0, .int 0, .ref q2, .int 0, .null, .null, .null, .null, .null, .null, .null, .null, .null, .int 0, .null, .int 0, .int 0, .int 0, .int 0, .int 0, .int 0, .int 0, .int 0, .null, .int 0, .int 0, .int 0])), (q1, .inl (g.2.1.1, 53, .inl (fun _ => 0))), (q2, .inl (g.2.1.1, 636, .inl (fun _ => 0))), (q3, .inl (g.2.1.1, 4, .inl (fun _ => 0)))]) rfl ?_
  refine n_cs (c1 := 3) (s1 := 693) rfl rfl ?_
  refine n_putF K rfl rfl 0 rfl ff_6_seenX qw_550 rfl rfl (Nat.le_of_ble_eq_true rfl) dX6_init_25 ?_
  refine n_ws (ws1 := [(h0, .inr (6, [.int 0, .ref q1, .int 0, .int 0, .ref q2, .int 0, .ref q3, .null, .null, .null, .null, .null, .null, .null, .null, .int 0, .null, .int 0, .int 0, .int 0, .int 0, .int 0, .int 0, .int 0, .int 0, .null, .int 0, .int 0, .int 0])), (q1, .inl (g.2.1.1, 53, .inl (fun _ => 0))), (q2, .inl (g.2.1.1, 636, .inl (fun _ => 0))), (q3, .inl (g.2.1.1, 4, .inl (fun _ => 0)))]) rfl ?_
  refine n_aload_n K 0 dX6_init_28 rfl rfl ?_
  refine n_iconst K (v := 4) dX6_init_29 (by decide) ?_
  refine n_newaI K (N := 4) (by decide) (by decide) (Nat.le_of_ble_eq_true rfl) (Nat.le_of_ble_eq_true rfl) (Nat.le_of_ble_eq_true rfl) dX6_init_30 (fun q4 => ?_)
  refine n_ws (ws1 := [(h0, .inr (6, [.int 0, .ref q1, .int 0, .int 0, .ref q2, .int 0, .ref q3, .null, .null, .null, .null, .null, .null, .null, .null, .int 0, .null, .int 0, .int 0, .int 0, .int 0, .int 0, .int 0, .int 0, .int 0, .null, .int 0, .int 0, .int 0])), (q1, .inl (g.2.1.1, 53, .inl (fun _ => 0))), (q2, .inl (g.2.1.1, 636, .inl (fun _ => 0))), (q3, .inl (g.2.1.1, 4, .inl (fun _ => 0))), (q4, .inl (g.2.1.1, 4, .inl (fun _ => 0)))]) rfl ?_
  refine n_cs (c1 := 4) (s1 := 697) rfl rfl ?_
  refine n_putF K rfl rfl 0 rfl ff_6_seenY qw_551 rfl rfl (Nat.le_of_ble_eq_true rfl) dX6_init_32 ?_
  refine n_ws (ws1 := [(h0, .inr (6, [.int 0, .ref q1, .int 0, .int 0, .ref q2, .int 0, .ref q3, .ref q4, .null, .null, .null, .null, .null, .null, .null, .int 0, .null, .int 0, .int 0, .int 0, .int 0, .int 0, .int 0, .int 0, .int 0, .null, .int 0, .int 0, .int 0])), (q1, .inl (g.2.1.1, 53, .inl (fun _ => 0))), (q2, .inl (g.2.1.1, 636, .inl (fun _ => 0))), (q3, .inl (g.2.1.1, 4, .inl (fun _ => 0))), (q4, .inl (g.2.1.1, 4, .inl (fun _ => 0)))]) rfl ?_
  refine n_aload_n K 0 dX6_init_35 rfl rfl ?_
  refine n_iconst K (v := 2) dX6_init_36 (by decide) ?_
  refine n_newaZ K (N := 2) (by decide) (by decide) (Nat.le_of_ble_eq_true rfl) (Nat.le_of_ble_eq_true rfl) (Nat.le_of_ble_eq_true rfl) dX6_init_37 (fun q5 => ?_)
  refine n_ws (ws1 := [(h0, .inr (6, [.int 0, .ref q1, .int 0, .int 0, .ref q2, .int 0, .ref q3, .ref q4, .null, .null, .null, .null, .null, .null, .null, .int 0, .null, .int 0, .int 0, .int 0, .int 0, .int 0, .int 0, .int 0, .int 0, .null, .int 0, .int 0, .int 0])), (q1, .inl (g.2.1.1, 53, .inl (fun _ => 0))), (q2, .inl (g.2.1.1, 636, .inl (fun _ => 0))), (q3, .inl (g.2.1.1, 4, .inl (fun _ => 0))), (q4, .inl (g.2.1.1, 4, .inl (fun _ => 0))), (q5, .inl (g.2.1.2.1, 2, .inl (fun _ => 0)))]) rfl ?_
  refine n_cs (c1 := 5) (s1 := 699) rfl rfl ?_
  refine n_putF K rfl rfl 0 rfl ff_6_isKept qw_552 rfl rfl (Nat.le_of_ble_eq_true rfl) dX6_init_39 ?_
  refine n_ws (ws1 := [(h0, .inr (6, [.int 0, .ref q1, .int 0, .int 0, .ref q2, .int 0, .ref q3, .ref q4, .ref q5, .null, .null, .null, .null, .null, .null, .int 0, .null, .int 0, .int 0, .int 0, .int 0, .int 0, .int 0, .int 0, .int 0, .null, .int 0, .int 0, .int 0])), (q1, .inl (g.2.1.1, 53, .inl (fun _ => 0))), (q2, .inl (g.2.1.1, 636, .inl (fun _ => 0))), (q3, .inl (g.2.1.1, 4, .inl (fun _ => 0))), (q4, .inl (g.2.1.1, 4, .inl (fun _ => 0))), (q5, .inl (g.2.1.2.1, 2, .inl (fun _ => 0)))]) rfl ?_
  refine n_aload_n K 0 dX6_init_42 rfl rfl ?_
  refine n_bipush K (v := 106) dX6_init_43 (by decide) ?_
  refine n_newaI K (N := 106) (by decide) (by decide) (Nat.le_of_ble_eq_true rfl) (Nat.le_of_ble_eq_true rfl) (Nat.le_of_ble_eq_true rfl) dX6_init_45 (fun q6 => ?_)
  refine n_ws (ws1 := [(h0, .inr (6, [.int 0, .ref q1, .int 0, .int 0, .ref q2, .int 0, .ref q3, .ref q4, .ref q5, .null, .null, .null, .null, .null, .null, .int 0, .null, .int 0, .int 0, .int 0, .int 0, .int 0, .int 0, .int 0, .int 0, .null, .int 0, .int 0, .int 0])), (q1, .inl (g.2.1.1, 53, .inl (fun _ => 0))), (q2, .inl (g.2.1.1, 636, .inl (fun _ => 0))), (q3, .inl (g.2.1.1, 4, .inl (fun _ => 0))), (q4, .inl (g.2.1.1, 4, .inl (fun _ => 0))), (q5, .inl (g.2.1.2.1, 2, .inl (fun _ => 0))), (q6, .inl (g.2.1.1, 106, .inl (fun _ => 0)))]) rfl ?_
  refine n_cs (c1 := 6) (s1 := 805) rfl rfl ?_
  refine n_putF K rfl rfl 0 rfl ff_6_kept qw_553 rfl rfl (Nat.le_of_ble_eq_true rfl) dX6_init_47 ?_
  refine n_ws (ws1 := [(h0, .inr (6, [.int 0, .ref q1, .int 0, .int 0, .ref q2, .int 0, .ref q3, .ref q4, .ref q5, .ref q6, .null, .null, .null, .null, .null, .int 0, .null, .int 0, .int 0, .int 0, .int 0, .int 0, .int 0, .int 0, .int 0, .null, .int 0, .int 0, .int 0])), (q1, .inl (g.2.1.1, 53, .inl (fun _ => 0))), (q2, .inl (g.2.1.1, 636, .inl (fun _ => 0))), (q3, .inl (g.2.1.1, 4, .inl (fun _ => 0))), (q4, .inl (g.2.1.1, 4, .inl (fun _ => 0))), (q5, .inl (g.2.1.2.1, 2, .inl (fun _ => 0))), (q6, .inl (g.2.1.1, 106, .inl (fun _ => 0)))]) rfl ?_
  refine n_aload_n K 0 dX6_init_50 rfl rfl ?_
  refine n_bipush K (v := 18) dX6_init_51 (by decide) ?_
  refine n_newaI K (N := 18) (by decide) (by decide) (Nat.le_of_ble_eq_true rfl) (Nat.le_of_ble_eq_true rfl) (Nat.le_of_ble_eq_true rfl) dX6_init_53 (fun q7 => ?_)
  refine n_ws (ws1 := [(h0, .inr (6, [.int 0, .ref q1, .int 0, .int 0, .ref q2, .int 0, .ref q3, .ref q4, .ref q5, .ref q6, .null, .null, .null, .null, .null, .int 0, .null, .int 0, .int 0, .int 0, .int 0, .int 0, .int 0, .int 0, .int 0, .null, .int 0, .int 0, .int 0])), (q1, .inl (g.2.1.1, 53, .inl (fun _ => 0))), (q2, .inl (g.2.1.1, 636, .inl (fun _ => 0))), (q3, .inl (g.2.1.1, 4, .inl (fun _ => 0))), (q4, .inl (g.2.1.1, 4, .inl (fun _ => 0))), (q5, .inl (g.2.1.2.1, 2, .inl (fun _ => 0))), (q6, .inl (g.2.1.1, 106, .inl (fun _ => 0))), (q7, .inl (g.2.1.1, 18, .inl (fun _ => 0)))]) rfl ?_
  refine n_cs (c1 := 7) (s1 := 823) rfl rfl ?_
  refine n_putF K rfl rfl 0 rfl ff_6_keys qw_554 rfl rfl (Nat.le_of_ble_eq_true rfl) dX6_init_55 ?_
  refine n_ws (ws1 := [(h0, .inr (6, [.int 0, .ref q1, .int 0, .int 0, .ref q2, .int 0, .ref q3, .ref q4, .ref q5, .ref q6, .ref q7, .null, .null, .null, .null, .int 0, .null, .int 0, .int 0, .int 0, .int 0, .int 0, .int 0, .int 0, .int 0, .null, .int 0, .int 0, .int 0])), (q1, .inl (g.2.1.1, 53, .inl (fun _ => 0))), (q2, .inl (g.2.1.1, 636, .inl (fun _ => 0))), (q3, .inl (g.2.1.1, 4, .inl (fun _ => 0))), (q4, .inl (g.2.1.1, 4, .inl (fun _ => 0))), (q5, .inl (g.2.1.2.1, 2, .inl (fun _ => 0))), (q6, .inl (g.2.1.1, 106, .inl (fun _ => 0))), (q7, .inl (g.2.1.1, 18, .inl (fun _ => 0)))]) rfl ?_
  refine n_aload_n K 0 dX6_init_58 rfl rfl ?_
  refine n_bipush K (v := 18) dX6_init_59 (by decide) ?_
  refine n_newaI K (N := 18) (by decide) (by decide) (Nat.le_of_ble_eq_true rfl) (Nat.le_of_ble_eq_true rfl) (Nat.le_of_ble_eq_true rfl) dX6_init_61 (fun q8 => ?_)
  refine n_ws (ws1 := [(h0, .inr (6, [.int 0, .ref q1, .int 0, .int 0, .ref q2, .int 0, .ref q3, .ref q4, .ref q5, .ref q6, .ref q7, .null, .null, .null, .null, .int 0, .null, .int 0, .int 0, .int 0, .int 0, .int 0, .int 0, .int 0, .int 0, .null, .int 0, .int 0, .int 0])), (q1, .inl (g.2.1.1, 53, .inl (fun _ => 0))), (q2, .inl (g.2.1.1, 636, .inl (fun _ => 0))), (q3, .inl (g.2.1.1, 4, .inl (fun _ => 0))), (q4, .inl (g.2.1.1, 4, .inl (fun _ => 0))), (q5, .inl (g.2.1.2.1, 2, .inl (fun _ => 0))), (q6, .inl (g.2.1.1, 106, .inl (fun _ => 0))), (q7, .inl (g.2.1.1, 18, .inl (fun _ => 0))), (q8, .inl (g.2.1.1, 18, .inl (fun _ => 0)))]) rfl ?_
  refine n_cs (c1 := 8) (s1 := 841) rfl rfl ?_
  refine n_putF K rfl rfl 0 rfl ff_6_slopeX qw_555 rfl rfl (Nat.le_of_ble_eq_true rfl) dX6_init_63 ?_
  refine n_ws (ws1 := [(h0, .inr (6, [.int 0, .ref q1, .int 0, .int 0, .ref q2, .int 0, .ref q3, .ref q4, .ref q5, .ref q6, .ref q7, .ref q8, .null, .null, .null, .int 0, .null, .int 0, .int 0, .int 0, .int 0, .int 0, .int 0, .int 0, .int 0, .null, .int 0, .int 0, .int 0])), (q1, .inl (g.2.1.1, 53, .inl (fun _ => 0))), (q2, .inl (g.2.1.1, 636, .inl (fun _ => 0))), (q3, .inl (g.2.1.1, 4, .inl (fun _ => 0))), (q4, .inl (g.2.1.1, 4, .inl (fun _ => 0))), (q5, .inl (g.2.1.2.1, 2, .inl (fun _ => 0))), (q6, .inl (g.2.1.1, 106, .inl (fun _ => 0))), (q7, .inl (g.2.1.1, 18, .inl (fun _ => 0))), (q8, .inl (g.2.1.1, 18, .inl (fun _ => 0)))]) rfl ?_
  refine n_aload_n K 0 dX6_init_66 rfl rfl ?_
  refine n_bipush K (v := 18) dX6_init_67 (by decide) ?_
  refine n_newaI K (N := 18) (by decide) (by decide) (Nat.le_of_ble_eq_true rfl) (Nat.le_of_ble_eq_true rfl) (Nat.le_of_ble_eq_true rfl) dX6_init_69 (fun q9 => ?_)
  refine n_ws (ws1 := [(h0, .inr (6, [.int 0, .ref q1, .int 0, .int 0, .ref q2, .int 0, .ref q3, .ref q4, .ref q5, .ref q6, .ref q7, .ref q8, .null, .null, .null, .int 0, .null, .int 0, .int 0, .int 0, .int 0, .int 0, .int 0, .int 0, .int 0, .null, .int 0, .int 0, .int 0])), (q1, .inl (g.2.1.1, 53, .inl (fun _ => 0))), (q2, .inl (g.2.1.1, 636, .inl (fun _ => 0))), (q3, .inl (g.2.1.1, 4, .inl (fun _ => 0))), (q4, .inl (g.2.1.1, 4, .inl (fun _ => 0))), (q5, .inl (g.2.1.2.1, 2, .inl (fun _ => 0))), (q6, .inl (g.2.1.1, 106, .inl (fun _ => 0))), (q7, .inl (g.2.1.1, 18, .inl (fun _ => 0))), (q8, .inl (g.2.1.1, 18, .inl (fun _ => 0))), (q9, .inl (g.2.1.1, 18, .inl (fun _ => 0)))]) rfl ?_
  refine n_cs (c1 := 9) (s1 := 859) rfl rfl ?_
  refine n_putF K rfl rfl 0 rfl ff_6_slopeY qw_556 rfl rfl (Nat.le_of_ble_eq_true rfl) dX6_init_71 ?_
  refine n_ws (ws1 := [(h0, .inr (6, [.int 0, .ref q1, .int 0, .int 0, .ref q2, .int 0, .ref q3, .ref q4, .ref q5, .ref q6, .ref q7, .ref q8, .ref q9, .null, .null, .int 0, .null, .int 0, .int 0, .int 0, .int 0, .int 0, .int 0, .int 0, .int 0, .null, .int 0, .int 0, .int 0])), (q1, .inl (g.2.1.1, 53, .inl (fun _ => 0))), (q2, .inl (g.2.1.1, 636, .inl (fun _ => 0))), (q3, .inl (g.2.1.1, 4, .inl (fun _ => 0))), (q4, .inl (g.2.1.1, 4, .inl (fun _ => 0))), (q5, .inl (g.2.1.2.1, 2, .inl (fun _ => 0))), (q6, .inl (g.2.1.1, 106, .inl (fun _ => 0))), (q7, .inl (g.2.1.1, 18, .inl (fun _ => 0))), (q8, .inl (g.2.1.1, 18, .inl (fun _ => 0))), (q9, .inl (g.2.1.1, 18, .inl (fun _ => 0)))]) rfl ?_
  refine n_aload_n K 0 dX6_init_74 rfl rfl ?_
  refine n_bipush K (v := 18) dX6_init_75 (by decide) ?_
  refine n_newaI K (N := 18) (by decide) (by decide) (Nat.le_of_ble_eq_true rfl) (Nat.le_of_ble_eq_true rfl) (Nat.le_of_ble_eq_true rfl) dX6_init_77 (fun q10 => ?_)
  refine n_ws (ws1 := [(h0, .inr (6, [.int 0, .ref q1, .int 0, .int 0, .ref q2, .int 0, .ref q3, .ref q4, .ref q5, .ref q6, .ref q7, .ref q8, .ref q9, .null, .null, .int 0, .null, .int 0, .int 0, .int 0, .int 0, .int 0, .int 0, .int 0, .int 0, .null, .int 0, .int 0, .int 0])), (q1, .inl (g.2.1.1, 53, .inl (fun _ => 0))), (q2, .inl (g.2.1.1, 636, .inl (fun _ => 0))), (q3, .inl (g.2.1.1, 4, .inl (fun _ => 0))), (q4, .inl (g.2.1.1, 4, .inl (fun _ => 0))), (q5, .inl (g.2.1.2.1, 2, .inl (fun _ => 0))), (q6, .inl (g.2.1.1, 106, .inl (fun _ => 0))), (q7, .inl (g.2.1.1, 18, .inl (fun _ => 0))), (q8, .inl (g.2.1.1, 18, .inl (fun _ => 0))), (q9, .inl (g.2.1.1, 18, .inl (fun _ => 0))), (q10, .inl (g.2.1.1, 18, .inl (fun _ => 0)))]) rfl ?_
  refine n_cs (c1 := 10) (s1 := 877) rfl rfl ?_
  refine n_putF K rfl rfl 0 rfl ff_6_placeX qw_557 rfl rfl (Nat.le_of_ble_eq_true rfl) dX6_init_79 ?_
  refine n_ws (ws1 := [(h0, .inr (6, [.int 0, .ref q1, .int 0, .int 0, .ref q2, .int 0, .ref q3, .ref q4, .ref q5, .ref q6, .ref q7, .ref q8, .ref q9, .ref q10, .null, .int 0, .null, .int 0, .int 0, .int 0, .int 0, .int 0, .int 0, .int 0, .int 0, .null, .int 0, .int 0, .int 0])), (q1, .inl (g.2.1.1, 53, .inl (fun _ => 0))), (q2, .inl (g.2.1.1, 636, .inl (fun _ => 0))), (q3, .inl (g.2.1.1, 4, .inl (fun _ => 0))), (q4, .inl (g.2.1.1, 4, .inl (fun _ => 0))), (q5, .inl (g.2.1.2.1, 2, .inl (fun _ => 0))), (q6, .inl (g.2.1.1, 106, .inl (fun _ => 0))), (q7, .inl (g.2.1.1, 18, .inl (fun _ => 0))), (q8, .inl (g.2.1.1, 18, .inl (fun _ => 0))), (q9, .inl (g.2.1.1, 18, .inl (fun _ => 0))), (q10, .inl (g.2.1.1, 18, .inl (fun _ => 0)))]) rfl ?_
  refine n_aload_n K 0 dX6_init_82 rfl rfl ?_
  refine n_bipush K (v := 18) dX6_init_83 (by decide) ?_
  refine n_newaI K (N := 18) (by decide) (by decide) (Nat.le_of_ble_eq_true rfl) (Nat.le_of_ble_eq_true rfl) (Nat.le_of_ble_eq_true rfl) dX6_init_85 (fun q11 => ?_)
  refine n_ws (ws1 := [(h0, .inr (6, [.int 0, .ref q1, .int 0, .int 0, .ref q2, .int 0, .ref q3, .ref q4, .ref q5, .ref q6, .ref q7, .ref q8, .ref q9, .ref q10, .null, .int 0, .null, .int 0, .int 0, .int 0, .int 0, .int 0, .int 0, .int 0, .int 0, .null, .int 0, .int 0, .int 0])), (q1, .inl (g.2.1.1, 53, .inl (fun _ => 0))), (q2, .inl (g.2.1.1, 636, .inl (fun _ => 0))), (q3, .inl (g.2.1.1, 4, .inl (fun _ => 0))), (q4, .inl (g.2.1.1, 4, .inl (fun _ => 0))), (q5, .inl (g.2.1.2.1, 2, .inl (fun _ => 0))), (q6, .inl (g.2.1.1, 106, .inl (fun _ => 0))), (q7, .inl (g.2.1.1, 18, .inl (fun _ => 0))), (q8, .inl (g.2.1.1, 18, .inl (fun _ => 0))), (q9, .inl (g.2.1.1, 18, .inl (fun _ => 0))), (q10, .inl (g.2.1.1, 18, .inl (fun _ => 0))), (q11, .inl (g.2.1.1, 18, .inl (fun _ => 0)))]) rfl ?_
  refine n_cs (c1 := 11) (s1 := 895) rfl rfl ?_
  refine n_putF K rfl rfl 0 rfl ff_6_placeY qw_558 rfl rfl (Nat.le_of_ble_eq_true rfl) dX6_init_87 ?_
  refine n_ws (ws1 := [(h0, .inr (6, [.int 0, .ref q1, .int 0, .int 0, .ref q2, .int 0, .ref q3, .ref q4, .ref q5, .ref q6, .ref q7, .ref q8, .ref q9, .ref q10, .ref q11, .int 0, .null, .int 0, .int 0, .int 0, .int 0, .int 0, .int 0, .int 0, .int 0, .null, .int 0, .int 0, .int 0])), (q1, .inl (g.2.1.1, 53, .inl (fun _ => 0))), (q2, .inl (g.2.1.1, 636, .inl (fun _ => 0))), (q3, .inl (g.2.1.1, 4, .inl (fun _ => 0))), (q4, .inl (g.2.1.1, 4, .inl (fun _ => 0))), (q5, .inl (g.2.1.2.1, 2, .inl (fun _ => 0))), (q6, .inl (g.2.1.1, 106, .inl (fun _ => 0))), (q7, .inl (g.2.1.1, 18, .inl (fun _ => 0))), (q8, .inl (g.2.1.1, 18, .inl (fun _ => 0))), (q9, .inl (g.2.1.1, 18, .inl (fun _ => 0))), (q10, .inl (g.2.1.1, 18, .inl (fun _ => 0))), (q11, .inl (g.2.1.1, 18, .inl (fun _ => 0)))]) rfl ?_
  refine n_aload_n K 0 dX6_init_90 rfl rfl ?_
  refine n_bipush K (v := 120) dX6_init_91 (by decide) ?_
  refine n_newaI K (N := 120) (by decide) (by decide) (Nat.le_of_ble_eq_true rfl) (Nat.le_of_ble_eq_true rfl) (Nat.le_of_ble_eq_true rfl) dX6_init_93 (fun q12 => ?_)
  refine n_ws (ws1 := [(h0, .inr (6, [.int 0, .ref q1, .int 0, .int 0, .ref q2, .int 0, .ref q3, .ref q4, .ref q5, .ref q6, .ref q7, .ref q8, .ref q9, .ref q10, .ref q11, .int 0, .null, .int 0, .int 0, .int 0, .int 0, .int 0, .int 0, .int 0, .int 0, .null, .int 0, .int 0, .int 0])), (q1, .inl (g.2.1.1, 53, .inl (fun _ => 0))), (q2, .inl (g.2.1.1, 636, .inl (fun _ => 0))), (q3, .inl (g.2.1.1, 4, .inl (fun _ => 0))), (q4, .inl (g.2.1.1, 4, .inl (fun _ => 0))), (q5, .inl (g.2.1.2.1, 2, .inl (fun _ => 0))), (q6, .inl (g.2.1.1, 106, .inl (fun _ => 0))), (q7, .inl (g.2.1.1, 18, .inl (fun _ => 0))), (q8, .inl (g.2.1.1, 18, .inl (fun _ => 0))), (q9, .inl (g.2.1.1, 18, .inl (fun _ => 0))), (q10, .inl (g.2.1.1, 18, .inl (fun _ => 0))), (q11, .inl (g.2.1.1, 18, .inl (fun _ => 0))), (q12, .inl (g.2.1.1, 120, .inl (fun _ => 0)))]) rfl ?_
  refine n_cs (c1 := 12) (s1 := 1015) rfl rfl ?_
  refine n_putF K rfl rfl 0 rfl ff_6_text qw_560 rfl rfl (Nat.le_of_ble_eq_true rfl) dX6_init_95 ?_
  refine n_ws (ws1 := [(h0, .inr (6, [.int 0, .ref q1, .int 0, .int 0, .ref q2, .int 0, .ref q3, .ref q4, .ref q5, .ref q6, .ref q7, .ref q8, .ref q9, .ref q10, .ref q11, .int 0, .ref q12, .int 0, .int 0, .int 0, .int 0, .int 0, .int 0, .int 0, .int 0, .null, .int 0, .int 0, .int 0])), (q1, .inl (g.2.1.1, 53, .inl (fun _ => 0))), (q2, .inl (g.2.1.1, 636, .inl (fun _ => 0))), (q3, .inl (g.2.1.1, 4, .inl (fun _ => 0))), (q4, .inl (g.2.1.1, 4, .inl (fun _ => 0))), (q5, .inl (g.2.1.2.1, 2, .inl (fun _ => 0))), (q6, .inl (g.2.1.1, 106, .inl (fun _ => 0))), (q7, .inl (g.2.1.1, 18, .inl (fun _ => 0))), (q8, .inl (g.2.1.1, 18, .inl (fun _ => 0))), (q9, .inl (g.2.1.1, 18, .inl (fun _ => 0))), (q10, .inl (g.2.1.1, 18, .inl (fun _ => 0))), (q11, .inl (g.2.1.1, 18, .inl (fun _ => 0))), (q12, .inl (g.2.1.1, 120, .inl (fun _ => 0)))]) rfl ?_
  refine n_aload_n K 0 dX6_init_98 rfl rfl ?_
  refine n_bipush K (v := 53) dX6_init_99 (by decide) ?_
  refine n_newaI K (N := 53) (by decide) (by decide) (Nat.le_of_ble_eq_true rfl) (Nat.le_of_ble_eq_true rfl) (Nat.le_of_ble_eq_true rfl) dX6_init_101 (fun q13 => ?_)
  refine n_ws (ws1 := [(h0, .inr (6, [.int 0, .ref q1, .int 0, .int 0, .ref q2, .int 0, .ref q3, .ref q4, .ref q5, .ref q6, .ref q7, .ref q8, .ref q9, .ref q10, .ref q11, .int 0, .ref q12, .int 0, .int 0, .int 0, .int 0, .int 0, .int 0, .int 0, .int 0, .null, .int 0, .int 0, .int 0])), (q1, .inl (g.2.1.1, 53, .inl (fun _ => 0))), (q2, .inl (g.2.1.1, 636, .inl (fun _ => 0))), (q3, .inl (g.2.1.1, 4, .inl (fun _ => 0))), (q4, .inl (g.2.1.1, 4, .inl (fun _ => 0))), (q5, .inl (g.2.1.2.1, 2, .inl (fun _ => 0))), (q6, .inl (g.2.1.1, 106, .inl (fun _ => 0))), (q7, .inl (g.2.1.1, 18, .inl (fun _ => 0))), (q8, .inl (g.2.1.1, 18, .inl (fun _ => 0))), (q9, .inl (g.2.1.1, 18, .inl (fun _ => 0))), (q10, .inl (g.2.1.1, 18, .inl (fun _ => 0))), (q11, .inl (g.2.1.1, 18, .inl (fun _ => 0))), (q12, .inl (g.2.1.1, 120, .inl (fun _ => 0))), (q13, .inl (g.2.1.1, 53, .inl (fun _ => 0)))]) rfl ?_
  refine n_cs (c1 := 13) (s1 := 1068) rfl rfl ?_
  refine n_putF K rfl rfl 0 rfl ff_6_read qw_569 rfl rfl (Nat.le_of_ble_eq_true rfl) dX6_init_103 ?_
  refine n_ws (ws1 := [(h0, .inr (6, [.int 0, .ref q1, .int 0, .int 0, .ref q2, .int 0, .ref q3, .ref q4, .ref q5, .ref q6, .ref q7, .ref q8, .ref q9, .ref q10, .ref q11, .int 0, .ref q12, .int 0, .int 0, .int 0, .int 0, .int 0, .int 0, .int 0, .int 0, .ref q13, .int 0, .int 0, .int 0])), (q1, .inl (g.2.1.1, 53, .inl (fun _ => 0))), (q2, .inl (g.2.1.1, 636, .inl (fun _ => 0))), (q3, .inl (g.2.1.1, 4, .inl (fun _ => 0))), (q4, .inl (g.2.1.1, 4, .inl (fun _ => 0))), (q5, .inl (g.2.1.2.1, 2, .inl (fun _ => 0))), (q6, .inl (g.2.1.1, 106, .inl (fun _ => 0))), (q7, .inl (g.2.1.1, 18, .inl (fun _ => 0))), (q8, .inl (g.2.1.1, 18, .inl (fun _ => 0))), (q9, .inl (g.2.1.1, 18, .inl (fun _ => 0))), (q10, .inl (g.2.1.1, 18, .inl (fun _ => 0))), (q11, .inl (g.2.1.1, 18, .inl (fun _ => 0))), (q12, .inl (g.2.1.1, 120, .inl (fun _ => 0))), (q13, .inl (g.2.1.1, 53, .inl (fun _ => 0)))]) rfl ?_
  refine n_aload_n K 0 dX6_init_106 rfl rfl ?_
  refine n_get K 0 rfl ff_6_now qw_545 rfl dX6_init_107 ?_
  refine n_begins K (ad := (fun c => ([h0, q1, q2, q3, q4, q5, q6, q7, q8, q9, q10, q11, q12, q13]).getD c 0)) (M := c_M []) rfl qw_541 ⟨by decide, by decide⟩ ⟨by decide, by decide⟩ (Nat.le_of_ble_eq_true rfl) dX6_init_110 (fun M1 hM1 => ?_)
  refine n_aload_n K 0 dX6_init_113 rfl rfl ?_
  refine n_iconst K (v := 1) dX6_init_114 (by decide) ?_
  refine n_putI K 0 (fs := rs_fl (fun c => ([h0, q1, q2, q3, q4, q5, q6, q7, q8, q9, q10, q11, q12, q13]).getD c 0) (M1 0) 0 [0, 2, 0, 0, 3, 0, 4, 5, 6, 7, 8, 9, 10, 11, 12, 0, 13, 0, 0, 0, 0, 0, 0, 0, 0, 14, 0, 0, 0]) rfl ff_6_taper qw_544 rfl rfl (Nat.le_of_ble_eq_true rfl) dX6_init_115 ?_
  have e1 : (rs_ws (g.1, g.2.1, (fun c => ([h0, q1, q2, q3, q4, q5, q6, q7, q8, q9, q10, q11, q12, q13]).getD c 0)) mk M1).set 0 (h0, .inr (6, (rs_fl (fun c => ([h0, q1, q2, q3, q4, q5, q6, q7, q8, q9, q10, q11, q12, q13]).getD c 0) (M1 0) 0 [0, 2, 0, 0, 3, 0, 4, 5, 6, 7, 8, 9, 10, 11, 12, 0, 13, 0, 0, 0, 0, 0, 0, 0, 0, 14, 0, 0, 0]).set 0 (.int 1))) = rs_ws (g.1, g.2.1, (fun c => ([h0, q1, q2, q3, q4, q5, q6, q7, q8, q9, q10, q11, q12, q13]).getD c 0)) mk (rs_st M1 0 0 1) := by
    refine rs_ws_set (k := (10, 0, [0, 2, 0, 0, 3, 0, 4, 5, 6, 7, 8, 9, 10, 11, 12, 0, 13, 0, 0, 0, 0, 0, 0, 0, 0, 14, 0, 0, 0])) rfl ?_ (fun c hc => rs_st_ne M1 0 1 hc)
    rw [rs_fl_set _ _ _ _ _ _ rfl, Nat.zero_add, rs_st_row]
    rfl
  refine n_ws e1 ?_
  exact hr _ (fun c => ([h0, q1, q2, q3, q4, q5, q6, q7, q8, q9, q10, q11, q12, q13]).getD c 0) (rs_st M1 0 0 1) _ _ dX6_init_118 rfl rfl ⟨by rw [rs_st_ne _ _ _ (by decide)]; exact hM1.1, rs_st_eq _ _ _ _, fun j hj => by rw [rs_st_nk _ _ _ hj, hM1.2 0 (by decide)]; rfl, fun c c0 c1 => by rw [rs_st_ne _ _ _ c0, hM1.2 c c1]; rfl⟩
