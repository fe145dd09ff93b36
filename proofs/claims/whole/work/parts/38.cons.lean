theorem df_0 : ∀ j, j < 5 → defaultValue (tyX0 j) = vp_V [.null, .null, .null, .null, .int 0] j := fun j hj => match j, hj with
  | 0, _ => rfl
  | 1, _ => rfl
  | 2, _ => rfl
  | 3, _ => rfl
  | 4, _ => rfl
  | j + 5, hj => absurd hj (by omega)
theorem df_1 : ∀ j, j < 8 → defaultValue (tyX1 j) = vp_V [.null, .null, .null, .int 0, .int 0, .int 0, .int 0, .int 0] j := fun j hj => match j, hj with
  | 0, _ => rfl
  | 1, _ => rfl
  | 2, _ => rfl
  | 3, _ => rfl
  | 4, _ => rfl
  | 5, _ => rfl
  | 6, _ => rfl
  | 7, _ => rfl
  | j + 8, hj => absurd hj (by omega)
theorem df_2 : ∀ j, j < 9 → defaultValue (tyX2 j) = vp_V [.null, .int 0, .int 0, .int 0, .int 0, .int 0, .int 0, .int 0, .null] j := fun j hj => match j, hj with
  | 0, _ => rfl
  | 1, _ => rfl
  | 2, _ => rfl
  | 3, _ => rfl
  | 4, _ => rfl
  | 5, _ => rfl
  | 6, _ => rfl
  | 7, _ => rfl
  | 8, _ => rfl
  | j + 9, hj => absurd hj (by omega)
theorem df_3 : ∀ j, j < 5 → defaultValue (tyX3 j) = vp_V [.null, .null, .int 0, .int 0, .int 0] j := fun j hj => match j, hj with
  | 0, _ => rfl
  | 1, _ => rfl
  | 2, _ => rfl
  | 3, _ => rfl
  | 4, _ => rfl
  | j + 5, hj => absurd hj (by omega)
theorem df_4 : ∀ j, j < 6 → defaultValue (tyX4 j) = vp_V [.int 0, .int 0, .int 0, .int 0, .int 0, .int 0] j := fun j hj => match j, hj with
  | 0, _ => rfl
  | 1, _ => rfl
  | 2, _ => rfl
  | 3, _ => rfl
  | 4, _ => rfl
  | 5, _ => rfl
  | j + 6, hj => absurd hj (by omega)
theorem df_5 : ∀ j, j < 11 → defaultValue (tyX5 j) = vp_V [.null, .null, .null, .null, .null, .null, .null, .null, .null, .null, .int 0] j := fun j hj => match j, hj with
  | 0, _ => rfl
  | 1, _ => rfl
  | 2, _ => rfl
  | 3, _ => rfl
  | 4, _ => rfl
  | 5, _ => rfl
  | 6, _ => rfl
  | 7, _ => rfl
  | 8, _ => rfl
  | 9, _ => rfl
  | 10, _ => rfl
  | j + 11, hj => absurd hj (by omega)
theorem df_6 : ∀ j, j < 29 → defaultValue (tyX6 j) = vp_V [.int 0, .null, .int 0, .int 0, .null, .int 0, .null, .null, .null, .null, .null, .null, .null, .null, .null, .int 0, .null, .int 0, .int 0, .int 0, .int 0, .int 0, .int 0, .int 0, .int 0, .null, .int 0, .int 0, .int 0] j := fun j hj => match j, hj with
  | 0, _ => rfl
  | 1, _ => rfl
  | 2, _ => rfl
  | 3, _ => rfl
  | 4, _ => rfl
  | 5, _ => rfl
  | 6, _ => rfl
  | 7, _ => rfl
  | 8, _ => rfl
  | 9, _ => rfl
  | 10, _ => rfl
  | 11, _ => rfl
  | 12, _ => rfl
  | 13, _ => rfl
  | 14, _ => rfl
  | 15, _ => rfl
  | 16, _ => rfl
  | 17, _ => rfl
  | 18, _ => rfl
  | 19, _ => rfl
  | 20, _ => rfl
  | 21, _ => rfl
  | 22, _ => rfl
  | 23, _ => rfl
  | 24, _ => rfl
  | 25, _ => rfl
  | 26, _ => rfl
  | 27, _ => rfl
  | 28, _ => rfl
  | j + 29, hj => absurd hj (by omega)
/-! the worlds that the constructors make -/
def c_z : Nat → Int32 := fun _ => 0
def c_s : Nat → Int32 := fun j => match j with
  | 1 => -9
  | _ => 0
def c_l : Nat → Int32 := fun j => match j with
  | 4 => 1
  | 5 => 1
  | _ => 0
def c_k : Nat → Int32 := fun j => match j with
  | 3 => -1
  | _ => 0
def c_M (l : List (Nat → Int32)) : rs_M := fun c => l.getD c c_z
abbrev cs_U : Type := (Nat → Nat) × rs_M
def kL : List rs_k := [(5, 0, [2, 3, 4, 0, 0, 0, 0, 0]), (2, 13, [4, 5, 6, 7, 8, 9, 10, 11, 12, 13, 14, 15, 16]), (0, 18, []), (0, 18, []), (8, 0, [0, 0, 0, 0, 0, 0]), (8, 0, [0, 0, 0, 0, 0, 0]), (8, 0, [0, 0, 0, 0, 0, 0]), (8, 0, [0, 0, 0, 0, 0, 0]), (8, 0, [0, 0, 0, 0, 0, 0]), (8, 0, [0, 0, 0, 0, 0, 0]), (8, 0, [0, 0, 0, 0, 0, 0]), (8, 0, [0, 0, 0, 0, 0, 0]), (8, 0, [0, 0, 0, 0, 0, 0]), (8, 0, [0, 0, 0, 0, 0, 0]), (8, 0, [0, 0, 0, 0, 0, 0]), (8, 0, [0, 0, 0, 0, 0, 0]), (8, 0, [0, 0, 0, 0, 0, 0])]
def kS : List rs_k := [(6, 0, [2, 0, 0, 0, 0, 0, 0, 0, 3]), (0, 120, []), (1, 3, [])]
def kD : List rs_k := [(4, 0, [2, 3, 4, 5, 0]), (0, 12, []), (0, 12, []), (0, 12, []), (0, 12, [])]
def kE : List rs_k := [(7, 0, [2, 3, 0, 0, 0]), (2, 6, [3, 4, 5, 6, 7, 8]), (0, 5, []), (8, 0, [0, 0, 0, 0, 0, 0]), (8, 0, [0, 0, 0, 0, 0, 0]), (8, 0, [0, 0, 0, 0, 0, 0]), (8, 0, [0, 0, 0, 0, 0, 0]), (8, 0, [0, 0, 0, 0, 0, 0]), (8, 0, [0, 0, 0, 0, 0, 0])]
def MX : rs_M := c_M [c_z, c_l, c_z, c_z, c_z, c_s, c_s, c_s, c_s, c_s, c_s, c_s, c_s, c_s, c_s, c_s, c_s, c_s, c_l, c_z, c_z, c_z, c_s, c_s, c_s, c_s, c_s, c_s, c_s, c_s, c_s, c_s, c_s, c_s, c_s, c_z, c_z, c_k, c_z, c_z, c_z, c_z, c_z, c_z, c_z, c_z, c_z, c_z, c_s, c_s, c_s, c_s, c_s, c_s, c_s, c_z, c_z, c_l, c_z, c_z, c_z, c_s, c_s, c_s, c_s, c_s, c_s, c_s, c_s, c_s, c_s, c_s, c_s, c_s, c_l, c_z, c_z, c_z, c_s, c_s, c_s, c_s, c_s, c_s, c_s, c_s, c_s, c_s, c_s, c_s, c_s]
def cs_sp (u : cs_U) : va_W := [(u.1 0, .inr (4, [.int 0, .int (-9), .int 0, .int 0, .int 0, .int 0]))]
def cs_ln (g : rs_G) (u : cs_U) : va_W := rs_ws (g.1, g.2.1, u.1) kL (c_M [c_l, c_z, c_z, c_z, c_s, c_s, c_s, c_s, c_s, c_s, c_s, c_s, c_s, c_s, c_s, c_s, c_s])
def cs_sc (g : rs_G) (u : cs_U) : va_W := rs_ws (g.1, g.2.1, u.1) kS (c_M [c_k])
def cs_de (g : rs_G) (u : cs_U) : va_W := rs_ws (g.1, g.2.1, u.1) kD (c_M [])
def cs_se (g : rs_G) (u : cs_U) : va_W := rs_ws (g.1, g.2.1, u.1) kE (c_M [c_z, c_z, c_z, c_s, c_s, c_s, c_s, c_s, c_s])
def cs_x (g : rs_G) (u : cs_U) : va_W := rs_ws (g.1, g.2.1, u.1) xk MX
def cs_m (g : rs_G) (u : cs_U) : va_W := rs_ws (g.1, g.2.1, u.1) mk u.2
set_option maxHeartbeats 4000000 in
set_option maxRecDepth 100000 in
theorem ci_Spot (l : Launch) (g : rs_G) (t : Nat × Nat) : cs_C l g t yX4_init cX4_init 1 1 0 0 4 [.int 0, .int 0, .int 0, .int 0, .int 0, .int 0] cs_sp (fun _ => True) := by
  refine cs_of (plainFor_of_name (by decide)) rfl (by decide) (fun h0 Z K hr => ?_)
  refine n_aload_n K 0 dX4_init_0 rfl rfl ?_
  refine n_objInit K (rest := []) dX4_init_1 qw_30 ⟨by decide, by decide⟩ ?_
  refine n_aload_n K 0 dX4_init_4 rfl rfl ?_
  refine n_iconst K (v := 0) dX4_init_5 (by decide) ?_
  refine n_putI K 0 rfl ff_4_ringNumber qw_31 rfl rfl (Nat.le_of_ble_eq_true rfl) dX4_init_6 ?_
  refine n_ws (ws1 := [(h0, .inr (4, [.int 0, .int 0, .int 0, .int 0, .int 0, .int 0]))]) rfl ?_
  refine n_aload_n K 0 dX4_init_9 rfl rfl ?_
  refine n_bipush K (v := (-9)) dX4_init_10 (by decide) ?_
  refine n_putI K 0 rfl ff_4_key qw_33 rfl rfl (Nat.le_of_ble_eq_true rfl) dX4_init_12 ?_
  refine n_ws (ws1 := [(h0, .inr (4, [.int 0, .int (-9), .int 0, .int 0, .int 0, .int 0]))]) rfl ?_
  refine n_aload_n K 0 dX4_init_15 rfl rfl ?_
  refine n_iconst K (v := 0) dX4_init_16 (by decide) ?_
  refine n_putI K 0 rfl ff_4_slopeX qw_37 rfl rfl (Nat.le_of_ble_eq_true rfl) dX4_init_17 ?_
  refine n_ws (ws1 := [(h0, .inr (4, [.int 0, .int (-9), .int 0, .int 0, .int 0, .int 0]))]) rfl ?_
  refine n_aload_n K 0 dX4_init_20 rfl rfl ?_
  refine n_iconst K (v := 0) dX4_init_21 (by decide) ?_
  refine n_putI K 0 rfl ff_4_slopeY qw_40 rfl rfl (Nat.le_of_ble_eq_true rfl) dX4_init_22 ?_
  refine n_ws (ws1 := [(h0, .inr (4, [.int 0, .int (-9), .int 0, .int 0, .int 0, .int 0]))]) rfl ?_
  refine n_aload_n K 0 dX4_init_25 rfl rfl ?_
  refine n_iconst K (v := 0) dX4_init_26 (by decide) ?_
  refine n_putI K 0 rfl ff_4_placeX qw_43 rfl rfl (Nat.le_of_ble_eq_true rfl) dX4_init_27 ?_
  refine n_ws (ws1 := [(h0, .inr (4, [.int 0, .int (-9), .int 0, .int 0, .int 0, .int 0]))]) rfl ?_
  refine n_aload_n K 0 dX4_init_30 rfl rfl ?_
  refine n_iconst K (v := 0) dX4_init_31 (by decide) ?_
  refine n_putI K 0 rfl ff_4_placeY qw_46 rfl rfl (Nat.le_of_ble_eq_true rfl) dX4_init_32 ?_
  refine n_ws (ws1 := [(h0, .inr (4, [.int 0, .int (-9), .int 0, .int 0, .int 0, .int 0]))]) rfl ?_
  exact hr _ (fun _ => h0) (c_M []) _ _ dX4_init_35 rfl rfl trivial
set_option maxHeartbeats 4000000 in
set_option maxRecDepth 100000 in
theorem ci_Deeds (l : Launch) (g : rs_G) (t : Nat × Nat) : cs_C l g t yX0_init cX0_init 1 1 4 48 0 [.null, .null, .null, .null, .int 0] (cs_de g) (fun _ => True) := by
  refine cs_of (plainFor_of_name (by decide)) rfl (by decide) (fun h0 Z K hr => ?_)
  refine n_aload_n K 0 dX0_init_0 rfl rfl ?_
  refine n_objInit K (rest := []) dX0_init_1 qw_141 ⟨by decide, by decide⟩ ?_
  refine n_aload_n K 0 dX0_init_4 rfl rfl ?_
  refine n_bipush K (v := 12) dX0_init_5 (by decide) ?_
  refine n_newaI K (N := 12) (by decide) (by decide) (Nat.le_of_ble_eq_true rfl) (Nat.le_of_ble_eq_true rfl) (Nat.le_of_ble_eq_true rfl) dX0_init_7 (fun q1 => ?_)
  refine n_ws (ws1 := [(h0, .inr (0, [.null, .null, .null, .null, .int 0])), (q1, .inl (g.2.1.1, 12, .inl (fun _ => 0)))]) rfl ?_
  refine n_cs (c1 := 1) (s1 := 12) rfl rfl ?_
  refine n_putF K rfl rfl 0 rfl ff_0_kinds qw_142 rfl rfl (Nat.le_of_ble_eq_true rfl) dX0_init_9 ?_
  refine n_ws (ws1 := [(h0, .inr (0, [.ref q1, .null, .null, .null, .int 0])), (q1, .inl (g.2.1.1, 12, .inl (fun _ => 0)))]) rfl ?_
  refine n_aload_n K 0 dX0_init_12 rfl rfl ?_
  refine n_bipush K (v := 12) dX0_init_13 (by decide) ?_
  refine n_newaI K (N := 12) (by decide) (by decide) (Nat.le_of_ble_eq_true rfl) (Nat.le_of_ble_eq_true rfl) (Nat.le_of_ble_eq_true rfl) dX0_init_15 (fun q2 => ?_)
  refine n_ws (ws1 := [(h0, .inr (0, [.ref q1, .null, .null, .null, .int 0])), (q1, .inl (g.2.1.1, 12, .inl (fun _ => 0))), (q2, .inl (g.2.1.1, 12, .inl (fun _ => 0)))]) rfl ?_
  refine n_cs (c1 := 2) (s1 := 24) rfl rfl ?_
  refine n_putF K rfl rfl 0 rfl ff_0_which qw_143 rfl rfl (Nat.le_of_ble_eq_true rfl) dX0_init_17 ?_
  refine n_ws (ws1 := [(h0, .inr (0, [.ref q1, .ref q2, .null, .null, .int 0])), (q1, .inl (g.2.1.1, 12, .inl (fun _ => 0))), (q2, .inl (g.2.1.1, 12, .inl (fun _ => 0)))]) rfl ?_
  refine n_aload_n K 0 dX0_init_20 rfl rfl ?_
  refine n_bipush K (v := 12) dX0_init_21 (by decide) ?_
  refine n_newaI K (N := 12) (by decide) (by decide) (Nat.le_of_ble_eq_true rfl) (Nat.le_of_ble_eq_true rfl) (Nat.le_of_ble_eq_true rfl) dX0_init_23 (fun q3 => ?_)
  refine n_ws (ws1 := [(h0, .inr (0, [.ref q1, .ref q2, .null, .null, .int 0])), (q1, .inl (g.2.1.1, 12, .inl (fun _ => 0))), (q2, .inl (g.2.1.1, 12, .inl (fun _ => 0))), (q3, .inl (g.2.1.1, 12, .inl (fun _ => 0)))]) rfl ?_
  refine n_cs (c1 := 3) (s1 := 36) rfl rfl ?_
  refine n_putF K rfl rfl 0 rfl ff_0_wasFirst qw_144 rfl rfl (Nat.le_of_ble_eq_true rfl) dX0_init_25 ?_
  refine n_ws (ws1 := [(h0, .inr (0, [.ref q1, .ref q2, .ref q3, .null, .int 0])), (q1, .inl (g.2.1.1, 12, .inl (fun _ => 0))), (q2, .inl (g.2.1.1, 12, .inl (fun _ => 0))), (q3, .inl (g.2.1.1, 12, .inl (fun _ => 0)))]) rfl ?_
  refine n_aload_n K 0 dX0_init_28 rfl rfl ?_
  refine n_bipush K (v := 12) dX0_init_29 (by decide) ?_
  refine n_newaI K (N := 12) (by decide) (by decide) (Nat.le_of_ble_eq_true rfl) (Nat.le_of_ble_eq_true rfl) (Nat.le_of_ble_eq_true rfl) dX0_init_31 (fun q4 => ?_)
  refine n_ws (ws1 := [(h0, .inr (0, [.ref q1, .ref q2, .ref q3, .null, .int 0])), (q1, .inl (g.2.1.1, 12, .inl (fun _ => 0))), (q2, .inl (g.2.1.1, 12, .inl (fun _ => 0))), (q3, .inl (g.2.1.1, 12, .inl (fun _ => 0))), (q4, .inl (g.2.1.1, 12, .inl (fun _ => 0)))]) rfl ?_
  refine n_cs (c1 := 4) (s1 := 48) rfl rfl ?_
  refine n_putF K rfl rfl 0 rfl ff_0_wasSecond qw_145 rfl rfl (Nat.le_of_ble_eq_true rfl) dX0_init_33 ?_
  refine n_ws (ws1 := [(h0, .inr (0, [.ref q1, .ref q2, .ref q3, .ref q4, .int 0])), (q1, .inl (g.2.1.1, 12, .inl (fun _ => 0))), (q2, .inl (g.2.1.1, 12, .inl (fun _ => 0))), (q3, .inl (g.2.1.1, 12, .inl (fun _ => 0))), (q4, .inl (g.2.1.1, 12, .inl (fun _ => 0)))]) rfl ?_
  refine n_aload_n K 0 dX0_init_36 rfl rfl ?_
  refine n_iconst K (v := 0) dX0_init_37 (by decide) ?_
  refine n_putI K 0 rfl ff_0_size qw_146 rfl rfl (Nat.le_of_ble_eq_true rfl) dX0_init_38 ?_
  refine n_ws (ws1 := [(h0, .inr (0, [.ref q1, .ref q2, .ref q3, .ref q4, .int 0])), (q1, .inl (g.2.1.1, 12, .inl (fun _ => 0))), (q2, .inl (g.2.1.1, 12, .inl (fun _ => 0))), (q3, .inl (g.2.1.1, 12, .inl (fun _ => 0))), (q4, .inl (g.2.1.1, 12, .inl (fun _ => 0)))]) rfl ?_
  exact hr _ (fun c => [h0, q1, q2, q3, q4].getD c 0) (c_M []) _ _ dX0_init_41 rfl rfl trivial
set_option maxHeartbeats 4000000 in
set_option maxRecDepth 100000 in
theorem ci_Script (l : Launch) (g : rs_G) (t : Nat × Nat) : cs_C l g t yX2_init cX2_init 1 1 2 123 2 [.null, .int 0, .int 0, .int 0, .int 0, .int 0, .int 0, .int 0, .null] (cs_sc g) (fun _ => True) := by
  refine cs_of (plainFor_of_name (by decide)) rfl (by decide) (fun h0 Z K hr => ?_)
  refine n_aload_n K 0 dX2_init_0 rfl rfl ?_
  refine n_objInit K (rest := []) dX2_init_1 qw_105 ⟨by decide, by decide⟩ ?_
  refine n_aload_n K 0 dX2_init_4 rfl rfl ?_
  refine n_bipush K (v := 120) dX2_init_5 (by decide) ?_
  refine n_newaI K (N := 120) (by decide) (by decide) (Nat.le_of_ble_eq_true rfl) (Nat.le_of_ble_eq_true rfl) (Nat.le_of_ble_eq_true rfl) dX2_init_7 (fun q1 => ?_)
  refine n_ws (ws1 := [(h0, .inr (2, [.null, .int 0, .int 0, .int 0, .int 0, .int 0, .int 0, .int 0, .null])), (q1, .inl (g.2.1.1, 120, .inl (fun _ => 0)))]) rfl ?_
  refine n_cs (c1 := 1) (s1 := 120) rfl rfl ?_
  refine n_putF K rfl rfl 0 rfl ff_2_letters qw_106 rfl rfl (Nat.le_of_ble_eq_true rfl) dX2_init_9 ?_
  refine n_ws (ws1 := [(h0, .inr (2, [.ref q1, .int 0, .int 0, .int 0, .int 0, .int 0, .int 0, .int 0, .null])), (q1, .inl (g.2.1.1, 120, .inl (fun _ => 0)))]) rfl ?_
  refine n_aload_n K 0 dX2_init_12 rfl rfl ?_
  refine n_iconst K (v := 0) dX2_init_13 (by decide) ?_
  refine n_putI K 0 rfl ff_2_length qw_107 rfl rfl (Nat.le_of_ble_eq_true rfl) dX2_init_14 ?_
  refine n_ws (ws1 := [(h0, .inr (2, [.ref q1, .int 0, .int 0, .int 0, .int 0, .int 0, .int 0, .int 0, .null])), (q1, .inl (g.2.1.1, 120, .inl (fun _ => 0)))]) rfl ?_
  refine n_aload_n K 0 dX2_init_17 rfl rfl ?_
  refine n_iconst K (v := 0) dX2_init_18 (by decide) ?_
  refine n_putI K 0 rfl ff_2_start qw_109 rfl rfl (Nat.le_of_ble_eq_true rfl) dX2_init_19 ?_
  refine n_ws (ws1 := [(h0, .inr (2, [.ref q1, .int 0, .int 0, .int 0, .int 0, .int 0, .int 0, .int 0, .null])), (q1, .inl (g.2.1.1, 120, .inl (fun _ => 0)))]) rfl ?_
  refine n_aload_n K 0 dX2_init_22 rfl rfl ?_
  refine n_iconst K (v := (-1)) dX2_init_23 (by decide) ?_
  refine n_putI K 0 rfl ff_2_kind qw_110 rfl rfl (Nat.le_of_ble_eq_true rfl) dX2_init_24 ?_
  refine n_ws (ws1 := [(h0, .inr (2, [.ref q1, .int 0, .int 0, .int (-1), .int 0, .int 0, .int 0, .int 0, .null])), (q1, .inl (g.2.1.1, 120, .inl (fun _ => 0)))]) rfl ?_
  refine n_aload_n K 0 dX2_init_27 rfl rfl ?_
  refine n_iconst K (v := 0) dX2_init_28 (by decide) ?_
  refine n_putI K 0 rfl ff_2_number qw_111 rfl rfl (Nat.le_of_ble_eq_true rfl) dX2_init_29 ?_
  refine n_ws (ws1 := [(h0, .inr (2, [.ref q1, .int 0, .int 0, .int (-1), .int 0, .int 0, .int 0, .int 0, .null])), (q1, .inl (g.2.1.1, 120, .inl (fun _ => 0)))]) rfl ?_
  refine n_aload_n K 0 dX2_init_32 rfl rfl ?_
  refine n_iconst K (v := 0) dX2_init_33 (by decide) ?_
  refine n_putI K 0 rfl ff_2_behind qw_112 rfl rfl (Nat.le_of_ble_eq_true rfl) dX2_init_34 ?_
  refine n_ws (ws1 := [(h0, .inr (2, [.ref q1, .int 0, .int 0, .int (-1), .int 0, .int 0, .int 0, .int 0, .null])), (q1, .inl (g.2.1.1, 120, .inl (fun _ => 0)))]) rfl ?_
  refine n_aload_n K 0 dX2_init_37 rfl rfl ?_
  refine n_iconst K (v := 0) dX2_init_38 (by decide) ?_
  refine n_putI K 0 rfl ff_2_wishesTold qw_113 rfl rfl (Nat.le_of_ble_eq_true rfl) dX2_init_39 ?_
  refine n_ws (ws1 := [(h0, .inr (2, [.ref q1, .int 0, .int 0, .int (-1), .int 0, .int 0, .int 0, .int 0, .null])), (q1, .inl (g.2.1.1, 120, .inl (fun _ => 0)))]) rfl ?_
  refine n_aload_n K 0 dX2_init_42 rfl rfl ?_
  refine n_iconst K (v := 0) dX2_init_43 (by decide) ?_
  refine n_putI K 0 rfl ff_2_taperTold qw_114 rfl rfl (Nat.le_of_ble_eq_true rfl) dX2_init_44 ?_
  refine n_ws (ws1 := [(h0, .inr (2, [.ref q1, .int 0, .int 0, .int (-1), .int 0, .int 0, .int 0, .int 0, .null])), (q1, .inl (g.2.1.1, 120, .inl (fun _ => 0)))]) rfl ?_
  refine n_aload_n K 0 dX2_init_47 rfl rfl ?_
  refine n_iconst K (v := 3) dX2_init_48 (by decide) ?_
  refine n_newaZ K (N := 3) (by decide) (by decide) (Nat.le_of_ble_eq_true rfl) (Nat.le_of_ble_eq_true rfl) (Nat.le_of_ble_eq_true rfl) dX2_init_49 (fun q2 => ?_)
  refine n_ws (ws1 := [(h0, .inr (2, [.ref q1, .int 0, .int 0, .int (-1), .int 0, .int 0, .int 0, .int 0, .null])), (q1, .inl (g.2.1.1, 120, .inl (fun _ => 0))), (q2, .inl (g.2.1.2.1, 3, .inl (fun _ => 0)))]) rfl ?_
  refine n_cs (c1 := 2) (s1 := 123) rfl rfl ?_
  refine n_putF K rfl rfl 0 rfl ff_2_ruleTold qw_115 rfl rfl (Nat.le_of_ble_eq_true rfl) dX2_init_51 ?_
  refine n_ws (ws1 := [(h0, .inr (2, [.ref q1, .int 0, .int 0, .int (-1), .int 0, .int 0, .int 0, .int 0, .ref q2])), (q1, .inl (g.2.1.1, 120, .inl (fun _ => 0))), (q2, .inl (g.2.1.2.1, 3, .inl (fun _ => 0)))]) rfl ?_
  exact hr _ (fun c => [h0, q1, q2].getD c 0) (c_M []) _ _ dX2_init_54 rfl rfl trivial
theorem cs_list6 {L : List Nat} (h : L.length = 6) : ∃ p0 p1 p2 p3 p4 p5, L = [p0, p1, p2, p3, p4, p5] := by
  match L, h with
  | [p0, p1, p2, p3, p4, p5], _ => exact ⟨p0, p1, p2, p3, p4, p5, rfl⟩
theorem cs_list13 {L : List Nat} (h : L.length = 13) : ∃ p0 p1 p2 p3 p4 p5 p6 p7 p8 p9 p10 p11 p12, L = [p0, p1, p2, p3, p4, p5, p6, p7, p8, p9, p10, p11, p12] := by
  match L, h with
  | [p0, p1, p2, p3, p4, p5, p6, p7, p8, p9, p10, p11, p12], _ => exact ⟨p0, p1, p2, p3, p4, p5, p6, p7, p8, p9, p10, p11, p12, rfl⟩
set_option maxHeartbeats 4000000 in
set_option maxRecDepth 100000 in
theorem ci_Search (l : Launch) (g : rs_G) (t : Nat × Nat) : cs_C l g t yX3_init cX3_init 2 2 8 47 3 [.null, .null, .int 0, .int 0, .int 0] (cs_se g) (fun _ => True) := by
  refine cs_of (plainFor_of_name (by decide)) rfl (by decide) (fun h0 Z K hr => ?_)
  refine n_aload_n K 0 dX3_init_0 rfl rfl ?_
  refine n_objInit K (rest := []) dX3_init_1 qw_164 ⟨by decide, by decide⟩ ?_
  refine n_aload_n K 0 dX3_init_4 rfl rfl ?_
  refine n_bipush K (v := 6) dX3_init_5 (by decide) ?_
  refine n_newqS K (N := 6) qw_165 (by decide) (by decide) (Nat.le_of_ble_eq_true rfl) (Nat.le_of_ble_eq_true rfl) (Nat.le_of_ble_eq_true rfl) dX3_init_7 (fun q1 => ?_)
  refine n_ws (ws1 := [(h0, .inr (3, [.null, .null, .int 0, .int 0, .int 0])), (q1, .inl (g.2.1.2.2.1, 6, .inr (.inr (.inr (.inr (fun _ => none))))))]) rfl ?_
  refine n_cs (c1 := 1) (s1 := 6) rfl rfl ?_
  refine n_putF K rfl rfl 0 rfl ff_3_spots qw_167 rfl rfl (Nat.le_of_ble_eq_true rfl) dX3_init_10 ?_
  refine n_ws (ws1 := [(h0, .inr (3, [.ref q1, .null, .int 0, .int 0, .int 0])), (q1, .inl (g.2.1.2.2.1, 6, .inr (.inr (.inr (.inr (fun _ => none))))))]) rfl ?_
  refine n_aload_n K 0 dX3_init_13 rfl rfl ?_
  refine n_iconst K (v := 5) dX3_init_14 (by decide) ?_
  refine n_newaI K (N := 5) (by decide) (by decide) (Nat.le_of_ble_eq_true rfl) (Nat.le_of_ble_eq_true rfl) (Nat.le_of_ble_eq_true rfl) dX3_init_15 (fun q2 => ?_)
  refine n_ws (ws1 := [(h0, .inr (3, [.ref q1, .null, .int 0, .int 0, .int 0])), (q1, .inl (g.2.1.2.2.1, 6, .inr (.inr (.inr (.inr (fun _ => none)))))), (q2, .inl (g.2.1.1, 5, .inl (fun _ => 0)))]) rfl ?_
  refine n_cs (c1 := 2) (s1 := 11) rfl rfl ?_
  refine n_putF K rfl rfl 0 rfl ff_3_firstRow qw_168 rfl rfl (Nat.le_of_ble_eq_true rfl) dX3_init_17 ?_
  refine n_ws (ws1 := [(h0, .inr (3, [.ref q1, .ref q2, .int 0, .int 0, .int 0])), (q1, .inl (g.2.1.2.2.1, 6, .inr (.inr (.inr (.inr (fun _ => none)))))), (q2, .inl (g.2.1.1, 5, .inl (fun _ => 0)))]) rfl ?_
  refine n_aload_n K 0 dX3_init_20 rfl rfl ?_
  refine n_iconst K (v := 0) dX3_init_21 (by decide) ?_
  refine n_putI K 0 rfl ff_3_ahead qw_170 rfl rfl (Nat.le_of_ble_eq_true rfl) dX3_init_22 ?_
  refine n_ws (ws1 := [(h0, .inr (3, [.ref q1, .ref q2, .int 0, .int 0, .int 0])), (q1, .inl (g.2.1.2.2.1, 6, .inr (.inr (.inr (.inr (fun _ => none)))))), (q2, .inl (g.2.1.1, 5, .inl (fun _ => 0)))]) rfl ?_
  refine n_aload_n K 0 dX3_init_25 rfl rfl ?_
  refine n_iconst K (v := 0) dX3_init_26 (by decide) ?_
  refine n_putI K 0 rfl ff_3_rows qw_172 rfl rfl (Nat.le_of_ble_eq_true rfl) dX3_init_27 ?_
  refine n_ws (ws1 := [(h0, .inr (3, [.ref q1, .ref q2, .int 0, .int 0, .int 0])), (q1, .inl (g.2.1.2.2.1, 6, .inr (.inr (.inr (.inr (fun _ => none)))))), (q2, .inl (g.2.1.1, 5, .inl (fun _ => 0)))]) rfl ?_
  refine n_aload_n K 0 dX3_init_30 rfl rfl ?_
  refine n_iconst K (v := 0) dX3_init_31 (by decide) ?_
  refine n_putI K 0 rfl ff_3_least qw_174 rfl rfl (Nat.le_of_ble_eq_true rfl) dX3_init_32 ?_
  refine n_ws (ws1 := [(h0, .inr (3, [.ref q1, .ref q2, .int 0, .int 0, .int 0])), (q1, .inl (g.2.1.2.2.1, 6, .inr (.inr (.inr (.inr (fun _ => none)))))), (q2, .inl (g.2.1.1, 5, .inl (fun _ => 0)))]) rfl ?_
  refine n_iconst K (v := 0) dX3_init_35 (by decide) ?_
  refine n_istore_n K [(1, .int 0), (0, .ref h0)] dX3_init_36 rfl (by decide) rfl ?_
  have lp : ∀ (f n : Nat) (L : List Nat), L.length = n → 6 - n < f → n ≤ 6 → Z ([(h0, .inr (3, [.ref q1, .ref q2, .int 0, .int 0, .int 0])), (q1, .inl (g.2.1.2.2.1, 6, .inr (.inr (.inr (.inr (fun i => L[i]?)))))), (q2, .inl (g.2.1.1, 5, .inl (fun _ => 0)))] ++ L.map (fun q => (q, .inr (4, [.int 0, .int (-9), .int 0, .int 0, .int 0, .int 0])))) (2 + n) (11 + 6 * n) 37 [(1, .int (nI n)), (0, .ref h0)] [] := by
    intro f
    induction f with
    | zero =>
      intro n L hL hf
      exact absurd hf (Nat.not_lt_zero _)
    | succ f ih =>
      intro n L hL hf hn
      refine n_iload_n K 0 dX3_init_37 rfl rfl ?_
      refine n_iconst K (v := 5) dX3_init_38 (by decide) ?_
      refine n_icmp_gt K 61 dX3_init_39 (by decide) (fun h => ?_) (fun h => ?_)
      · have h1 : 5 < n := (nf_lt (X := 5) (Y := n) rfl rfl (by decide) (by omega)).mp h
        have h2 : n = 6 := by omega
        subst h2
        obtain ⟨p0, p1, p2, p3, p4, p5, rfl⟩ := cs_list6 hL
        have e : (fun i : Nat => ([p0, p1, p2, p3, p4, p5] : List Nat)[i]?) = fun i : Nat => (([3, 4, 5, 6, 7, 8] : List Nat)[i]?).map (fun c => [h0, q1, q2, p0, p1, p2, p3, p4, p5].getD c 0) := by
          funext i
          rw [← List.getElem?_map]
          rfl
        exact hr _ (fun c => [h0, q1, q2, p0, p1, p2, p3, p4, p5].getD c 0) (c_M []) _ _ dX3_init_61 (by rw [e]; rfl) rfl trivial
      · have h1 : ¬ 5 < n := mt (nf_lt (X := 5) (Y := n) rfl rfl (by decide) (by omega)).mpr h
        refine n_aload_n K 1 dX3_init_42 rfl rfl ?_
        refine n_get K 0 rfl ff_3_spots qw_167 rfl dX3_init_43 ?_
        refine n_iload_n K 0 dX3_init_46 rfl rfl ?_
        refine n_new K (ci := 4) [.int 0, .int 0, .int 0, .int 0, .int 0, .int 0] uw_4 tyX4_ok qw_165 qw_26 qw_3 rfl df_4 (by show 2 + n + 1 ≤ 8; omega) (by show 11 + 6 * n + 6 ≤ 47; omega) dX3_init_47 (fun q => ?_)
        refine n_dup K dX3_init_50 rfl ?_
        refine n_initN K (ci_Spot l g t) mf_X4_init rfl qw_28 (by decide) ⟨by decide, by decide⟩ ⟨by show 2 + n + 1 + 0 ≤ 8; omega, by show 11 + 6 * n + 6 + 0 ≤ 47; omega⟩ dX3_init_51 (Nat.le_of_ble_eq_true rfl) (fun u hu => ?_)
        obtain ⟨hu, -⟩ := hu
        subst hu
        refine n_aastS K 1 (List.length (α := Nat × va_E) ([(h0, .inr (3, [.ref q1, .ref q2, .int 0, .int 0, .int 0])), (q1, .inl (g.2.1.2.2.1, 6, .inr (.inr (.inr (.inr (fun i => L[i]?)))))), (q2, .inl (g.2.1.1, 5, .inl (fun _ => 0)))] ++ L.map (fun q => (q, .inr (4, [.int 0, .int (-9), .int 0, .int 0, .int 0, .int 0]))))) rfl (cs_last _ _) (vp_in_nI (show n < 6 by omega) (by decide)) dX3_init_54 ?_
        have e : List.set (α := Nat × va_E) (([(h0, .inr (3, [.ref q1, .ref q2, .int 0, .int 0, .int 0])), (q1, .inl (g.2.1.2.2.1, 6, .inr (.inr (.inr (.inr (fun i => L[i]?)))))), (q2, .inl (g.2.1.1, 5, .inl (fun _ => 0)))] ++ L.map (fun q => (q, .inr (4, [.int 0, .int (-9), .int 0, .int 0, .int 0, .int 0])))) ++ [(u.1 0, .inr (4, [.int 0, .int (-9), .int 0, .int 0, .int 0, .int 0]))]) 1 (q1, .inl (g.2.1.2.2.1, 6, .inr (.inr (.inr (.inr (va_up (fun i => L[i]?) (nI n).toNatClampNeg (some (u.1 0)))))))) = ([(h0, .inr (3, [.ref q1, .ref q2, .int 0, .int 0, .int 0])), (q1, .inl (g.2.1.2.2.1, 6, .inr (.inr (.inr (.inr (fun i => (L ++ [u.1 0])[i]?)))))), (q2, .inl (g.2.1.1, 5, .inl (fun _ => 0)))] ++ (L ++ [u.1 0]).map (fun q => (q, .inr (4, [.int 0, .int (-9), .int 0, .int 0, .int 0, .int 0])))) := by
          rw [nI_clamp (by omega), ← hL, cs_up, List.map_append]
          simp
        refine n_ws e ?_
        refine n_iinc K 0 [(1, .int (nI (n + 1))), (0, .ref h0)] dX3_init_55 rfl (nI_1 n) (by decide) rfl ?_
        refine n_goto K 37 dX3_init_58 (by decide) ?_
        exact n_cs (by omega) (by omega) (ih (n + 1) (L ++ [u.1 0]) (by rw [List.length_append, hL]; rfl) (by omega) (by omega))
  exact lp 7 0 [] rfl (by omega) (by omega)
set_option maxHeartbeats 4000000 in
set_option maxRecDepth 100000 in
theorem ci_Line (l : Launch) (g : rs_G) (t : Nat × Nat) : cs_C l g t yX1_init cX1_init 2 2 16 127 1 [.null, .null, .null, .int 0, .int 0, .int 0, .int 0, .int 0] (cs_ln g) (fun _ => True) := by
  refine cs_of (plainFor_of_name (by decide)) rfl (by decide) (fun h0 Z K hr => ?_)
  refine n_aload_n K 0 dX1_init_0 rfl rfl ?_
  refine n_objInit K (rest := []) dX1_init_1 qw_23 ⟨by decide, by decide⟩ ?_
  refine n_aload_n K 0 dX1_init_4 rfl rfl ?_
  refine n_bipush K (v := 13) dX1_init_5 (by decide) ?_
  refine n_newqS K (N := 13) qw_24 (by decide) (by decide) (Nat.le_of_ble_eq_true rfl) (Nat.le_of_ble_eq_true rfl) (Nat.le_of_ble_eq_true rfl) dX1_init_7 (fun q1 => ?_)
  refine n_ws (ws1 := [(h0, .inr (1, [.null, .null, .null, .int 0, .int 0, .int 0, .int 0, .int 0])), (q1, .inl (g.2.1.2.2.1, 13, .inr (.inr (.inr (.inr (fun _ => none))))))]) rfl ?_
  refine n_cs (c1 := 1) (s1 := 13) rfl rfl ?_
  refine n_putF K rfl rfl 0 rfl ff_1_spots qw_63 rfl rfl (Nat.le_of_ble_eq_true rfl) dX1_init_10 ?_
  refine n_ws (ws1 := [(h0, .inr (1, [.ref q1, .null, .null, .int 0, .int 0, .int 0, .int 0, .int 0])), (q1, .inl (g.2.1.2.2.1, 13, .inr (.inr (.inr (.inr (fun _ => none))))))]) rfl ?_
  refine n_aload_n K 0 dX1_init_13 rfl rfl ?_
  refine n_bipush K (v := 18) dX1_init_14 (by decide) ?_
  refine n_newaI K (N := 18) (by decide) (by decide) (Nat.le_of_ble_eq_true rfl) (Nat.le_of_ble_eq_true rfl) (Nat.le_of_ble_eq_true rfl) dX1_init_16 (fun q2 => ?_)
  refine n_ws (ws1 := [(h0, .inr (1, [.ref q1, .null, .null, .int 0, .int 0, .int 0, .int 0, .int 0])), (q1, .inl (g.2.1.2.2.1, 13, .inr (.inr (.inr (.inr (fun _ => none)))))), (q2, .inl (g.2.1.1, 18, .inl (fun _ => 0)))]) rfl ?_
  refine n_cs (c1 := 2) (s1 := 31) rfl rfl ?_
  refine n_putF K rfl rfl 0 rfl ff_1_wishX qw_65 rfl rfl (Nat.le_of_ble_eq_true rfl) dX1_init_18 ?_
  refine n_ws (ws1 := [(h0, .inr (1, [.ref q1, .ref q2, .null, .int 0, .int 0, .int 0, .int 0, .int 0])), (q1, .inl (g.2.1.2.2.1, 13, .inr (.inr (.inr (.inr (fun _ => none)))))), (q2, .inl (g.2.1.1, 18, .inl (fun _ => 0)))]) rfl ?_
  refine n_aload_n K 0 dX1_init_21 rfl rfl ?_
  refine n_bipush K (v := 18) dX1_init_22 (by decide) ?_
  refine n_newaI K (N := 18) (by decide) (by decide) (Nat.le_of_ble_eq_true rfl) (Nat.le_of_ble_eq_true rfl) (Nat.le_of_ble_eq_true rfl) dX1_init_24 (fun q3 => ?_)
  refine n_ws (ws1 := [(h0, .inr (1, [.ref q1, .ref q2, .null, .int 0, .int 0, .int 0, .int 0, .int 0])), (q1, .inl (g.2.1.2.2.1, 13, .inr (.inr (.inr (.inr (fun _ => none)))))), (q2, .inl (g.2.1.1, 18, .inl (fun _ => 0))), (q3, .inl (g.2.1.1, 18, .inl (fun _ => 0)))]) rfl ?_
  refine n_cs (c1 := 3) (s1 := 49) rfl rfl ?_
  refine n_putF K rfl rfl 0 rfl ff_1_wishY qw_67 rfl rfl (Nat.le_of_ble_eq_true rfl) dX1_init_26 ?_
  refine n_ws (ws1 := [(h0, .inr (1, [.ref q1, .ref q2, .ref q3, .int 0, .int 0, .int 0, .int 0, .int 0])), (q1, .inl (g.2.1.2.2.1, 13, .inr (.inr (.inr (.inr (fun _ => none)))))), (q2, .inl (g.2.1.1, 18, .inl (fun _ => 0))), (q3, .inl (g.2.1.1, 18, .inl (fun _ => 0)))]) rfl ?_
  refine n_aload_n K 0 dX1_init_29 rfl rfl ?_
  refine n_iconst K (v := 0) dX1_init_30 (by decide) ?_
  refine n_putI K 0 rfl ff_1_rings qw_69 rfl rfl (Nat.le_of_ble_eq_true rfl) dX1_init_31 ?_
  refine n_ws (ws1 := [(h0, .inr (1, [.ref q1, .ref q2, .ref q3, .int 0, .int 0, .int 0, .int 0, .int 0])), (q1, .inl (g.2.1.2.2.1, 13, .inr (.inr (.inr (.inr (fun _ => none)))))), (q2, .inl (g.2.1.1, 18, .inl (fun _ => 0))), (q3, .inl (g.2.1.1, 18, .inl (fun _ => 0)))]) rfl ?_
  refine n_aload_n K 0 dX1_init_34 rfl rfl ?_
  refine n_iconst K (v := 1) dX1_init_35 (by decide) ?_
  refine n_putI K 0 rfl ff_1_taper qw_72 rfl rfl (Nat.le_of_ble_eq_true rfl) dX1_init_36 ?_
  refine n_ws (ws1 := [(h0, .inr (1, [.ref q1, .ref q2, .ref q3, .int 0, .int 1, .int 0, .int 0, .int 0])), (q1, .inl (g.2.1.2.2.1, 13, .inr (.inr (.inr (.inr (fun _ => none)))))), (q2, .inl (g.2.1.1, 18, .inl (fun _ => 0))), (q3, .inl (g.2.1.1, 18, .inl (fun _ => 0)))]) rfl ?_
  refine n_aload_n K 0 dX1_init_39 rfl rfl ?_
  refine n_iconst K (v := 1) dX1_init_40 (by decide) ?_
  refine n_putI K 0 rfl ff_1_bar qw_76 rfl rfl (Nat.le_of_ble_eq_true rfl) dX1_init_41 ?_
  refine n_ws (ws1 := [(h0, .inr (1, [.ref q1, .ref q2, .ref q3, .int 0, .int 1, .int 1, .int 0, .int 0])), (q1, .inl (g.2.1.2.2.1, 13, .inr (.inr (.inr (.inr (fun _ => none)))))), (q2, .inl (g.2.1.1, 18, .inl (fun _ => 0))), (q3, .inl (g.2.1.1, 18, .inl (fun _ => 0)))]) rfl ?_
  refine n_aload_n K 0 dX1_init_44 rfl rfl ?_
  refine n_iconst K (v := 0) dX1_init_45 (by decide) ?_
  refine n_putI K 0 rfl ff_1_way qw_78 rfl rfl (Nat.le_of_ble_eq_true rfl) dX1_init_46 ?_
  refine n_ws (ws1 := [(h0, .inr (1, [.ref q1, .ref q2, .ref q3, .int 0, .int 1, .int 1, .int 0, .int 0])), (q1, .inl (g.2.1.2.2.1, 13, .inr (.inr (.inr (.inr (fun _ => none)))))), (q2, .inl (g.2.1.1, 18, .inl (fun _ => 0))), (q3, .inl (g.2.1.1, 18, .inl (fun _ => 0)))]) rfl ?_
  refine n_aload_n K 0 dX1_init_49 rfl rfl ?_
  refine n_iconst K (v := 0) dX1_init_50 (by decide) ?_
  refine n_putI K 0 rfl ff_1_tail qw_80 rfl rfl (Nat.le_of_ble_eq_true rfl) dX1_init_51 ?_
  refine n_ws (ws1 := [(h0, .inr (1, [.ref q1, .ref q2, .ref q3, .int 0, .int 1, .int 1, .int 0, .int 0])), (q1, .inl (g.2.1.2.2.1, 13, .inr (.inr (.inr (.inr (fun _ => none)))))), (q2, .inl (g.2.1.1, 18, .inl (fun _ => 0))), (q3, .inl (g.2.1.1, 18, .inl (fun _ => 0)))]) rfl ?_
  refine n_iconst K (v := 0) dX1_init_54 (by decide) ?_
  refine n_istore_n K [(1, .int 0), (0, .ref h0)] dX1_init_55 rfl (by decide) rfl ?_
  have lp : ∀ (f n : Nat) (L : List Nat), L.length = n → 13 - n < f → n ≤ 13 → Z ([(h0, .inr (1, [.ref q1, .ref q2, .ref q3, .int 0, .int 1, .int 1, .int 0, .int 0])), (q1, .inl (g.2.1.2.2.1, 13, .inr (.inr (.inr (.inr (fun i => L[i]?)))))), (q2, .inl (g.2.1.1, 18, .inl (fun _ => 0))), (q3, .inl (g.2.1.1, 18, .inl (fun _ => 0)))] ++ L.map (fun q => (q, .inr (4, [.int 0, .int (-9), .int 0, .int 0, .int 0, .int 0])))) (3 + n) (49 + 6 * n) 56 [(1, .int (nI n)), (0, .ref h0)] [] := by
    intro f
    induction f with
    | zero =>
      intro n L hL hf
      exact absurd hf (Nat.not_lt_zero _)
    | succ f ih =>
      intro n L hL hf hn
      refine n_iload_n K 0 dX1_init_56 rfl rfl ?_
      refine n_bipush K (v := 12) dX1_init_57 (by decide) ?_
      refine n_icmp_gt K 81 dX1_init_59 (by decide) (fun h => ?_) (fun h => ?_)
      · have h1 : 12 < n := (nf_lt (X := 12) (Y := n) rfl rfl (by decide) (by omega)).mp h
        have h2 : n = 13 := by omega
        subst h2
        obtain ⟨p0, p1, p2, p3, p4, p5, p6, p7, p8, p9, p10, p11, p12, rfl⟩ := cs_list13 hL
        have e : (fun i : Nat => ([p0, p1, p2, p3, p4, p5, p6, p7, p8, p9, p10, p11, p12] : List Nat)[i]?) = fun i : Nat => (([4, 5, 6, 7, 8, 9, 10, 11, 12, 13, 14, 15, 16] : List Nat)[i]?).map (fun c => [h0, q1, q2, q3, p0, p1, p2, p3, p4, p5, p6, p7, p8, p9, p10, p11, p12].getD c 0) := by
          funext i
          rw [← List.getElem?_map]
          rfl
        exact hr _ (fun c => [h0, q1, q2, q3, p0, p1, p2, p3, p4, p5, p6, p7, p8, p9, p10, p11, p12].getD c 0) (c_M []) _ _ dX1_init_81 (by rw [e]; rfl) rfl trivial
      · have h1 : ¬ 12 < n := mt (nf_lt (X := 12) (Y := n) rfl rfl (by decide) (by omega)).mpr h
        refine n_aload_n K 1 dX1_init_62 rfl rfl ?_
        refine n_get K 0 rfl ff_1_spots qw_63 rfl dX1_init_63 ?_
        refine n_iload_n K 0 dX1_init_66 rfl rfl ?_
        refine n_new K (ci := 4) [.int 0, .int 0, .int 0, .int 0, .int 0, .int 0] uw_4 tyX4_ok qw_24 qw_26 qw_3 rfl df_4 (by show 3 + n + 1 ≤ 16; omega) (by show 49 + 6 * n + 6 ≤ 127; omega) dX1_init_67 (fun q => ?_)
        refine n_dup K dX1_init_70 rfl ?_
        refine n_initN K (ci_Spot l g t) mf_X4_init rfl qw_28 (by decide) ⟨by decide, by decide⟩ ⟨by show 3 + n + 1 + 0 ≤ 16; omega, by show 49 + 6 * n + 6 + 0 ≤ 127; omega⟩ dX1_init_71 (Nat.le_of_ble_eq_true rfl) (fun u hu => ?_)
        obtain ⟨hu, -⟩ := hu
        subst hu
        refine n_aastS K 1 (List.length (α := Nat × va_E) ([(h0, .inr (1, [.ref q1, .ref q2, .ref q3, .int 0, .int 1, .int 1, .int 0, .int 0])), (q1, .inl (g.2.1.2.2.1, 13, .inr (.inr (.inr (.inr (fun i => L[i]?)))))), (q2, .inl (g.2.1.1, 18, .inl (fun _ => 0))), (q3, .inl (g.2.1.1, 18, .inl (fun _ => 0)))] ++ L.map (fun q => (q, .inr (4, [.int 0, .int (-9), .int 0, .int 0, .int 0, .int 0]))))) rfl (cs_last _ _) (vp_in_nI (show n < 13 by omega) (by decide)) dX1_init_74 ?_
        have e : List.set (α := Nat × va_E) (([(h0, .inr (1, [.ref q1, .ref q2, .ref q3, .int 0, .int 1, .int 1, .int 0, .int 0])), (q1, .inl (g.2.1.2.2.1, 13, .inr (.inr (.inr (.inr (fun i => L[i]?)))))), (q2, .inl (g.2.1.1, 18, .inl (fun _ => 0))), (q3, .inl (g.2.1.1, 18, .inl (fun _ => 0)))] ++ L.map (fun q => (q, .inr (4, [.int 0, .int (-9), .int 0, .int 0, .int 0, .int 0])))) ++ [(u.1 0, .inr (4, [.int 0, .int (-9), .int 0, .int 0, .int 0, .int 0]))]) 1 (q1, .inl (g.2.1.2.2.1, 13, .inr (.inr (.inr (.inr (va_up (fun i => L[i]?) (nI n).toNatClampNeg (some (u.1 0)))))))) = ([(h0, .inr (1, [.ref q1, .ref q2, .ref q3, .int 0, .int 1, .int 1, .int 0, .int 0])), (q1, .inl (g.2.1.2.2.1, 13, .inr (.inr (.inr (.inr (fun i => (L ++ [u.1 0])[i]?)))))), (q2, .inl (g.2.1.1, 18, .inl (fun _ => 0))), (q3, .inl (g.2.1.1, 18, .inl (fun _ => 0)))] ++ (L ++ [u.1 0]).map (fun q => (q, .inr (4, [.int 0, .int (-9), .int 0, .int 0, .int 0, .int 0])))) := by
          rw [nI_clamp (by omega), ← hL, cs_up, List.map_append]
          simp
        refine n_ws e ?_
        refine n_iinc K 0 [(1, .int (nI (n + 1))), (0, .ref h0)] dX1_init_75 rfl (nI_1 n) (by decide) rfl ?_
        refine n_goto K 56 dX1_init_78 (by decide) ?_
        exact n_cs (by omega) (by omega) (ih (n + 1) (L ++ [u.1 0]) (by rw [List.length_append, hL]; rfl) (by omega) (by omega))
  exact lp 14 0 [] rfl (by omega) (by omega)
