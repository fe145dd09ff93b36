abbrev x_spot : rs_k := (8, 0, [0, 0, 0, 0, 0, 0])
/-- Spot c becomes like Spot d -/
def x_cp (M : rs_M) (c d : Nat) : rs_M := fun c' j => if c' = c ∧ j < 6 then M d j else M c' j
/-- Spot c goes one ring on -/
def x_adv (M : rs_M) (c : Nat) (tp : Int32) (k : Nat) : rs_M := fun c' j => if c' = c then (match j with
  | 0 => M c 0 + 1
  | 1 => nI k
  | 2 => M c 2 + tp * rs_lX k
  | 3 => M c 3 + tp * rs_lY k
  | 4 => M c 4 + (M c 2 + tp * rs_lX k)
  | 5 => M c 5 + (M c 3 + tp * rs_lY k)
  | j => M c j) else M c' j
theorem x_cp_st (M : rs_M) (c d : Nat) : rs_st (rs_st (rs_st (rs_st (rs_st (rs_st M c 0 (M d 0)) c 1 (M d 1)) c 2 (M d 2)) c 3 (M d 3)) c 4 (M d 4)) c 5 (M d 5) = x_cp M c d := by
  funext c' j
  by_cases h : c' = c
  · subst h
    rcases j with _|_|_|_|_|_|j <;> simp [rs_st, x_cp] <;> (intro h; omega)
  · simp [rs_st, x_cp, h]
set_option maxHeartbeats 4000000 in
set_option maxRecDepth 100000 in
theorem c_Spot_copy (l : Launch) (g : rs_G) (t : Nat × Nat) (M : rs_M) (c d : Nat) (hc : xk[c]? = some x_spot) (hd : xk[d]? = some x_spot) : rs_Cv l g xk t yX4_copy cX4_copy 2 0 [.ref (g.2.2 c), .ref (g.2.2 d)] M (fun M1 => M1 = x_cp M c d) := by
  refine rs_ofv (plainFor_of_name (by decide)) (Nat.le_of_ble_eq_true rfl) ?_
  intro Y K hr
  show Y M 0 [(0, .ref (g.2.2 c)), (1, .ref (g.2.2 d))] []
  refine r_aload_n K 0 dX4_copy_0 rfl rfl ?_
  refine r_aload_n K 1 dX4_copy_1 rfl rfl ?_
  refine r_getI K hd rfl ff_4_ringNumber qw_31 dX4_copy_2 ?_
  refine r_put K hc rfl ff_4_ringNumber qw_31 rfl rfl dX4_copy_5 ?_
  refine r_aload_n K 0 dX4_copy_8 rfl rfl ?_
  refine r_aload_n K 1 dX4_copy_9 rfl rfl ?_
  refine r_getI K hd rfl ff_4_key qw_33 dX4_copy_10 ?_
  refine r_top_eq (M d 1) (by simp [rs_st]) ?_
  refine r_put K hc rfl ff_4_key qw_33 rfl rfl dX4_copy_13 ?_
  refine r_aload_n K 0 dX4_copy_16 rfl rfl ?_
  refine r_aload_n K 1 dX4_copy_17 rfl rfl ?_
  refine r_getI K hd rfl ff_4_slopeX qw_37 dX4_copy_18 ?_
  refine r_top_eq (M d 2) (by simp [rs_st]) ?_
  refine r_put K hc rfl ff_4_slopeX qw_37 rfl rfl dX4_copy_21 ?_
  refine r_aload_n K 0 dX4_copy_24 rfl rfl ?_
  refine r_aload_n K 1 dX4_copy_25 rfl rfl ?_
  refine r_getI K hd rfl ff_4_slopeY qw_40 dX4_copy_26 ?_
  refine r_top_eq (M d 3) (by simp [rs_st]) ?_
  refine r_put K hc rfl ff_4_slopeY qw_40 rfl rfl dX4_copy_29 ?_
  refine r_aload_n K 0 dX4_copy_32 rfl rfl ?_
  refine r_aload_n K 1 dX4_copy_33 rfl rfl ?_
  refine r_getI K hd rfl ff_4_placeX qw_43 dX4_copy_34 ?_
  refine r_top_eq (M d 4) (by simp [rs_st]) ?_
  refine r_put K hc rfl ff_4_placeX qw_43 rfl rfl dX4_copy_37 ?_
  refine r_aload_n K 0 dX4_copy_40 rfl rfl ?_
  refine r_aload_n K 1 dX4_copy_41 rfl rfl ?_
  refine r_getI K hd rfl ff_4_placeY qw_46 dX4_copy_42 ?_
  refine r_top_eq (M d 5) (by simp [rs_st]) ?_
  refine r_put K hc rfl ff_4_placeY qw_46 rfl rfl dX4_copy_45 ?_
  exact hr _ _ _ dX4_copy_48 (x_cp_st M c d)
theorem x_adv_st (M : rs_M) (c : Nat) (tp : Int32) (k : Nat) : rs_st (rs_st (rs_st (rs_st (rs_st (rs_st M c 0 (M c 0 + 1)) c 1 (nI k)) c 2 (M c 2 + tp * rs_lX k)) c 3 (M c 3 + tp * rs_lY k)) c 4 (M c 4 + (M c 2 + tp * rs_lX k))) c 5 (M c 5 + (M c 3 + tp * rs_lY k)) = x_adv M c tp k := by
  funext c' j
  by_cases h : c' = c
  · subst h
    rcases j with _|_|_|_|_|_|j <;> simp [rs_st, x_adv]
  · simp [rs_st, x_adv, h]
set_option maxHeartbeats 4000000 in
set_option maxRecDepth 100000 in
theorem c_Spot_advance (l : Launch) (g : rs_G) (t : Nat × Nat) (M : rs_M) (c : Nat) (hc : xk[c]? = some x_spot) (k : Nat) (hk : k < 8) (tp : Int32) : rs_Cv l g xk t yX4_advance cX4_advance 3 1 [.ref (g.2.2 c), .int (nI k), .int tp] M (fun M1 => M1 = x_adv M c tp k) := by
  refine rs_ofv (plainFor_of_name (by decide)) (Nat.le_of_ble_eq_true rfl) ?_
  intro Y K hr
  show Y M 0 [(0, .ref (g.2.2 c)), (1, .int (nI k)), (2, .int tp)] []
  refine r_aload_n K 0 dX4_advance_0 rfl rfl ?_
  refine r_dup K dX4_advance_1 rfl ?_
  refine r_getI K hc rfl ff_4_ringNumber qw_31 dX4_advance_2 ?_
  refine r_iconst K (v := 1) dX4_advance_5 (by decide) ?_
  refine r_iadd K dX4_advance_6 ?_
  refine r_put K hc rfl ff_4_ringNumber qw_31 rfl rfl dX4_advance_7 ?_
  refine r_aload_n K 0 dX4_advance_10 rfl rfl ?_
  refine r_iload_n K 1 dX4_advance_11 rfl rfl ?_
  refine r_put K hc rfl ff_4_key qw_33 rfl rfl dX4_advance_12 ?_
  refine r_aload_n K 0 dX4_advance_15 rfl rfl ?_
  refine r_dup K dX4_advance_16 rfl ?_
  refine r_getI K hc rfl ff_4_slopeX qw_37 dX4_advance_17 ?_
  refine r_top_eq (M c 2) (by simp [rs_st]) ?_
  refine r_iload_n K 2 dX4_advance_20 rfl rfl ?_
  refine r_iload_n K 1 dX4_advance_21 rfl rfl ?_
  refine r_callNi K [.int (nI k)] [.int tp, .int (M c 2), .ref (g.2.2 c)] dX4_advance_22 mf_X5_leanX (by decide) qw_325 (c_leanX l g xk t (rs_st (rs_st M c 0 ((M c 0) + 1)) c 1 (nI k)) k hk) rfl rfl (by decide) (Nat.le_of_ble_eq_true rfl) (fun r M1 hp => ?_)
  obtain ⟨hp, he⟩ := hp
  have he := he.symm
  subst he
  subst hp
  refine r_imul K dX4_advance_25 ?_
  refine r_iadd K dX4_advance_26 ?_
  refine r_put K hc rfl ff_4_slopeX qw_37 rfl rfl dX4_advance_27 ?_
  refine r_aload_n K 0 dX4_advance_30 rfl rfl ?_
  refine r_dup K dX4_advance_31 rfl ?_
  refine r_getI K hc rfl ff_4_slopeY qw_40 dX4_advance_32 ?_
  refine r_top_eq (M c 3) (by simp [rs_st]) ?_
  refine r_iload_n K 2 dX4_advance_35 rfl rfl ?_
  refine r_iload_n K 1 dX4_advance_36 rfl rfl ?_
  refine r_callNi K [.int (nI k)] [.int tp, .int (M c 3), .ref (g.2.2 c)] dX4_advance_37 mf_X5_leanY (by decide) qw_333 (c_leanY l g xk t (rs_st (rs_st (rs_st M c 0 ((M c 0) + 1)) c 1 (nI k)) c 2 ((M c 2) + (tp * (rs_lX k)))) k hk) rfl rfl (by decide) (Nat.le_of_ble_eq_true rfl) (fun r M1 hp => ?_)
  obtain ⟨hp, he⟩ := hp
  have he := he.symm
  subst he
  subst hp
  refine r_imul K dX4_advance_40 ?_
  refine r_iadd K dX4_advance_41 ?_
  refine r_put K hc rfl ff_4_slopeY qw_40 rfl rfl dX4_advance_42 ?_
  refine r_aload_n K 0 dX4_advance_45 rfl rfl ?_
  refine r_dup K dX4_advance_46 rfl ?_
  refine r_getI K hc rfl ff_4_placeX qw_43 dX4_advance_47 ?_
  refine r_top_eq (M c 4) (by simp [rs_st]) ?_
  refine r_aload_n K 0 dX4_advance_50 rfl rfl ?_
  refine r_getI K hc rfl ff_4_slopeX qw_37 dX4_advance_51 ?_
  refine r_top_eq ((M c 2) + (tp * (rs_lX k))) (by simp [rs_st]) ?_
  refine r_iadd K dX4_advance_54 ?_
  refine r_put K hc rfl ff_4_placeX qw_43 rfl rfl dX4_advance_55 ?_
  refine r_aload_n K 0 dX4_advance_58 rfl rfl ?_
  refine r_dup K dX4_advance_59 rfl ?_
  refine r_getI K hc rfl ff_4_placeY qw_46 dX4_advance_60 ?_
  refine r_top_eq (M c 5) (by simp [rs_st]) ?_
  refine r_aload_n K 0 dX4_advance_63 rfl rfl ?_
  refine r_getI K hc rfl ff_4_slopeY qw_40 dX4_advance_64 ?_
  refine r_top_eq ((M c 3) + (tp * (rs_lY k))) (by simp [rs_st]) ?_
  refine r_iadd K dX4_advance_67 ?_
  refine r_put K hc rfl ff_4_placeY qw_46 rfl rfl dX4_advance_68 ?_
  exact hr _ _ _ dX4_advance_71 (x_adv_st M c tp k)
