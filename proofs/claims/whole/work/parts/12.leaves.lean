set_option maxHeartbeats 4000000 in
set_option maxRecDepth 100000 in
theorem c_isWithin (l : Launch) (g : rs_G) (kd : List rs_k) (t : Nat × Nat) (M : rs_M) (n a b : Int32) : rs_Ci l g kd t yX5_isWithin cX5_isWithin 3 .boolean 0 [.int n, .int a, .int b] M (fun r M1 => ab_b01 r (a ≤ n ∧ n ≤ b) ∧ M1 = M) := by
  refine rs_ofz (plainFor_of_name (by decide)) (Nat.le_of_ble_eq_true rfl) ?_
  intro Y K hr
  show Y M 0 [(0, .int n), (1, .int a), (2, .int b)] []
  refine r_iload_n K 0 dX5_isWithin_0 rfl rfl ?_
  refine r_iload_n K 1 dX5_isWithin_1 rfl rfl ?_
  refine r_icmp_lt K 14 dX5_isWithin_2 (by decide) (fun h_1 => ?_) (fun h_1 => ?_)
  · refine r_iconst K (v := 0) dX5_isWithin_14 (by decide) ?_
    exact hr _ _ _ _ dX5_isWithin_15 (Or.inl rfl) ⟨Or.inr ⟨rfl, fun q => absurd q.1 (Int32.not_le.mpr h_1)⟩, rfl⟩
  · refine r_iload_n K 0 dX5_isWithin_5 rfl rfl ?_
    refine r_iload_n K 2 dX5_isWithin_6 rfl rfl ?_
    refine r_icmp_gt K 14 dX5_isWithin_7 (by decide) (fun h_2 => ?_) (fun h_2 => ?_)
    · refine r_iconst K (v := 0) dX5_isWithin_14 (by decide) ?_
      exact hr _ _ _ _ dX5_isWithin_15 (Or.inl rfl) ⟨Or.inr ⟨rfl, fun q => absurd q.2 (Int32.not_le.mpr h_2)⟩, rfl⟩
    · refine r_iconst K (v := 1) dX5_isWithin_10 (by decide) ?_
      refine r_goto K 15 dX5_isWithin_11 (by decide) ?_
      exact hr _ _ _ _ dX5_isWithin_15 (Or.inr rfl) ⟨Or.inl ⟨rfl, Int32.not_lt.mp h_1, Int32.not_lt.mp h_2⟩, rfl⟩
set_option maxHeartbeats 4000000 in
set_option maxRecDepth 100000 in
theorem c_isKey (l : Launch) (g : rs_G) (kd : List rs_k) (t : Nat × Nat) (M : rs_M) (n : Int32) : rs_Ci l g kd t yX5_isKey cX5_isKey 1 .boolean 1 [.int n] M (fun r M1 => ab_b01 r (0 ≤ n ∧ n ≤ 7) ∧ M1 = M) := by
  refine rs_ofz (plainFor_of_name (by decide)) (Nat.le_of_ble_eq_true rfl) ?_
  intro Y K hr
  show Y M 0 [(0, .int n)] []
  refine r_iload_n K 0 dX5_isKey_0 rfl rfl ?_
  refine r_iconst K (v := 0) dX5_isKey_1 (by decide) ?_
  refine r_bipush K (v := 7) dX5_isKey_2 (by decide) ?_
  refine r_callSi K [.int n, .int 0, .int 7] [] dX5_isKey_4 mf_X5_isWithin qw_227 qw_228 (c_isWithin l g kd t M n 0 7) rfl rfl (by decide) (Nat.le_of_ble_eq_true rfl) (fun r M1 hp => ?_)
  obtain ⟨hp, he⟩ := hp
  have he := he.symm
  subst he
  rcases hp with ⟨rfl, hb_1⟩ | ⟨rfl, hb_1⟩
  · exact hr _ _ _ _ dX5_isKey_7 (Or.inr rfl) ⟨Or.inl ⟨rfl, hb_1⟩, rfl⟩
  · exact hr _ _ _ _ dX5_isKey_7 (Or.inl rfl) ⟨Or.inr ⟨rfl, hb_1⟩, rfl⟩
set_option maxHeartbeats 4000000 in
set_option maxRecDepth 100000 in
theorem c_isWish (l : Launch) (g : rs_G) (kd : List rs_k) (t : Nat × Nat) (M : rs_M) (n : Int32) : rs_Ci l g kd t yX5_isWish cX5_isWish 1 .boolean 1 [.int n] M (fun r M1 => ab_b01 r ((-99) ≤ n ∧ n ≤ 99) ∧ M1 = M) := by
  refine rs_ofz (plainFor_of_name (by decide)) (Nat.le_of_ble_eq_true rfl) ?_
  intro Y K hr
  show Y M 0 [(0, .int n)] []
  refine r_iload_n K 0 dX5_isWish_0 rfl rfl ?_
  refine r_bipush K (v := (-99)) dX5_isWish_1 (by decide) ?_
  refine r_bipush K (v := 99) dX5_isWish_3 (by decide) ?_
  refine r_callSi K [.int n, .int (-99), .int 99] [] dX5_isWish_5 mf_X5_isWithin qw_227 qw_228 (c_isWithin l g kd t M n (-99) 99) rfl rfl (by decide) (Nat.le_of_ble_eq_true rfl) (fun r M1 hp => ?_)
  obtain ⟨hp, he⟩ := hp
  have he := he.symm
  subst he
  rcases hp with ⟨rfl, hb_1⟩ | ⟨rfl, hb_1⟩
  · exact hr _ _ _ _ dX5_isWish_8 (Or.inr rfl) ⟨Or.inl ⟨rfl, hb_1⟩, rfl⟩
  · exact hr _ _ _ _ dX5_isWish_8 (Or.inl rfl) ⟨Or.inr ⟨rfl, hb_1⟩, rfl⟩
set_option maxHeartbeats 4000000 in
set_option maxRecDepth 100000 in
theorem c_isRule (l : Launch) (g : rs_G) (kd : List rs_k) (t : Nat × Nat) (M : rs_M) (w v : Int32) : rs_Ci l g kd t yX5_isRule cX5_isRule 2 .boolean 1 [.int w, .int v] M (fun r M1 => ab_b01 r (0 ≤ v ∧ ((w = 0 ∧ v ≤ 3) ∨ (w = 1 ∧ v ≤ 2) ∨ (w = 2 ∧ v ≤ 20))) ∧ M1 = M) := by
  refine rs_ofz (plainFor_of_name (by decide)) (Nat.le_of_ble_eq_true rfl) ?_
  intro Y K hr
  show Y M 0 [(0, .int w), (1, .int v)] []
  refine r_iload_n K 0 dX5_isRule_0 rfl rfl ?_
  refine r_table K [(0, 28), (1, 35), (2, 42)] 50 dX5_isRule_1 (by decide) (by decide) (by decide) ?_
  simp only [rs_swp]
  refine ⟨fun h_1_0 => ?_, fun h_1_0 => ⟨fun h_1_1 => ?_, fun h_1_1 => ⟨fun h_1_2 => ?_, fun h_1_2 => ?_⟩⟩⟩
  · refine r_iload_n K 1 dX5_isRule_28 rfl rfl ?_
    refine r_iconst K (v := 0) dX5_isRule_29 (by decide) ?_
    refine r_iconst K (v := 3) dX5_isRule_30 (by decide) ?_
    refine r_callSi K [.int v, .int 0, .int 3] [] dX5_isRule_31 mf_X5_isWithin qw_227 qw_228 (c_isWithin l g kd t M v 0 3) rfl rfl (by decide) (Nat.le_of_ble_eq_true rfl) (fun r M1 hp => ?_)
    obtain ⟨hp, he⟩ := hp
    have he := he.symm
    subst he
    rcases hp with ⟨rfl, hb_2⟩ | ⟨rfl, hb_2⟩
    · exact hr _ _ _ _ dX5_isRule_34 (Or.inr rfl) ⟨by simp_all [ab_b01], rfl⟩
    · exact hr _ _ _ _ dX5_isRule_34 (Or.inl rfl) ⟨by simp_all [ab_b01], rfl⟩
  · refine r_iload_n K 1 dX5_isRule_35 rfl rfl ?_
    refine r_iconst K (v := 0) dX5_isRule_36 (by decide) ?_
    refine r_iconst K (v := 2) dX5_isRule_37 (by decide) ?_
    refine r_callSi K [.int v, .int 0, .int 2] [] dX5_isRule_38 mf_X5_isWithin qw_227 qw_228 (c_isWithin l g kd t M v 0 2) rfl rfl (by decide) (Nat.le_of_ble_eq_true rfl) (fun r M1 hp => ?_)
    obtain ⟨hp, he⟩ := hp
    have he := he.symm
    subst he
    rcases hp with ⟨rfl, hb_3⟩ | ⟨rfl, hb_3⟩
    · exact hr _ _ _ _ dX5_isRule_41 (Or.inr rfl) ⟨by simp_all [ab_b01], rfl⟩
    · exact hr _ _ _ _ dX5_isRule_41 (Or.inl rfl) ⟨by simp_all [ab_b01], rfl⟩
  · refine r_iload_n K 1 dX5_isRule_42 rfl rfl ?_
    refine r_iconst K (v := 0) dX5_isRule_43 (by decide) ?_
    refine r_bipush K (v := 20) dX5_isRule_44 (by decide) ?_
    refine r_callSi K [.int v, .int 0, .int 20] [] dX5_isRule_46 mf_X5_isWithin qw_227 qw_228 (c_isWithin l g kd t M v 0 20) rfl rfl (by decide) (Nat.le_of_ble_eq_true rfl) (fun r M1 hp => ?_)
    obtain ⟨hp, he⟩ := hp
    have he := he.symm
    subst he
    rcases hp with ⟨rfl, hb_4⟩ | ⟨rfl, hb_4⟩
    · exact hr _ _ _ _ dX5_isRule_49 (Or.inr rfl) ⟨by simp_all [ab_b01], rfl⟩
    · exact hr _ _ _ _ dX5_isRule_49 (Or.inl rfl) ⟨by simp_all [ab_b01], rfl⟩
  · refine r_iconst K (v := 0) dX5_isRule_50 (by decide) ?_
    exact hr _ _ _ _ dX5_isRule_51 (Or.inl rfl) ⟨by simp_all [ab_b01], rfl⟩
set_option maxHeartbeats 4000000 in
set_option maxRecDepth 100000 in
theorem c_leanX (l : Launch) (g : rs_G) (kd : List rs_k) (t : Nat × Nat) (M : rs_M) (k : Nat) (hk : k < 8) : rs_Ci l g kd t yX5_leanX cX5_leanX 1 .int 0 [.int (nI k)] M (fun r M1 => r = rs_lX k ∧ M1 = M) := by
  refine rs_ofi (plainFor_of_name (by decide)) (Nat.le_of_ble_eq_true rfl) ?_
  intro Y K hr
  show Y M 0 [(0, .int (nI k))] []
  refine r_iload_n K 0 dX5_leanX_0 rfl rfl ?_
  refine r_if_lt K 18 dX5_leanX_1 (by decide) (fun h => absurd h (nI_pos (by omega))) (fun _ => ?_)
  refine r_iload_n K 0 dX5_leanX_4 rfl rfl ?_
  refine r_bipush K (v := 8) dX5_leanX_5 (by decide) ?_
  refine r_icmp_ge K 18 dX5_leanX_7 (by decide) (fun h => absurd h (by rw [show (8 : Int32) = nI 8 from rfl]; exact fun q => nI_ge hk (by decide) q)) (fun _ => ?_)
  refine r_getsLX K qw_327 dX5_leanX_10 ?_
  refine r_iload_n K 0 dX5_leanX_13 rfl rfl ?_
  refine r_tabLX K (j := k) rfl hk dX5_leanX_14 ?_
  refine r_goto K 19 dX5_leanX_15 (by decide) ?_
  exact hr _ _ _ _ dX5_leanX_19 ⟨rfl, rfl⟩
set_option maxHeartbeats 4000000 in
set_option maxRecDepth 100000 in
theorem c_leanY (l : Launch) (g : rs_G) (kd : List rs_k) (t : Nat × Nat) (M : rs_M) (k : Nat) (hk : k < 8) : rs_Ci l g kd t yX5_leanY cX5_leanY 1 .int 0 [.int (nI k)] M (fun r M1 => r = rs_lY k ∧ M1 = M) := by
  refine rs_ofi (plainFor_of_name (by decide)) (Nat.le_of_ble_eq_true rfl) ?_
  intro Y K hr
  show Y M 0 [(0, .int (nI k))] []
  refine r_iload_n K 0 dX5_leanY_0 rfl rfl ?_
  refine r_if_lt K 18 dX5_leanY_1 (by decide) (fun h => absurd h (nI_pos (by omega))) (fun _ => ?_)
  refine r_iload_n K 0 dX5_leanY_4 rfl rfl ?_
  refine r_bipush K (v := 8) dX5_leanY_5 (by decide) ?_
  refine r_icmp_ge K 18 dX5_leanY_7 (by decide) (fun h => absurd h (by rw [show (8 : Int32) = nI 8 from rfl]; exact fun q => nI_ge hk (by decide) q)) (fun _ => ?_)
  refine r_getsLY K qw_335 dX5_leanY_10 ?_
  refine r_iload_n K 0 dX5_leanY_13 rfl rfl ?_
  refine r_tabLY K (j := k) rfl hk dX5_leanY_14 ?_
  refine r_goto K 19 dX5_leanY_15 (by decide) ?_
  exact hr _ _ _ _ dX5_leanY_19 ⟨rfl, rfl⟩
