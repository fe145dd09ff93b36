/-! the four lines of a RingSteer -/
def xL (b : Nat) : Prop := b = 1 ∨ b = 18 ∨ b = 57 ∨ b = 74
theorem xL_0 {b : Nat} (h : xL b) : xk[b]? = some (5, 0, [b + 1 + 1, b + 2 + 1, b + 3 + 1, 0, 0, 0, 0, 0]) := by rcases h with rfl | rfl | rfl | rfl <;> rfl
theorem xL_1 {b : Nat} (h : xL b) : xk[b + 1]? = some (2, 13, (List.range 13).map (fun i => b + 4 + i)) := by rcases h with rfl | rfl | rfl | rfl <;> rfl
theorem xL_2 {b : Nat} (h : xL b) : xk[b + 2]? = some (0, 18, []) := by rcases h with rfl | rfl | rfl | rfl <;> rfl
theorem xL_3 {b : Nat} (h : xL b) : xk[b + 3]? = some (0, 18, []) := by rcases h with rfl | rfl | rfl | rfl <;> rfl
theorem xL_s1 : ∀ i, i < 13 → xk[1 + 4 + i]? = some x_spot := by decide
theorem xL_s2 : ∀ i, i < 13 → xk[18 + 4 + i]? = some x_spot := by decide
theorem xL_s3 : ∀ i, i < 13 → xk[57 + 4 + i]? = some x_spot := by decide
theorem xL_s4 : ∀ i, i < 13 → xk[74 + 4 + i]? = some x_spot := by decide
theorem xL_s {b i : Nat} (h : xL b) (hi : i < 13) : xk[b + 4 + i]? = some x_spot := by
  rcases h with rfl | rfl | rfl | rfl
  · exact xL_s1 i hi
  · exact xL_s2 i hi
  · exact xL_s3 i hi
  · exact xL_s4 i hi
theorem xL_e {b i : Nat} (hi : i < 13) : ((List.range 13).map (fun i => b + 4 + i))[i]? = some (b + 4 + i) := by
  rw [List.getElem?_map, List.getElem?_range hi]; rfl
theorem x_within {x : Int32} {n a b : Nat} (hx : x = nI n) (h1 : a ≤ n) (h2 : n ≤ b) (hb : b < 2 ^ 31) : nI a ≤ x ∧ x ≤ nI b := by
  rw [hx]
  exact ⟨nI_le h1 (by omega), nI_le h2 hb⟩
/-- a Spot, a Line in memory -/
def x_sp (M : rs_M) (c : Nat) (tp : Int32) (ks : List Nat) : Prop := M c 0 = nI ks.length ∧ M c 1 = ab_last ks ∧ M c 2 = (ab_geo tp ks).1 ∧ M c 3 = (ab_geo tp ks).2.1 ∧ M c 4 = (ab_geo tp ks).2.2.1 ∧ M c 5 = (ab_geo tp ks).2.2.2
def x_rl (M : rs_M) (b : Nat) (tp : Int32) (L : ab_L) : Prop := M b 4 = tp ∧ M b 5 = nI (ab_bar L) ∧ M b 6 = nI (ab_way L) ∧ M b 7 = nI (ab_tail L) ∧ ∀ p, p < 18 → M (b + 2) p = ab_wx L p ∧ M (b + 3) p = ab_wy L p
def x_ln (M : rs_M) (b : Nat) (tp : Int32) (L : ab_L) : Prop := M b 3 = nI (ab_ks L).length ∧ (∀ i, i ≤ (ab_ks L).length → x_sp M (b + 4 + i) tp ((ab_ks L).take i)) ∧ x_rl M b tp L
theorem x_sp_cp {M : rs_M} {c d : Nat} {tp : Int32} {ks : List Nat} (h : x_sp M d tp ks) : x_sp (x_cp M c d) c tp ks := by
  obtain ⟨h0, h1, h2, h3, h4, h5⟩ := h
  refine ⟨?_, ?_, ?_, ?_, ?_, ?_⟩ <;> simp [x_cp, *]
theorem x_sp_adv {M : rs_M} {c : Nat} {tp : Int32} {ks : List Nat} (k : Nat) (h : x_sp M c tp ks) : x_sp (x_adv M c tp k) c tp (ks ++ [k]) := by
  obtain ⟨h0, h1, h2, h3, h4, h5⟩ := h
  refine ⟨?_, ?_, ?_, ?_, ?_, ?_⟩ <;> simp only [x_adv, if_pos trivial, if_true, ab_geo_app, ab_last_app, ab_step, h0, h1, h2, h3, h4, h5]
  rw [nI_1, List.length_append]
  rfl
theorem x_sp_same {M M1 : rs_M} {c : Nat} {tp : Int32} {ks : List Nat} (h : x_sp M c tp ks) (e : ∀ j, j < 6 → M1 c j = M c j) : x_sp M1 c tp ks := by
  obtain ⟨h0, h1, h2, h3, h4, h5⟩ := h
  exact ⟨by rw [e 0 (by decide), h0], by rw [e 1 (by decide), h1], by rw [e 2 (by decide), h2], by rw [e 3 (by decide), h3], by rw [e 4 (by decide), h4], by rw [e 5 (by decide), h5]⟩
/-- Math.floorMod by 8 -/
def x_fm (x : Int32) : Int32 := if 0 ≤ x ^^^ 8 then x - x / 8 * 8 else if x - x / 8 * 8 = 0 then x - x / 8 * 8 else x - x / 8 * 8 + 8
theorem x_fm_apart : ∀ j, j < 8 → ∀ k, k < 8 → x_fm (nI k - nI j) = nI (ab_apart j k) := by decide
set_option maxHeartbeats 4000000 in
set_option maxRecDepth 100000 in
theorem c_floorMod (l : Launch) (g : rs_G) (kd : List rs_k) (t : Nat × Nat) (M : rs_M) (x : Int32) : rs_Ci l g kd t yJ9_floorMod_7cf53 cJ9_floorMod_7cf53 3 .int 0 [.int x, .int 8] M (fun r M1 => r = x_fm x ∧ M1 = M) := by
  refine rs_ofi (by decide +kernel) (Nat.le_of_ble_eq_true rfl) ?_
  intro Y K hr
  show Y M 0 [(0, .int x), (1, .int 8)] []
  refine r_iload_n K 0 dJ9_floorMod_7cf53_0 rfl rfl ?_
  refine r_iload_n K 1 dJ9_floorMod_7cf53_1 rfl rfl ?_
  refine r_irem K dJ9_floorMod_7cf53_2 (by decide) ?_
  refine r_istore_n K [(2, .int (x - x / 8 * 8)), (0, .int x), (1, .int 8)] dJ9_floorMod_7cf53_3 rfl (by decide) rfl ?_
  refine r_iload_n K 1 dJ9_floorMod_7cf53_4 rfl rfl ?_
  refine r_iload_n K 2 dJ9_floorMod_7cf53_5 rfl rfl ?_
  refine r_ixor K dJ9_floorMod_7cf53_6 ?_
  refine r_if_ge K 18 dJ9_floorMod_7cf53_7 (by decide) (fun h_1 => ?_) (fun h_1 => ?_)
  · refine r_iload_n K 0 dJ9_floorMod_7cf53_18 rfl rfl ?_
    exact hr _ _ _ _ dJ9_floorMod_7cf53_19 ⟨by rw [x_fm, if_pos h_1], rfl⟩
  · refine r_iload_n K 0 dJ9_floorMod_7cf53_10 rfl rfl ?_
    refine r_if_eq K 18 dJ9_floorMod_7cf53_11 (by decide) (fun h_2 => ?_) (fun h_2 => ?_)
    · refine r_iload_n K 0 dJ9_floorMod_7cf53_18 rfl rfl ?_
      exact hr _ _ _ _ dJ9_floorMod_7cf53_19 ⟨by rw [x_fm, if_neg h_1, if_pos h_2], rfl⟩
    · refine r_iload_n K 0 dJ9_floorMod_7cf53_14 rfl rfl ?_
      refine r_iload_n K 2 dJ9_floorMod_7cf53_15 rfl rfl ?_
      refine r_iadd K dJ9_floorMod_7cf53_16 ?_
      exact hr _ _ _ _ dJ9_floorMod_7cf53_17 ⟨by rw [x_fm, if_neg h_1, if_neg h_2], rfl⟩
set_option maxHeartbeats 4000000 in
set_option maxRecDepth 100000 in
theorem c_Line_last (l : Launch) (g : rs_G) (t : Nat × Nat) (M : rs_M) (b : Nat) (hb : xL b) (n : Nat) (hn : n ≤ 12) (h3 : M b 3 = nI n) : rs_Cr l g xk t yX1_last cX1_last 1 (.object "RingSteer$Spot") 1 [.ref (g.2.2 b)] M (fun r M1 => r = b + 4 + n ∧ M1 = M) := by
  refine rs_ofr (plainFor_of_name (by decide)) (Nat.le_of_ble_eq_true rfl) ?_
  intro Y K hr
  show Y M 0 [(0, .ref (g.2.2 b))] []
  refine r_aload_n K 0 dX1_last_0 rfl rfl ?_
  refine r_getR K (xL_0 hb) rfl ff_1_spots qw_63 dX1_last_1 ?_
  refine r_aload_n K 0 dX1_last_4 rfl rfl ?_
  refine r_getI K (xL_0 hb) rfl ff_1_rings qw_69 dX1_last_5 ?_
  refine r_iconst K (v := 0) dX1_last_8 (by decide) ?_
  refine r_bipush K (v := 12) dX1_last_9 (by decide) ?_
  refine r_callNi K [.int (M b 3), .int 0, .int 12] [.ref (g.2.2 (b + 1))] dX1_last_11 mf_X5_isWithin (by decide) qw_228 (c_isWithin l g xk t M (M b 3) 0 12) rfl rfl (by decide) (Nat.le_of_ble_eq_true rfl) (fun r M1 hp => ?_)
  obtain ⟨hp, he⟩ := hp
  have he := he.symm
  subst he
  rcases hp with ⟨rfl, hb_1⟩ | ⟨rfl, hb_1⟩
  rotate_left
  · exact absurd (x_within (a := 0) (b := 12) h3 (by omega) hn (by decide)) hb_1
  refine r_if_eq K 24 dX1_last_14 (by decide) (fun h => absurd h (by decide)) (fun _ => ?_)
  refine r_aload_n K 0 dX1_last_17 rfl rfl ?_
  refine r_getI K (xL_0 hb) rfl ff_1_rings qw_69 dX1_last_18 ?_
  refine r_goto K 25 dX1_last_21 (by decide) ?_
  refine r_aaldS K (j := n) (xL_1 hb) h3 (xL_e (by omega)) (by omega) (by decide) dX1_last_25 ?_
  exact hr _ _ _ _ dX1_last_26 ⟨rfl, rfl⟩
set_option maxHeartbeats 4000000 in
set_option maxRecDepth 100000 in
theorem c_Line_cost (l : Launch) (g : rs_G) (t : Nat × Nat) (M : rs_M) (b : Nat) (hb : xL b) (tp : Int32) (L : ab_L) (hok : ab_ok L) (hL : x_rl M b tp L) (c i : Nat) (hc : xk[c]? = some x_spot) (hi : i ≤ 17) (hc0 : M c 0 = nI i) : rs_Ci l g xk t yX1_cost cX1_cost 5 .int 1 [.ref (g.2.2 b), .ref (g.2.2 c)] M (fun r M1 => r = ab_cost L i (M c 4) (M c 5) ∧ M1 = M) := by
  refine rs_ofi (plainFor_of_name (by decide)) (Nat.le_of_ble_eq_true rfl) ?_
  intro Y K hr
  show Y M 0 [(0, .ref (g.2.2 b)), (1, .ref (g.2.2 c))] []
  refine r_aload_n K 1 dX1_cost_0 rfl rfl ?_
  refine r_getI K hc rfl ff_4_ringNumber qw_32 dX1_cost_1 ?_
  refine r_istore_n K [(2, .int (M c 0)), (0, .ref (g.2.2 b)), (1, .ref (g.2.2 c))] dX1_cost_4 rfl (by decide) rfl ?_
  refine r_iload_n K 0 dX1_cost_5 rfl rfl ?_
  refine r_iconst K (v := 0) dX1_cost_6 (by decide) ?_
  refine r_bipush K (v := 17) dX1_cost_7 (by decide) ?_
  refine r_callNi K [.int (M c 0), .int 0, .int 17] [] dX1_cost_9 mf_X5_isWithin (by decide) qw_228 (c_isWithin l g xk t M (M c 0) 0 17) rfl rfl (by decide) (Nat.le_of_ble_eq_true rfl) (fun r M1 hp => ?_)
  obtain ⟨hp, he⟩ := hp
  have he := he.symm
  subst he
  rcases hp with ⟨rfl, hb_1⟩ | ⟨rfl, hb_1⟩
  rotate_left
  · exact absurd (x_within (a := 0) (b := 17) hc0 (by omega) hi (by decide)) hb_1
  refine r_if_ne K 17 dX1_cost_12 (by decide) (fun _ => ?_) (fun h => absurd h (by decide))
  refine r_aload_n K 2 dX1_cost_17 rfl rfl ?_
  refine r_getI K hc rfl ff_4_placeX qw_45 dX1_cost_18 ?_
  refine r_aload_n K 1 dX1_cost_21 rfl rfl ?_
  refine r_getR K (xL_0 hb) rfl ff_1_wishX qw_65 dX1_cost_22 ?_
  refine r_iload_n K 0 dX1_cost_25 rfl rfl ?_
  refine r_iald K (j := i) (xL_2 hb) hc0 (by omega) (by decide) dX1_cost_26 ?_
  refine r_isub K dX1_cost_27 ?_
  refine r_mabs K dX1_cost_28 qw_329 qw_330 qw_8 qw_331 (by decide) (Nat.le_of_ble_eq_true rfl) ?_
  refine r_istore_n K [(3, .int (ab_abs ((M c 4) - (M (b + 2) i)))), (2, .int (M c 0)), (0, .ref (g.2.2 b)), (1, .ref (g.2.2 c))] dX1_cost_31 rfl (by decide) rfl ?_
  refine r_aload_n K 3 dX1_cost_32 rfl rfl ?_
  refine r_getI K hc rfl ff_4_placeY qw_48 dX1_cost_33 ?_
  refine r_aload_n K 2 dX1_cost_36 rfl rfl ?_
  refine r_getR K (xL_0 hb) rfl ff_1_wishY qw_67 dX1_cost_37 ?_
  refine r_iload_n K 1 dX1_cost_40 rfl rfl ?_
  refine r_iald K (j := i) (xL_3 hb) hc0 (by omega) (by decide) dX1_cost_41 ?_
  refine r_isub K dX1_cost_42 ?_
  refine r_mabs K dX1_cost_43 qw_329 qw_330 qw_8 qw_331 (by decide) (Nat.le_of_ble_eq_true rfl) ?_
  refine r_istore K [(4, .int (ab_abs ((M c 5) - (M (b + 3) i)))), (3, .int (ab_abs ((M c 4) - (M (b + 2) i)))), (2, .int (M c 0)), (0, .ref (g.2.2 b)), (1, .ref (g.2.2 c))] dX1_cost_46 (by decide) rfl ?_
  refine r_aload_n K 3 dX1_cost_48 rfl rfl ?_
  refine r_getI K (xL_0 hb) rfl ff_1_way qw_78 dX1_cost_49 ?_
  refine r_lookup K [(1, 80), (2, 87)] 97 dX1_cost_52 (by decide) (by decide) (by decide) ?_
  simp only [rs_swp]
  refine ⟨fun h_2_0 => ?_, fun h_2_0 => ⟨fun h_2_1 => ?_, fun h_2_1 => ?_⟩⟩
  · refine r_iload_n K 1 dX1_cost_80 rfl rfl ?_
    refine r_iload K 0 dX1_cost_81 rfl ?_
    refine r_mmax K dX1_cost_83 qw_384 qw_385 qw_8 qw_386 (by decide) (Nat.le_of_ble_eq_true rfl) ?_
    refine hr _ _ _ _ dX1_cost_86 ⟨?_, rfl⟩
    obtain ⟨e4, e5, e6, e7, ew⟩ := hL
    have hw2 := hok.2.2.2.1
    have hw : ab_way L = 1 := by rw [e6] at h_2_0; exact (nI_eq (by omega) (by decide)).mp h_2_0
    simp only [ab_cost, hw, ab_way_cost, (ew i (by omega)).1, (ew i (by omega)).2]
  · refine r_iload_n K 1 dX1_cost_87 rfl rfl ?_
    refine r_iload_n K 1 dX1_cost_88 rfl rfl ?_
    refine r_imul K dX1_cost_89 ?_
    refine r_iload K 0 dX1_cost_90 rfl ?_
    refine r_iload K 0 dX1_cost_92 rfl ?_
    refine r_imul K dX1_cost_94 ?_
    refine r_iadd K dX1_cost_95 ?_
    refine hr _ _ _ _ dX1_cost_96 ⟨?_, rfl⟩
    obtain ⟨e4, e5, e6, e7, ew⟩ := hL
    have hw2 := hok.2.2.2.1
    have hw : ab_way L = 2 := by rw [e6] at h_2_1; exact (nI_eq (by omega) (by decide)).mp h_2_1
    simp only [ab_cost, hw, ab_way_cost, (ew i (by omega)).1, (ew i (by omega)).2]
  · refine r_iload_n K 1 dX1_cost_97 rfl rfl ?_
    refine r_iload K 0 dX1_cost_98 rfl ?_
    refine r_iadd K dX1_cost_100 ?_
    refine hr _ _ _ _ dX1_cost_101 ⟨?_, rfl⟩
    obtain ⟨e4, e5, e6, e7, ew⟩ := hL
    have hw2 := hok.2.2.2.1
    have hw : ab_way L = 0 := by
      rw [e6] at h_2_0 h_2_1
      have a1 : ab_way L ≠ 1 := fun q => h_2_0 (by rw [q]; rfl)
      have a2 : ab_way L ≠ 2 := fun q => h_2_1 (by rw [q]; rfl)
      omega
    simp only [ab_cost, hw, ab_way_cost, (ew i (by omega)).1, (ew i (by omega)).2]
