theorem nf_eq {x y : Int32} {X Y : Nat} (ex : x = nI X) (ey : y = nI Y) (hX : X < 2 ^ 31) (hY : Y < 2 ^ 31) : x = y ↔ X = Y := by subst ex; subst ey; exact nI_eq hX hY
theorem nf_lt {x y : Int32} {X Y : Nat} (ex : x = nI X) (ey : y = nI Y) (hX : X < 2 ^ 31) (hY : Y < 2 ^ 31) : x < y ↔ X < Y := by subst ex; subst ey; exact nI_ltI hX hY
theorem nf_le {x y : Int32} {X Y : Nat} (ex : x = nI X) (ey : y = nI Y) (hX : X < 2 ^ 31) (hY : Y < 2 ^ 31) : x ≤ y ↔ X ≤ Y := by subst ex; subst ey; exact nI_leI hX hY
theorem nI_ne9 (j : Nat) (hj : j < 8) : ¬ nI j = -9 := by
  intro h
  have := congrArg Int32.toInt h
  rw [nI_toInt (by omega)] at this
  have e : (-9 : Int32).toInt = -9 := by decide
  omega
theorem ab_apart_lt (j k : Nat) : ab_apart j k < 8 := Nat.mod_lt _ (by decide)
set_option maxHeartbeats 4000000 in
set_option maxRecDepth 100000 in
theorem c_isBarred0 (l : Launch) (g : rs_G) (t : Nat × Nat) (M : rs_M) (b : Nat) (hb : xL b) (k : Int32) : rs_Ci l g xk t yX1_isBarred cX1_isBarred 4 .boolean 1 [.ref (g.2.2 b), .int (-9), .int k] M (fun r M1 => r = 0 ∧ M1 = M) := by
  refine rs_ofz (plainFor_of_name (by decide)) (Nat.le_of_ble_eq_true rfl) ?_
  intro Y K hr
  show Y M 0 [(0, .ref (g.2.2 b)), (1, .int (-9)), (2, .int k)] []
  refine r_iload_n K 1 dX1_isBarred_0 rfl rfl ?_
  refine r_bipush K (v := (-9)) dX1_isBarred_1 (by decide) ?_
  refine r_icmp_ne K 8 dX1_isBarred_3 (by decide) (fun h => absurd h (by decide)) (fun _ => ?_)
  refine r_iconst K (v := 0) dX1_isBarred_6 (by decide) ?_
  exact hr _ _ _ _ dX1_isBarred_7 (Or.inl rfl) ⟨rfl, rfl⟩
set_option maxHeartbeats 4000000 in
set_option maxRecDepth 100000 in
theorem c_isBarred1 (l : Launch) (g : rs_G) (t : Nat × Nat) (M : rs_M) (b : Nat) (hb : xL b) (br : Nat) (hbr : br ≤ 3) (h5 : M b 5 = nI br) (j k : Nat) (hj : j < 8) (hk : k < 8) : rs_Ci l g xk t yX1_isBarred cX1_isBarred 4 .boolean 1 [.ref (g.2.2 b), .int (nI j), .int (nI k)] M (fun r M1 => ab_b01 r (ab_barred br j k) ∧ M1 = M) := by
  refine rs_ofz (plainFor_of_name (by decide)) (Nat.le_of_ble_eq_true rfl) ?_
  intro Y K hr
  show Y M 0 [(0, .ref (g.2.2 b)), (1, .int (nI j)), (2, .int (nI k))] []
  refine r_iload_n K 1 dX1_isBarred_0 rfl rfl ?_
  refine r_bipush K (v := (-9)) dX1_isBarred_1 (by decide) ?_
  refine r_icmp_ne K 8 dX1_isBarred_3 (by decide) (fun _ => ?_) (fun h => absurd h (nI_ne9 j hj))
  refine r_iload_n K 2 dX1_isBarred_8 rfl rfl ?_
  refine r_iload_n K 1 dX1_isBarred_9 rfl rfl ?_
  refine r_isub K dX1_isBarred_10 ?_
  refine r_bipush K (v := 8) dX1_isBarred_11 (by decide) ?_
  refine r_callSi K [.int ((nI k) - (nI j)), .int 8] [] dX1_isBarred_13 mf_J9_floorMod_7cf53 qw_317 qw_318 (c_floorMod l g xk t M ((nI k) - (nI j))) rfl rfl (by decide) (Nat.le_of_ble_eq_true rfl) (fun r M1 hp => ?_)
  obtain ⟨hp, he⟩ := hp
  have he := he.symm
  subst he
  subst hp
  refine r_top_eq (nI (ab_apart j k)) (x_fm_apart j hj k hk) ?_
  refine r_istore_n K [(3, .int (nI (ab_apart j k))), (0, .ref (g.2.2 b)), (1, .int (nI j)), (2, .int (nI k))] dX1_isBarred_16 rfl (by decide) rfl ?_
  refine r_aload_n K 1 dX1_isBarred_17 rfl rfl ?_
  refine r_getI K (xL_0 hb) rfl ff_1_bar qw_76 dX1_isBarred_18 ?_
  refine r_table K [(1, 48), (2, 58), (3, 73)] 94 dX1_isBarred_21 (by decide) (by decide) (by decide) ?_
  simp only [rs_swp]
  refine ⟨fun h_1_0 => ?_, fun h_1_0 => ⟨fun h_1_1 => ?_, fun h_1_1 => ⟨fun h_1_2 => ?_, fun h_1_2 => ?_⟩⟩⟩
  · refine r_iload_n K 0 dX1_isBarred_48 rfl rfl ?_
    refine r_if_ne K 56 dX1_isBarred_49 (by decide) (fun h_2 => ?_) (fun h_2 => ?_)
    · refine r_iconst K (v := 0) dX1_isBarred_56 (by decide) ?_
      have hap := ab_apart_lt j k
      have nh_1_0 : br = 1 := (nf_eq h5 rfl (by omega) (by omega)).mp h_1_0
      have nh_2 : ¬ (ab_apart j k) = 0 := mt (nf_eq rfl rfl (by omega) (by omega)).mpr h_2
      exact hr _ _ _ _ dX1_isBarred_57 (Or.inl rfl) ⟨Or.inr ⟨rfl, by simp only [ab_barred]; omega⟩, rfl⟩
    · refine r_iconst K (v := 1) dX1_isBarred_52 (by decide) ?_
      refine r_goto K 57 dX1_isBarred_53 (by decide) ?_
      have hap := ab_apart_lt j k
      have nh_1_0 : br = 1 := (nf_eq h5 rfl (by omega) (by omega)).mp h_1_0
      have nh_2 : (ab_apart j k) = 0 := (nf_eq rfl rfl (by omega) (by omega)).mp h_2
      exact hr _ _ _ _ dX1_isBarred_57 (Or.inr rfl) ⟨Or.inl ⟨rfl, by simp only [ab_barred]; omega⟩, rfl⟩
  · refine r_iload_n K 0 dX1_isBarred_58 rfl rfl ?_
    refine r_if_eq K 67 dX1_isBarred_59 (by decide) (fun h_3 => ?_) (fun h_3 => ?_)
    · refine r_iconst K (v := 1) dX1_isBarred_67 (by decide) ?_
      refine r_goto K 72 dX1_isBarred_68 (by decide) ?_
      have hap := ab_apart_lt j k
      have nh_1_0 : ¬ br = 1 := mt (nf_eq h5 rfl (by omega) (by omega)).mpr h_1_0
      have nh_1_1 : br = 2 := (nf_eq h5 rfl (by omega) (by omega)).mp h_1_1
      have nh_3 : (ab_apart j k) = 0 := (nf_eq rfl rfl (by omega) (by omega)).mp h_3
      exact hr _ _ _ _ dX1_isBarred_72 (Or.inr rfl) ⟨Or.inl ⟨rfl, by simp only [ab_barred]; omega⟩, rfl⟩
    · refine r_iload_n K 0 dX1_isBarred_62 rfl rfl ?_
      refine r_iconst K (v := 4) dX1_isBarred_63 (by decide) ?_
      refine r_icmp_ne K 71 dX1_isBarred_64 (by decide) (fun h_4 => ?_) (fun h_4 => ?_)
      · refine r_iconst K (v := 0) dX1_isBarred_71 (by decide) ?_
        have hap := ab_apart_lt j k
        have nh_1_0 : ¬ br = 1 := mt (nf_eq h5 rfl (by omega) (by omega)).mpr h_1_0
        have nh_1_1 : br = 2 := (nf_eq h5 rfl (by omega) (by omega)).mp h_1_1
        have nh_3 : ¬ (ab_apart j k) = 0 := mt (nf_eq rfl rfl (by omega) (by omega)).mpr h_3
        have nh_4 : ¬ (ab_apart j k) = 4 := mt (nf_eq rfl rfl (by omega) (by omega)).mpr h_4
        exact hr _ _ _ _ dX1_isBarred_72 (Or.inl rfl) ⟨Or.inr ⟨rfl, by simp only [ab_barred]; omega⟩, rfl⟩
      · refine r_iconst K (v := 1) dX1_isBarred_67 (by decide) ?_
        refine r_goto K 72 dX1_isBarred_68 (by decide) ?_
        have hap := ab_apart_lt j k
        have nh_1_0 : ¬ br = 1 := mt (nf_eq h5 rfl (by omega) (by omega)).mpr h_1_0
        have nh_1_1 : br = 2 := (nf_eq h5 rfl (by omega) (by omega)).mp h_1_1
        have nh_3 : ¬ (ab_apart j k) = 0 := mt (nf_eq rfl rfl (by omega) (by omega)).mpr h_3
        have nh_4 : (ab_apart j k) = 4 := (nf_eq rfl rfl (by omega) (by omega)).mp h_4
        exact hr _ _ _ _ dX1_isBarred_72 (Or.inr rfl) ⟨Or.inl ⟨rfl, by simp only [ab_barred]; omega⟩, rfl⟩
  · refine r_iload_n K 0 dX1_isBarred_73 rfl rfl ?_
    refine r_if_eq K 88 dX1_isBarred_74 (by decide) (fun h_5 => ?_) (fun h_5 => ?_)
    · refine r_iconst K (v := 1) dX1_isBarred_88 (by decide) ?_
      refine r_goto K 93 dX1_isBarred_89 (by decide) ?_
      have hap := ab_apart_lt j k
      have nh_1_0 : ¬ br = 1 := mt (nf_eq h5 rfl (by omega) (by omega)).mpr h_1_0
      have nh_1_1 : ¬ br = 2 := mt (nf_eq h5 rfl (by omega) (by omega)).mpr h_1_1
      have nh_1_2 : br = 3 := (nf_eq h5 rfl (by omega) (by omega)).mp h_1_2
      have nh_5 : (ab_apart j k) = 0 := (nf_eq rfl rfl (by omega) (by omega)).mp h_5
      exact hr _ _ _ _ dX1_isBarred_93 (Or.inr rfl) ⟨Or.inl ⟨rfl, by simp only [ab_barred]; omega⟩, rfl⟩
    · refine r_iload_n K 0 dX1_isBarred_77 rfl rfl ?_
      refine r_iconst K (v := 1) dX1_isBarred_78 (by decide) ?_
      refine r_icmp_eq K 88 dX1_isBarred_79 (by decide) (fun h_6 => ?_) (fun h_6 => ?_)
      · refine r_iconst K (v := 1) dX1_isBarred_88 (by decide) ?_
        refine r_goto K 93 dX1_isBarred_89 (by decide) ?_
        have hap := ab_apart_lt j k
        have nh_1_0 : ¬ br = 1 := mt (nf_eq h5 rfl (by omega) (by omega)).mpr h_1_0
        have nh_1_1 : ¬ br = 2 := mt (nf_eq h5 rfl (by omega) (by omega)).mpr h_1_1
        have nh_1_2 : br = 3 := (nf_eq h5 rfl (by omega) (by omega)).mp h_1_2
        have nh_5 : ¬ (ab_apart j k) = 0 := mt (nf_eq rfl rfl (by omega) (by omega)).mpr h_5
        have nh_6 : (ab_apart j k) = 1 := (nf_eq rfl rfl (by omega) (by omega)).mp h_6
        exact hr _ _ _ _ dX1_isBarred_93 (Or.inr rfl) ⟨Or.inl ⟨rfl, by simp only [ab_barred]; omega⟩, rfl⟩
      · refine r_iload_n K 0 dX1_isBarred_82 rfl rfl ?_
        refine r_bipush K (v := 7) dX1_isBarred_83 (by decide) ?_
        refine r_icmp_ne K 92 dX1_isBarred_85 (by decide) (fun h_7 => ?_) (fun h_7 => ?_)
        · refine r_iconst K (v := 0) dX1_isBarred_92 (by decide) ?_
          have hap := ab_apart_lt j k
          have nh_1_0 : ¬ br = 1 := mt (nf_eq h5 rfl (by omega) (by omega)).mpr h_1_0
          have nh_1_1 : ¬ br = 2 := mt (nf_eq h5 rfl (by omega) (by omega)).mpr h_1_1
          have nh_1_2 : br = 3 := (nf_eq h5 rfl (by omega) (by omega)).mp h_1_2
          have nh_5 : ¬ (ab_apart j k) = 0 := mt (nf_eq rfl rfl (by omega) (by omega)).mpr h_5
          have nh_6 : ¬ (ab_apart j k) = 1 := mt (nf_eq rfl rfl (by omega) (by omega)).mpr h_6
          have nh_7 : ¬ (ab_apart j k) = 7 := mt (nf_eq rfl rfl (by omega) (by omega)).mpr h_7
          exact hr _ _ _ _ dX1_isBarred_93 (Or.inl rfl) ⟨Or.inr ⟨rfl, by simp only [ab_barred]; omega⟩, rfl⟩
        · refine r_iconst K (v := 1) dX1_isBarred_88 (by decide) ?_
          refine r_goto K 93 dX1_isBarred_89 (by decide) ?_
          have hap := ab_apart_lt j k
          have nh_1_0 : ¬ br = 1 := mt (nf_eq h5 rfl (by omega) (by omega)).mpr h_1_0
          have nh_1_1 : ¬ br = 2 := mt (nf_eq h5 rfl (by omega) (by omega)).mpr h_1_1
          have nh_1_2 : br = 3 := (nf_eq h5 rfl (by omega) (by omega)).mp h_1_2
          have nh_5 : ¬ (ab_apart j k) = 0 := mt (nf_eq rfl rfl (by omega) (by omega)).mpr h_5
          have nh_6 : ¬ (ab_apart j k) = 1 := mt (nf_eq rfl rfl (by omega) (by omega)).mpr h_6
          have nh_7 : (ab_apart j k) = 7 := (nf_eq rfl rfl (by omega) (by omega)).mp h_7
          exact hr _ _ _ _ dX1_isBarred_93 (Or.inr rfl) ⟨Or.inl ⟨rfl, by simp only [ab_barred]; omega⟩, rfl⟩
  · refine r_iconst K (v := 0) dX1_isBarred_94 (by decide) ?_
    have hap := ab_apart_lt j k
    have nh_1_0 : ¬ br = 1 := mt (nf_eq h5 rfl (by omega) (by omega)).mpr h_1_0
    have nh_1_1 : ¬ br = 2 := mt (nf_eq h5 rfl (by omega) (by omega)).mpr h_1_1
    have nh_1_2 : ¬ br = 3 := mt (nf_eq h5 rfl (by omega) (by omega)).mpr h_1_2
    exact hr _ _ _ _ dX1_isBarred_95 (Or.inl rfl) ⟨Or.inr ⟨rfl, by simp only [ab_barred]; omega⟩, rfl⟩
set_option maxHeartbeats 4000000 in
set_option maxRecDepth 100000 in
theorem c_hasRoom (l : Launch) (g : rs_G) (t : Nat × Nat) (M : rs_M) (b : Nat) (hb : xL b) (tp : Int32) (L : ab_L) (hok : ab_ok L) (hL : x_rl M b tp L) (c : Nat) (hc : xk[c]? = some x_spot) (ks : List Nat) (hm : ks.length ≤ 16) (hs : x_sp M c tp ks) (k : Nat) (hk : k < 8) : rs_Ci l g xk t yX1_hasRoom cX1_hasRoom 6 .boolean 1 [.ref (g.2.2 b), .ref (g.2.2 c), .int (nI k)] M (fun r M1 => ab_b01 r (ab_room L (ks.length + 1) (ab_step tp (ab_geo tp ks) k).1 (ab_step tp (ab_geo tp ks) k).2.1) ∧ M1 = M) := by
  obtain ⟨e4, e5, e6, e7, ew⟩ := id hL
  have ht20 := hok.2.2.2.2.1
  have eX : M c 2 + M b 4 * rs_lX k - (M (b + 2) (ks.length + 1) - M (b + 2) ks.length) = (ab_step tp (ab_geo tp ks) k).1 - (ab_wx L (ks.length + 1) - ab_wx L (ks.length + 1 - 1)) := by rw [hs.2.2.1, e4, (ew _ (by omega)).1, (ew _ (by omega)).1]; rfl
  have eY : M c 3 + M b 4 * rs_lY k - (M (b + 3) (ks.length + 1) - M (b + 3) ks.length) = (ab_step tp (ab_geo tp ks) k).2.1 - (ab_wy L (ks.length + 1) - ab_wy L (ks.length + 1 - 1)) := by rw [hs.2.2.2.1, e4, (ew _ (by omega)).2, (ew _ (by omega)).2]; rfl
  refine rs_ofz (plainFor_of_name (by decide)) (Nat.le_of_ble_eq_true rfl) ?_
  intro Y K hr
  show Y M 0 [(0, .ref (g.2.2 b)), (1, .ref (g.2.2 c)), (2, .int (nI k))] []
  refine r_aload_n K 0 dX1_hasRoom_0 rfl rfl ?_
  refine r_getI K (xL_0 hb) rfl ff_1_tail qw_80 dX1_hasRoom_1 ?_
  refine r_if_ne K 9 dX1_hasRoom_4 (by decide) (fun h_1 => ?_) (fun h_1 => ?_)
  · refine r_aload_n K 1 dX1_hasRoom_9 rfl rfl ?_
    refine r_getI K hc rfl ff_4_ringNumber qw_32 dX1_hasRoom_10 ?_
    refine r_iconst K (v := 1) dX1_hasRoom_13 (by decide) ?_
    refine r_iadd K dX1_hasRoom_14 ?_
    refine r_top_eq (nI (ks.length + 1)) (by rw [hs.1]; exact nI_1 _) ?_
    refine r_istore_n K [(3, .int (nI (ks.length + 1))), (0, .ref (g.2.2 b)), (1, .ref (g.2.2 c)), (2, .int (nI k))] dX1_hasRoom_15 rfl (by decide) rfl ?_
    refine r_iload_n K 0 dX1_hasRoom_16 rfl rfl ?_
    refine r_iconst K (v := 1) dX1_hasRoom_17 (by decide) ?_
    refine r_bipush K (v := 17) dX1_hasRoom_18 (by decide) ?_
    refine r_callNi K [.int (nI (ks.length + 1)), .int 1, .int 17] [] dX1_hasRoom_20 mf_X5_isWithin (by decide) qw_228 (c_isWithin l g xk t M (nI (ks.length + 1)) 1 17) rfl rfl (by decide) (Nat.le_of_ble_eq_true rfl) (fun r M1 hp => ?_)
    obtain ⟨hp, he⟩ := hp
    have he := he.symm
    subst he
    rcases hp with ⟨rfl, hb_2⟩ | ⟨rfl, hb_2⟩
    rotate_left
    · exact absurd (x_within (a := 1) (b := 17) rfl (by omega) (by omega) (by decide)) hb_2
    refine r_if_ne K 28 dX1_hasRoom_23 (by decide) (fun _ => ?_) (fun h => absurd h (by decide))
    refine r_aload_n K 1 dX1_hasRoom_28 rfl rfl ?_
    refine r_getR K (xL_0 hb) rfl ff_1_wishX qw_65 dX1_hasRoom_29 ?_
    refine r_iload_n K 0 dX1_hasRoom_32 rfl rfl ?_
    refine r_iald K (j := ks.length + 1) (xL_2 hb) rfl (by omega) (by decide) dX1_hasRoom_33 ?_
    refine r_aload_n K 1 dX1_hasRoom_34 rfl rfl ?_
    refine r_getR K (xL_0 hb) rfl ff_1_wishX qw_65 dX1_hasRoom_35 ?_
    refine r_iload_n K 0 dX1_hasRoom_38 rfl rfl ?_
    refine r_iconst K (v := 1) dX1_hasRoom_39 (by decide) ?_
    refine r_isub K dX1_hasRoom_40 ?_
    refine r_iald K (j := ks.length) (xL_2 hb) (nI_pred _) (by omega) (by decide) dX1_hasRoom_41 ?_
    refine r_isub K dX1_hasRoom_42 ?_
    refine r_istore K [(4, .int ((M (b + 2) (ks.length + 1)) - (M (b + 2) ks.length))), (3, .int (nI (ks.length + 1))), (0, .ref (g.2.2 b)), (1, .ref (g.2.2 c)), (2, .int (nI k))] dX1_hasRoom_43 (by decide) rfl ?_
    refine r_aload_n K 2 dX1_hasRoom_45 rfl rfl ?_
    refine r_getR K (xL_0 hb) rfl ff_1_wishY qw_67 dX1_hasRoom_46 ?_
    refine r_iload_n K 1 dX1_hasRoom_49 rfl rfl ?_
    refine r_iald K (j := ks.length + 1) (xL_3 hb) rfl (by omega) (by decide) dX1_hasRoom_50 ?_
    refine r_aload_n K 2 dX1_hasRoom_51 rfl rfl ?_
    refine r_getR K (xL_0 hb) rfl ff_1_wishY qw_67 dX1_hasRoom_52 ?_
    refine r_iload_n K 1 dX1_hasRoom_55 rfl rfl ?_
    refine r_iconst K (v := 1) dX1_hasRoom_56 (by decide) ?_
    refine r_isub K dX1_hasRoom_57 ?_
    refine r_iald K (j := ks.length) (xL_3 hb) (nI_pred _) (by omega) (by decide) dX1_hasRoom_58 ?_
    refine r_isub K dX1_hasRoom_59 ?_
    refine r_istore K [(5, .int ((M (b + 3) (ks.length + 1)) - (M (b + 3) ks.length))), (4, .int ((M (b + 2) (ks.length + 1)) - (M (b + 2) ks.length))), (3, .int (nI (ks.length + 1))), (0, .ref (g.2.2 b)), (1, .ref (g.2.2 c)), (2, .int (nI k))] dX1_hasRoom_60 (by decide) rfl ?_
    refine r_aload_n K 4 dX1_hasRoom_62 rfl rfl ?_
    refine r_getI K hc rfl ff_4_slopeX qw_39 dX1_hasRoom_63 ?_
    refine r_aload_n K 3 dX1_hasRoom_66 rfl rfl ?_
    refine r_getI K (xL_0 hb) rfl ff_1_taper qw_72 dX1_hasRoom_67 ?_
    refine r_iload_n K 5 dX1_hasRoom_70 rfl rfl ?_
    refine r_callNi K [.int (nI k)] [.int (M b 4), .int (M c 2)] dX1_hasRoom_71 mf_X5_leanX (by decide) qw_325 (c_leanX l g xk t M k hk) rfl rfl (by decide) (Nat.le_of_ble_eq_true rfl) (fun r M1 hp => ?_)
    obtain ⟨hp, he⟩ := hp
    have he := he.symm
    subst he
    subst hp
    refine r_imul K dX1_hasRoom_74 ?_
    refine r_iadd K dX1_hasRoom_75 ?_
    refine r_iload K 1 dX1_hasRoom_76 rfl ?_
    refine r_isub K dX1_hasRoom_78 ?_
    refine r_mabs K dX1_hasRoom_79 qw_329 qw_330 qw_8 qw_331 (by decide) (Nat.le_of_ble_eq_true rfl) ?_
    refine r_aload_n K 3 dX1_hasRoom_82 rfl rfl ?_
    refine r_getI K (xL_0 hb) rfl ff_1_tail qw_80 dX1_hasRoom_83 ?_
    refine r_icmp_gt K 120 dX1_hasRoom_86 (by decide) (fun h_3 => ?_) (fun h_3 => ?_)
    · refine r_iconst K (v := 0) dX1_hasRoom_120 (by decide) ?_
      have ht0 : ¬ ab_tail L = 0 := mt (nf_eq e7 rfl (by omega) (by decide)).mpr h_1
      rw [eX, e7] at h_3
      exact hr _ _ _ _ dX1_hasRoom_121 (Or.inl rfl) ⟨Or.inr ⟨rfl, fun q => q.elim (fun q => ht0 q) (fun q => absurd q.1 (Int32.not_le.mpr h_3))⟩, rfl⟩
    · refine r_aload_n K 4 dX1_hasRoom_89 rfl rfl ?_
      refine r_getI K hc rfl ff_4_slopeY qw_42 dX1_hasRoom_90 ?_
      refine r_aload_n K 3 dX1_hasRoom_93 rfl rfl ?_
      refine r_getI K (xL_0 hb) rfl ff_1_taper qw_72 dX1_hasRoom_94 ?_
      refine r_iload_n K 5 dX1_hasRoom_97 rfl rfl ?_
      refine r_callNi K [.int (nI k)] [.int (M b 4), .int (M c 3)] dX1_hasRoom_98 mf_X5_leanY (by decide) qw_333 (c_leanY l g xk t M k hk) rfl rfl (by decide) (Nat.le_of_ble_eq_true rfl) (fun r M1 hp => ?_)
      obtain ⟨hp, he⟩ := hp
      have he := he.symm
      subst he
      subst hp
      refine r_imul K dX1_hasRoom_101 ?_
      refine r_iadd K dX1_hasRoom_102 ?_
      refine r_iload K 0 dX1_hasRoom_103 rfl ?_
      refine r_isub K dX1_hasRoom_105 ?_
      refine r_mabs K dX1_hasRoom_106 qw_329 qw_330 qw_8 qw_331 (by decide) (Nat.le_of_ble_eq_true rfl) ?_
      refine r_aload_n K 3 dX1_hasRoom_109 rfl rfl ?_
      refine r_getI K (xL_0 hb) rfl ff_1_tail qw_80 dX1_hasRoom_110 ?_
      refine r_icmp_gt K 120 dX1_hasRoom_113 (by decide) (fun h_4 => ?_) (fun h_4 => ?_)
      · refine r_iconst K (v := 0) dX1_hasRoom_120 (by decide) ?_
        have ht0 : ¬ ab_tail L = 0 := mt (nf_eq e7 rfl (by omega) (by decide)).mpr h_1
        rw [eX, e7] at h_3
        rw [eY, e7] at h_4
        exact hr _ _ _ _ dX1_hasRoom_121 (Or.inl rfl) ⟨Or.inr ⟨rfl, fun q => q.elim (fun q => ht0 q) (fun q => absurd q.2 (Int32.not_le.mpr h_4))⟩, rfl⟩
      · refine r_iconst K (v := 1) dX1_hasRoom_116 (by decide) ?_
        refine r_goto K 121 dX1_hasRoom_117 (by decide) ?_
        have ht0 : ¬ ab_tail L = 0 := mt (nf_eq e7 rfl (by omega) (by decide)).mpr h_1
        rw [eX, e7] at h_3
        rw [eY, e7] at h_4
        exact hr _ _ _ _ dX1_hasRoom_121 (Or.inr rfl) ⟨Or.inl ⟨rfl, Or.inr ⟨Int32.not_lt.mp h_3, Int32.not_lt.mp h_4⟩⟩, rfl⟩
  · refine r_iconst K (v := 1) dX1_hasRoom_7 (by decide) ?_
    exact hr _ _ _ _ dX1_hasRoom_8 (Or.inr rfl) ⟨Or.inl ⟨rfl, Or.inl ((nf_eq e7 rfl (by omega) (by decide)).mp h_1)⟩, rfl⟩
