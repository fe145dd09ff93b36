theorem x_99 {x : Int32} (h : (-99) ≤ x ∧ x ≤ 99) : -99 ≤ x.toInt ∧ x.toInt ≤ 99 := by
  obtain ⟨h1, h2⟩ := h
  rw [Int32.le_iff_toInt_le] at h1 h2
  have e1 : (-99 : Int32).toInt = -99 := by decide
  have e2 : (99 : Int32).toInt = 99 := by decide
  omega
theorem x_rnat {w v : Int32} (h : 0 ≤ v ∧ ((w = 0 ∧ v ≤ 3) ∨ (w = 1 ∧ v ≤ 2) ∨ (w = 2 ∧ v ≤ 20))) : ∃ a b, w = nI a ∧ v = nI b ∧ ab_rlim a b := by
  obtain ⟨h0, h⟩ := h
  rcases h with ⟨rfl, h⟩ | ⟨rfl, h⟩ | ⟨rfl, h⟩
  · obtain ⟨j, h1, h2, rfl⟩ := x_nat (a := 0) (b := 3) ⟨h0, h⟩ (by decide) (by decide)
    exact ⟨0, j, rfl, rfl, Or.inl ⟨rfl, h2⟩⟩
  · obtain ⟨j, h1, h2, rfl⟩ := x_nat (a := 0) (b := 2) ⟨h0, h⟩ (by decide) (by decide)
    exact ⟨1, j, rfl, rfl, Or.inr (Or.inl ⟨rfl, h2⟩)⟩
  · obtain ⟨j, h1, h2, rfl⟩ := x_nat (a := 0) (b := 20) ⟨h0, h⟩ (by decide) (by decide)
    exact ⟨2, j, rfl, rfl, Or.inr (Or.inr ⟨rfl, h2⟩)⟩
theorem ab_rlim_le {a b : Nat} (h : ab_rlim a b) : a ≤ 2 ∧ b ≤ 20 := by rcases h with h | h | h <;> omega
theorem x_knat {k : Int32} {j : Nat} (hj : j < 2 ^ 31) (h1 : (-2) ≤ k) (h2 : ¬ k = -1) (h3 : ¬ k = -2) (h4 : k < nI j) : ∃ q, q < j ∧ k = nI q := by
  have n0 : ¬ k < 0 := fun q => by
    rw [Int32.lt_iff_toInt_lt] at q
    rw [Int32.le_iff_toInt_le] at h1
    have a1 : k.toInt ≠ -1 := fun e => h2 (Int32.toInt_inj.mp (by rw [e]; decide))
    have a2 : k.toInt ≠ -2 := fun e => h3 (Int32.toInt_inj.mp (by rw [e]; decide))
    have z : (0 : Int32).toInt = 0 := by decide
    have z2 : (-2 : Int32).toInt = -2 := by decide
    omega
  obtain ⟨q, hq, rfl⟩ := nI_of n0
  exact ⟨q, (nI_ltI hq hj).mp h4, rfl⟩
set_option maxHeartbeats 4000000 in
set_option maxRecDepth 100000 in
theorem c_wishes (l : Launch) (g : rs_G) (t : Nat × Nat) (M : rs_M) (A : ab_S) (hS : x_S M A) (p x y : Int32) : rs_Ci l g xk t yX5_wishes cX5_wishes 4 .int 3 [.ref (g.2.2 0), .int p, .int x, .int y] M (fun r M1 => x_R (ab_wishes A p x y) r M1) := by
  obtain ⟨hL, hok, ht, hdr, him, htx, hun, hca, hse⟩ := id hS
  have hn12 := hok.1
  obtain ⟨ds, hds, hdl, hch⟩ := hun
  refine rs_ofi (plainFor_of_name (by decide)) (Nat.le_of_ble_eq_true rfl) ?_
  intro Y K hr
  show Y M 0 [(0, .ref (g.2.2 0)), (1, .int p), (2, .int x), (3, .int y)] []
  refine r_iload_n K 1 dX5_wishes_0 rfl rfl ?_
  refine r_iconst K (v := 1) dX5_wishes_1 (by decide) ?_
  refine r_bipush K (v := 17) dX5_wishes_2 (by decide) ?_
  refine r_callSi K [.int p, .int 1, .int 17] [] dX5_wishes_4 mf_X5_isWithin qw_227 qw_228 (c_isWithin l g xk t M p 1 17) rfl rfl (by decide) (Nat.le_of_ble_eq_true rfl) (fun r M1 hp => ?_)
  obtain ⟨hp, he⟩ := hp
  have he := he.symm
  subst he
  rcases hp with ⟨rfl, hb_1⟩ | ⟨rfl, hb_1⟩
  · refine r_if_eq K 24 dX5_wishes_7 (by decide) (fun h => absurd h (by decide)) (fun _ => ?_)
    refine r_iload_n K 2 dX5_wishes_10 rfl rfl ?_
    refine r_callSi K [.int x] [] dX5_wishes_11 mf_X5_isWish qw_414 qw_415 (c_isWish l g xk t M x) rfl rfl (by decide) (Nat.le_of_ble_eq_true rfl) (fun r M1 hp => ?_)
    obtain ⟨hp, he⟩ := hp
    have he := he.symm
    subst he
    rcases hp with ⟨rfl, hb_2⟩ | ⟨rfl, hb_2⟩
    · refine r_if_eq K 24 dX5_wishes_14 (by decide) (fun h => absurd h (by decide)) (fun _ => ?_)
      refine r_iload_n K 3 dX5_wishes_17 rfl rfl ?_
      refine r_callSi K [.int y] [] dX5_wishes_18 mf_X5_isWish qw_414 qw_415 (c_isWish l g xk t M y) rfl rfl (by decide) (Nat.le_of_ble_eq_true rfl) (fun r M1 hp => ?_)
      obtain ⟨hp, he⟩ := hp
      have he := he.symm
      subst he
      rcases hp with ⟨rfl, hb_3⟩ | ⟨rfl, hb_3⟩
      · refine r_if_ne K 26 dX5_wishes_21 (by decide) (fun _ => ?_) (fun h => absurd h (by decide))
        obtain ⟨j, hj1, hj2, rfl⟩ := x_nat (a := 1) (b := 17) hb_1 (by omega) (by omega)
        have jc : (nI j).toNatClampNeg = j := nI_clamp (by omega)
        refine r_aload_n K 0 dX5_wishes_26 rfl rfl ?_
        refine r_getR K rfl rfl ff_5_line qw_189 dX5_wishes_27 ?_
        refine r_getR K (xL_0 xL1) rfl ff_1_wishX qw_66 dX5_wishes_30 ?_
        refine r_iload_n K 1 dX5_wishes_33 rfl rfl ?_
        refine r_iald K (j := j) (xL_2 xL1) rfl (by omega) (by decide) dX5_wishes_34 ?_
        refine r_top_eq (ab_wx A.1 j) (hL.2.2.2.2.2.2 j (by omega)).1 ?_
        refine r_iload_n K 2 dX5_wishes_35 rfl rfl ?_
        refine r_icmp_ne K 55 dX5_wishes_36 (by decide) (fun h_4 => ?_) (fun h_4 => ?_)
        · refine r_aload_n K 0 dX5_wishes_55 rfl rfl ?_
          refine r_getR K rfl rfl ff_5_deeds qw_194 dX5_wishes_56 ?_
          refine r_iconst K (v := 1) dX5_wishes_59 (by decide) ?_
          refine r_iload_n K 1 dX5_wishes_60 rfl rfl ?_
          refine r_aload_n K 0 dX5_wishes_61 rfl rfl ?_
          refine r_getR K rfl rfl ff_5_line qw_189 dX5_wishes_62 ?_
          refine r_getR K (xL_0 xL1) rfl ff_1_wishX qw_66 dX5_wishes_65 ?_
          refine r_iload_n K 1 dX5_wishes_68 rfl rfl ?_
          refine r_iald K (j := j) (xL_2 xL1) rfl (by omega) (by decide) dX5_wishes_69 ?_
          refine r_top_eq (ab_wx A.1 j) (hL.2.2.2.2.2.2 j (by omega)).1 ?_
          refine r_aload_n K 0 dX5_wishes_70 rfl rfl ?_
          refine r_getR K rfl rfl ff_5_line qw_189 dX5_wishes_71 ?_
          refine r_getR K (xL_0 xL1) rfl ff_1_wishY qw_68 dX5_wishes_74 ?_
          refine r_iload_n K 1 dX5_wishes_77 rfl rfl ?_
          refine r_iald K (j := j) (xL_3 xL1) rfl (by omega) (by decide) dX5_wishes_78 ?_
          refine r_top_eq (ab_wy A.1 j) (hL.2.2.2.2.2.2 j (by omega)).2 ?_
          refine r_callVv K [.int 1, .int (nI j), .int (ab_wx A.1 j), .int (ab_wy A.1 j)] [] dX5_wishes_79 mf_X0_add rfl rfl qw_371 qw_372 qw_373 (c_Deeds_add l g t M ds hds hdl (1, j, ab_wx A.1 j, ab_wy A.1 j)) rfl rfl (by decide) (Nat.le_of_ble_eq_true rfl) (fun Ma hp => ?_)
          obtain ⟨ha1, ha2⟩ := hp
          refine r_aload_n K 0 dX5_wishes_82 rfl rfl ?_
          refine r_getR K rfl rfl ff_5_line qw_189 dX5_wishes_83 ?_
          refine r_iload_n K 1 dX5_wishes_86 rfl rfl ?_
          refine r_iload_n K 2 dX5_wishes_87 rfl rfl ?_
          refine r_iload_n K 3 dX5_wishes_88 rfl rfl ?_
          refine r_callVv K [.int (nI j), .int x, .int y] [] dX5_wishes_89 mf_X1_setWish (xL_0 xL1) rfl qw_417 qw_294 qw_295 (c_setWish l g t Ma 1 xL1 A.2.1 A.1 (x_ln_fr hok.1 hL ha2 (by omega)) j (by omega) (by omega) x y) rfl rfl (by decide) (Nat.le_of_ble_eq_true rfl) (fun Mb hp => ?_)
          obtain ⟨hb1, hb2⟩ := hp
          refine r_aload_n K 0 dX5_wishes_92 rfl rfl ?_
          refine r_callVv K [] [] dX5_wishes_93 mf_X5_lineChanged rfl rfl qw_356 qw_358 qs_11 (c_lineChanged l g t Mb) rfl rfl (by decide) (Nat.le_of_ble_eq_true rfl) (fun M1 hp => ?_)
          subst hp
          refine r_iconst K (v := 1) dX5_wishes_96 (by decide) ?_
          have hok2 : ab_ok (ab_setwish A.1 j x y) := ab_ok_wish hok (by omega) (x_99 hb_2) (x_99 hb_3)
          have e : ab_wishes A (nI j) x y = (1, ab_wL A (ab_setwish A.1 j x y) ((A.1 :: A.2.2.1).take 12)) := by rw [ab_wishes, ab_if_pos ⟨hb_1, hb_2, hb_3⟩, jc, ab_if_neg (fun q => h_4 q.1)]
          exact hr _ _ _ _ dX5_wishes_97 (by rw [e]; exact ⟨rfl, (x_S_line hS (fun c h1 h2 => by rw [rs_st_ne _ _ _ (by omega), hb2 c (by omega), ha2 c (by omega)]) (x_ln_fr hok2.1 hb1 (x_fr_st (lo := 45) (hi := 46) (by decide) (by decide)) (by omega)) hok2 (x_und_push hdl hch (x_dd_fr (x_dd_fr ha1 (fun c h1 h2 => hb2 c (by omega))) (fun c h1 h2 => rs_st_ne _ _ _ (by omega))) (Or.inr (Or.inl ⟨rfl, by omega, by omega⟩)) (by rw [ab_undo_1 rfl]; exact ab_wish_wish A.1 j x y) hok) (x_cache_0 (by rw [rs_st_eq])))⟩)
        · refine r_aload_n K 0 dX5_wishes_39 rfl rfl ?_
          refine r_getR K rfl rfl ff_5_line qw_189 dX5_wishes_40 ?_
          refine r_getR K (xL_0 xL1) rfl ff_1_wishY qw_68 dX5_wishes_43 ?_
          refine r_iload_n K 1 dX5_wishes_46 rfl rfl ?_
          refine r_iald K (j := j) (xL_3 xL1) rfl (by omega) (by decide) dX5_wishes_47 ?_
          refine r_top_eq (ab_wy A.1 j) (hL.2.2.2.2.2.2 j (by omega)).2 ?_
          refine r_iload_n K 3 dX5_wishes_48 rfl rfl ?_
          refine r_icmp_ne K 55 dX5_wishes_49 (by decide) (fun h_5 => ?_) (fun h_5 => ?_)
          · refine r_aload_n K 0 dX5_wishes_55 rfl rfl ?_
            refine r_getR K rfl rfl ff_5_deeds qw_194 dX5_wishes_56 ?_
            refine r_iconst K (v := 1) dX5_wishes_59 (by decide) ?_
            refine r_iload_n K 1 dX5_wishes_60 rfl rfl ?_
            refine r_aload_n K 0 dX5_wishes_61 rfl rfl ?_
            refine r_getR K rfl rfl ff_5_line qw_189 dX5_wishes_62 ?_
            refine r_getR K (xL_0 xL1) rfl ff_1_wishX qw_66 dX5_wishes_65 ?_
            refine r_iload_n K 1 dX5_wishes_68 rfl rfl ?_
            refine r_iald K (j := j) (xL_2 xL1) rfl (by omega) (by decide) dX5_wishes_69 ?_
            refine r_top_eq (ab_wx A.1 j) (hL.2.2.2.2.2.2 j (by omega)).1 ?_
            refine r_aload_n K 0 dX5_wishes_70 rfl rfl ?_
            refine r_getR K rfl rfl ff_5_line qw_189 dX5_wishes_71 ?_
            refine r_getR K (xL_0 xL1) rfl ff_1_wishY qw_68 dX5_wishes_74 ?_
            refine r_iload_n K 1 dX5_wishes_77 rfl rfl ?_
            refine r_iald K (j := j) (xL_3 xL1) rfl (by omega) (by decide) dX5_wishes_78 ?_
            refine r_top_eq (ab_wy A.1 j) (hL.2.2.2.2.2.2 j (by omega)).2 ?_
            refine r_callVv K [.int 1, .int (nI j), .int (ab_wx A.1 j), .int (ab_wy A.1 j)] [] dX5_wishes_79 mf_X0_add rfl rfl qw_371 qw_372 qw_373 (c_Deeds_add l g t M ds hds hdl (1, j, ab_wx A.1 j, ab_wy A.1 j)) rfl rfl (by decide) (Nat.le_of_ble_eq_true rfl) (fun Ma hp => ?_)
            obtain ⟨ha1, ha2⟩ := hp
            refine r_aload_n K 0 dX5_wishes_82 rfl rfl ?_
            refine r_getR K rfl rfl ff_5_line qw_189 dX5_wishes_83 ?_
            refine r_iload_n K 1 dX5_wishes_86 rfl rfl ?_
            refine r_iload_n K 2 dX5_wishes_87 rfl rfl ?_
            refine r_iload_n K 3 dX5_wishes_88 rfl rfl ?_
            refine r_callVv K [.int (nI j), .int x, .int y] [] dX5_wishes_89 mf_X1_setWish (xL_0 xL1) rfl qw_417 qw_294 qw_295 (c_setWish l g t Ma 1 xL1 A.2.1 A.1 (x_ln_fr hok.1 hL ha2 (by omega)) j (by omega) (by omega) x y) rfl rfl (by decide) (Nat.le_of_ble_eq_true rfl) (fun Mb hp => ?_)
            obtain ⟨hb1, hb2⟩ := hp
            refine r_aload_n K 0 dX5_wishes_92 rfl rfl ?_
            refine r_callVv K [] [] dX5_wishes_93 mf_X5_lineChanged rfl rfl qw_356 qw_358 qs_11 (c_lineChanged l g t Mb) rfl rfl (by decide) (Nat.le_of_ble_eq_true rfl) (fun M1 hp => ?_)
            subst hp
            refine r_iconst K (v := 1) dX5_wishes_96 (by decide) ?_
            have hok2 : ab_ok (ab_setwish A.1 j x y) := ab_ok_wish hok (by omega) (x_99 hb_2) (x_99 hb_3)
            have e : ab_wishes A (nI j) x y = (1, ab_wL A (ab_setwish A.1 j x y) ((A.1 :: A.2.2.1).take 12)) := by rw [ab_wishes, ab_if_pos ⟨hb_1, hb_2, hb_3⟩, jc, ab_if_neg (fun q => h_5 q.2)]
            exact hr _ _ _ _ dX5_wishes_97 (by rw [e]; exact ⟨rfl, (x_S_line hS (fun c h1 h2 => by rw [rs_st_ne _ _ _ (by omega), hb2 c (by omega), ha2 c (by omega)]) (x_ln_fr hok2.1 hb1 (x_fr_st (lo := 45) (hi := 46) (by decide) (by decide)) (by omega)) hok2 (x_und_push hdl hch (x_dd_fr (x_dd_fr ha1 (fun c h1 h2 => hb2 c (by omega))) (fun c h1 h2 => rs_st_ne _ _ _ (by omega))) (Or.inr (Or.inl ⟨rfl, by omega, by omega⟩)) (by rw [ab_undo_1 rfl]; exact ab_wish_wish A.1 j x y) hok) (x_cache_0 (by rw [rs_st_eq])))⟩)
          · refine r_bipush K (v := (-2)) dX5_wishes_52 (by decide) ?_
            have e : ab_wishes A (nI j) x y = (-2, A) := by rw [ab_wishes, ab_if_pos ⟨hb_1, hb_2, hb_3⟩, jc, ab_if_pos ⟨h_4, h_5⟩]
            exact hr _ _ _ _ dX5_wishes_54 (by rw [e]; exact ⟨rfl, hS⟩)
      · refine r_if_ne K 26 dX5_wishes_21 (by decide) (fun h => absurd h (by decide)) (fun _ => ?_)
        refine r_iconst K (v := (-1)) dX5_wishes_24 (by decide) ?_
        have e : ab_wishes A p x y = (-1, A) := by rw [ab_wishes, ab_if_neg (fun q => hb_3 q.2.2)]
        exact hr _ _ _ _ dX5_wishes_25 (by rw [e]; exact ⟨rfl, hS⟩)
    · refine r_if_eq K 24 dX5_wishes_14 (by decide) (fun _ => ?_) (fun h => absurd h (by decide))
      refine r_iconst K (v := (-1)) dX5_wishes_24 (by decide) ?_
      have e : ab_wishes A p x y = (-1, A) := by rw [ab_wishes, ab_if_neg (fun q => hb_2 q.2.1)]
      exact hr _ _ _ _ dX5_wishes_25 (by rw [e]; exact ⟨rfl, hS⟩)
  · refine r_if_eq K 24 dX5_wishes_7 (by decide) (fun _ => ?_) (fun h => absurd h (by decide))
    refine r_iconst K (v := (-1)) dX5_wishes_24 (by decide) ?_
    have e : ab_wishes A p x y = (-1, A) := by rw [ab_wishes, ab_if_neg (fun q => hb_1 q.1)]
    exact hr _ _ _ _ dX5_wishes_25 (by rw [e]; exact ⟨rfl, hS⟩)
set_option maxHeartbeats 4000000 in
set_option maxRecDepth 100000 in
theorem c_rules (l : Launch) (g : rs_G) (t : Nat × Nat) (M : rs_M) (A : ab_S) (hS : x_S M A) (w v : Int32) : rs_Ci l g xk t yX5_rules cX5_rules 4 .int 3 [.ref (g.2.2 0), .int w, .int v] M (fun r M1 => x_R (ab_rules A w v) r M1) := by
  obtain ⟨hL, hok, ht, hdr, him, htx, hun, hca, hse⟩ := id hS
  have hn12 := hok.1
  obtain ⟨ds, hds, hdl, hch⟩ := hun
  refine rs_ofi (plainFor_of_name (by decide)) (Nat.le_of_ble_eq_true rfl) ?_
  intro Y K hr
  show Y M 0 [(0, .ref (g.2.2 0)), (1, .int w), (2, .int v)] []
  refine r_iload_n K 1 dX5_rules_0 rfl rfl ?_
  refine r_iload_n K 2 dX5_rules_1 rfl rfl ?_
  refine r_callSi K [.int w, .int v] [] dX5_rules_2 mf_X5_isRule qw_422 qw_279 (c_isRule l g xk t M w v) rfl rfl (by decide) (Nat.le_of_ble_eq_true rfl) (fun r M1 hp => ?_)
  obtain ⟨hp, he⟩ := hp
  have he := he.symm
  subst he
  rcases hp with ⟨rfl, hb_1⟩ | ⟨rfl, hb_1⟩
  · refine r_if_ne K 10 dX5_rules_5 (by decide) (fun _ => ?_) (fun h => absurd h (by decide))
    obtain ⟨i, j, rfl, rfl, hij⟩ := x_rnat hb_1
    obtain ⟨hi2, hj20⟩ := ab_rlim_le hij
    have ic : (nI i).toNatClampNeg = i := nI_clamp (by omega)
    have jc : (nI j).toNatClampNeg = j := nI_clamp (by omega)
    have hrl := ab_rule_lt hok i
    refine r_aload_n K 0 dX5_rules_10 rfl rfl ?_
    refine r_getR K rfl rfl ff_5_line qw_189 dX5_rules_11 ?_
    refine r_iload_n K 1 dX5_rules_14 rfl rfl ?_
    refine r_callVi K [.int (nI i)] [] dX5_rules_15 mf_X1_rule (xL_0 xL1) rfl qw_423 qw_424 qw_425 (c_rule l g t M 1 xL1 A.2.1 A.1 hL i (by omega)) rfl rfl (by decide) (Nat.le_of_ble_eq_true rfl) (fun r M1 hp => ?_)
    obtain ⟨hp, he⟩ := hp
    have he := he.symm
    subst he
    subst hp
    refine r_istore_n K [(3, .int (nI (ab_rule A.1 i))), (0, .ref (g.2.2 0)), (1, .int (nI i)), (2, .int (nI j))] dX5_rules_18 rfl (by decide) rfl ?_
    refine r_iload_n K 0 dX5_rules_19 rfl rfl ?_
    refine r_iload_n K 3 dX5_rules_20 rfl rfl ?_
    refine r_icmp_ne K 27 dX5_rules_21 (by decide) (fun h_2 => ?_) (fun h_2 => ?_)
    · refine r_aload_n K 1 dX5_rules_27 rfl rfl ?_
      refine r_getR K rfl rfl ff_5_deeds qw_194 dX5_rules_28 ?_
      refine r_iconst K (v := 2) dX5_rules_31 (by decide) ?_
      refine r_iload_n K 2 dX5_rules_32 rfl rfl ?_
      refine r_iload_n K 0 dX5_rules_33 rfl rfl ?_
      refine r_iconst K (v := 0) dX5_rules_34 (by decide) ?_
      refine r_callVv K [.int 2, .int (nI i), .int (nI (ab_rule A.1 i)), .int 0] [] dX5_rules_35 mf_X0_add rfl rfl qw_371 qw_372 qw_373 (c_Deeds_add l g t M ds hds hdl (2, i, nI (ab_rule A.1 i), 0)) rfl rfl (by decide) (Nat.le_of_ble_eq_true rfl) (fun Ma hp => ?_)
      obtain ⟨ha1, ha2⟩ := hp
      refine r_aload_n K 1 dX5_rules_38 rfl rfl ?_
      refine r_getR K rfl rfl ff_5_line qw_189 dX5_rules_39 ?_
      refine r_iload_n K 2 dX5_rules_42 rfl rfl ?_
      refine r_iload_n K 3 dX5_rules_43 rfl rfl ?_
      refine r_callVv K [.int (nI i), .int (nI j)] [] dX5_rules_44 mf_X1_setRule (xL_0 xL1) rfl qw_427 qw_282 qw_283 (c_setRule l g t Ma 1 xL1 A.2.1 A.1 (x_ln_fr hok.1 hL ha2 (by omega)) i (by omega) j) rfl rfl (by decide) (Nat.le_of_ble_eq_true rfl) (fun Mb hp => ?_)
      obtain ⟨hb1, hb2⟩ := hp
      refine r_aload_n K 1 dX5_rules_47 rfl rfl ?_
      refine r_callVv K [] [] dX5_rules_48 mf_X5_lineChanged rfl rfl qw_356 qw_358 qs_11 (c_lineChanged l g t Mb) rfl rfl (by decide) (Nat.le_of_ble_eq_true rfl) (fun M1 hp => ?_)
      subst hp
      refine r_iload_n K 0 dX5_rules_51 rfl rfl ?_
      have hok2 : ab_ok (ab_setrule A.1 i j) := ab_ok_rule hok hij
      have e : ab_rules A (nI i) (nI j) = (nI (ab_rule A.1 i), ab_wL A (ab_setrule A.1 i j) ((A.1 :: A.2.2.1).take 12)) := by rw [ab_rules, ab_if_pos hb_1, ic, jc, ab_if_neg h_2]
      exact hr _ _ _ _ dX5_rules_52 (by rw [e]; exact ⟨rfl, (x_S_line hS (fun c h1 h2 => by rw [rs_st_ne _ _ _ (by omega), hb2 c (by omega), ha2 c (by omega)]) (x_ln_fr hok2.1 hb1 (x_fr_st (lo := 45) (hi := 46) (by decide) (by decide)) (by omega)) hok2 (x_und_push hdl hch (x_dd_fr (x_dd_fr ha1 (fun c h1 h2 => hb2 c (by omega))) (fun c h1 h2 => rs_st_ne _ _ _ (by omega))) (Or.inr (Or.inr ⟨rfl, hi2, ab_rule A.1 i, by omega, rfl⟩)) (by rw [ab_undo_2 rfl, nI_clamp (by omega)]; exact ab_rule_rule A.1 hi2 j) hok) (x_cache_0 (by rw [rs_st_eq])))⟩)
    · refine r_bipush K (v := (-2)) dX5_rules_24 (by decide) ?_
      have e : ab_rules A (nI i) (nI j) = (-2, A) := by rw [ab_rules, ab_if_pos hb_1, ic, jc, ab_if_pos h_2]
      exact hr _ _ _ _ dX5_rules_26 (by rw [e]; exact ⟨rfl, hS⟩)
  · refine r_if_ne K 10 dX5_rules_5 (by decide) (fun h => absurd h (by decide)) (fun _ => ?_)
    refine r_iconst K (v := (-1)) dX5_rules_8 (by decide) ?_
    have e : ab_rules A w v = (-1, A) := by rw [ab_rules, ab_if_neg hb_1]
    exact hr _ _ _ _ dX5_rules_9 (by rw [e]; exact ⟨rfl, hS⟩)
set_option maxHeartbeats 4000000 in
set_option maxRecDepth 100000 in
theorem c_undo (l : Launch) (g : rs_G) (t : Nat × Nat) (M : rs_M) (A : ab_S) (hS : x_S M A) : rs_Ci l g xk t yX5_undo cX5_undo 1 .int 3 [.ref (g.2.2 0)] M (fun r M1 => x_R (ab_undoS A) r M1) := by
  obtain ⟨hL, hok, ht, hdr, him, htx, hun, hca, hse⟩ := id hS
  have hn12 := hok.1
  obtain ⟨ds, hds, hdl, hch⟩ := hun
  refine rs_ofi (plainFor_of_name (by decide)) (Nat.le_of_ble_eq_true rfl) ?_
  intro Y K hr
  show Y M 0 [(0, .ref (g.2.2 0))] []
  refine r_aload_n K 0 dX5_undo_0 rfl rfl ?_
  refine r_getR K rfl rfl ff_5_deeds qw_194 dX5_undo_1 ?_
  refine r_getI K rfl rfl ff_0_size qw_147 dX5_undo_4 ?_
  refine r_top_eq (nI ds.length) hds.1 ?_
  refine r_if_gt K 13 dX5_undo_7 (by decide) (fun h_1 => ?_) (fun h_1 => ?_)
  · have nh_1 : 0 < ds.length := (nf_lt rfl rfl (by omega) (by omega)).mp h_1
    obtain ⟨es, d, rfl⟩ : ∃ es d, ds = es ++ [d] := by
      rcases List.eq_nil_or_concat ds with q | ⟨es, d, q⟩
      · subst q; simp at nh_1
      · exact ⟨es, d, by rw [q, List.concat_eq_append]⟩
    have hch2 : ab_chain A.1 (d :: es.reverse) A.2.2.1 := by simpa using hch
    have hel : es.length < 12 := by simp at hdl; omega
    obtain ⟨u, us, hus⟩ : ∃ u us, A.2.2.1 = u :: us := by
      cases hq : A.2.2.1 with
      | nil => rw [hq] at hch2; exact absurd hch2 (by simp [ab_chain])
      | cons u us => exact ⟨u, us, rfl⟩
    rw [hus] at hch2
    simp only [ab_chain] at hch2
    obtain ⟨hk1, hk2, hk3, hk4⟩ := hch2
    have hul := ab_chain_len _ _ _ hk4
    rw [List.length_reverse] at hul
    refine r_aload_n K 0 dX5_undo_13 rfl rfl ?_
    refine r_getR K rfl rfl ff_5_deeds qw_194 dX5_undo_14 ?_
    refine r_aload_n K 0 dX5_undo_17 rfl rfl ?_
    refine r_getR K rfl rfl ff_5_line qw_189 dX5_undo_18 ?_
    refine r_callVv K [.ref (g.2.2 1)] [] dX5_undo_21 mf_X0_takeBack rfl rfl qw_432 qw_433 qw_434 (c_takeBack l g t M xL1 A.2.1 A.1 hL hn12 es d hds hel hk1) rfl rfl (by decide) (Nat.le_of_ble_eq_true rfl) (fun Mb hp => ?_)
    obtain ⟨hb1, hb2, hb3⟩ := hp
    refine r_aload_n K 0 dX5_undo_24 rfl rfl ?_
    refine r_callVv K [] [] dX5_undo_25 mf_X5_lineChanged rfl rfl qw_356 qw_358 qs_11 (c_lineChanged l g t Mb) rfl rfl (by decide) (Nat.le_of_ble_eq_true rfl) (fun M1 hp => ?_)
    subst hp
    refine r_aload_n K 0 dX5_undo_28 rfl rfl ?_
    refine r_getR K rfl rfl ff_5_deeds qw_194 dX5_undo_29 ?_
    refine r_getI K rfl rfl ff_0_size qw_147 dX5_undo_32 ?_
    refine r_top_eq (nI es.length) (by rw [rs_st_ne _ _ _ (by decide)]; exact hb1.1) ?_
    have e : ab_undoS A = (nI us.length, ab_wL A u us) := by simp only [ab_undoS, hus]
    rw [hk2] at hb2
    refine hr _ _ _ _ dX5_undo_35 (by rw [e]; exact ⟨by rw [hul], x_S_line hS (fun c h1 h2 => by rw [rs_st_ne _ _ _ (by omega), hb3 c h1 (by omega)]) (x_ln_fr hk3.1 hb2 (x_fr_st (lo := 45) (hi := 46) (by decide) (by decide)) (by omega)) hk3 ⟨es, x_dd_fr hb1 (fun c h1 h2 => rs_st_ne _ _ _ (by omega)), by omega, hk4⟩ (x_cache_0 (by rw [rs_st_eq]))⟩)
  · have nh_1 : ¬ 0 < ds.length := mt (nf_lt rfl rfl (by omega) (by omega)).mpr h_1
    refine r_bipush K (v := (-2)) dX5_undo_10 (by decide) ?_
    have hd0 : ds = [] := List.length_eq_zero_iff.mp (by omega)
    subst hd0
    have hus : A.2.2.1 = [] := List.length_eq_zero_iff.mp (by have := ab_chain_len _ _ _ hch; simp at this; simpa using this.symm)
    have e : ab_undoS A = (-2, A) := by simp only [ab_undoS, hus]
    exact hr _ _ _ _ dX5_undo_12 (by rw [e]; exact ⟨rfl, hS⟩)
set_option maxHeartbeats 4000000 in
set_option maxRecDepth 100000 in
theorem c_ring (l : Launch) (g : rs_G) (t : Nat × Nat) (M : rs_M) (A : ab_S) (hS : x_S M A) (i w : Int32) : rs_Ci l g xk t yX5_ring cX5_ring 4 .int 2 [.ref (g.2.2 0), .int i, .int w] M (fun r M1 => x_R (ab_ring A i w, A) r M1) := by
  obtain ⟨hL, hok, ht, hdr, him, htx, hun, hca, hse⟩ := id hS
  have hn12 := hok.1
  refine rs_ofi (plainFor_of_name (by decide)) (Nat.le_of_ble_eq_true rfl) ?_
  intro Y K hr
  show Y M 0 [(0, .ref (g.2.2 0)), (1, .int i), (2, .int w)] []
  refine r_iload_n K 1 dX5_ring_0 rfl rfl ?_
  refine r_iconst K (v := 0) dX5_ring_1 (by decide) ?_
  refine r_aload_n K 0 dX5_ring_2 rfl rfl ?_
  refine r_getR K rfl rfl ff_5_line qw_189 dX5_ring_3 ?_
  refine r_getI K (xL_0 xL1) rfl ff_1_rings qw_71 dX5_ring_6 ?_
  refine r_top_eq (nI (ab_ks A.1).length) hL.1 ?_
  refine r_callSi K [.int i, .int 0, .int (nI (ab_ks A.1).length)] [] dX5_ring_9 mf_X5_isWithin qw_227 qw_228 (c_isWithin l g xk t M i 0 (nI (ab_ks A.1).length)) rfl rfl (by decide) (Nat.le_of_ble_eq_true rfl) (fun r M1 hp => ?_)
  obtain ⟨hp, he⟩ := hp
  have he := he.symm
  subst he
  rcases hp with ⟨rfl, hb_1⟩ | ⟨rfl, hb_1⟩
  · refine r_if_ne K 18 dX5_ring_12 (by decide) (fun _ => ?_) (fun h => absurd h (by decide))
    obtain ⟨j, hj1, hj2, rfl⟩ := x_nat (a := 0) (b := (ab_ks A.1).length) hb_1 (by omega) (by omega)
    have jc : (nI j).toNatClampNeg = j := nI_clamp (by omega)
    have hsp := hL.2.1 j hj2
    have e0 : ab_ring A (nI j) w = ab_rget A.2.1 A.1 j w := by rw [ab_ring, ab_if_pos hb_1, jc]
    refine r_aload_n K 0 dX5_ring_18 rfl rfl ?_
    refine r_getR K rfl rfl ff_5_line qw_189 dX5_ring_19 ?_
    refine r_getR K (xL_0 xL1) rfl ff_1_spots qw_64 dX5_ring_22 ?_
    refine r_iload_n K 1 dX5_ring_25 rfl rfl ?_
    refine r_aaldS K (j := j) (xL_1 xL1) rfl (xL_e (by omega)) (by omega) (by decide) dX5_ring_26 ?_
    refine r_astore_n K [(3, .ref (g.2.2 (1 + 4 + j))), (0, .ref (g.2.2 0)), (1, .int (nI j)), (2, .int w)] dX5_ring_27 rfl (by decide) rfl ?_
    refine r_iload_n K 3 dX5_ring_28 rfl rfl ?_
    refine r_table K [(0, 68), (1, 73), (2, 78), (3, 83), (4, 88), (5, 93)] 102 dX5_ring_29 (by decide) (by decide) (by decide) ?_
    simp only [rs_swp]
    refine ⟨fun h_2_0 => ?_, fun h_2_0 => ⟨fun h_2_1 => ?_, fun h_2_1 => ⟨fun h_2_2 => ?_, fun h_2_2 => ⟨fun h_2_3 => ?_, fun h_2_3 => ⟨fun h_2_4 => ?_, fun h_2_4 => ⟨fun h_2_5 => ?_, fun h_2_5 => ?_⟩⟩⟩⟩⟩⟩
    · refine r_aload_n K 0 dX5_ring_68 rfl rfl ?_
      refine r_getI K (xL_s xL1 (by omega)) rfl ff_4_key qw_36 dX5_ring_69 ?_
      refine r_top_eq (ab_last ((ab_ks A.1).take j)) hsp.2.1 ?_
      exact hr _ _ _ _ dX5_ring_72 ⟨by rw [e0, ab_rget, if_pos h_2_0], hS⟩
    · refine r_aload_n K 0 dX5_ring_73 rfl rfl ?_
      refine r_getI K (xL_s xL1 (by omega)) rfl ff_4_slopeX qw_38 dX5_ring_74 ?_
      refine r_top_eq ((ab_geo A.2.1 ((ab_ks A.1).take j)).1) hsp.2.2.1 ?_
      exact hr _ _ _ _ dX5_ring_77 ⟨by rw [e0, ab_rget, if_neg h_2_0, if_pos h_2_1], hS⟩
    · refine r_aload_n K 0 dX5_ring_78 rfl rfl ?_
      refine r_getI K (xL_s xL1 (by omega)) rfl ff_4_slopeY qw_41 dX5_ring_79 ?_
      refine r_top_eq ((ab_geo A.2.1 ((ab_ks A.1).take j)).2.1) hsp.2.2.2.1 ?_
      exact hr _ _ _ _ dX5_ring_82 ⟨by rw [e0, ab_rget, if_neg h_2_0, if_neg h_2_1, if_pos h_2_2], hS⟩
    · refine r_aload_n K 0 dX5_ring_83 rfl rfl ?_
      refine r_getI K (xL_s xL1 (by omega)) rfl ff_4_placeX qw_44 dX5_ring_84 ?_
      refine r_top_eq ((ab_geo A.2.1 ((ab_ks A.1).take j)).2.2.1) hsp.2.2.2.2.1 ?_
      exact hr _ _ _ _ dX5_ring_87 ⟨by rw [e0, ab_rget, if_neg h_2_0, if_neg h_2_1, if_neg h_2_2, if_pos h_2_3], hS⟩
    · refine r_aload_n K 0 dX5_ring_88 rfl rfl ?_
      refine r_getI K (xL_s xL1 (by omega)) rfl ff_4_placeY qw_47 dX5_ring_89 ?_
      refine r_top_eq ((ab_geo A.2.1 ((ab_ks A.1).take j)).2.2.2) hsp.2.2.2.2.2 ?_
      exact hr _ _ _ _ dX5_ring_92 ⟨by rw [e0, ab_rget, if_neg h_2_0, if_neg h_2_1, if_neg h_2_2, if_neg h_2_3, if_pos h_2_4], hS⟩
    · refine r_aload_n K 1 dX5_ring_93 rfl rfl ?_
      refine r_getR K rfl rfl ff_5_line qw_189 dX5_ring_94 ?_
      refine r_aload_n K 0 dX5_ring_97 rfl rfl ?_
      refine r_callVi K [.ref (g.2.2 (1 + 4 + j))] [] dX5_ring_98 mf_X1_cost (xL_0 xL1) rfl qw_380 qw_381 qw_382 (c_Line_cost l g t M 1 xL1 A.2.1 A.1 hok hL.2.2 (1 + 4 + j) j (xL_s xL1 (by omega)) (by omega) (x_ln_c0 hL hj2)) rfl rfl (by decide) (Nat.le_of_ble_eq_true rfl) (fun r M1 hp => ?_)
      obtain ⟨hp, he⟩ := hp
      have he := he.symm
      subst he
      subst hp
      refine r_top_eq (ab_ringcost A.2.1 A.1 j) (x_ln_cost hL hj2) ?_
      exact hr _ _ _ _ dX5_ring_101 ⟨by rw [e0, ab_rget, if_neg h_2_0, if_neg h_2_1, if_neg h_2_2, if_neg h_2_3, if_neg h_2_4, if_pos h_2_5], hS⟩
    · refine r_ldc K dX5_ring_102 qw_447 ?_
      exact hr _ _ _ _ dX5_ring_104 ⟨by rw [e0, ab_rget, if_neg h_2_0, if_neg h_2_1, if_neg h_2_2, if_neg h_2_3, if_neg h_2_4, if_neg h_2_5], hS⟩
  · refine r_if_ne K 18 dX5_ring_12 (by decide) (fun h => absurd h (by decide)) (fun _ => ?_)
    refine r_ldc K dX5_ring_15 qw_447 ?_
    exact hr _ _ _ _ dX5_ring_17 ⟨by rw [ab_ring, ab_if_neg hb_1], hS⟩
set_option maxHeartbeats 4000000 in
set_option maxRecDepth 100000 in
theorem c_wish (l : Launch) (g : rs_G) (t : Nat × Nat) (M : rs_M) (A : ab_S) (hS : x_S M A) (p w : Int32) : rs_Ci l g xk t yX5_wish cX5_wish 3 .int 1 [.ref (g.2.2 0), .int p, .int w] M (fun r M1 => x_R (ab_wish A p w, A) r M1) := by
  obtain ⟨hL, hok, ht, hdr, him, htx, hun, hca, hse⟩ := id hS
  have hn12 := hok.1
  refine rs_ofi (plainFor_of_name (by decide)) (Nat.le_of_ble_eq_true rfl) ?_
  intro Y K hr
  show Y M 0 [(0, .ref (g.2.2 0)), (1, .int p), (2, .int w)] []
  refine r_iload_n K 1 dX5_wish_0 rfl rfl ?_
  refine r_iconst K (v := 0) dX5_wish_1 (by decide) ?_
  refine r_bipush K (v := 17) dX5_wish_2 (by decide) ?_
  refine r_callSi K [.int p, .int 0, .int 17] [] dX5_wish_4 mf_X5_isWithin qw_227 qw_228 (c_isWithin l g xk t M p 0 17) rfl rfl (by decide) (Nat.le_of_ble_eq_true rfl) (fun r M1 hp => ?_)
  obtain ⟨hp, he⟩ := hp
  have he := he.symm
  subst he
  rcases hp with ⟨rfl, hb_1⟩ | ⟨rfl, hb_1⟩
  · refine r_if_eq K 19 dX5_wish_7 (by decide) (fun h => absurd h (by decide)) (fun _ => ?_)
    refine r_iload_n K 2 dX5_wish_10 rfl rfl ?_
    refine r_iconst K (v := 0) dX5_wish_11 (by decide) ?_
    refine r_iconst K (v := 1) dX5_wish_12 (by decide) ?_
    refine r_callSi K [.int w, .int 0, .int 1] [] dX5_wish_13 mf_X5_isWithin qw_227 qw_228 (c_isWithin l g xk t M w 0 1) rfl rfl (by decide) (Nat.le_of_ble_eq_true rfl) (fun r M1 hp => ?_)
    obtain ⟨hp, he⟩ := hp
    have he := he.symm
    subst he
    rcases hp with ⟨rfl, hb_2⟩ | ⟨rfl, hb_2⟩
    · refine r_if_ne K 22 dX5_wish_16 (by decide) (fun _ => ?_) (fun h => absurd h (by decide))
      obtain ⟨j, hj1, hj2, rfl⟩ := x_nat (a := 0) (b := 17) hb_1 (by omega) (by omega)
      have jc : (nI j).toNatClampNeg = j := nI_clamp (by omega)
      have e0 : ab_wish A (nI j) w = ab_if (w = 0) (ab_wx A.1 j) (ab_wy A.1 j) := by rw [ab_wish, ab_if_pos ⟨hb_1, hb_2⟩, jc]
      refine r_iload_n K 2 dX5_wish_22 rfl rfl ?_
      refine r_if_ne K 38 dX5_wish_23 (by decide) (fun h_3 => ?_) (fun h_3 => ?_)
      · refine r_aload_n K 0 dX5_wish_38 rfl rfl ?_
        refine r_getR K rfl rfl ff_5_line qw_189 dX5_wish_39 ?_
        refine r_getR K (xL_0 xL1) rfl ff_1_wishY qw_68 dX5_wish_42 ?_
        refine r_iload_n K 1 dX5_wish_45 rfl rfl ?_
        refine r_iald K (j := j) (xL_3 xL1) rfl (by omega) (by decide) dX5_wish_46 ?_
        refine r_top_eq (ab_wy A.1 j) (hL.2.2.2.2.2.2 j (by omega)).2 ?_
        exact hr _ _ _ _ dX5_wish_47 ⟨by rw [e0, ab_if_neg h_3], hS⟩
      · refine r_aload_n K 0 dX5_wish_26 rfl rfl ?_
        refine r_getR K rfl rfl ff_5_line qw_189 dX5_wish_27 ?_
        refine r_getR K (xL_0 xL1) rfl ff_1_wishX qw_66 dX5_wish_30 ?_
        refine r_iload_n K 1 dX5_wish_33 rfl rfl ?_
        refine r_iald K (j := j) (xL_2 xL1) rfl (by omega) (by decide) dX5_wish_34 ?_
        refine r_top_eq (ab_wx A.1 j) (hL.2.2.2.2.2.2 j (by omega)).1 ?_
        refine r_goto K 47 dX5_wish_35 (by decide) ?_
        exact hr _ _ _ _ dX5_wish_47 ⟨by rw [e0, ab_if_pos h_3], hS⟩
    · refine r_if_ne K 22 dX5_wish_16 (by decide) (fun h => absurd h (by decide)) (fun _ => ?_)
      refine r_ldc K dX5_wish_19 qw_447 ?_
      exact hr _ _ _ _ dX5_wish_21 ⟨by rw [ab_wish, ab_if_neg (fun q => hb_2 q.2)], hS⟩
  · refine r_if_eq K 19 dX5_wish_7 (by decide) (fun _ => ?_) (fun h => absurd h (by decide))
    refine r_ldc K dX5_wish_19 qw_447 ?_
    exact hr _ _ _ _ dX5_wish_21 ⟨by rw [ab_wish, ab_if_neg (fun q => hb_1 q.1)], hS⟩
set_option maxHeartbeats 4000000 in
set_option maxRecDepth 100000 in
theorem c_worst (l : Launch) (g : rs_G) (t : Nat × Nat) (M : rs_M) (A : ab_S) (hS : x_S M A) (k : Int32) : rs_Ci l g xk t yX5_worst cX5_worst 3 .int 3 [.ref (g.2.2 0), .int k] M (fun r M1 => x_R (ab_worst A k, A) r M1) := by
  obtain ⟨hL, hok, ht, hdr, him, htx, hun, hca, hse⟩ := id hS
  have hn12 := hok.1
  refine rs_ofi (plainFor_of_name (by decide)) (Nat.le_of_ble_eq_true rfl) ?_
  intro Y K hr
  show Y M 0 [(0, .ref (g.2.2 0)), (1, .int k)] []
  refine r_iload_n K 1 dX5_worst_0 rfl rfl ?_
  refine r_if_ge K 6 dX5_worst_1 (by decide) (fun h_1 => ?_) (fun h_1 => ?_)
  · refine r_iconst K (v := 1) dX5_worst_6 (by decide) ?_
    refine r_istore_n K [(2, .int 1), (0, .ref (g.2.2 0)), (1, .int k)] dX5_worst_7 rfl (by decide) rfl ?_
    have lp : ∀ (f : Nat) (i : Nat), (13 - i < f) → (1 ≤ i) → (i ≤ (ab_ks A.1).length + 1) → (ab_wsrch (ab_ringcost A.2.1 A.1) (ab_ks A.1).length k (ab_ks A.1).length 1 = ab_wsrch (ab_ringcost A.2.1 A.1) (ab_ks A.1).length k ((ab_ks A.1).length + 1 - i) i) → Y M 8 [(2, .int (nI i)), (0, .ref (g.2.2 0)), (1, .int k)] [] := by
      intro f
      induction f with
      | zero =>
        intro i hf
        exact absurd hf (Nat.not_lt_zero _)
      | succ f ih =>
        intro i hf hi1 hi hI
        refine r_iload_n K 0 dX5_worst_8 rfl rfl ?_
        refine r_aload_n K 1 dX5_worst_9 rfl rfl ?_
        refine r_getR K rfl rfl ff_5_line qw_189 dX5_worst_10 ?_
        refine r_getI K (xL_0 xL1) rfl ff_1_rings qw_71 dX5_worst_13 ?_
        refine r_top_eq (nI (ab_ks A.1).length) hL.1 ?_
        refine r_icmp_gt K 39 dX5_worst_16 (by decide) (fun h_2 => ?_) (fun h_2 => ?_)
        · have nh_2 : (ab_ks A.1).length < i := (nf_lt rfl rfl (by omega) (by omega)).mp h_2
          refine r_bipush K (v := (-9)) dX5_worst_39 (by decide) ?_
          exact hr _ _ _ _ dX5_worst_41 ⟨by rw [ab_worst, ab_if_neg (Int32.not_lt.mpr h_1), hI, show (ab_ks A.1).length + 1 - i = 0 by omega, ab_wsrch], hS⟩
        · have nh_2 : ¬ (ab_ks A.1).length < i := mt (nf_lt rfl rfl (by omega) (by omega)).mpr h_2
          refine r_aload_n K 1 dX5_worst_19 rfl rfl ?_
          refine r_getR K rfl rfl ff_5_line qw_189 dX5_worst_20 ?_
          refine r_iload_n K 0 dX5_worst_23 rfl rfl ?_
          refine r_callVi K [.int (nI i)] [] dX5_worst_24 mf_X1_worseThan (xL_0 xL1) rfl qw_456 qw_457 qw_458 (c_worseThan l g t M 1 xL1 A.2.1 A.1 hok hL i (by omega) (by omega)) rfl rfl (by decide) (Nat.le_of_ble_eq_true rfl) (fun r M1 hp => ?_)
          obtain ⟨hp, he⟩ := hp
          have he := he.symm
          subst he
          subst hp
          refine r_iload_n K 2 dX5_worst_27 rfl rfl ?_
          refine r_icmp_ne K 33 dX5_worst_28 (by decide) (fun h_3 => ?_) (fun h_3 => ?_)
          · refine r_iinc_n K 0 [(2, .int (nI (i + 1))), (0, .ref (g.2.2 0)), (1, .int k)] dX5_worst_33 rfl (by decide) rfl ?_
            refine r_goto K 8 dX5_worst_36 (by decide) ?_
            exact ih (i + 1) (by omega) (by omega) (by omega) (by rw [hI, show (ab_ks A.1).length + 1 - i = ((ab_ks A.1).length + 1 - (i + 1)) + 1 by omega, ab_wsrch, if_neg h_3])
          · refine r_iload_n K 0 dX5_worst_31 rfl rfl ?_
            exact hr _ _ _ _ dX5_worst_32 ⟨by rw [ab_worst, ab_if_neg (Int32.not_lt.mpr h_1), hI, show (ab_ks A.1).length + 1 - i = ((ab_ks A.1).length + 1 - (i + 1)) + 1 by omega, ab_wsrch, if_pos h_3], hS⟩
    exact lp 14 1 (by omega) (by omega) (by omega) (by rw [show (ab_ks A.1).length + 1 - 1 = (ab_ks A.1).length by omega])
  · refine r_iconst K (v := (-1)) dX5_worst_4 (by decide) ?_
    exact hr _ _ _ _ dX5_worst_5 ⟨by rw [ab_worst, ab_if_pos (Int32.not_le.mp h_1)], hS⟩
set_option maxHeartbeats 4000000 in
set_option maxRecDepth 100000 in
theorem c_plan (l : Launch) (g : rs_G) (t : Nat × Nat) (M : rs_M) (A : ab_S) (hS : x_S M A) (h k : Int32) : rs_Ci l g xk t yX5_plan cX5_plan 3 .int 11 [.ref (g.2.2 0), .int h, .int k] M (fun r M1 => x_R (ab_planS A h k, A) r M1) := by
  obtain ⟨hL, hok, ht, hdr, him, htx, hun, hca, hse⟩ := id hS
  have hn12 := hok.1
  refine rs_ofi (plainFor_of_name (by decide)) (Nat.le_of_ble_eq_true rfl) ?_
  intro Y K hr
  show Y M 0 [(0, .ref (g.2.2 0)), (1, .int h), (2, .int k)] []
  refine r_iload_n K 1 dX5_plan_0 rfl rfl ?_
  refine r_iconst K (v := 1) dX5_plan_1 (by decide) ?_
  refine r_iconst K (v := 5) dX5_plan_2 (by decide) ?_
  refine r_callSi K [.int h, .int 1, .int 5] [] dX5_plan_3 mf_X5_isWithin qw_227 qw_228 (c_isWithin l g xk t M h 1 5) rfl rfl (by decide) (Nat.le_of_ble_eq_true rfl) (fun r M1 hp => ?_)
  obtain ⟨hp, he⟩ := hp
  have he := he.symm
  subst he
  rcases hp with ⟨rfl, hb_1⟩ | ⟨rfl, hb_1⟩
  · refine r_if_eq K 15 dX5_plan_6 (by decide) (fun h => absurd h (by decide)) (fun _ => ?_)
    refine r_iload_n K 2 dX5_plan_9 rfl rfl ?_
    refine r_bipush K (v := (-2)) dX5_plan_10 (by decide) ?_
    refine r_icmp_ge K 17 dX5_plan_12 (by decide) (fun h_2 => ?_) (fun h_2 => ?_)
    · obtain ⟨j, hj1, hj2, rfl⟩ := x_nat (a := 1) (b := 5) hb_1 (by omega) (by omega)
      have jc : (nI j).toNatClampNeg = j := nI_clamp (by omega)
      have hpr := ab_plan_rows A.2.1 A.1 (h := j) (by omega)
      have e0 : ab_planS A (nI j) k = _ := ab_if_pos ⟨hb_1, h_2⟩
      rw [jc] at e0
      refine r_iload_n K 2 dX5_plan_17 rfl rfl ?_
      refine r_iload_n K 1 dX5_plan_18 rfl rfl ?_
      refine r_icmp_lt K 25 dX5_plan_19 (by decide) (fun h_3 => ?_) (fun h_3 => ?_)
      · refine r_aload_n K 0 dX5_plan_25 rfl rfl ?_
        refine r_getR K rfl rfl ff_5_search qw_195 dX5_plan_26 ?_
        refine r_aload_n K 0 dX5_plan_29 rfl rfl ?_
        refine r_getR K rfl rfl ff_5_line qw_189 dX5_plan_30 ?_
        refine r_iload_n K 1 dX5_plan_33 rfl rfl ?_
        refine r_callVv K [.ref (g.2.2 1), .int (nI j)] [] dX5_plan_34 mf_X3_look rfl rfl qw_391 qw_392 qw_393 (c_look l g t M xL1 A.2.1 ht A.1 hok hL hca j (by omega) (by omega)) rfl rfl (by decide) (Nat.le_of_ble_eq_true rfl) (fun Mk hp => ?_)
        obtain ⟨hl1, hl2, hl3⟩ := hp
        have hSk : x_S Mk A := x_S_scr hS (fun c hc => hl3 c (by omega)) ⟨j, by omega, hl1, Or.inr hl2⟩
        refine r_aload_n K 0 dX5_plan_37 rfl rfl ?_
        refine r_getR K rfl rfl ff_5_search qw_195 dX5_plan_38 ?_
        refine r_getI K rfl rfl ff_3_rows qw_173 dX5_plan_41 ?_
        refine r_top_eq (nI (ab_plan A.2.1 A.1 j).1) hl2.1 ?_
        refine r_if_ne K 50 dX5_plan_44 (by decide) (fun h_4 => ?_) (fun h_4 => ?_)
        · have nh_4 : ¬ (ab_plan A.2.1 A.1 j).1 = 0 := mt (nf_eq rfl rfl (by omega) (by omega)).mpr h_4
          refine r_iload_n K 2 dX5_plan_50 rfl rfl ?_
          refine r_iconst K (v := (-1)) dX5_plan_51 (by decide) ?_
          refine r_icmp_ne K 63 dX5_plan_52 (by decide) (fun h_5 => ?_) (fun h_5 => ?_)
          · refine r_iload_n K 2 dX5_plan_63 rfl rfl ?_
            refine r_bipush K (v := (-2)) dX5_plan_64 (by decide) ?_
            refine r_icmp_ne K 79 dX5_plan_66 (by decide) (fun h_6 => ?_) (fun h_6 => ?_)
            · obtain ⟨q, hq, rfl⟩ := x_knat (by omega) h_2 h_5 h_6 h_3
              have qc : (nI q).toNatClampNeg = q := nI_clamp (by omega)
              refine r_aload_n K 0 dX5_plan_79 rfl rfl ?_
              refine r_getR K rfl rfl ff_5_search qw_195 dX5_plan_80 ?_
              refine r_getR K rfl rfl ff_3_firstRow qw_169 dX5_plan_83 ?_
              refine r_iload_n K 2 dX5_plan_86 rfl rfl ?_
              refine r_iald K (j := q) rfl rfl (by omega) (by decide) dX5_plan_87 ?_
              refine r_top_eq (nI ((ab_plan A.2.1 A.1 j).2.2.getD q 0)) ((hl2.2 (by omega)).2 q hq) ?_
              exact hr _ _ _ _ dX5_plan_88 ⟨by rw [e0, ab_if_neg (fun z => z.elim (fun z => absurd z (Int32.not_le.mpr h_3)) (fun z => by omega)), ab_if_neg h_5, ab_if_neg h_6, qc], hSk⟩
            · refine r_aload_n K 0 dX5_plan_69 rfl rfl ?_
              refine r_getR K rfl rfl ff_5_search qw_195 dX5_plan_70 ?_
              refine r_getI K rfl rfl ff_3_rows qw_173 dX5_plan_73 ?_
              refine r_top_eq (nI (ab_plan A.2.1 A.1 j).1) hl2.1 ?_
              refine r_goto K 88 dX5_plan_76 (by decide) ?_
              exact hr _ _ _ _ dX5_plan_88 ⟨by rw [e0, ab_if_neg (fun z => z.elim (fun z => absurd z (Int32.not_le.mpr h_3)) (fun z => by omega)), ab_if_neg h_5, ab_if_pos h_6], hSk⟩
          · refine r_aload_n K 0 dX5_plan_55 rfl rfl ?_
            refine r_getR K rfl rfl ff_5_search qw_195 dX5_plan_56 ?_
            refine r_getI K rfl rfl ff_3_least qw_175 dX5_plan_59 ?_
            refine r_top_eq ((ab_plan A.2.1 A.1 j).2.1) (hl2.2 (by omega)).1 ?_
            exact hr _ _ _ _ dX5_plan_62 ⟨by rw [e0, ab_if_neg (fun z => z.elim (fun z => absurd z (Int32.not_le.mpr h_3)) (fun z => by omega)), ab_if_pos h_5], hSk⟩
        · have nh_4 : (ab_plan A.2.1 A.1 j).1 = 0 := (nf_eq rfl rfl (by omega) (by omega)).mp h_4
          refine r_bipush K (v := (-9)) dX5_plan_47 (by decide) ?_
          exact hr _ _ _ _ dX5_plan_49 ⟨by rw [e0, ab_if_pos (Or.inr (by omega))], hSk⟩
      · refine r_bipush K (v := (-9)) dX5_plan_22 (by decide) ?_
        exact hr _ _ _ _ dX5_plan_24 ⟨by rw [e0, ab_if_pos (Or.inl (Int32.not_lt.mp h_3))], hS⟩
    · refine r_iconst K (v := (-1)) dX5_plan_15 (by decide) ?_
      exact hr _ _ _ _ dX5_plan_16 ⟨by rw [ab_planS, ab_if_neg (fun q => h_2 q.2)], hS⟩
  · refine r_if_eq K 15 dX5_plan_6 (by decide) (fun _ => ?_) (fun h => absurd h (by decide))
    refine r_iconst K (v := (-1)) dX5_plan_15 (by decide) ?_
    exact hr _ _ _ _ dX5_plan_16 ⟨by rw [ab_planS, ab_if_neg (fun q => hb_1 q.1)], hS⟩
set_option maxHeartbeats 4000000 in
set_option maxRecDepth 100000 in
theorem c_trying (l : Launch) (g : rs_G) (t : Nat × Nat) (M : rs_M) (A : ab_S) (hS : x_S M A) (k : Int32) : rs_Ci l g xk t yX5_trying cX5_trying 2 .int 3 [.ref (g.2.2 0), .int k] M (fun r M1 => x_R (ab_trying A k, A) r M1) := by
  obtain ⟨hL, hok, ht, hdr, him, htx, hun, hca, hse⟩ := id hS
  have hn12 := hok.1
  refine rs_ofi (plainFor_of_name (by decide)) (Nat.le_of_ble_eq_true rfl) ?_
  intro Y K hr
  show Y M 0 [(0, .ref (g.2.2 0)), (1, .int k)] []
  refine r_iload_n K 1 dX5_trying_0 rfl rfl ?_
  refine r_callSi K [.int k] [] dX5_trying_1 mf_X5_isKey qw_364 qw_303 (c_isKey l g xk t M k) rfl rfl (by decide) (Nat.le_of_ble_eq_true rfl) (fun r M1 hp => ?_)
  obtain ⟨hp, he⟩ := hp
  have he := he.symm
  subst he
  rcases hp with ⟨rfl, hb_1⟩ | ⟨rfl, hb_1⟩
  · refine r_if_ne K 9 dX5_trying_4 (by decide) (fun _ => ?_) (fun h => absurd h (by decide))
    obtain ⟨j, hj1, hj2, rfl⟩ := x_nat (a := 0) (b := 7) hb_1 (by omega) (by omega)
    have jc : (nI j).toNatClampNeg = j := nI_clamp (by omega)
    have e0 : ab_trying A (nI j) = _ := ab_if_pos hb_1
    rw [jc] at e0
    refine r_aload_n K 0 dX5_trying_9 rfl rfl ?_
    refine r_getR K rfl rfl ff_5_line qw_189 dX5_trying_10 ?_
    refine r_aload_n K 0 dX5_trying_13 rfl rfl ?_
    refine r_getR K rfl rfl ff_5_line qw_189 dX5_trying_14 ?_
    refine r_callVr K [] [.ref (g.2.2 1)] dX5_trying_17 mf_X1_last (xL_0 xL1) rfl qw_365 qw_306 qw_307 (c_Line_last l g t M 1 xL1 (ab_ks A.1).length hok.1 hL.1) rfl rfl (by decide) (Nat.le_of_ble_eq_true rfl) (fun r M1 hp => ?_)
    obtain ⟨hp, he⟩ := hp
    have he := he.symm
    subst he
    subst hp
    refine r_iload_n K 1 dX5_trying_20 rfl rfl ?_
    refine r_callVi K [.ref (g.2.2 (1 + 4 + (ab_ks A.1).length)), .int (nI j)] [] dX5_trying_21 mf_X1_mayFollow (xL_0 xL1) rfl qw_366 qw_310 qw_311 (c_mayFollow l g t M 1 xL1 A.2.1 A.1 hok hL.2.2 (1 + 4 + (ab_ks A.1).length) (xL_s xL1 (by omega)) (ab_ks A.1) (by omega) (x_ln_last hL) j (by omega) hok.2.1) rfl rfl (by decide) (Nat.le_of_ble_eq_true rfl) (fun r M1 hp => ?_)
    obtain ⟨hp, he⟩ := hp
    have he := he.symm
    subst he
    rcases hp with ⟨rfl, hb_2⟩ | ⟨rfl, hb_2⟩
    · refine r_if_ne K 30 dX5_trying_24 (by decide) (fun _ => ?_) (fun h => absurd h (by decide))
      refine r_aload_n K 0 dX5_trying_30 rfl rfl ?_
      refine r_getR K rfl rfl ff_5_probe qw_196 dX5_trying_31 ?_
      refine r_aload_n K 0 dX5_trying_34 rfl rfl ?_
      refine r_getR K rfl rfl ff_5_line qw_189 dX5_trying_35 ?_
      refine r_callVr K [] [.ref (g.2.2 54)] dX5_trying_38 mf_X1_last (xL_0 xL1) rfl qw_365 qw_306 qw_307 (c_Line_last l g t M 1 xL1 (ab_ks A.1).length hok.1 hL.1) rfl rfl (by decide) (Nat.le_of_ble_eq_true rfl) (fun r M1 hp => ?_)
      obtain ⟨hp, he⟩ := hp
      have he := he.symm
      subst he
      subst hp
      refine r_callVv K [.ref (g.2.2 (1 + 4 + (ab_ks A.1).length))] [] dX5_trying_41 mf_X4_copy rfl rfl qw_469 qw_343 qw_344 (c_Spot_copy l g t M 54 (1 + 4 + (ab_ks A.1).length) rfl (xL_s xL1 (by omega))) rfl rfl (by decide) (Nat.le_of_ble_eq_true rfl) (fun M1 hp => ?_)
      subst hp
      refine r_aload_n K 0 dX5_trying_44 rfl rfl ?_
      refine r_getR K rfl rfl ff_5_probe qw_196 dX5_trying_45 ?_
      refine r_iload_n K 1 dX5_trying_48 rfl rfl ?_
      refine r_aload_n K 0 dX5_trying_49 rfl rfl ?_
      refine r_getR K rfl rfl ff_5_line qw_189 dX5_trying_50 ?_
      refine r_getI K (xL_0 xL1) rfl ff_1_taper qw_75 dX5_trying_53 ?_
      refine r_top_eq A.2.1 (by rw [x_fr_cp (lo := 54) (hi := 55) (by decide) (by decide) 1 (by omega)]; exact hL.2.2.1) ?_
      refine r_callVv K [.int (nI j), .int A.2.1] [] dX5_trying_56 mf_X4_advance rfl rfl qw_470 qw_347 qw_348 (c_Spot_advance l g t (x_cp M 54 (1 + 4 + (ab_ks A.1).length)) 54 rfl j (by omega) A.2.1) rfl rfl (by decide) (Nat.le_of_ble_eq_true rfl) (fun M1 hp => ?_)
      subst hp
      refine r_aload_n K 0 dX5_trying_59 rfl rfl ?_
      refine r_getR K rfl rfl ff_5_line qw_189 dX5_trying_60 ?_
      refine r_aload_n K 0 dX5_trying_63 rfl rfl ?_
      refine r_getR K rfl rfl ff_5_probe qw_196 dX5_trying_64 ?_
      have fr2 : x_fr M (x_adv (x_cp M 54 (1 + 4 + (ab_ks A.1).length)) 54 A.2.1 j) 54 55 := x_fr_tr (x_fr_cp (by decide) (by decide)) (x_fr_adv (by decide) (by decide))
      have hL2 : x_ln (x_adv (x_cp M 54 (1 + 4 + (ab_ks A.1).length)) 54 A.2.1 j) 1 A.2.1 A.1 := x_ln_fr hok.1 hL fr2 (by omega)
      have hs2 : x_sp (x_adv (x_cp M 54 (1 + 4 + (ab_ks A.1).length)) 54 A.2.1 j) 54 A.2.1 (ab_ks A.1 ++ [j]) := x_sp_adv j (x_sp_cp (x_ln_last hL))
      refine r_callVi K [.ref (g.2.2 54)] [] dX5_trying_67 mf_X1_cost (xL_0 xL1) rfl qw_380 qw_381 qw_382 (c_Line_cost l g t (x_adv (x_cp M 54 (1 + 4 + (ab_ks A.1).length)) 54 A.2.1 j) 1 xL1 A.2.1 A.1 hok hL2.2.2 54 (ab_ks A.1 ++ [j]).length rfl (by simp; omega) hs2.1) rfl rfl (by decide) (Nat.le_of_ble_eq_true rfl) (fun r M1 hp => ?_)
      obtain ⟨hp, he⟩ := hp
      have he := he.symm
      subst he
      subst hp
      refine r_top_eq (ab_lcost A.2.1 A.1 (ab_ks A.1 ++ [j])) (by rw [hs2.2.2.2.2.1, hs2.2.2.2.2.2]; rfl) ?_
      exact hr _ _ _ _ dX5_trying_70 ⟨by rw [e0, ab_if_pos hb_2], x_S_scr hS (fun c hc => fr2 c (by omega)) (x_cache_fr hca (fun c h1 h2 => fr2 c (by omega)))⟩
    · refine r_if_ne K 30 dX5_trying_24 (by decide) (fun h => absurd h (by decide)) (fun _ => ?_)
      refine r_bipush K (v := (-2)) dX5_trying_27 (by decide) ?_
      exact hr _ _ _ _ dX5_trying_29 ⟨by rw [e0, ab_if_neg hb_2], hS⟩
  · refine r_if_ne K 9 dX5_trying_4 (by decide) (fun h => absurd h (by decide)) (fun _ => ?_)
    refine r_iconst K (v := (-1)) dX5_trying_7 (by decide) ?_
    exact hr _ _ _ _ dX5_trying_8 ⟨by rw [ab_trying, ab_if_neg hb_1], hS⟩
theorem x_seen_push {M : rs_M} {sn : List (Int32 × Int32)} (h : x_seen M sn) (x y : Int32) (h4 : sn.length < 4) : x_seen (rs_st (rs_st (rs_st M 55 sn.length x) 56 sn.length y) 0 10 (nI (sn.length + 1))) (sn ++ [(x, y)]) := by
  obtain ⟨h1, h2, h3⟩ := h
  refine ⟨by rw [rs_st_eq]; simp, by simp; omega, fun i hi => ?_⟩
  rw [rs_st_ne _ _ _ (show 55 ≠ 0 by decide), rs_st_ne _ _ _ (show 55 ≠ 56 by decide), rs_st_row, rs_st_ne _ _ _ (show 56 ≠ 0 by decide), rs_st_row, rs_st_ne _ _ _ (show 56 ≠ 55 by decide)]
  simp only [upd]
  by_cases e : i = sn.length
  · subst e; simp
  · have hlt : i < sn.length := by simp at hi; omega
    rw [if_neg e, if_neg e]
    have := h3 i hlt
    simpa [List.getElem?_append_left hlt] using this
set_option maxHeartbeats 4000000 in
set_option maxRecDepth 100000 in
theorem c_sees (l : Launch) (g : rs_G) (t : Nat × Nat) (M : rs_M) (A : ab_S) (hS : x_S M A) (x y : Int32) : rs_Ci l g xk t yX5_sees cX5_sees 3 .int 1 [.ref (g.2.2 0), .int x, .int y] M (fun r M1 => x_R (ab_sees A x y) r M1) := by
  obtain ⟨hL, hok, ht, hdr, him, htx, hun, hca, hse⟩ := id hS
  have hn12 := hok.1
  have hs4 := hse.2.1
  refine rs_ofi (plainFor_of_name (by decide)) (Nat.le_of_ble_eq_true rfl) ?_
  intro Y K hr
  show Y M 0 [(0, .ref (g.2.2 0)), (1, .int x), (2, .int y)] []
  refine r_iload_n K 1 dX5_sees_0 rfl rfl ?_
  refine r_sipush K (v := (-9999)) dX5_sees_1 (by decide) ?_
  refine r_sipush K (v := 9999) dX5_sees_4 (by decide) ?_
  refine r_callSi K [.int x, .int (-9999), .int 9999] [] dX5_sees_7 mf_X5_isWithin qw_227 qw_228 (c_isWithin l g xk t M x (-9999) 9999) rfl rfl (by decide) (Nat.le_of_ble_eq_true rfl) (fun r M1 hp => ?_)
  obtain ⟨hp, he⟩ := hp
  have he := he.symm
  subst he
  rcases hp with ⟨rfl, hb_1⟩ | ⟨rfl, hb_1⟩
  · refine r_if_eq K 26 dX5_sees_10 (by decide) (fun h => absurd h (by decide)) (fun _ => ?_)
    refine r_iload_n K 2 dX5_sees_13 rfl rfl ?_
    refine r_sipush K (v := (-9999)) dX5_sees_14 (by decide) ?_
    refine r_sipush K (v := 9999) dX5_sees_17 (by decide) ?_
    refine r_callSi K [.int y, .int (-9999), .int 9999] [] dX5_sees_20 mf_X5_isWithin qw_227 qw_228 (c_isWithin l g xk t M y (-9999) 9999) rfl rfl (by decide) (Nat.le_of_ble_eq_true rfl) (fun r M1 hp => ?_)
    obtain ⟨hp, he⟩ := hp
    have he := he.symm
    subst he
    rcases hp with ⟨rfl, hb_2⟩ | ⟨rfl, hb_2⟩
    · refine r_if_ne K 28 dX5_sees_23 (by decide) (fun _ => ?_) (fun h => absurd h (by decide))
      refine r_aload_n K 0 dX5_sees_28 rfl rfl ?_
      refine r_getI K rfl rfl ff_5_seen qw_199 dX5_sees_29 ?_
      refine r_top_eq (nI A.2.2.2.1.length) (by first | exact hse.1 | (simp [rs_st]; exact hse.1)) ?_
      refine r_iconst K (v := 4) dX5_sees_32 (by decide) ?_
      refine r_icmp_lt K 39 dX5_sees_33 (by decide) (fun h_3 => ?_) (fun h_3 => ?_)
      · have nh_3 : A.2.2.2.1.length < 4 := (nf_lt rfl rfl (by omega) (by omega)).mp h_3
        refine r_aload_n K 0 dX5_sees_39 rfl rfl ?_
        refine r_getR K rfl rfl ff_5_seenX qw_197 dX5_sees_40 ?_
        refine r_aload_n K 0 dX5_sees_43 rfl rfl ?_
        refine r_getI K rfl rfl ff_5_seen qw_199 dX5_sees_44 ?_
        refine r_top_eq (nI A.2.2.2.1.length) (by first | exact hse.1 | (simp [rs_st]; exact hse.1)) ?_
        refine r_iload_n K 1 dX5_sees_47 rfl rfl ?_
        refine r_iast K (j := A.2.2.2.1.length) rfl rfl (by omega) (by decide) dX5_sees_48 ?_
        refine r_aload_n K 0 dX5_sees_49 rfl rfl ?_
        refine r_getR K rfl rfl ff_5_seenY qw_198 dX5_sees_50 ?_
        refine r_aload_n K 0 dX5_sees_53 rfl rfl ?_
        refine r_getI K rfl rfl ff_5_seen qw_199 dX5_sees_54 ?_
        refine r_top_eq (nI A.2.2.2.1.length) (by first | exact hse.1 | (simp [rs_st]; exact hse.1)) ?_
        refine r_iload_n K 2 dX5_sees_57 rfl rfl ?_
        refine r_iast K (j := A.2.2.2.1.length) rfl rfl (by omega) (by decide) dX5_sees_58 ?_
        refine r_aload_n K 0 dX5_sees_59 rfl rfl ?_
        refine r_dup K dX5_sees_60 rfl ?_
        refine r_getI K rfl rfl ff_5_seen qw_199 dX5_sees_61 ?_
        refine r_top_eq (nI A.2.2.2.1.length) (by first | exact hse.1 | (simp [rs_st]; exact hse.1)) ?_
        refine r_iconst K (v := 1) dX5_sees_64 (by decide) ?_
        refine r_iadd K dX5_sees_65 ?_
        refine r_top_eq (nI (A.2.2.2.1.length + 1)) (nI_1 _) ?_
        refine r_put K rfl rfl ff_5_seen qw_199 rfl rfl dX5_sees_66 ?_
        refine r_aload_n K 0 dX5_sees_69 rfl rfl ?_
        refine r_getI K rfl rfl ff_5_seen qw_199 dX5_sees_70 ?_
        refine r_top_eq (nI (A.2.2.2.1.length + 1)) (by rw [rs_st_eq]) ?_
        have e : ab_sees A x y = (nI (A.2.2.2.1.length + 1), ab_wN A (A.2.2.2.1 ++ [(x, y)])) := by rw [ab_sees, ab_if_pos ⟨hb_1, hb_2⟩, ab_if_pos (by omega)]
        exact hr _ _ _ _ dX5_sees_73 (by rw [e]; exact ⟨rfl, (x_S_seen hS (fun c c1 c2 c3 => by rw [rs_st_ne _ _ _ c1, rs_st_ne _ _ _ c3, rs_st_ne _ _ _ c2]) (x_seen_push hse x y (by omega)))⟩)
      · have nh_3 : ¬ A.2.2.2.1.length < 4 := mt (nf_lt rfl rfl (by omega) (by omega)).mpr h_3
        refine r_bipush K (v := (-3)) dX5_sees_36 (by decide) ?_
        have e : ab_sees A x y = (-3, A) := by rw [ab_sees, ab_if_pos ⟨hb_1, hb_2⟩, ab_if_neg (by omega)]
        exact hr _ _ _ _ dX5_sees_38 (by rw [e]; exact ⟨rfl, hS⟩)
    · refine r_if_ne K 28 dX5_sees_23 (by decide) (fun h => absurd h (by decide)) (fun _ => ?_)
      refine r_iconst K (v := (-1)) dX5_sees_26 (by decide) ?_
      have e : ab_sees A x y = (-1, A) := by rw [ab_sees, ab_if_neg (fun q => hb_2 q.2)]
      exact hr _ _ _ _ dX5_sees_27 (by rw [e]; exact ⟨rfl, hS⟩)
  · refine r_if_eq K 26 dX5_sees_10 (by decide) (fun _ => ?_) (fun h => absurd h (by decide))
    refine r_iconst K (v := (-1)) dX5_sees_26 (by decide) ?_
    have e : ab_sees A x y = (-1, A) := by rw [ab_sees, ab_if_neg (fun q => hb_1 q.1)]
    exact hr _ _ _ _ dX5_sees_27 (by rw [e]; exact ⟨rfl, hS⟩)
set_option maxHeartbeats 4000000 in
set_option maxRecDepth 100000 in
theorem c_forget (l : Launch) (g : rs_G) (t : Nat × Nat) (M : rs_M) (A : ab_S) (hS : x_S M A) : rs_Ci l g xk t yX5_forget cX5_forget 2 .int 0 [.ref (g.2.2 0)] M (fun r M1 => x_R (ab_forget A) r M1) := by
  obtain ⟨hL, hok, ht, hdr, him, htx, hun, hca, hse⟩ := id hS
  have hn12 := hok.1
  refine rs_ofi (plainFor_of_name (by decide)) (Nat.le_of_ble_eq_true rfl) ?_
  intro Y K hr
  show Y M 0 [(0, .ref (g.2.2 0))] []
  refine r_aload_n K 0 dX5_forget_0 rfl rfl ?_
  refine r_getI K rfl rfl ff_5_seen qw_199 dX5_forget_1 ?_
  refine r_top_eq (nI A.2.2.2.1.length) hse.1 ?_
  refine r_istore_n K [(1, .int (nI A.2.2.2.1.length)), (0, .ref (g.2.2 0))] dX5_forget_4 rfl (by decide) rfl ?_
  refine r_aload_n K 1 dX5_forget_5 rfl rfl ?_
  refine r_iconst K (v := 0) dX5_forget_6 (by decide) ?_
  refine r_put K rfl rfl ff_5_seen qw_199 rfl rfl dX5_forget_7 ?_
  refine r_iload_n K 0 dX5_forget_10 rfl rfl ?_
  exact hr _ _ _ _ dX5_forget_11 ⟨rfl, x_S_seen (M1 := rs_st M 0 10 0) hS (fun c c1 c2 c3 => rs_st_ne _ _ _ c1) ⟨by rw [rs_st_eq]; rfl, by simp, fun i hi => absurd hi (Nat.not_lt_zero _)⟩⟩
