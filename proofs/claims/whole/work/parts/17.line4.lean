theorem r_sub {l : Launch} {g : rs_G} {kd : List rs_k} {t : Nat × Nat} {cc : ByteArray} {nL : Nat} {own : String} {d : Nat} {Y : rs_Y} (K : rs_K l g kd t cc nL own d Y) {M : rs_M} {pc : Nat} {lv lv1 : List (Nat × Value)} {stk : List Value} (ks : List Nat) (h : lv_pick lv ks = lv1) (k : Y M pc lv1 stk) : Y M pc lv stk := by
  obtain ⟨p, e, s, m, args, below, meth, cd, Q, rfl, hx, hb, hml, hown, hts, hN, hZ⟩ := K
  intro H locs ls hI hl
  exact k H locs ls hI (lv_sub hl ks h)
theorem r_iinc_n {l : Launch} {g : rs_G} {kd : List rs_k} {t : Nat × Nat} {cc : ByteArray} {nL : Nat} {own : String} {d : Nat} {Y : rs_Y} (K : rs_K l g kd t cc nL own d Y) {M : rs_M} {pc : Nat} {lv : List (Nat × Value)} {rest : List Value} {i x : Nat} (j : Nat) (lv1 : List (Nat × Value)) (hd : decode cc pc = .ok (.iinc i 1, 3)) (hj : lv[j]? = some (i, .int (nI x))) (hn : i < nL) (hv : (i, Value.int (nI (x + 1))) :: lv.filter (fun q => !(q.1 == i) && !(q.1 + 1 == i && q.2.category == 2)) = lv1) (k : Y M (pc + 3) lv1 rest) : Y M pc lv rest :=
  r_iinc K j lv1 hd hj (show nI x + 1 = nI (x + 1) from nI_1 x) hn hv k
/-- what ring i costs -/
def ab_ringcost (tp : Int32) (L : ab_L) (i : Nat) : Int32 := ab_cost L i (ab_geo tp ((ab_ks L).take i)).2.2.1 (ab_geo tp ((ab_ks L).take i)).2.2.2
def ab_whole (tp : Int32) (L : ab_L) : Nat → Int32
  | 0 => 0
  | i + 1 => ab_whole tp L i + ab_ringcost tp L (i + 1)
def ab_ahead (c : Nat → Int32) (i : Nat) : Nat → Nat
  | 0 => 0
  | j + 1 => ab_ahead c i j + (if c i < c (j + 1) ∨ (c (j + 1) = c i ∧ j + 1 < i) then 1 else 0)
theorem ab_ahead_le (c : Nat → Int32) (i : Nat) : ∀ j, ab_ahead c i j ≤ j
  | 0 => Nat.le_refl 0
  | j + 1 => by
    have := ab_ahead_le c i j
    simp only [ab_ahead]
    split <;> omega
noncomputable def ab_mask (P : Nat → Prop) : Nat → Int32
  | 0 => 0
  | k + 1 => @ite Int32 (P k) (Classical.propDecidable _) (ab_mask P k ||| ((1 : Int32) <<< (nI k &&& 31))) (ab_mask P k)
theorem x_ln_c0 {M : rs_M} {b : Nat} {tp : Int32} {L : ab_L} (h : x_ln M b tp L) {i : Nat} (hi : i ≤ (ab_ks L).length) : M (b + 4 + i) 0 = nI i := by
  have := (h.2.1 i hi).1
  rwa [List.length_take, Nat.min_eq_left hi] at this
theorem x_ln_cost {M : rs_M} {b : Nat} {tp : Int32} {L : ab_L} (h : x_ln M b tp L) {i : Nat} (hi : i ≤ (ab_ks L).length) : ab_cost L i (M (b + 4 + i) 4) (M (b + 4 + i) 5) = ab_ringcost tp L i := by
  obtain ⟨-, -, -, -, h4, h5⟩ := h.2.1 i hi
  rw [h4, h5]
  rfl
theorem x_ln_last {M : rs_M} {b : Nat} {tp : Int32} {L : ab_L} (h : x_ln M b tp L) : x_sp M (b + 4 + (ab_ks L).length) tp (ab_ks L) := by
  have := h.2.1 _ (Nat.le_refl _)
  rwa [List.take_length] at this
def ab_L0 : ab_L := ([], fun _ => 0, fun _ => 0, 1, 0, 0)
/-- reset, behind its rules' writes, i places done -/
def x_rI (M Mi : rs_M) (b i : Nat) : Prop := (Mi b 3 = 0 ∧ Mi b 4 = 1 ∧ Mi b 5 = 1 ∧ Mi b 6 = 0 ∧ Mi b 7 = 0) ∧ (∀ p, p < i → Mi (b + 2) p = 0 ∧ Mi (b + 3) p = 0) ∧ x_sp Mi (b + 4) 1 [] ∧ x_fr M Mi b (b + 17)
theorem x_rI_0 {M : rs_M} {b : Nat} {tp : Int32} (h : x_sp M (b + 4) tp []) : x_rI M (rs_st (rs_st (rs_st (rs_st (rs_st M b 3 0) b 4 1) b 5 1) b 6 0) b 7 0) b 0 := by
  refine ⟨by simp [rs_st], fun p hp => absurd hp (Nat.not_lt_zero _), ?_, x_fr_tr (x_fr_tr (x_fr_tr (x_fr_tr (x_fr_st (by omega) (by omega)) (x_fr_st (by omega) (by omega))) (x_fr_st (by omega) (by omega))) (x_fr_st (by omega) (by omega))) (x_fr_st (by omega) (by omega))⟩
  have h' : x_sp M (b + 4) 1 [] := h
  exact x_sp_same h' (fun j _ => by simp [rs_st])
theorem x_rI_s {M Mi : rs_M} {b i : Nat} (h : x_rI M Mi b i) : x_rI M (rs_st (rs_st Mi (b + 2) i 0) (b + 3) i 0) b (i + 1) := by
  obtain ⟨h1, h2, h3, h4⟩ := h
  have fr : ∀ c, c ≠ b + 2 → c ≠ b + 3 → (rs_st (rs_st Mi (b + 2) i 0) (b + 3) i 0) c = Mi c := fun c c1 c2 => by rw [rs_st_ne _ _ _ c2, rs_st_ne _ _ _ c1]
  refine ⟨by rw [fr b (by omega) (by omega)]; exact h1, fun p hp => ?_, x_sp_same h3 (fun j _ => by rw [fr _ (by omega) (by omega)]), x_fr_tr h4 (x_fr_tr (x_fr_st (by omega) (by omega)) (x_fr_st (by omega) (by omega)))⟩
  rw [rs_st_ne _ _ _ (show b + 2 ≠ b + 3 by omega), rs_st_row, rs_st_row, rs_st_ne _ _ _ (show b + 3 ≠ b + 2 by omega)]
  simp only [upd]
  by_cases e : p = i
  · rw [if_pos e, if_pos e]; exact ⟨rfl, rfl⟩
  · rw [if_neg e, if_neg e]; exact h2 p (by omega)
theorem x_rI_e {M Mi : rs_M} {b : Nat} (h : x_rI M Mi b 18) : x_ln Mi b 1 ab_L0 ∧ x_fr M Mi b (b + 17) := by
  obtain ⟨⟨h3, h4, h5, h6, h7⟩, h2, hs, hf⟩ := h
  refine ⟨⟨h3, fun i hi => ?_, h4, h5, h6, h7, fun p hp => h2 p hp⟩, hf⟩
  have : i = 0 := Nat.le_zero.mp hi
  subst this
  exact hs
/-- copy, its scalars done, i spots done -/
def x_cs (Mi : rs_M) (b : Nat) (tp : Int32) (L : ab_L) : Prop := Mi b 3 = nI (ab_ks L).length ∧ Mi b 4 = tp ∧ Mi b 5 = nI (ab_bar L) ∧ Mi b 6 = nI (ab_way L) ∧ Mi b 7 = nI (ab_tail L)
def x_cI (M Mi : rs_M) (b : Nat) (tp : Int32) (L : ab_L) (i : Nat) : Prop := x_cs Mi b tp L ∧ (∀ j, j < i → j ≤ (ab_ks L).length → x_sp Mi (b + 4 + j) tp ((ab_ks L).take j)) ∧ x_fr M Mi b (b + 17)
theorem x_cI_0 {M : rs_M} {b b2 : Nat} {tp : Int32} {L : ab_L} (h : x_ln M b2 tp L) : x_cI M (rs_st (rs_st (rs_st (rs_st (rs_st M b 3 (nI (ab_ks L).length)) b 4 tp) b 5 (nI (ab_bar L))) b 6 (nI (ab_way L))) b 7 (nI (ab_tail L))) b tp L 0 :=
  ⟨by simp [x_cs, rs_st], fun j hj => absurd hj (Nat.not_lt_zero _), x_fr_tr (x_fr_tr (x_fr_tr (x_fr_tr (x_fr_st (by omega) (by omega)) (x_fr_st (by omega) (by omega))) (x_fr_st (by omega) (by omega))) (x_fr_st (by omega) (by omega))) (x_fr_st (by omega) (by omega))⟩
theorem x_cI_s {M Mi : rs_M} {b b2 i : Nat} {tp : Int32} {L : ab_L} (hn : (ab_ks L).length ≤ 12) (hd : b + 17 ≤ b2 ∨ b2 + 17 ≤ b) (hi : i ≤ (ab_ks L).length) (h0 : x_ln M b2 tp L) (h : x_cI M Mi b tp L i) : x_cI M (x_cp Mi (b + 4 + i) (b2 + 4 + i)) b tp L (i + 1) := by
  obtain ⟨h1, h2, h3⟩ := h
  have hL2 := x_ln_fr hn h0 h3 (by omega)
  have fr := x_fr_cp (M := Mi) (lo := b + 4 + i) (hi := b + 4 + i + 1) (c := b + 4 + i) (d := b2 + 4 + i) (by omega) (by omega)
  refine ⟨by rw [x_cs, fr b (by omega)]; exact h1, fun j hj hj2 => ?_, x_fr_tr h3 (x_fr_mono fr (by omega) (by omega))⟩
  by_cases e : j = i
  · subst e
    exact x_sp_cp (hL2.2.1 j hi)
  · exact x_sp_same (h2 j (by omega) hj2) (fun q _ => by rw [fr _ (by omega)])
def x_cJ (M Mi : rs_M) (b : Nat) (tp : Int32) (L : ab_L) (i : Nat) : Prop := x_cs Mi b tp L ∧ (∀ j, j ≤ (ab_ks L).length → x_sp Mi (b + 4 + j) tp ((ab_ks L).take j)) ∧ (∀ p, p < i → Mi (b + 2) p = ab_wx L p ∧ Mi (b + 3) p = ab_wy L p) ∧ x_fr M Mi b (b + 17)
theorem x_cJ_0 {M Mi : rs_M} {b i : Nat} {tp : Int32} {L : ab_L} (hi : (ab_ks L).length < i) (h : x_cI M Mi b tp L i) : x_cJ M Mi b tp L 0 := ⟨h.1, fun j hj => h.2.1 j (by omega) hj, fun p hp => absurd hp (Nat.not_lt_zero _), h.2.2⟩
theorem x_cJ_s {M Mi : rs_M} {b i : Nat} {tp : Int32} {L : ab_L} (h : x_cJ M Mi b tp L i) : x_cJ M (rs_st (rs_st Mi (b + 2) i (ab_wx L i)) (b + 3) i (ab_wy L i)) b tp L (i + 1) := by
  obtain ⟨h1, h2, h3, h4⟩ := h
  have fr : ∀ c, c ≠ b + 2 → c ≠ b + 3 → (rs_st (rs_st Mi (b + 2) i (ab_wx L i)) (b + 3) i (ab_wy L i)) c = Mi c := fun c c1 c2 => by rw [rs_st_ne _ _ _ c2, rs_st_ne _ _ _ c1]
  refine ⟨by rw [x_cs, fr b (by omega) (by omega)]; exact h1, fun j hj => x_sp_same (h2 j hj) (fun q _ => by rw [fr _ (by omega) (by omega)]), fun p hp => ?_, x_fr_tr h4 (x_fr_tr (x_fr_st (by omega) (by omega)) (x_fr_st (by omega) (by omega)))⟩
  rw [rs_st_ne _ _ _ (show b + 2 ≠ b + 3 by omega), rs_st_row, rs_st_row, rs_st_ne _ _ _ (show b + 3 ≠ b + 2 by omega)]
  simp only [upd]
  by_cases e : p = i
  · subst e; rw [if_pos rfl, if_pos rfl]; exact ⟨rfl, rfl⟩
  · rw [if_neg e, if_neg e]; exact h3 p (by omega)
theorem x_cJ_e {M Mi : rs_M} {b : Nat} {tp : Int32} {L : ab_L} (h : x_cJ M Mi b tp L 18) : x_ln Mi b tp L ∧ x_fr M Mi b (b + 17) := ⟨⟨h.1.1, h.2.1, h.1.2.1, h.1.2.2.1, h.1.2.2.2.1, h.1.2.2.2.2, fun p hp => h.2.2.1 p hp⟩, h.2.2.2⟩
set_option maxHeartbeats 4000000 in
set_option maxRecDepth 100000 in
theorem c_reset (l : Launch) (g : rs_G) (t : Nat × Nat) (M : rs_M) (b : Nat) (hb : xL b) (tp : Int32) (hs : x_sp M (b + 4) tp []) : rs_Cv l g xk t yX1_reset cX1_reset 2 0 [.ref (g.2.2 b)] M (fun M1 => x_ln M1 b 1 ab_L0 ∧ x_fr M M1 b (b + 17)) := by
  refine rs_ofv (plainFor_of_name (by decide)) (Nat.le_of_ble_eq_true rfl) ?_
  intro Y K hr
  show Y M 0 [(0, .ref (g.2.2 b))] []
  refine r_aload_n K 0 dX1_reset_0 rfl rfl ?_
  refine r_iconst K (v := 0) dX1_reset_1 (by decide) ?_
  refine r_put K (xL_0 hb) rfl ff_1_rings qw_69 rfl rfl dX1_reset_2 ?_
  refine r_aload_n K 0 dX1_reset_5 rfl rfl ?_
  refine r_iconst K (v := 1) dX1_reset_6 (by decide) ?_
  refine r_put K (xL_0 hb) rfl ff_1_taper qw_72 rfl rfl dX1_reset_7 ?_
  refine r_aload_n K 0 dX1_reset_10 rfl rfl ?_
  refine r_iconst K (v := 1) dX1_reset_11 (by decide) ?_
  refine r_put K (xL_0 hb) rfl ff_1_bar qw_76 rfl rfl dX1_reset_12 ?_
  refine r_aload_n K 0 dX1_reset_15 rfl rfl ?_
  refine r_iconst K (v := 0) dX1_reset_16 (by decide) ?_
  refine r_put K (xL_0 hb) rfl ff_1_way qw_78 rfl rfl dX1_reset_17 ?_
  refine r_aload_n K 0 dX1_reset_20 rfl rfl ?_
  refine r_iconst K (v := 0) dX1_reset_21 (by decide) ?_
  refine r_put K (xL_0 hb) rfl ff_1_tail qw_80 rfl rfl dX1_reset_22 ?_
  refine r_iconst K (v := 0) dX1_reset_25 (by decide) ?_
  refine r_istore_n K [(1, .int 0), (0, .ref (g.2.2 b))] dX1_reset_26 rfl (by decide) rfl ?_
  have lp : ∀ (f : Nat) (i : Nat) (Mi : rs_M), (18 - i < f) → (i ≤ 18) → (x_rI M Mi b i) → Y Mi 27 [(1, .int (nI i)), (0, .ref (g.2.2 b))] [] := by
    intro f
    induction f with
    | zero =>
      intro i Mi hf
      exact absurd hf (Nat.not_lt_zero _)
    | succ f ih =>
      intro i Mi hf hi hI
      refine r_iload_n K 0 dX1_reset_27 rfl rfl ?_
      refine r_bipush K (v := 17) dX1_reset_28 (by decide) ?_
      refine r_icmp_gt K 53 dX1_reset_30 (by decide) (fun h_1 => ?_) (fun h_1 => ?_)
      · have nh_1 : 17 < i := (nf_lt rfl rfl (by omega) (by omega)).mp h_1
        have hi18 : i = 18 := by omega
        subst hi18
        exact hr _ _ _ dX1_reset_53 (x_rI_e hI)
      · have nh_1 : ¬ 17 < i := mt (nf_lt rfl rfl (by omega) (by omega)).mpr h_1
        refine r_aload_n K 1 dX1_reset_33 rfl rfl ?_
        refine r_getR K (xL_0 hb) rfl ff_1_wishX qw_65 dX1_reset_34 ?_
        refine r_iload_n K 0 dX1_reset_37 rfl rfl ?_
        refine r_iconst K (v := 0) dX1_reset_38 (by decide) ?_
        refine r_iast K (j := i) (xL_2 hb) rfl (by omega) (by decide) dX1_reset_39 ?_
        refine r_aload_n K 1 dX1_reset_40 rfl rfl ?_
        refine r_getR K (xL_0 hb) rfl ff_1_wishY qw_67 dX1_reset_41 ?_
        refine r_iload_n K 0 dX1_reset_44 rfl rfl ?_
        refine r_iconst K (v := 0) dX1_reset_45 (by decide) ?_
        refine r_iast K (j := i) (xL_3 hb) rfl (by omega) (by decide) dX1_reset_46 ?_
        refine r_iinc_n K 0 [(1, .int (nI (i + 1))), (0, .ref (g.2.2 b))] dX1_reset_47 rfl (by decide) rfl ?_
        refine r_goto K 27 dX1_reset_50 (by decide) ?_
        exact ih (i + 1) _ (by omega) (by omega) (x_rI_s hI)
  exact lp 19 0 _ (by omega) (by omega) (x_rI_0 hs)
set_option maxHeartbeats 4000000 in
set_option maxRecDepth 100000 in
theorem c_Line_copy (l : Launch) (g : rs_G) (t : Nat × Nat) (M : rs_M) (b b2 : Nat) (hb : xL b) (hb2 : xL b2) (hdis : b + 17 ≤ b2 ∨ b2 + 17 ≤ b) (tp : Int32) (L : ab_L) (hn : (ab_ks L).length ≤ 12) (hL : x_ln M b2 tp L) : rs_Cv l g xk t yX1_copy cX1_copy 3 1 [.ref (g.2.2 b), .ref (g.2.2 b2)] M (fun M1 => x_ln M1 b tp L ∧ x_fr M M1 b (b + 17)) := by
  have hbb : ¬ b2 = b := by omega
  refine rs_ofv (plainFor_of_name (by decide)) (Nat.le_of_ble_eq_true rfl) ?_
  intro Y K hr
  show Y M 0 [(0, .ref (g.2.2 b)), (1, .ref (g.2.2 b2))] []
  refine r_aload_n K 0 dX1_copy_0 rfl rfl ?_
  refine r_aload_n K 1 dX1_copy_1 rfl rfl ?_
  refine r_getI K (xL_0 hb2) rfl ff_1_rings qw_69 dX1_copy_2 ?_
  refine r_top_eq (nI (ab_ks L).length) hL.1 ?_
  refine r_put K (xL_0 hb) rfl ff_1_rings qw_69 rfl rfl dX1_copy_5 ?_
  refine r_aload_n K 0 dX1_copy_8 rfl rfl ?_
  refine r_aload_n K 1 dX1_copy_9 rfl rfl ?_
  refine r_getI K (xL_0 hb2) rfl ff_1_taper qw_72 dX1_copy_10 ?_
  refine r_top_eq tp (by simp only [rs_st]; simp [hbb]; exact hL.2.2.1) ?_
  refine r_put K (xL_0 hb) rfl ff_1_taper qw_72 rfl rfl dX1_copy_13 ?_
  refine r_aload_n K 0 dX1_copy_16 rfl rfl ?_
  refine r_aload_n K 1 dX1_copy_17 rfl rfl ?_
  refine r_getI K (xL_0 hb2) rfl ff_1_bar qw_76 dX1_copy_18 ?_
  refine r_top_eq (nI (ab_bar L)) (by simp only [rs_st]; simp [hbb]; exact hL.2.2.2.1) ?_
  refine r_put K (xL_0 hb) rfl ff_1_bar qw_76 rfl rfl dX1_copy_21 ?_
  refine r_aload_n K 0 dX1_copy_24 rfl rfl ?_
  refine r_aload_n K 1 dX1_copy_25 rfl rfl ?_
  refine r_getI K (xL_0 hb2) rfl ff_1_way qw_78 dX1_copy_26 ?_
  refine r_top_eq (nI (ab_way L)) (by simp only [rs_st]; simp [hbb]; exact hL.2.2.2.2.1) ?_
  refine r_put K (xL_0 hb) rfl ff_1_way qw_78 rfl rfl dX1_copy_29 ?_
  refine r_aload_n K 0 dX1_copy_32 rfl rfl ?_
  refine r_aload_n K 1 dX1_copy_33 rfl rfl ?_
  refine r_getI K (xL_0 hb2) rfl ff_1_tail qw_80 dX1_copy_34 ?_
  refine r_top_eq (nI (ab_tail L)) (by simp only [rs_st]; simp [hbb]; exact hL.2.2.2.2.2.1) ?_
  refine r_put K (xL_0 hb) rfl ff_1_tail qw_80 rfl rfl dX1_copy_37 ?_
  refine r_iconst K (v := 0) dX1_copy_40 (by decide) ?_
  refine r_istore_n K [(2, .int 0), (0, .ref (g.2.2 b)), (1, .ref (g.2.2 b2))] dX1_copy_41 rfl (by decide) rfl ?_
  have lp : ∀ (f : Nat) (i : Nat) (Mi : rs_M), (13 - i < f) → (i ≤ (ab_ks L).length + 1) → (x_cI M Mi b tp L i) → Y Mi 42 [(2, .int (nI i)), (0, .ref (g.2.2 b)), (1, .ref (g.2.2 b2))] [] := by
    intro f
    induction f with
    | zero =>
      intro i Mi hf
      exact absurd hf (Nat.not_lt_zero _)
    | succ f ih =>
      intro i Mi hf hi hI
      refine r_iload_n K 0 dX1_copy_42 rfl rfl ?_
      refine r_aload_n K 1 dX1_copy_43 rfl rfl ?_
      refine r_getI K (xL_0 hb) rfl ff_1_rings qw_69 dX1_copy_44 ?_
      refine r_top_eq (nI (ab_ks L).length) hI.1.1 ?_
      refine r_icmp_gt K 77 dX1_copy_47 (by decide) (fun h_1 => ?_) (fun h_1 => ?_)
      · have nh_1 : (ab_ks L).length < i := (nf_lt rfl rfl (by omega) (by omega)).mp h_1
        refine r_iconst K (v := 0) dX1_copy_77 (by decide) ?_
        refine r_istore_n K [(2, .int 0), (0, .ref (g.2.2 b)), (1, .ref (g.2.2 b2))] dX1_copy_78 rfl (by decide) rfl ?_
        have lq : ∀ (f : Nat) (i : Nat) (Mi : rs_M), (18 - i < f) → (i ≤ 18) → (x_cJ M Mi b tp L i) → Y Mi 79 [(2, .int (nI i)), (0, .ref (g.2.2 b)), (1, .ref (g.2.2 b2))] [] := by
          intro f
          induction f with
          | zero =>
            intro i Mi hf
            exact absurd hf (Nat.not_lt_zero _)
          | succ f ih =>
            intro i Mi hf hi hJ
            refine r_iload_n K 0 dX1_copy_79 rfl rfl ?_
            refine r_bipush K (v := 17) dX1_copy_80 (by decide) ?_
            refine r_icmp_gt K 115 dX1_copy_82 (by decide) (fun h_2 => ?_) (fun h_2 => ?_)
            · have nh_2 : 17 < i := (nf_lt rfl rfl (by omega) (by omega)).mp h_2
              have hi18 : i = 18 := by omega
              subst hi18
              exact hr _ _ _ dX1_copy_115 (x_cJ_e hJ)
            · have nh_2 : ¬ 17 < i := mt (nf_lt rfl rfl (by omega) (by omega)).mpr h_2
              refine r_aload_n K 1 dX1_copy_85 rfl rfl ?_
              refine r_getR K (xL_0 hb) rfl ff_1_wishX qw_65 dX1_copy_86 ?_
              refine r_iload_n K 0 dX1_copy_89 rfl rfl ?_
              refine r_aload_n K 2 dX1_copy_90 rfl rfl ?_
              refine r_getR K (xL_0 hb2) rfl ff_1_wishX qw_65 dX1_copy_91 ?_
              refine r_iload_n K 0 dX1_copy_94 rfl rfl ?_
              refine r_iald K (j := i) (xL_2 hb2) rfl (by omega) (by decide) dX1_copy_95 ?_
              refine r_top_eq (ab_wx L i) (by rw [hJ.2.2.2 _ (by omega)]; exact (hL.2.2.2.2.2.2 i (by omega)).1) ?_
              refine r_iast K (j := i) (xL_2 hb) rfl (by omega) (by decide) dX1_copy_96 ?_
              refine r_aload_n K 1 dX1_copy_97 rfl rfl ?_
              refine r_getR K (xL_0 hb) rfl ff_1_wishY qw_67 dX1_copy_98 ?_
              refine r_iload_n K 0 dX1_copy_101 rfl rfl ?_
              refine r_aload_n K 2 dX1_copy_102 rfl rfl ?_
              refine r_getR K (xL_0 hb2) rfl ff_1_wishY qw_67 dX1_copy_103 ?_
              refine r_iload_n K 0 dX1_copy_106 rfl rfl ?_
              refine r_iald K (j := i) (xL_3 hb2) rfl (by omega) (by decide) dX1_copy_107 ?_
              refine r_top_eq (ab_wy L i) (by rw [rs_st_ne _ _ _ (by omega), hJ.2.2.2 _ (by omega)]; exact (hL.2.2.2.2.2.2 i (by omega)).2) ?_
              refine r_iast K (j := i) (xL_3 hb) rfl (by omega) (by decide) dX1_copy_108 ?_
              refine r_iinc_n K 0 [(2, .int (nI (i + 1))), (0, .ref (g.2.2 b)), (1, .ref (g.2.2 b2))] dX1_copy_109 rfl (by decide) rfl ?_
              refine r_goto K 79 dX1_copy_112 (by decide) ?_
              exact ih (i + 1) _ (by omega) (by omega) (x_cJ_s hJ)
        exact lq 19 0 _ (by omega) (by omega) (x_cJ_0 (by omega) hI)
      · have nh_1 : ¬ (ab_ks L).length < i := mt (nf_lt rfl rfl (by omega) (by omega)).mpr h_1
        refine r_iload_n K 0 dX1_copy_50 rfl rfl ?_
        refine r_bipush K (v := 12) dX1_copy_51 (by decide) ?_
        refine r_icmp_gt K 77 dX1_copy_53 (by decide) (fun h_3 => ?_) (fun h_3 => ?_)
        · have nh_3 : 12 < i := (nf_lt rfl rfl (by omega) (by omega)).mp h_3
          refine r_iconst K (v := 0) dX1_copy_77 (by decide) ?_
          refine r_istore_n K [(2, .int 0), (0, .ref (g.2.2 b)), (1, .ref (g.2.2 b2))] dX1_copy_78 rfl (by decide) rfl ?_
          have lq : ∀ (f : Nat) (i : Nat) (Mi : rs_M), (18 - i < f) → (i ≤ 18) → (x_cJ M Mi b tp L i) → Y Mi 79 [(2, .int (nI i)), (0, .ref (g.2.2 b)), (1, .ref (g.2.2 b2))] [] := by
            intro f
            induction f with
            | zero =>
              intro i Mi hf
              exact absurd hf (Nat.not_lt_zero _)
            | succ f ih =>
              intro i Mi hf hi hJ
              refine r_iload_n K 0 dX1_copy_79 rfl rfl ?_
              refine r_bipush K (v := 17) dX1_copy_80 (by decide) ?_
              refine r_icmp_gt K 115 dX1_copy_82 (by decide) (fun h_4 => ?_) (fun h_4 => ?_)
              · have nh_4 : 17 < i := (nf_lt rfl rfl (by omega) (by omega)).mp h_4
                have hi18 : i = 18 := by omega
                subst hi18
                exact hr _ _ _ dX1_copy_115 (x_cJ_e hJ)
              · have nh_4 : ¬ 17 < i := mt (nf_lt rfl rfl (by omega) (by omega)).mpr h_4
                refine r_aload_n K 1 dX1_copy_85 rfl rfl ?_
                refine r_getR K (xL_0 hb) rfl ff_1_wishX qw_65 dX1_copy_86 ?_
                refine r_iload_n K 0 dX1_copy_89 rfl rfl ?_
                refine r_aload_n K 2 dX1_copy_90 rfl rfl ?_
                refine r_getR K (xL_0 hb2) rfl ff_1_wishX qw_65 dX1_copy_91 ?_
                refine r_iload_n K 0 dX1_copy_94 rfl rfl ?_
                refine r_iald K (j := i) (xL_2 hb2) rfl (by omega) (by decide) dX1_copy_95 ?_
                refine r_top_eq (ab_wx L i) (by rw [hJ.2.2.2 _ (by omega)]; exact (hL.2.2.2.2.2.2 i (by omega)).1) ?_
                refine r_iast K (j := i) (xL_2 hb) rfl (by omega) (by decide) dX1_copy_96 ?_
                refine r_aload_n K 1 dX1_copy_97 rfl rfl ?_
                refine r_getR K (xL_0 hb) rfl ff_1_wishY qw_67 dX1_copy_98 ?_
                refine r_iload_n K 0 dX1_copy_101 rfl rfl ?_
                refine r_aload_n K 2 dX1_copy_102 rfl rfl ?_
                refine r_getR K (xL_0 hb2) rfl ff_1_wishY qw_67 dX1_copy_103 ?_
                refine r_iload_n K 0 dX1_copy_106 rfl rfl ?_
                refine r_iald K (j := i) (xL_3 hb2) rfl (by omega) (by decide) dX1_copy_107 ?_
                refine r_top_eq (ab_wy L i) (by rw [rs_st_ne _ _ _ (by omega), hJ.2.2.2 _ (by omega)]; exact (hL.2.2.2.2.2.2 i (by omega)).2) ?_
                refine r_iast K (j := i) (xL_3 hb) rfl (by omega) (by decide) dX1_copy_108 ?_
                refine r_iinc_n K 0 [(2, .int (nI (i + 1))), (0, .ref (g.2.2 b)), (1, .ref (g.2.2 b2))] dX1_copy_109 rfl (by decide) rfl ?_
                refine r_goto K 79 dX1_copy_112 (by decide) ?_
                exact ih (i + 1) _ (by omega) (by omega) (x_cJ_s hJ)
          exact lq 19 0 _ (by omega) (by omega) (x_cJ_0 (by omega) hI)
        · have nh_3 : ¬ 12 < i := mt (nf_lt rfl rfl (by omega) (by omega)).mpr h_3
          refine r_aload_n K 1 dX1_copy_56 rfl rfl ?_
          refine r_getR K (xL_0 hb) rfl ff_1_spots qw_63 dX1_copy_57 ?_
          refine r_iload_n K 0 dX1_copy_60 rfl rfl ?_
          refine r_aaldS K (j := i) (xL_1 hb) rfl (xL_e (by omega)) (by omega) (by decide) dX1_copy_61 ?_
          refine r_aload_n K 2 dX1_copy_62 rfl rfl ?_
          refine r_getR K (xL_0 hb2) rfl ff_1_spots qw_63 dX1_copy_63 ?_
          refine r_iload_n K 0 dX1_copy_66 rfl rfl ?_
          refine r_aaldS K (j := i) (xL_1 hb2) rfl (xL_e (by omega)) (by omega) (by decide) dX1_copy_67 ?_
          refine r_callVv K [.ref (g.2.2 (b2 + 4 + i))] [] dX1_copy_68 mf_X4_copy (xL_s hb (by omega)) rfl qw_342 qw_343 qw_344 (c_Spot_copy l g t Mi (b + 4 + i) (b2 + 4 + i) (xL_s hb (by omega)) (xL_s hb2 (by omega))) rfl rfl (by decide) (Nat.le_of_ble_eq_true rfl) (fun M1 hp => ?_)
          subst hp
          refine r_iinc_n K 0 [(2, .int (nI (i + 1))), (0, .ref (g.2.2 b)), (1, .ref (g.2.2 b2))] dX1_copy_71 rfl (by decide) rfl ?_
          refine r_goto K 42 dX1_copy_74 (by decide) ?_
          exact ih (i + 1) _ (by omega) (by omega) (x_cI_s hn hdis (by omega) hL hI)
  exact lp 14 0 _ (by omega) (by omega) (x_cI_0 hL)
set_option maxHeartbeats 4000000 in
set_option maxRecDepth 100000 in
theorem c_wholeCost (l : Launch) (g : rs_G) (t : Nat × Nat) (M : rs_M) (b : Nat) (hb : xL b) (tp : Int32) (L : ab_L) (hok : ab_ok L) (hL : x_ln M b tp L) : rs_Ci l g xk t yX1_wholeCost cX1_wholeCost 3 .int 2 [.ref (g.2.2 b)] M (fun r M1 => r = ab_whole tp L (ab_ks L).length ∧ M1 = M) := by
  have hn := hok.1
  refine rs_ofi (plainFor_of_name (by decide)) (Nat.le_of_ble_eq_true rfl) ?_
  intro Y K hr
  show Y M 0 [(0, .ref (g.2.2 b))] []
  refine r_iconst K (v := 0) dX1_wholeCost_0 (by decide) ?_
  refine r_istore_n K [(1, .int 0), (0, .ref (g.2.2 b))] dX1_wholeCost_1 rfl (by decide) rfl ?_
  refine r_iconst K (v := 1) dX1_wholeCost_2 (by decide) ?_
  refine r_istore_n K [(2, .int 1), (1, .int 0), (0, .ref (g.2.2 b))] dX1_wholeCost_3 rfl (by decide) rfl ?_
  have lp : ∀ (f : Nat) (i : Nat), (13 - i < f) → (i ≤ (ab_ks L).length) → Y M 4 [(2, .int (nI (i + 1))), (1, .int (ab_whole tp L i)), (0, .ref (g.2.2 b))] [] := by
    intro f
    induction f with
    | zero =>
      intro i hf
      exact absurd hf (Nat.not_lt_zero _)
    | succ f ih =>
      intro i hf hi
      refine r_iload_n K 0 dX1_wholeCost_4 rfl rfl ?_
      refine r_aload_n K 2 dX1_wholeCost_5 rfl rfl ?_
      refine r_getI K (xL_0 hb) rfl ff_1_rings qw_69 dX1_wholeCost_6 ?_
      refine r_top_eq (nI (ab_ks L).length) hL.1 ?_
      refine r_icmp_gt K 37 dX1_wholeCost_9 (by decide) (fun h_1 => ?_) (fun h_1 => ?_)
      · have nh_1 : (ab_ks L).length < (i + 1) := (nf_lt rfl rfl (by omega) (by omega)).mp h_1
        refine r_iload_n K 1 dX1_wholeCost_37 rfl rfl ?_
        have hin : i = (ab_ks L).length := by omega
        subst hin
        exact hr _ _ _ _ dX1_wholeCost_38 ⟨rfl, rfl⟩
      · have nh_1 : ¬ (ab_ks L).length < (i + 1) := mt (nf_lt rfl rfl (by omega) (by omega)).mpr h_1
        refine r_iload_n K 0 dX1_wholeCost_12 rfl rfl ?_
        refine r_bipush K (v := 12) dX1_wholeCost_13 (by decide) ?_
        refine r_icmp_gt K 37 dX1_wholeCost_15 (by decide) (fun h_2 => ?_) (fun h_2 => ?_)
        · have nh_2 : 12 < (i + 1) := (nf_lt rfl rfl (by omega) (by omega)).mp h_2
          refine r_iload_n K 1 dX1_wholeCost_37 rfl rfl ?_
          have hin : i = (ab_ks L).length := by omega
          subst hin
          exact hr _ _ _ _ dX1_wholeCost_38 ⟨rfl, rfl⟩
        · have nh_2 : ¬ 12 < (i + 1) := mt (nf_lt rfl rfl (by omega) (by omega)).mpr h_2
          refine r_iload_n K 1 dX1_wholeCost_18 rfl rfl ?_
          refine r_aload_n K 2 dX1_wholeCost_19 rfl rfl ?_
          refine r_aload_n K 2 dX1_wholeCost_20 rfl rfl ?_
          refine r_getR K (xL_0 hb) rfl ff_1_spots qw_63 dX1_wholeCost_21 ?_
          refine r_iload_n K 0 dX1_wholeCost_24 rfl rfl ?_
          refine r_aaldS K (j := i + 1) (xL_1 hb) rfl (xL_e (by omega)) (by omega) (by decide) dX1_wholeCost_25 ?_
          refine r_callVi K [.ref (g.2.2 (b + 4 + (i + 1)))] [.int (ab_whole tp L i)] dX1_wholeCost_26 mf_X1_cost (xL_0 hb) rfl qw_460 qw_381 qw_382 (c_Line_cost l g t M b hb tp L hok hL.2.2 (b + 4 + (i + 1)) (i + 1) (xL_s hb (by omega)) (by omega) (x_ln_c0 hL (by omega))) rfl rfl (by decide) (Nat.le_of_ble_eq_true rfl) (fun r M1 hp => ?_)
          obtain ⟨hp, he⟩ := hp
          have he := he.symm
          subst he
          subst hp
          refine r_top_eq (ab_ringcost tp L (i + 1)) (x_ln_cost hL (by omega)) ?_
          refine r_iadd K dX1_wholeCost_29 ?_
          refine r_istore_n K [(1, .int ((ab_whole tp L i) + (ab_ringcost tp L (i + 1)))), (2, .int (nI (i + 1))), (0, .ref (g.2.2 b))] dX1_wholeCost_30 rfl (by decide) rfl ?_
          refine r_iinc_n K 1 [(2, .int (nI (i + 1 + 1))), (1, .int ((ab_whole tp L i) + (ab_ringcost tp L (i + 1)))), (0, .ref (g.2.2 b))] dX1_wholeCost_31 rfl (by decide) rfl ?_
          refine r_goto K 4 dX1_wholeCost_34 (by decide) ?_
          exact ih (i + 1) (by omega) (by omega)
  exact lp 14 0 (by omega) (by omega)
set_option maxHeartbeats 4000000 in
set_option maxRecDepth 100000 in
theorem c_nextKeys (l : Launch) (g : rs_G) (t : Nat × Nat) (M : rs_M) (b : Nat) (hb : xL b) (tp : Int32) (L : ab_L) (hok : ab_ok L) (hL : x_ln M b tp L) : rs_Ci l g xk t yX1_nextKeys cX1_nextKeys 3 .int 3 [.ref (g.2.2 b)] M (fun r M1 => r = ab_mask (ab_may tp L (ab_ks L)) 8 ∧ M1 = M) := by
  have hn := hok.1
  refine rs_ofi (plainFor_of_name (by decide)) (Nat.le_of_ble_eq_true rfl) ?_
  intro Y K hr
  show Y M 0 [(0, .ref (g.2.2 b))] []
  refine r_iconst K (v := 0) dX1_nextKeys_0 (by decide) ?_
  refine r_istore_n K [(1, .int 0), (0, .ref (g.2.2 b))] dX1_nextKeys_1 rfl (by decide) rfl ?_
  refine r_iconst K (v := 0) dX1_nextKeys_2 (by decide) ?_
  refine r_istore_n K [(2, .int 0), (1, .int 0), (0, .ref (g.2.2 b))] dX1_nextKeys_3 rfl (by decide) rfl ?_
  have lp : ∀ (f : Nat) (k : Nat), (8 - k < f) → (k ≤ 8) → Y M 4 [(2, .int (nI k)), (1, .int (ab_mask (ab_may tp L (ab_ks L)) k)), (0, .ref (g.2.2 b))] [] := by
    intro f
    induction f with
    | zero =>
      intro k hf
      exact absurd hf (Nat.not_lt_zero _)
    | succ f ih =>
      intro k hf hi
      refine r_iload_n K 0 dX1_nextKeys_4 rfl rfl ?_
      refine r_bipush K (v := 8) dX1_nextKeys_5 (by decide) ?_
      refine r_icmp_ge K 34 dX1_nextKeys_7 (by decide) (fun h_1 => ?_) (fun h_1 => ?_)
      · have nh_1 : 8 ≤ k := (nf_le rfl rfl (by omega) (by omega)).mp h_1
        refine r_iload_n K 1 dX1_nextKeys_34 rfl rfl ?_
        have hk8 : k = 8 := by omega
        subst hk8
        exact hr _ _ _ _ dX1_nextKeys_35 ⟨rfl, rfl⟩
      · have nh_1 : ¬ 8 ≤ k := mt (nf_le rfl rfl (by omega) (by omega)).mpr h_1
        refine r_aload_n K 2 dX1_nextKeys_10 rfl rfl ?_
        refine r_aload_n K 2 dX1_nextKeys_11 rfl rfl ?_
        refine r_callVr K [] [.ref (g.2.2 b)] dX1_nextKeys_12 mf_X1_last (xL_0 hb) rfl qw_341 qw_306 qw_307 (c_Line_last l g t M b hb (ab_ks L).length hn hL.1) rfl rfl (by decide) (Nat.le_of_ble_eq_true rfl) (fun r M1 hp => ?_)
        obtain ⟨hp, he⟩ := hp
        have he := he.symm
        subst he
        subst hp
        refine r_iload_n K 0 dX1_nextKeys_15 rfl rfl ?_
        refine r_callVi K [.ref (g.2.2 (b + 4 + (ab_ks L).length)), .int (nI k)] [] dX1_nextKeys_16 mf_X1_mayFollow (xL_0 hb) rfl qw_530 qw_310 qw_311 (c_mayFollow l g t M b hb tp L hok hL.2.2 (b + 4 + (ab_ks L).length) (xL_s hb (by omega)) (ab_ks L) (by omega) (x_ln_last hL) k (by omega) hok.2.1) rfl rfl (by decide) (Nat.le_of_ble_eq_true rfl) (fun r M1 hp => ?_)
        obtain ⟨hp, he⟩ := hp
        have he := he.symm
        subst he
        rcases hp with ⟨rfl, hb_2⟩ | ⟨rfl, hb_2⟩
        · refine r_if_eq K 28 dX1_nextKeys_19 (by decide) (fun h => absurd h (by decide)) (fun _ => ?_)
          refine r_iload_n K 1 dX1_nextKeys_22 rfl rfl ?_
          refine r_iconst K (v := 1) dX1_nextKeys_23 (by decide) ?_
          refine r_iload_n K 0 dX1_nextKeys_24 rfl rfl ?_
          refine r_ishl K dX1_nextKeys_25 ?_
          refine r_ior K dX1_nextKeys_26 ?_
          refine r_istore_n K [(1, .int ((ab_mask (ab_may tp L (ab_ks L)) k) ||| (1 <<< ((nI k) &&& 31)))), (2, .int (nI k)), (0, .ref (g.2.2 b))] dX1_nextKeys_27 rfl (by decide) rfl ?_
          refine r_iinc_n K 1 [(2, .int (nI (k + 1))), (1, .int ((ab_mask (ab_may tp L (ab_ks L)) k) ||| (1 <<< ((nI k) &&& 31)))), (0, .ref (g.2.2 b))] dX1_nextKeys_28 rfl (by decide) rfl ?_
          refine r_goto K 4 dX1_nextKeys_31 (by decide) ?_
          have e : ab_mask (ab_may tp L (ab_ks L)) (k + 1) = _ := if_pos hb_2
          have q := ih (k + 1) (by omega) (by omega)
          rw [e] at q
          exact q
        · refine r_if_eq K 28 dX1_nextKeys_19 (by decide) (fun _ => ?_) (fun h => absurd h (by decide))
          refine r_iinc_n K 0 [(2, .int (nI (k + 1))), (1, .int (ab_mask (ab_may tp L (ab_ks L)) k)), (0, .ref (g.2.2 b))] dX1_nextKeys_28 rfl (by decide) rfl ?_
          refine r_goto K 4 dX1_nextKeys_31 (by decide) ?_
          have e : ab_mask (ab_may tp L (ab_ks L)) (k + 1) = _ := if_neg hb_2
          have q := ih (k + 1) (by omega) (by omega)
          rw [e] at q
          exact q
  exact lp 9 0 (by omega) (by omega)
set_option maxHeartbeats 4000000 in
set_option maxRecDepth 100000 in
theorem c_worseThan (l : Launch) (g : rs_G) (t : Nat × Nat) (M : rs_M) (b : Nat) (hb : xL b) (tp : Int32) (L : ab_L) (hok : ab_ok L) (hL : x_ln M b tp L) (i : Nat) (h1 : 1 ≤ i) (h2 : i ≤ (ab_ks L).length) : rs_Ci l g xk t yX1_worseThan cX1_worseThan 6 .int 2 [.ref (g.2.2 b), .int (nI i)] M (fun r M1 => r = nI (ab_ahead (ab_ringcost tp L) i (ab_ks L).length) ∧ M1 = M) := by
  have hn := hok.1
  refine rs_ofi (plainFor_of_name (by decide)) (Nat.le_of_ble_eq_true rfl) ?_
  intro Y K hr
  show Y M 0 [(0, .ref (g.2.2 b)), (1, .int (nI i))] []
  refine r_iload_n K 1 dX1_worseThan_0 rfl rfl ?_
  refine r_iconst K (v := 1) dX1_worseThan_1 (by decide) ?_
  refine r_aload_n K 0 dX1_worseThan_2 rfl rfl ?_
  refine r_getI K (xL_0 hb) rfl ff_1_rings qw_69 dX1_worseThan_3 ?_
  refine r_top_eq (nI (ab_ks L).length) hL.1 ?_
  refine r_callNi K [.int (nI i), .int 1, .int (nI (ab_ks L).length)] [] dX1_worseThan_6 mf_X5_isWithin (by decide) qw_228 (c_isWithin l g xk t M (nI i) 1 (nI (ab_ks L).length)) rfl rfl (by decide) (Nat.le_of_ble_eq_true rfl) (fun r M1 hp => ?_)
  obtain ⟨hp, he⟩ := hp
  have he := he.symm
  subst he
  rcases hp with ⟨rfl, hb_1⟩ | ⟨rfl, hb_1⟩
  rotate_left
  · exact absurd (x_within (a := 1) (b := (ab_ks L).length) rfl h1 h2 (by omega)) hb_1
  refine r_if_ne K 14 dX1_worseThan_9 (by decide) (fun _ => ?_) (fun h => absurd h (by decide))
  refine r_aload_n K 0 dX1_worseThan_14 rfl rfl ?_
  refine r_aload_n K 0 dX1_worseThan_15 rfl rfl ?_
  refine r_getR K (xL_0 hb) rfl ff_1_spots qw_63 dX1_worseThan_16 ?_
  refine r_iload_n K 1 dX1_worseThan_19 rfl rfl ?_
  refine r_aaldS K (j := i) (xL_1 hb) rfl (xL_e (by omega)) (by omega) (by decide) dX1_worseThan_20 ?_
  refine r_callVi K [.ref (g.2.2 (b + 4 + i))] [] dX1_worseThan_21 mf_X1_cost (xL_0 hb) rfl qw_460 qw_381 qw_382 (c_Line_cost l g t M b hb tp L hok hL.2.2 (b + 4 + i) i (xL_s hb (by omega)) (by omega) (x_ln_c0 hL (by omega))) rfl rfl (by decide) (Nat.le_of_ble_eq_true rfl) (fun r M1 hp => ?_)
  obtain ⟨hp, he⟩ := hp
  have he := he.symm
  subst he
  subst hp
  refine r_top_eq (ab_ringcost tp L i) (x_ln_cost hL (by omega)) ?_
  refine r_istore_n K [(2, .int (ab_ringcost tp L i)), (0, .ref (g.2.2 b)), (1, .int (nI i))] dX1_worseThan_24 rfl (by decide) rfl ?_
  refine r_iconst K (v := 0) dX1_worseThan_25 (by decide) ?_
  refine r_istore_n K [(3, .int 0), (2, .int (ab_ringcost tp L i)), (0, .ref (g.2.2 b)), (1, .int (nI i))] dX1_worseThan_26 rfl (by decide) rfl ?_
  refine r_iconst K (v := 1) dX1_worseThan_27 (by decide) ?_
  refine r_istore K [(4, .int 1), (3, .int 0), (2, .int (ab_ringcost tp L i)), (0, .ref (g.2.2 b)), (1, .int (nI i))] dX1_worseThan_28 (by decide) rfl ?_
  have lp : ∀ (f : Nat) (j : Nat), (13 - j < f) → (j ≤ (ab_ks L).length) → Y M 30 [(4, .int (nI (j + 1))), (3, .int (nI (ab_ahead (ab_ringcost tp L) i j))), (2, .int (ab_ringcost tp L i)), (0, .ref (g.2.2 b)), (1, .int (nI i))] [] := by
    intro f
    induction f with
    | zero =>
      intro j hf
      exact absurd hf (Nat.not_lt_zero _)
    | succ f ih =>
      intro j hf hj
      refine r_iload K 0 dX1_worseThan_30 rfl ?_
      refine r_aload_n K 3 dX1_worseThan_32 rfl rfl ?_
      refine r_getI K (xL_0 hb) rfl ff_1_rings qw_69 dX1_worseThan_33 ?_
      refine r_top_eq (nI (ab_ks L).length) hL.1 ?_
      refine r_icmp_gt K 86 dX1_worseThan_36 (by decide) (fun h_2 => ?_) (fun h_2 => ?_)
      · have nh_2 : (ab_ks L).length < (j + 1) := (nf_lt rfl rfl (by omega) (by omega)).mp h_2
        refine r_iload_n K 1 dX1_worseThan_86 rfl rfl ?_
        have hjn : j = (ab_ks L).length := by omega
        subst hjn
        exact hr _ _ _ _ dX1_worseThan_87 ⟨rfl, rfl⟩
      · have nh_2 : ¬ (ab_ks L).length < (j + 1) := mt (nf_lt rfl rfl (by omega) (by omega)).mpr h_2
        refine r_iload K 0 dX1_worseThan_39 rfl ?_
        refine r_bipush K (v := 12) dX1_worseThan_41 (by decide) ?_
        refine r_icmp_gt K 86 dX1_worseThan_43 (by decide) (fun h_3 => ?_) (fun h_3 => ?_)
        · have nh_3 : 12 < (j + 1) := (nf_lt rfl rfl (by omega) (by omega)).mp h_3
          refine r_iload_n K 1 dX1_worseThan_86 rfl rfl ?_
          have hjn : j = (ab_ks L).length := by omega
          subst hjn
          exact hr _ _ _ _ dX1_worseThan_87 ⟨rfl, rfl⟩
        · have nh_3 : ¬ 12 < (j + 1) := mt (nf_lt rfl rfl (by omega) (by omega)).mpr h_3
          refine r_aload_n K 3 dX1_worseThan_46 rfl rfl ?_
          refine r_aload_n K 3 dX1_worseThan_47 rfl rfl ?_
          refine r_getR K (xL_0 hb) rfl ff_1_spots qw_63 dX1_worseThan_48 ?_
          refine r_iload K 0 dX1_worseThan_51 rfl ?_
          refine r_aaldS K (j := j + 1) (xL_1 hb) rfl (xL_e (by omega)) (by omega) (by decide) dX1_worseThan_53 ?_
          refine r_callVi K [.ref (g.2.2 (b + 4 + (j + 1)))] [] dX1_worseThan_54 mf_X1_cost (xL_0 hb) rfl qw_460 qw_381 qw_382 (c_Line_cost l g t M b hb tp L hok hL.2.2 (b + 4 + (j + 1)) (j + 1) (xL_s hb (by omega)) (by omega) (x_ln_c0 hL (by omega))) rfl rfl (by decide) (Nat.le_of_ble_eq_true rfl) (fun r M1 hp => ?_)
          obtain ⟨hp, he⟩ := hp
          have he := he.symm
          subst he
          subst hp
          refine r_top_eq (ab_ringcost tp L (j + 1)) (x_ln_cost hL (by omega)) ?_
          refine r_istore K [(5, .int (ab_ringcost tp L (j + 1))), (4, .int (nI (j + 1))), (3, .int (nI (ab_ahead (ab_ringcost tp L) i j))), (2, .int (ab_ringcost tp L i)), (0, .ref (g.2.2 b)), (1, .int (nI i))] dX1_worseThan_57 (by decide) rfl ?_
          refine r_iload K 0 dX1_worseThan_59 rfl ?_
          refine r_iload_n K 3 dX1_worseThan_61 rfl rfl ?_
          refine r_icmp_gt K 77 dX1_worseThan_62 (by decide) (fun h_4 => ?_) (fun h_4 => ?_)
          · refine r_iinc_n K 2 [(3, .int (nI (ab_ahead (ab_ringcost tp L) i j + 1))), (5, .int (ab_ringcost tp L (j + 1))), (4, .int (nI (j + 1))), (2, .int (ab_ringcost tp L i)), (0, .ref (g.2.2 b)), (1, .int (nI i))] dX1_worseThan_77 rfl (by decide) rfl ?_
            refine r_iinc_n K 2 [(4, .int (nI (j + 1 + 1))), (3, .int (nI (ab_ahead (ab_ringcost tp L) i j + 1))), (5, .int (ab_ringcost tp L (j + 1))), (2, .int (ab_ringcost tp L i)), (0, .ref (g.2.2 b)), (1, .int (nI i))] dX1_worseThan_80 rfl (by decide) rfl ?_
            refine r_goto K 30 dX1_worseThan_83 (by decide) ?_
            refine r_sub K [0, 1, 3, 4, 5] rfl ?_
            have e : ab_ahead (ab_ringcost tp L) i (j + 1) = ab_ahead (ab_ringcost tp L) i j + _ := congrArg (fun z => ab_ahead (ab_ringcost tp L) i j + z) (if_pos (Or.inl h_4))
            have q := ih (j + 1) (by omega) (by omega)
            rw [e] at q
            exact q
          · refine r_iload K 0 dX1_worseThan_65 rfl ?_
            refine r_iload_n K 3 dX1_worseThan_67 rfl rfl ?_
            refine r_icmp_ne K 80 dX1_worseThan_68 (by decide) (fun h_5 => ?_) (fun h_5 => ?_)
            · refine r_iinc_n K 1 [(4, .int (nI (j + 1 + 1))), (5, .int (ab_ringcost tp L (j + 1))), (3, .int (nI (ab_ahead (ab_ringcost tp L) i j))), (2, .int (ab_ringcost tp L i)), (0, .ref (g.2.2 b)), (1, .int (nI i))] dX1_worseThan_80 rfl (by decide) rfl ?_
              refine r_goto K 30 dX1_worseThan_83 (by decide) ?_
              refine r_sub K [0, 2, 3, 4, 5] rfl ?_
              have e : ab_ahead (ab_ringcost tp L) i (j + 1) = ab_ahead (ab_ringcost tp L) i j + _ := congrArg (fun z => ab_ahead (ab_ringcost tp L) i j + z) (if_neg (fun q => q.elim (fun q => h_4 q) (fun q => h_5 q.1)))
              have q := ih (j + 1) (by omega) (by omega)
              rw [e] at q
              exact q
            · refine r_iload K 1 dX1_worseThan_71 rfl ?_
              refine r_iload_n K 5 dX1_worseThan_73 rfl rfl ?_
              refine r_icmp_ge K 80 dX1_worseThan_74 (by decide) (fun h_6 => ?_) (fun h_6 => ?_)
              · have nh_6 : i ≤ (j + 1) := (nf_le rfl rfl (by omega) (by omega)).mp h_6
                refine r_iinc_n K 1 [(4, .int (nI (j + 1 + 1))), (5, .int (ab_ringcost tp L (j + 1))), (3, .int (nI (ab_ahead (ab_ringcost tp L) i j))), (2, .int (ab_ringcost tp L i)), (0, .ref (g.2.2 b)), (1, .int (nI i))] dX1_worseThan_80 rfl (by decide) rfl ?_
                refine r_goto K 30 dX1_worseThan_83 (by decide) ?_
                refine r_sub K [0, 2, 3, 4, 5] rfl ?_
                have e : ab_ahead (ab_ringcost tp L) i (j + 1) = ab_ahead (ab_ringcost tp L) i j + _ := congrArg (fun z => ab_ahead (ab_ringcost tp L) i j + z) (if_neg (fun q => q.elim (fun q => h_4 q) (fun q => by omega)))
                have q := ih (j + 1) (by omega) (by omega)
                rw [e] at q
                exact q
              · have nh_6 : ¬ i ≤ (j + 1) := mt (nf_le rfl rfl (by omega) (by omega)).mpr h_6
                refine r_iinc_n K 2 [(3, .int (nI (ab_ahead (ab_ringcost tp L) i j + 1))), (5, .int (ab_ringcost tp L (j + 1))), (4, .int (nI (j + 1))), (2, .int (ab_ringcost tp L i)), (0, .ref (g.2.2 b)), (1, .int (nI i))] dX1_worseThan_77 rfl (by decide) rfl ?_
                refine r_iinc_n K 2 [(4, .int (nI (j + 1 + 1))), (3, .int (nI (ab_ahead (ab_ringcost tp L) i j + 1))), (5, .int (ab_ringcost tp L (j + 1))), (2, .int (ab_ringcost tp L i)), (0, .ref (g.2.2 b)), (1, .int (nI i))] dX1_worseThan_80 rfl (by decide) rfl ?_
                refine r_goto K 30 dX1_worseThan_83 (by decide) ?_
                refine r_sub K [0, 1, 3, 4, 5] rfl ?_
                have e : ab_ahead (ab_ringcost tp L) i (j + 1) = ab_ahead (ab_ringcost tp L) i j + _ := congrArg (fun z => ab_ahead (ab_ringcost tp L) i j + z) (if_pos (Or.inr ⟨h_5, by omega⟩))
                have q := ih (j + 1) (by omega) (by omega)
                rw [e] at q
                exact q
  exact lp 14 0 (by omega) (by omega)
