/-! deeds: kind, which, first, second; the oldest first -/
abbrev ab_D : Type := Nat × Nat × Int32 × Int32
def x_dd (M : rs_M) (ds : List ab_D) : Prop := M 40 4 = nI ds.length ∧ ∀ i d, ds[i]? = some d → M 41 i = nI d.1 ∧ M 42 i = nI d.2.1 ∧ M 43 i = d.2.2.1 ∧ M 44 i = d.2.2.2
theorem x_dd_fr {M M1 : rs_M} {ds : List ab_D} (h : x_dd M ds) (e : ∀ c, 40 ≤ c → c < 45 → M1 c = M c) : x_dd M1 ds := ⟨by rw [e 40 (by decide) (by decide)]; exact h.1, fun i d hi => by rw [e 41 (by decide) (by decide), e 42 (by decide) (by decide), e 43 (by decide) (by decide), e 44 (by decide) (by decide)]; exact h.2 i d hi⟩
def x_lo (M : rs_M) (q : Nat) : rs_M := fun c j => if 41 ≤ c ∧ c ≤ 44 ∧ j < q then M c (j + 1) else M c j
theorem x_lo_0 (M : rs_M) : x_lo M 0 = M := by funext c j; simp [x_lo]
theorem x_lo_s (M : rs_M) (q : Nat) : rs_st (rs_st (rs_st (rs_st (x_lo M q) 41 q (M 41 (q + 1))) 42 q (M 42 (q + 1))) 43 q (M 43 (q + 1))) 44 q (M 44 (q + 1)) = x_lo M (q + 1) := by
  funext c j
  have hq : j ≠ q → (j < q + 1 ↔ j < q) := fun h => by omega
  by_cases h : 41 ≤ c ∧ c ≤ 44
  · rcases (show c = 41 ∨ c = 42 ∨ c = 43 ∨ c = 44 by omega) with rfl | rfl | rfl | rfl <;> by_cases hj : j = q
    all_goals first | (subst hj; simp [rs_st, x_lo]; done) | (simp [rs_st, x_lo, hj, hq hj]; done)
  · have c1 : c ≠ 41 := by omega
    have c2 : c ≠ 42 := by omega
    have c3 : c ≠ 43 := by omega
    have c4 : c ≠ 44 := by omega
    have k1 : ¬ (41 ≤ c ∧ c ≤ 44 ∧ j < q) := fun z => h ⟨z.1, z.2.1⟩
    have k2 : ¬ (41 ≤ c ∧ c ≤ 44 ∧ j < q + 1) := fun z => h ⟨z.1, z.2.1⟩
    simp only [rs_st, x_lo, if_neg k1, if_neg k2, c1, c2, c3, c4, false_and, if_false]
theorem x_lo_dd {M : rs_M} {ds : List ab_D} (h : x_dd M ds) (h12 : ds.length = 12) : x_dd (rs_st (x_lo M 11) 40 4 11) ds.tail := by
  refine ⟨?_, fun i d hi => ?_⟩
  · rw [rs_st_eq, List.length_tail, h12]; rfl
  · have hi2 : ds[i + 1]? = some d := by rw [List.getElem?_tail] at hi; exact hi
    have hlt : i + 1 < 12 := by rw [← h12]; exact (List.getElem?_eq_some_iff.mp hi2).1
    rw [rs_st_ne _ _ _ (by decide), rs_st_ne _ _ _ (by decide), rs_st_ne _ _ _ (by decide), rs_st_ne _ _ _ (by decide)]
    simp only [x_lo]
    rw [if_pos (by omega), if_pos (by omega), if_pos (by omega), if_pos (by omega)]
    exact h.2 _ _ hi2
theorem x_lo_fr (M : rs_M) (q : Nat) : x_fr M (x_lo M q) 40 45 := fun c hc => by
  funext j
  simp only [x_lo]
  rw [if_neg (by omega)]
theorem x_dd_push {M : rs_M} {ds : List ab_D} (h : x_dd M ds) (d : ab_D) : x_dd (rs_st (rs_st (rs_st (rs_st (rs_st M 41 ds.length (nI d.1)) 42 ds.length (nI d.2.1)) 43 ds.length d.2.2.1) 44 ds.length d.2.2.2) 40 4 (nI (ds.length + 1))) (ds ++ [d]) := by
  refine ⟨by rw [rs_st_eq]; simp, fun i e hi => ?_⟩
  rcases Nat.lt_or_ge i ds.length with q | q
  · rw [List.getElem?_append_left q] at hi
    obtain ⟨a1, a2, a3, a4⟩ := h.2 i e hi
    have hne : i ≠ ds.length := by omega
    simp [rs_st, hne, a1, a2, a3, a4]
  · rw [List.getElem?_append_right q] at hi
    have hz : i - ds.length = 0 := by
      have := (List.getElem?_eq_some_iff.mp hi).1
      simp at this
      omega
    have hi0 : i = ds.length := by omega
    subst hi0
    simp at hi
    subst hi
    simp [rs_st]
def ab_push (ds : List ab_D) (d : ab_D) : List ab_D := (if ds.length < 12 then ds else ds.tail) ++ [d]
/-- what taking back a deed does -/
def ab_undo (d : ab_D) (L : ab_L) : ab_L := match d.1 with
  | 0 => ab_drop L
  | 1 => ab_setwish L d.2.1 d.2.2.1 d.2.2.2
  | _ => ab_setrule L d.2.1 d.2.2.1.toNatClampNeg
theorem ab_undo_0 {d : ab_D} {L : ab_L} (h : d.1 = 0) : ab_undo d L = ab_drop L := by simp only [ab_undo, h]
theorem ab_undo_1 {d : ab_D} {L : ab_L} (h : d.1 = 1) : ab_undo d L = ab_setwish L d.2.1 d.2.2.1 d.2.2.2 := by simp only [ab_undo, h]
theorem ab_undo_2 {d : ab_D} {L : ab_L} (h : d.1 = 2) : ab_undo d L = ab_setrule L d.2.1 d.2.2.1.toNatClampNeg := by simp only [ab_undo, h]
/-- a deed that can be taken back from a line -/
def ab_dok (d : ab_D) (L : ab_L) : Prop := (d.1 = 0 ∧ 0 < (ab_ks L).length) ∨ (d.1 = 1 ∧ 1 ≤ d.2.1 ∧ d.2.1 ≤ 17) ∨ (d.1 = 2 ∧ d.2.1 ≤ 2 ∧ ∃ v, v < 2 ^ 31 ∧ d.2.2.1 = nI v)
set_option maxHeartbeats 4000000 in
set_option maxRecDepth 100000 in
theorem c_loseOldest (l : Launch) (g : rs_G) (t : Nat × Nat) (M : rs_M) (ds : List ab_D) (hd : x_dd M ds) (h12 : ds.length = 12) : rs_Cv l g xk t yX0_loseOldest cX0_loseOldest 2 0 [.ref (g.2.2 40)] M (fun M1 => x_dd M1 ds.tail ∧ x_fr M M1 40 45) := by
  refine rs_ofv (plainFor_of_name (by decide)) (Nat.le_of_ble_eq_true rfl) ?_
  intro Y K hr
  show Y M 0 [(0, .ref (g.2.2 40))] []
  refine r_iconst K (v := 1) dX0_loseOldest_0 (by decide) ?_
  refine r_istore_n K [(1, .int 1), (0, .ref (g.2.2 40))] dX0_loseOldest_1 rfl (by decide) rfl ?_
  have lp : ∀ (f : Nat) (q : Nat), (11 - q < f) → (q ≤ 11) → Y (x_lo M q) 2 [(1, .int (nI (q + 1))), (0, .ref (g.2.2 40))] [] := by
    intro f
    induction f with
    | zero =>
      intro q hf
      exact absurd hf (Nat.not_lt_zero _)
    | succ f ih =>
      intro q hf hq
      refine r_iload_n K 0 dX0_loseOldest_2 rfl rfl ?_
      refine r_bipush K (v := 12) dX0_loseOldest_3 (by decide) ?_
      refine r_icmp_ge K 70 dX0_loseOldest_5 (by decide) (fun h_1 => ?_) (fun h_1 => ?_)
      · have nh_1 : 12 ≤ (q + 1) := (nf_le rfl rfl (by omega) (by omega)).mp h_1
        refine r_aload_n K 1 dX0_loseOldest_70 rfl rfl ?_
        refine r_bipush K (v := 11) dX0_loseOldest_71 (by decide) ?_
        refine r_put K rfl rfl ff_0_size qw_146 rfl rfl dX0_loseOldest_73 ?_
        have hq11 : q = 11 := by omega
        subst hq11
        exact hr _ _ _ dX0_loseOldest_76 ⟨x_lo_dd hd h12, x_fr_tr (x_lo_fr M 11) (x_fr_st (by decide) (by decide))⟩
      · have nh_1 : ¬ 12 ≤ (q + 1) := mt (nf_le rfl rfl (by omega) (by omega)).mpr h_1
        refine r_aload_n K 1 dX0_loseOldest_8 rfl rfl ?_
        refine r_getR K rfl rfl ff_0_kinds qw_142 dX0_loseOldest_9 ?_
        refine r_iload_n K 0 dX0_loseOldest_12 rfl rfl ?_
        refine r_iconst K (v := 1) dX0_loseOldest_13 (by decide) ?_
        refine r_isub K dX0_loseOldest_14 ?_
        refine r_aload_n K 1 dX0_loseOldest_15 rfl rfl ?_
        refine r_getR K rfl rfl ff_0_kinds qw_142 dX0_loseOldest_16 ?_
        refine r_iload_n K 0 dX0_loseOldest_19 rfl rfl ?_
        refine r_iald K (j := q + 1) rfl rfl (by omega) (by decide) dX0_loseOldest_20 ?_
        refine r_top_eq (M 41 (q + 1)) (by simp [rs_st, x_lo]; intro h; exact absurd h (by omega)) ?_
        refine r_iast K (j := q) rfl (nI_pred q) (by omega) (by decide) dX0_loseOldest_21 ?_
        refine r_aload_n K 1 dX0_loseOldest_22 rfl rfl ?_
        refine r_getR K rfl rfl ff_0_which qw_143 dX0_loseOldest_23 ?_
        refine r_iload_n K 0 dX0_loseOldest_26 rfl rfl ?_
        refine r_iconst K (v := 1) dX0_loseOldest_27 (by decide) ?_
        refine r_isub K dX0_loseOldest_28 ?_
        refine r_aload_n K 1 dX0_loseOldest_29 rfl rfl ?_
        refine r_getR K rfl rfl ff_0_which qw_143 dX0_loseOldest_30 ?_
        refine r_iload_n K 0 dX0_loseOldest_33 rfl rfl ?_
        refine r_iald K (j := q + 1) rfl rfl (by omega) (by decide) dX0_loseOldest_34 ?_
        refine r_top_eq (M 42 (q + 1)) (by simp [rs_st, x_lo]; intro h; exact absurd h (by omega)) ?_
        refine r_iast K (j := q) rfl (nI_pred q) (by omega) (by decide) dX0_loseOldest_35 ?_
        refine r_aload_n K 1 dX0_loseOldest_36 rfl rfl ?_
        refine r_getR K rfl rfl ff_0_wasFirst qw_144 dX0_loseOldest_37 ?_
        refine r_iload_n K 0 dX0_loseOldest_40 rfl rfl ?_
        refine r_iconst K (v := 1) dX0_loseOldest_41 (by decide) ?_
        refine r_isub K dX0_loseOldest_42 ?_
        refine r_aload_n K 1 dX0_loseOldest_43 rfl rfl ?_
        refine r_getR K rfl rfl ff_0_wasFirst qw_144 dX0_loseOldest_44 ?_
        refine r_iload_n K 0 dX0_loseOldest_47 rfl rfl ?_
        refine r_iald K (j := q + 1) rfl rfl (by omega) (by decide) dX0_loseOldest_48 ?_
        refine r_top_eq (M 43 (q + 1)) (by simp [rs_st, x_lo]; intro h; exact absurd h (by omega)) ?_
        refine r_iast K (j := q) rfl (nI_pred q) (by omega) (by decide) dX0_loseOldest_49 ?_
        refine r_aload_n K 1 dX0_loseOldest_50 rfl rfl ?_
        refine r_getR K rfl rfl ff_0_wasSecond qw_145 dX0_loseOldest_51 ?_
        refine r_iload_n K 0 dX0_loseOldest_54 rfl rfl ?_
        refine r_iconst K (v := 1) dX0_loseOldest_55 (by decide) ?_
        refine r_isub K dX0_loseOldest_56 ?_
        refine r_aload_n K 1 dX0_loseOldest_57 rfl rfl ?_
        refine r_getR K rfl rfl ff_0_wasSecond qw_145 dX0_loseOldest_58 ?_
        refine r_iload_n K 0 dX0_loseOldest_61 rfl rfl ?_
        refine r_iald K (j := q + 1) rfl rfl (by omega) (by decide) dX0_loseOldest_62 ?_
        refine r_top_eq (M 44 (q + 1)) (by simp [rs_st, x_lo]; intro h; exact absurd h (by omega)) ?_
        refine r_iast K (j := q) rfl (nI_pred q) (by omega) (by decide) dX0_loseOldest_63 ?_
        refine r_iinc_n K 0 [(1, .int (nI (q + 1 + 1))), (0, .ref (g.2.2 40))] dX0_loseOldest_64 rfl (by decide) rfl ?_
        refine r_goto K 2 dX0_loseOldest_67 (by decide) ?_
        have e := ih (q + 1) (by omega) (by omega)
        rw [← x_lo_s] at e
        exact e
  have e := lp 12 0 (by omega) (by omega)
  rw [x_lo_0] at e
  exact e
set_option maxHeartbeats 4000000 in
set_option maxRecDepth 100000 in
theorem c_Deeds_add (l : Launch) (g : rs_G) (t : Nat × Nat) (M : rs_M) (ds : List ab_D) (hd : x_dd M ds) (h12 : ds.length ≤ 12) (d : ab_D) : rs_Cv l g xk t yX0_add cX0_add 5 1 [.ref (g.2.2 40), .int (nI d.1), .int (nI d.2.1), .int d.2.2.1, .int d.2.2.2] M (fun M1 => x_dd M1 (ab_push ds d) ∧ x_fr M M1 40 45) := by
  refine rs_ofv (plainFor_of_name (by decide)) (Nat.le_of_ble_eq_true rfl) ?_
  intro Y K hr
  show Y M 0 [(0, .ref (g.2.2 40)), (1, .int (nI d.1)), (2, .int (nI d.2.1)), (3, .int d.2.2.1), (4, .int d.2.2.2)] []
  have jn : ∀ (Mi : rs_M) (es : List ab_D), (es.length < 12) → (x_dd Mi es) → (x_fr M Mi 40 45) → ((if ds.length < 12 then ds else ds.tail) = es) → Y Mi 13 [(0, .ref (g.2.2 40)), (1, .int (nI d.1)), (2, .int (nI d.2.1)), (3, .int d.2.2.1), (4, .int d.2.2.2)] [] := by
    intro Mi es hes he hfr hps
    refine r_aload_n K 0 dX0_add_13 rfl rfl ?_
    refine r_getR K rfl rfl ff_0_kinds qw_142 dX0_add_14 ?_
    refine r_aload_n K 0 dX0_add_17 rfl rfl ?_
    refine r_getI K rfl rfl ff_0_size qw_146 dX0_add_18 ?_
    refine r_top_eq (nI es.length) (by first | exact he.1 | (simp [rs_st]; exact he.1)) ?_
    refine r_iload_n K 1 dX0_add_21 rfl rfl ?_
    refine r_iast K (j := es.length) rfl rfl (by omega) (by decide) dX0_add_22 ?_
    refine r_aload_n K 0 dX0_add_23 rfl rfl ?_
    refine r_getR K rfl rfl ff_0_which qw_143 dX0_add_24 ?_
    refine r_aload_n K 0 dX0_add_27 rfl rfl ?_
    refine r_getI K rfl rfl ff_0_size qw_146 dX0_add_28 ?_
    refine r_top_eq (nI es.length) (by first | exact he.1 | (simp [rs_st]; exact he.1)) ?_
    refine r_iload_n K 2 dX0_add_31 rfl rfl ?_
    refine r_iast K (j := es.length) rfl rfl (by omega) (by decide) dX0_add_32 ?_
    refine r_aload_n K 0 dX0_add_33 rfl rfl ?_
    refine r_getR K rfl rfl ff_0_wasFirst qw_144 dX0_add_34 ?_
    refine r_aload_n K 0 dX0_add_37 rfl rfl ?_
    refine r_getI K rfl rfl ff_0_size qw_146 dX0_add_38 ?_
    refine r_top_eq (nI es.length) (by first | exact he.1 | (simp [rs_st]; exact he.1)) ?_
    refine r_iload_n K 3 dX0_add_41 rfl rfl ?_
    refine r_iast K (j := es.length) rfl rfl (by omega) (by decide) dX0_add_42 ?_
    refine r_aload_n K 0 dX0_add_43 rfl rfl ?_
    refine r_getR K rfl rfl ff_0_wasSecond qw_145 dX0_add_44 ?_
    refine r_aload_n K 0 dX0_add_47 rfl rfl ?_
    refine r_getI K rfl rfl ff_0_size qw_146 dX0_add_48 ?_
    refine r_top_eq (nI es.length) (by first | exact he.1 | (simp [rs_st]; exact he.1)) ?_
    refine r_iload K 4 dX0_add_51 rfl ?_
    refine r_iast K (j := es.length) rfl rfl (by omega) (by decide) dX0_add_53 ?_
    refine r_aload_n K 0 dX0_add_54 rfl rfl ?_
    refine r_dup K dX0_add_55 rfl ?_
    refine r_getI K rfl rfl ff_0_size qw_146 dX0_add_56 ?_
    refine r_top_eq (nI es.length) (by first | exact he.1 | (simp [rs_st]; exact he.1)) ?_
    refine r_iconst K (v := 1) dX0_add_59 (by decide) ?_
    refine r_iadd K dX0_add_60 ?_
    refine r_top_eq (nI (es.length + 1)) (nI_1 _) ?_
    refine r_put K rfl rfl ff_0_size qw_146 rfl rfl dX0_add_61 ?_
    refine hr _ _ _ dX0_add_64 ⟨?_, x_fr_tr (x_fr_tr (x_fr_tr (x_fr_tr (x_fr_tr hfr (x_fr_st (by decide) (by decide))) (x_fr_st (by decide) (by decide))) (x_fr_st (by decide) (by decide))) (x_fr_st (by decide) (by decide))) (x_fr_st (by decide) (by decide))⟩
    rw [ab_push, hps]
    exact x_dd_push he d
  refine r_aload_n K 0 dX0_add_0 rfl rfl ?_
  refine r_getI K rfl rfl ff_0_size qw_146 dX0_add_1 ?_
  refine r_top_eq (nI ds.length) hd.1 ?_
  refine r_bipush K (v := 12) dX0_add_4 (by decide) ?_
  refine r_icmp_lt K 13 dX0_add_6 (by decide) (fun h_1 => ?_) (fun h_1 => ?_)
  · have nh_1 : ds.length < 12 := (nf_lt rfl rfl (by omega) (by omega)).mp h_1
    exact jn M ds (by omega) hd (x_fr_rf _ _ _) (if_pos (by omega))
  · have nh_1 : ¬ ds.length < 12 := mt (nf_lt rfl rfl (by omega) (by omega)).mpr h_1
    refine r_aload_n K 0 dX0_add_9 rfl rfl ?_
    have hlen : ds.length = 12 := by omega
    refine r_callVv K [] [] dX0_add_10 mf_X0_loseOldest rfl rfl qw_375 qw_377 qs_13 (c_loseOldest l g t M ds hd hlen) rfl rfl (by decide) (Nat.le_of_ble_eq_true rfl) (fun M1 hp => ?_)
    obtain ⟨hp1, hp2⟩ := hp
    exact jn M1 ds.tail (by rw [List.length_tail]; omega) hp1 hp2 (if_neg (by omega))
set_option maxHeartbeats 4000000 in
set_option maxRecDepth 100000 in
theorem c_takeBack (l : Launch) (g : rs_G) (t : Nat × Nat) (M : rs_M) (hb : xL 1) (tp : Int32) (L : ab_L) (hL : x_ln M 1 tp L) (hn : (ab_ks L).length ≤ 12) (ds : List ab_D) (d : ab_D) (hd : x_dd M (ds ++ [d])) (h12 : ds.length < 12) (hk : ab_dok d L) : rs_Cv l g xk t yX0_takeBack cX0_takeBack 2 2 [.ref (g.2.2 40), .ref (g.2.2 1)] M (fun M1 => x_dd M1 ds ∧ x_ln M1 1 tp (ab_undo d L) ∧ ∀ c, ¬ (1 ≤ c ∧ c < 18) → ¬ (40 ≤ c ∧ c < 45) → M1 c = M c) := by
  have hdl := hd.2 ds.length d (by simp)
  have hd1 : M 40 4 = nI (ds.length + 1) := by rw [hd.1]; simp
  have hd2 : d.1 ≤ 2 := by rcases hk with h | h | h <;> omega
  have hdd : x_dd (rs_st M 40 4 (nI ds.length)) ds := ⟨by rw [rs_st_eq], fun i e hi => by rw [rs_st_ne _ _ _ (by decide), rs_st_ne _ _ _ (by decide), rs_st_ne _ _ _ (by decide), rs_st_ne _ _ _ (by decide)]; exact hd.2 i e (by rw [List.getElem?_append_left (List.getElem?_eq_some_iff.mp hi).1]; exact hi)⟩
  have hL2 : x_ln (rs_st M 40 4 (nI ds.length)) 1 tp L := x_ln_fr hn hL (x_fr_st (lo := 40) (hi := 45) (by decide) (by decide)) (by omega)
  refine rs_ofv (plainFor_of_name (by decide)) (Nat.le_of_ble_eq_true rfl) ?_
  intro Y K hr
  show Y M 0 [(0, .ref (g.2.2 40)), (1, .ref (g.2.2 1))] []
  refine r_aload_n K 0 dX0_takeBack_0 rfl rfl ?_
  refine r_getI K rfl rfl ff_0_size qw_146 dX0_takeBack_1 ?_
  refine r_top_eq (nI (ds.length + 1)) hd1 ?_
  refine r_iconst K (v := 1) dX0_takeBack_4 (by decide) ?_
  refine r_bipush K (v := 12) dX0_takeBack_5 (by decide) ?_
  refine r_callNi K [.int (nI (ds.length + 1)), .int 1, .int 12] [] dX0_takeBack_7 mf_X5_isWithin (by decide) qw_228 (c_isWithin l g xk t M (nI (ds.length + 1)) 1 12) rfl rfl (by decide) (Nat.le_of_ble_eq_true rfl) (fun r M1 hp => ?_)
  obtain ⟨hp, he⟩ := hp
  have he := he.symm
  subst he
  rcases hp with ⟨rfl, hb_1⟩ | ⟨rfl, hb_1⟩
  rotate_left
  · exact absurd (x_within (a := 1) (b := 12) rfl (by omega) (by omega) (by decide)) hb_1
  refine r_if_ne K 14 dX0_takeBack_10 (by decide) (fun _ => ?_) (fun h => absurd h (by decide))
  refine r_aload_n K 0 dX0_takeBack_14 rfl rfl ?_
  refine r_dup K dX0_takeBack_15 rfl ?_
  refine r_getI K rfl rfl ff_0_size qw_146 dX0_takeBack_16 ?_
  refine r_top_eq (nI (ds.length + 1)) hd1 ?_
  refine r_iconst K (v := 1) dX0_takeBack_19 (by decide) ?_
  refine r_isub K dX0_takeBack_20 ?_
  refine r_top_eq (nI ds.length) (nI_pred _) ?_
  refine r_put K rfl rfl ff_0_size qw_146 rfl rfl dX0_takeBack_21 ?_
  refine r_aload_n K 0 dX0_takeBack_24 rfl rfl ?_
  refine r_getR K rfl rfl ff_0_kinds qw_142 dX0_takeBack_25 ?_
  refine r_aload_n K 0 dX0_takeBack_28 rfl rfl ?_
  refine r_getI K rfl rfl ff_0_size qw_146 dX0_takeBack_29 ?_
  refine r_top_eq (nI ds.length) (by simp [rs_st]) ?_
  refine r_iald K (j := ds.length) rfl rfl (by omega) (by decide) dX0_takeBack_32 ?_
  refine r_top_eq (nI d.1) (by rw [rs_st_ne _ _ _ (by decide)]; exact hdl.1) ?_
  refine r_lookup K [(0, 60), (1, 67)] 101 dX0_takeBack_33 (by decide) (by decide) (by decide) ?_
  simp only [rs_swp]
  refine ⟨fun h_2_0 => ?_, fun h_2_0 => ⟨fun h_2_1 => ?_, fun h_2_1 => ?_⟩⟩
  · refine r_aload_n K 1 dX0_takeBack_60 rfl rfl ?_
    have hd0 : d.1 = 0 := (nf_eq rfl rfl (by omega) (by decide)).mp h_2_0
    refine r_callVv K [] [] dX0_takeBack_61 mf_X1_dropLast (xL_0 hb) rfl qw_437 qw_438 qw_439 (c_dropLast l g t (rs_st M 40 4 (nI ds.length)) 1 hb tp L hL2 (by rcases hk with h | h | h <;> omega) hn) rfl rfl (by decide) (Nat.le_of_ble_eq_true rfl) (fun M1 hp => ?_)
    obtain ⟨hp1, hp2⟩ := hp
    refine r_goto K 123 dX0_takeBack_64 (by decide) ?_
    refine hr _ _ _ dX0_takeBack_123 ⟨?_, ?_, ?_⟩
    · exact x_dd_fr hdd (fun c h1 h2 => hp2 c (by omega))
    · first | (rw [ab_undo_0 hd0]; exact hp1) | (rw [ab_undo_1 hd0]; exact hp1) | (rw [ab_undo_2 hd0]; exact hp1)
    · intro c h1 h2
      rw [hp2 c (by omega), rs_st_ne _ _ _ (by omega)]
  · refine r_aload_n K 1 dX0_takeBack_67 rfl rfl ?_
    refine r_aload_n K 0 dX0_takeBack_68 rfl rfl ?_
    refine r_getR K rfl rfl ff_0_which qw_143 dX0_takeBack_69 ?_
    refine r_aload_n K 0 dX0_takeBack_72 rfl rfl ?_
    refine r_getI K rfl rfl ff_0_size qw_146 dX0_takeBack_73 ?_
    refine r_top_eq (nI ds.length) (by simp [rs_st]) ?_
    refine r_iald K (j := ds.length) rfl rfl (by omega) (by decide) dX0_takeBack_76 ?_
    refine r_top_eq (nI d.2.1) (by rw [rs_st_ne _ _ _ (by decide)]; exact hdl.2.1) ?_
    refine r_aload_n K 0 dX0_takeBack_77 rfl rfl ?_
    refine r_getR K rfl rfl ff_0_wasFirst qw_144 dX0_takeBack_78 ?_
    refine r_aload_n K 0 dX0_takeBack_81 rfl rfl ?_
    refine r_getI K rfl rfl ff_0_size qw_146 dX0_takeBack_82 ?_
    refine r_top_eq (nI ds.length) (by simp [rs_st]) ?_
    refine r_iald K (j := ds.length) rfl rfl (by omega) (by decide) dX0_takeBack_85 ?_
    refine r_top_eq d.2.2.1 (by rw [rs_st_ne _ _ _ (by decide)]; exact hdl.2.2.1) ?_
    refine r_aload_n K 0 dX0_takeBack_86 rfl rfl ?_
    refine r_getR K rfl rfl ff_0_wasSecond qw_145 dX0_takeBack_87 ?_
    refine r_aload_n K 0 dX0_takeBack_90 rfl rfl ?_
    refine r_getI K rfl rfl ff_0_size qw_146 dX0_takeBack_91 ?_
    refine r_top_eq (nI ds.length) (by simp [rs_st]) ?_
    refine r_iald K (j := ds.length) rfl rfl (by omega) (by decide) dX0_takeBack_94 ?_
    refine r_top_eq d.2.2.2 (by rw [rs_st_ne _ _ _ (by decide)]; exact hdl.2.2.2) ?_
    have hd0 : d.1 = 1 := (nf_eq rfl rfl (by omega) (by decide)).mp h_2_1
    refine r_callVv K [.int (nI d.2.1), .int d.2.2.1, .int d.2.2.2] [] dX0_takeBack_95 mf_X1_setWish (xL_0 hb) rfl qw_441 qw_294 qw_295 (c_setWish l g t (rs_st M 40 4 (nI ds.length)) 1 hb tp L hL2 d.2.1 (by rcases hk with h | h | h <;> omega) (by rcases hk with h | h | h <;> omega) d.2.2.1 d.2.2.2) rfl rfl (by decide) (Nat.le_of_ble_eq_true rfl) (fun M1 hp => ?_)
    obtain ⟨hp1, hp2⟩ := hp
    refine r_goto K 123 dX0_takeBack_98 (by decide) ?_
    refine hr _ _ _ dX0_takeBack_123 ⟨?_, ?_, ?_⟩
    · exact x_dd_fr hdd (fun c h1 h2 => hp2 c (by omega))
    · first | (rw [ab_undo_0 hd0]; exact hp1) | (rw [ab_undo_1 hd0]; exact hp1) | (rw [ab_undo_2 hd0]; exact hp1)
    · intro c h1 h2
      rw [hp2 c (by omega), rs_st_ne _ _ _ (by omega)]
  · refine r_aload_n K 1 dX0_takeBack_101 rfl rfl ?_
    refine r_aload_n K 0 dX0_takeBack_102 rfl rfl ?_
    refine r_getR K rfl rfl ff_0_which qw_143 dX0_takeBack_103 ?_
    refine r_aload_n K 0 dX0_takeBack_106 rfl rfl ?_
    refine r_getI K rfl rfl ff_0_size qw_146 dX0_takeBack_107 ?_
    refine r_top_eq (nI ds.length) (by simp [rs_st]) ?_
    refine r_iald K (j := ds.length) rfl rfl (by omega) (by decide) dX0_takeBack_110 ?_
    refine r_top_eq (nI d.2.1) (by rw [rs_st_ne _ _ _ (by decide)]; exact hdl.2.1) ?_
    refine r_aload_n K 0 dX0_takeBack_111 rfl rfl ?_
    refine r_getR K rfl rfl ff_0_wasFirst qw_144 dX0_takeBack_112 ?_
    refine r_aload_n K 0 dX0_takeBack_115 rfl rfl ?_
    refine r_getI K rfl rfl ff_0_size qw_146 dX0_takeBack_116 ?_
    refine r_top_eq (nI ds.length) (by simp [rs_st]) ?_
    refine r_iald K (j := ds.length) rfl rfl (by omega) (by decide) dX0_takeBack_119 ?_
    refine r_top_eq d.2.2.1 (by rw [rs_st_ne _ _ _ (by decide)]; exact hdl.2.2.1) ?_
    have hd0 : ¬ d.1 = 0 := mt (nf_eq rfl rfl (by omega) (by decide)).mpr h_2_0
    have hd1b : ¬ d.1 = 1 := mt (nf_eq rfl rfl (by omega) (by decide)).mpr h_2_1
    have hd0 : d.1 = 2 := by omega
    have hk3 : d.2.1 ≤ 2 ∧ ∃ v, v < 2 ^ 31 ∧ d.2.2.1 = nI v := hk.elim (fun h => absurd h.1 (by omega)) (fun h => h.elim (fun h => absurd h.1 (by omega)) (fun h => h.2))
    obtain ⟨v, hv1, hv2⟩ := id hk3.2
    refine r_top_eq (nI d.2.2.1.toNatClampNeg) (by rw [hv2, nI_clamp hv1]) ?_
    refine r_callVv K [.int (nI d.2.1), .int (nI d.2.2.1.toNatClampNeg)] [] dX0_takeBack_120 mf_X1_setRule (xL_0 hb) rfl qw_442 qw_282 qw_283 (c_setRule l g t (rs_st M 40 4 (nI ds.length)) 1 hb tp L hL2 d.2.1 hk3.1 d.2.2.1.toNatClampNeg) rfl rfl (by decide) (Nat.le_of_ble_eq_true rfl) (fun M1 hp => ?_)
    obtain ⟨hp1, hp2⟩ := hp
    refine hr _ _ _ dX0_takeBack_123 ⟨?_, ?_, ?_⟩
    · exact x_dd_fr hdd (fun c h1 h2 => hp2 c (by omega))
    · first | (rw [ab_undo_0 hd0]; exact hp1) | (rw [ab_undo_1 hd0]; exact hp1) | (rw [ab_undo_2 hd0]; exact hp1)
    · intro c h1 h2
      rw [hp2 c (by omega), rs_st_ne _ _ _ (by omega)]
