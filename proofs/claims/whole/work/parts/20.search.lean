theorem ab_lt_of {x y : Int32} (h : x ≤ y) (hn : ¬ x = y) : x < y := by
  rw [Int32.lt_iff_toInt_lt]
  have h1 := Int32.le_iff_toInt_le.mp h
  have h2 : x.toInt ≠ y.toInt := fun e => hn (Int32.toInt_inj.mp e)
  omega
theorem xS_e : ∀ j, j < 6 → ([48, 49, 50, 51, 52, 53] : List Nat)[j]? = some (48 + j) := by decide
theorem xS_s : ∀ j, j < 6 → xk[48 + j]? = some x_spot := by decide
/-- what the search holds: rows, least, first row -/
def x_acc (M : rs_M) (h : Nat) (a : ab_A) : Prop := M 45 3 = nI a.1 ∧ (0 < a.1 → M 45 4 = a.2.1 ∧ ∀ i, i < h → M 47 i = nI (a.2.2.getD i 0))
theorem x_acc_fr {M M1 : rs_M} {h : Nat} {a : ab_A} (hx : x_acc M h a) (e1 : M1 45 = M 45) (e2 : M1 47 = M 47) : x_acc M1 h a := ⟨by rw [e1]; exact hx.1, fun q => ⟨by rw [e1]; exact (hx.2 q).1, fun i hi => by rw [e2]; exact (hx.2 q).2 i hi⟩⟩
def x_nI (M Mi : rs_M) (h : Nat) (sum : Int32) (p : List Nat) (i : Nat) : Prop := Mi 45 3 = 1 ∧ Mi 45 4 = sum ∧ Mi 45 2 = nI h ∧ (∀ j, j < i → Mi 47 j = nI (p.getD j 0)) ∧ ∀ c, c ≠ 45 → c ≠ 47 → Mi c = M c
theorem x_nI_s {M Mi : rs_M} {h : Nat} {sum : Int32} {p : List Nat} {i : Nat} (hI : x_nI M Mi h sum p i) : x_nI M (rs_st Mi 47 i (nI (p.getD i 0))) h sum p (i + 1) := by
  obtain ⟨h1, h2, h3, h4, h5⟩ := hI
  refine ⟨by rw [rs_st_ne _ _ _ (by decide)]; exact h1, by rw [rs_st_ne _ _ _ (by decide)]; exact h2, by rw [rs_st_ne _ _ _ (by decide)]; exact h3, fun j hj => ?_, fun c c1 c2 => by rw [rs_st_ne _ _ _ c2]; exact h5 c c1 c2⟩
  by_cases e : j = i
  · subst e; rw [rs_st_eq]
  · rw [rs_st_nk _ _ _ e]; exact h4 j (by omega)
set_option maxHeartbeats 4000000 in
set_option maxRecDepth 100000 in
theorem c_note (l : Launch) (g : rs_G) (t : Nat × Nat) (M : rs_M) (h : Nat) (h5 : h ≤ 5) (h2 : M 45 2 = nI h) (a : ab_A) (ha : x_acc M h a) (hab : a.1 < 1000000) (sum : Int32) (p : List Nat) (hp : ∀ i, i < h → M (48 + (i + 1)) 1 = nI (p.getD i 0)) (hs : a.1 = 0 ∨ sum ≤ a.2.1) : rs_Cv l g xk t yX3_note cX3_note 3 0 [.ref (g.2.2 45), .int sum] M (fun M1 => x_acc M1 h (ab_note a sum p) ∧ M1 45 2 = nI h ∧ ∀ c, c ≠ 45 → c ≠ 47 → M1 c = M c) := by
  refine rs_ofv (plainFor_of_name (by decide)) (Nat.le_of_ble_eq_true rfl) ?_
  intro Y K hr
  show Y M 0 [(0, .ref (g.2.2 45)), (1, .int sum)] []
  have jn : (ab_note a sum p = (1, sum, p)) → Y M 26 [(0, .ref (g.2.2 45)), (1, .int sum)] [] := by
    intro hN
    refine r_aload_n K 0 dX3_note_26 rfl rfl ?_
    refine r_iconst K (v := 1) dX3_note_27 (by decide) ?_
    refine r_put K rfl rfl ff_3_rows qw_172 rfl rfl dX3_note_28 ?_
    refine r_aload_n K 0 dX3_note_31 rfl rfl ?_
    refine r_iload_n K 1 dX3_note_32 rfl rfl ?_
    refine r_put K rfl rfl ff_3_least qw_174 rfl rfl dX3_note_33 ?_
    refine r_iconst K (v := 0) dX3_note_36 (by decide) ?_
    refine r_istore_n K [(2, .int 0), (0, .ref (g.2.2 45)), (1, .int sum)] dX3_note_37 rfl (by decide) rfl ?_
    have lp : ∀ (f : Nat) (i : Nat) (Mi : rs_M), (5 - i < f) → (i ≤ h) → (x_nI M Mi h sum p i) → Y Mi 38 [(2, .int (nI i)), (0, .ref (g.2.2 45)), (1, .int sum)] [] := by
      intro f
      induction f with
      | zero =>
        intro i Mi hf
        exact absurd hf (Nat.not_lt_zero _)
      | succ f ih =>
        intro i Mi hf hi hI
        refine r_iload_n K 0 dX3_note_38 rfl rfl ?_
        refine r_aload_n K 1 dX3_note_39 rfl rfl ?_
        refine r_getI K rfl rfl ff_3_ahead qw_170 dX3_note_40 ?_
        refine r_top_eq (nI h) hI.2.2.1 ?_
        refine r_icmp_ge K 74 dX3_note_43 (by decide) (fun h_1 => ?_) (fun h_1 => ?_)
        · have nh_1 : h ≤ i := (nf_le rfl rfl (by omega) (by omega)).mp h_1
          have hih : i = h := by omega
          subst hih
          refine hr _ _ _ dX3_note_74 ⟨?_, hI.2.2.1, hI.2.2.2.2⟩
          rw [hN]
          exact ⟨hI.1, fun q => ⟨hI.2.1, hI.2.2.2.1⟩⟩
        · have nh_1 : ¬ h ≤ i := mt (nf_le rfl rfl (by omega) (by omega)).mpr h_1
          refine r_iload_n K 0 dX3_note_46 rfl rfl ?_
          refine r_iconst K (v := 5) dX3_note_47 (by decide) ?_
          refine r_icmp_ge K 74 dX3_note_48 (by decide) (fun h_2 => ?_) (fun h_2 => ?_)
          · have nh_2 : 5 ≤ i := (nf_le rfl rfl (by omega) (by omega)).mp h_2
            have hih : i = h := by omega
            subst hih
            refine hr _ _ _ dX3_note_74 ⟨?_, hI.2.2.1, hI.2.2.2.2⟩
            rw [hN]
            exact ⟨hI.1, fun q => ⟨hI.2.1, hI.2.2.2.1⟩⟩
          · have nh_2 : ¬ 5 ≤ i := mt (nf_le rfl rfl (by omega) (by omega)).mpr h_2
            refine r_aload_n K 1 dX3_note_51 rfl rfl ?_
            refine r_getR K rfl rfl ff_3_firstRow qw_168 dX3_note_52 ?_
            refine r_iload_n K 0 dX3_note_55 rfl rfl ?_
            refine r_aload_n K 1 dX3_note_56 rfl rfl ?_
            refine r_getR K rfl rfl ff_3_spots qw_167 dX3_note_57 ?_
            refine r_iload_n K 0 dX3_note_60 rfl rfl ?_
            refine r_iconst K (v := 1) dX3_note_61 (by decide) ?_
            refine r_iadd K dX3_note_62 ?_
            refine r_aaldS K (j := i + 1) rfl (nI_1 i) (xS_e _ (by omega)) (by omega) (by decide) dX3_note_63 ?_
            refine r_getI K (xS_s _ (by omega)) rfl ff_4_key qw_34 dX3_note_64 ?_
            refine r_top_eq (nI (p.getD i 0)) (by rw [hI.2.2.2.2 _ (by omega) (by omega)]; exact hp i (by omega)) ?_
            refine r_iast K (j := i) rfl rfl (by omega) (by decide) dX3_note_67 ?_
            refine r_iinc_n K 0 [(2, .int (nI (i + 1))), (0, .ref (g.2.2 45)), (1, .int sum)] dX3_note_68 rfl (by decide) rfl ?_
            refine r_goto K 38 dX3_note_71 (by decide) ?_
            exact ih (i + 1) _ (by omega) (by omega) (x_nI_s hI)
    exact lp 6 0 _ (by omega) (by omega) ⟨by simp [rs_st], by simp [rs_st], by simp [rs_st]; exact h2, fun j hj => absurd hj (Nat.not_lt_zero _), fun c c1 c2 => by rw [rs_st_ne _ _ _ c1, rs_st_ne _ _ _ c1]⟩
  refine r_aload_n K 0 dX3_note_0 rfl rfl ?_
  refine r_getI K rfl rfl ff_3_rows qw_172 dX3_note_1 ?_
  refine r_top_eq (nI a.1) ha.1 ?_
  refine r_if_le K 26 dX3_note_4 (by decide) (fun h_3 => ?_) (fun h_3 => ?_)
  · have nh_3 : a.1 ≤ 0 := (nf_le rfl rfl (by omega) (by omega)).mp h_3
    exact jn (by rw [ab_note, if_neg (fun q => by omega), if_pos (Or.inl (by omega))])
  · have nh_3 : ¬ a.1 ≤ 0 := mt (nf_le rfl rfl (by omega) (by omega)).mpr h_3
    refine r_iload_n K 1 dX3_note_7 rfl rfl ?_
    refine r_aload_n K 0 dX3_note_8 rfl rfl ?_
    refine r_getI K rfl rfl ff_3_least qw_174 dX3_note_9 ?_
    refine r_top_eq a.2.1 (ha.2 (by omega)).1 ?_
    refine r_icmp_ne K 26 dX3_note_12 (by decide) (fun h_4 => ?_) (fun h_4 => ?_)
    · exact jn (by rw [ab_note, if_neg (fun q => h_4 q.2), if_pos (Or.inr (hs.elim (fun q => absurd q (by omega)) (fun q => ab_lt_of q h_4)))])
    · refine r_aload_n K 0 dX3_note_15 rfl rfl ?_
      refine r_dup K dX3_note_16 rfl ?_
      refine r_getI K rfl rfl ff_3_rows qw_172 dX3_note_17 ?_
      refine r_top_eq (nI a.1) ha.1 ?_
      refine r_iconst K (v := 1) dX3_note_20 (by decide) ?_
      refine r_iadd K dX3_note_21 ?_
      refine r_top_eq (nI (a.1 + 1)) (nI_1 _) ?_
      refine r_put K rfl rfl ff_3_rows qw_172 rfl rfl dX3_note_22 ?_
      refine hr _ _ _ dX3_note_25 ⟨?_, by rw [rs_st_nk _ _ _ (by decide)]; exact h2, fun c c1 c2 => rs_st_ne _ _ _ c1⟩
      rw [ab_note, if_pos ⟨by omega, h_4⟩]
      exact ⟨by rw [rs_st_eq], fun q => ⟨by rw [rs_st_nk _ _ _ (by decide)]; exact (ha.2 (by omega)).1, fun i hi => by rw [rs_st_ne _ _ _ (by decide)]; exact (ha.2 (by omega)).2 i hi⟩⟩
/-- before extend: r keys are still to come behind the keys p -/
def x_eP (M : rs_M) (tp : Int32) (L : ab_L) (h r : Nat) (p : List Nat) (sum : Int32) (a : ab_A) : Prop :=
  x_ln M 1 tp L ∧ M 45 2 = nI h ∧ p.length + r = h ∧ (∀ k ∈ p, k < 8) ∧ x_sp M (48 + p.length) tp (ab_ks L ++ p) ∧ (∀ i, i < p.length → M (48 + (i + 1)) 1 = nI (p.getD i 0)) ∧ x_acc M h a ∧ (a.1 = 0 ∨ sum ≤ a.2.1) ∧ 0 ≤ sum.toInt ∧ sum.toInt ≤ 7000000 * p.length ∧ a.1 + 8 ^ r ≤ 900000
def x_eQ (M M1 : rs_M) (h : Nat) (p : List Nat) (a : ab_A) : Prop := x_acc M1 h a ∧ M1 45 2 = nI h ∧ ∀ c, ¬ (c = 45 ∨ c = 47 ∨ (48 + p.length < c ∧ c < 54)) → M1 c = M c
noncomputable def ab_F (tp : Int32) (L : ab_L) (r : Nat) (p : List Nat) (sum : Int32) : Nat → ab_A → ab_A := fun k a => @ite ab_A (ab_may tp L (ab_ks L ++ p) k) (Classical.propDecidable _) (ab_srch tp L (ab_ks L) r (p ++ [k]) (sum + ab_lcost tp L (ab_ks L ++ p ++ [k])) a) a
theorem ab_F_rows (tp : Int32) (L : ab_L) (r : Nat) (p : List Nat) (sum : Int32) (k : Nat) (a : ab_A) : (ab_F tp L r p sum k a).1 ≤ a.1 + 8 ^ r := by
  unfold ab_F
  split
  · exact ab_srch_rows tp L _ r _ _ a
  · exact Nat.le_add_right _ _
theorem ab_8k (r : Nat) {k : Nat} (hk : k ≤ 8) : k * 8 ^ r ≤ 8 ^ (r + 1) := by
  rw [Nat.pow_succ, Nat.mul_comm]
  exact Nat.mul_le_mul_left _ hk
set_option maxHeartbeats 4000000 in
set_option maxRecDepth 100000 in
theorem c_extend0 (l : Launch) (g : rs_G) (t : Nat × Nat) (M : rs_M) (hb : xL 1) (tp : Int32) (ht : ab_tp tp) (L : ab_L) (hok : ab_ok L) (h : Nat) (h1 : 1 ≤ h) (h5 : h ≤ 5) (p : List Nat) (sum : Int32) (a : ab_A) (hP : x_eP M tp L h 0 p sum a) : rs_Cv l g xk t yX3_extend cX3_extend 8 3 [.ref (g.2.2 45), .ref (g.2.2 1), .int (nI p.length), .int sum] M (fun M1 => x_eQ M M1 h p (ab_srch tp L (ab_ks L) 0 p sum a)) := by
  have hlen : p.length + 0 = h := hP.2.2.1
  have hrows : a.1 + 8 ^ 0 ≤ 900000 := hP.2.2.2.2.2.2.2.2.2.2
  refine rs_ofv (plainFor_of_name (by decide)) (Nat.le_of_ble_eq_true rfl) ?_
  intro Y K hr
  show Y M 0 [(0, .ref (g.2.2 45)), (1, .ref (g.2.2 1)), (2, .int (nI p.length)), (3, .int sum)] []
  refine r_iload_n K 2 dX3_extend_0 rfl rfl ?_
  refine r_if_lt K 17 dX3_extend_1 (by decide) (fun h9 => absurd h9 (nI_pos (by omega))) (fun _ => ?_)
  refine r_iload_n K 2 dX3_extend_4 rfl rfl ?_
  refine r_aload_n K 0 dX3_extend_5 rfl rfl ?_
  refine r_getI K rfl rfl ff_3_ahead qw_170 dX3_extend_6 ?_
  refine r_top_eq (nI h) hP.2.1 ?_
  refine r_icmp_ge K 17 dX3_extend_9 (by decide) (fun _ => ?_) (fun h9 => absurd ((nf_le (X := h) (Y := p.length) rfl rfl (by omega) (by omega)).mpr (by omega)) h9)
  refine r_aload_n K 0 dX3_extend_17 rfl rfl ?_
  refine r_iload_n K 3 dX3_extend_18 rfl rfl ?_
  refine r_callVv K [.int sum] [] dX3_extend_19 mf_X3_note rfl rfl qw_403 qw_405 qs_14 (c_note l g t M h h5 hP.2.1 a hP.2.2.2.2.2.2.1 (by omega) sum p (fun i hi => hP.2.2.2.2.2.1 i (by omega)) hP.2.2.2.2.2.2.2.1) rfl rfl (by decide) (Nat.le_of_ble_eq_true rfl) (fun M1 hp => ?_)
  obtain ⟨hp1, hp2, hp3⟩ := hp
  exact hr _ _ _ dX3_extend_22 ⟨hp1, hp2, fun c hc => hp3 c (by omega) (by omega)⟩
set_option maxHeartbeats 4000000 in
set_option maxRecDepth 100000 in
theorem c_extendS (l : Launch) (g : rs_G) (t : Nat × Nat) (M : rs_M) (hb : xL 1) (tp : Int32) (ht : ab_tp tp) (L : ab_L) (hok : ab_ok L) (h : Nat) (h1 : 1 ≤ h) (h5 : h ≤ 5) (r : Nat) (IH : ∀ (M : rs_M) (p : List Nat) (sum : Int32) (a : ab_A), x_eP M tp L h r p sum a → rs_Cv l g xk t yX3_extend cX3_extend 8 (3 + r) [.ref (g.2.2 45), .ref (g.2.2 1), .int (nI p.length), .int sum] M (fun M1 => x_eQ M M1 h p (ab_srch tp L (ab_ks L) r p sum a))) (p : List Nat) (sum : Int32) (a : ab_A) (hP : x_eP M tp L h (r + 1) p sum a) : rs_Cv l g xk t yX3_extend cX3_extend 8 (3 + (r + 1)) [.ref (g.2.2 45), .ref (g.2.2 1), .int (nI p.length), .int sum] M (fun M1 => x_eQ M M1 h p (ab_srch tp L (ab_ks L) (r + 1) p sum a)) := by
  have hlen : p.length + (r + 1) = h := hP.2.2.1
  have hrows : a.1 + 8 ^ (r + 1) ≤ 900000 := hP.2.2.2.2.2.2.2.2.2.2
  have h8 : ∀ x ∈ ab_ks L ++ p, x < 8 := fun x hx => (List.mem_append.mp hx).elim (fun q => hok.2.1 x q) (fun q => hP.2.2.2.1 x q)
  have hn12 := hok.1
  refine rs_ofv (plainFor_of_name (by decide)) (Nat.le_of_ble_eq_true rfl) ?_
  intro Y K hr
  show Y M 0 [(0, .ref (g.2.2 45)), (1, .ref (g.2.2 1)), (2, .int (nI p.length)), (3, .int sum)] []
  refine r_iload_n K 2 dX3_extend_0 rfl rfl ?_
  refine r_if_lt K 17 dX3_extend_1 (by decide) (fun h9 => absurd h9 (nI_pos (by omega))) (fun _ => ?_)
  refine r_iload_n K 2 dX3_extend_4 rfl rfl ?_
  refine r_aload_n K 0 dX3_extend_5 rfl rfl ?_
  refine r_getI K rfl rfl ff_3_ahead qw_170 dX3_extend_6 ?_
  refine r_top_eq (nI h) hP.2.1 ?_
  refine r_icmp_ge K 17 dX3_extend_9 (by decide) (fun h9 => absurd h9 (mt (nf_le (X := h) (Y := p.length) rfl rfl (by omega) (by omega)).mp (by omega))) (fun _ => ?_)
  refine r_iload_n K 2 dX3_extend_12 rfl rfl ?_
  refine r_iconst K (v := 5) dX3_extend_13 (by decide) ?_
  refine r_icmp_lt K 23 dX3_extend_14 (by decide) (fun _ => ?_) (fun h9 => absurd ((nf_lt (X := p.length) (Y := 5) rfl rfl (by omega) (by decide)).mpr (by omega)) h9)
  refine r_aload_n K 0 dX3_extend_23 rfl rfl ?_
  refine r_getR K rfl rfl ff_3_spots qw_167 dX3_extend_24 ?_
  refine r_iload_n K 2 dX3_extend_27 rfl rfl ?_
  refine r_aaldS K (j := p.length) rfl rfl (xS_e _ (by omega)) (by omega) (by decide) dX3_extend_28 ?_
  refine r_astore K [(4, .ref (g.2.2 (48 + p.length))), (0, .ref (g.2.2 45)), (1, .ref (g.2.2 1)), (2, .int (nI p.length)), (3, .int sum)] dX3_extend_29 (by decide) rfl ?_
  refine r_aload_n K 1 dX3_extend_31 rfl rfl ?_
  refine r_getR K rfl rfl ff_3_spots qw_167 dX3_extend_32 ?_
  refine r_iload_n K 3 dX3_extend_35 rfl rfl ?_
  refine r_iconst K (v := 1) dX3_extend_36 (by decide) ?_
  refine r_iadd K dX3_extend_37 ?_
  refine r_aaldS K (j := p.length + 1) rfl (nI_1 _) (xS_e _ (by omega)) (by omega) (by decide) dX3_extend_38 ?_
  refine r_astore K [(5, .ref (g.2.2 (48 + (p.length + 1)))), (4, .ref (g.2.2 (48 + p.length))), (0, .ref (g.2.2 45)), (1, .ref (g.2.2 1)), (2, .int (nI p.length)), (3, .int sum)] dX3_extend_39 (by decide) rfl ?_
  refine r_iconst K (v := 0) dX3_extend_41 (by decide) ?_
  refine r_istore K [(6, .int 0), (5, .ref (g.2.2 (48 + (p.length + 1)))), (4, .ref (g.2.2 (48 + p.length))), (0, .ref (g.2.2 45)), (1, .ref (g.2.2 1)), (2, .int (nI p.length)), (3, .int sum)] dX3_extend_42 (by decide) rfl ?_
  have lp : ∀ (f : Nat) (k : Nat) (Mi : rs_M), (8 - k < f) → (k ≤ 8) → (x_eQ M Mi h p (ab_kfold (ab_F tp L r p sum) k a)) → Y Mi 44 [(6, .int (nI k)), (5, .ref (g.2.2 (48 + (p.length + 1)))), (4, .ref (g.2.2 (48 + p.length))), (0, .ref (g.2.2 45)), (1, .ref (g.2.2 1)), (2, .int (nI p.length)), (3, .int sum)] [] := by
    intro f
    induction f with
    | zero =>
      intro k Mi hf
      exact absurd hf (Nat.not_lt_zero _)
    | succ f ih =>
      intro k Mi hf hk hI
      have hLi : x_ln Mi 1 tp L := x_ln_fr hok.1 hP.1 (fun c hc => hI.2.2 c (by omega)) (lo := 45) (hi := 54) (by omega)
      have hSi : x_sp Mi (48 + p.length) tp (ab_ks L ++ p) := x_sp_same hP.2.2.2.2.1 (fun j _ => by rw [hI.2.2 _ (by omega)])
      have hrk := ab_kfold_rows (F := ab_F tp L r p sum) (B := 8 ^ r) (fun k a => ab_F_rows tp L r p sum k a) k a
      have hrk2 := ab_8k r hk
      have hrk3 : k < 8 → k * 8 ^ r + 8 ^ r ≤ 8 ^ (r + 1) := fun q => by have := ab_8k r (show k + 1 ≤ 8 by omega); rw [Nat.add_mul] at this; omega
      refine r_iload K 0 dX3_extend_44 rfl ?_
      refine r_bipush K (v := 8) dX3_extend_46 (by decide) ?_
      refine r_icmp_ge K 122 dX3_extend_48 (by decide) (fun h_1 => ?_) (fun h_1 => ?_)
      · have nh_1 : 8 ≤ k := (nf_le rfl rfl (by omega) (by omega)).mp h_1
        have hk8 : k = 8 := by omega
        subst hk8
        exact hr _ _ _ dX3_extend_122 hI
      · have nh_1 : ¬ 8 ≤ k := mt (nf_le rfl rfl (by omega) (by omega)).mpr h_1
        refine r_aload_n K 4 dX3_extend_51 rfl rfl ?_
        refine r_aload K 2 dX3_extend_52 rfl ?_
        refine r_iload K 0 dX3_extend_54 rfl ?_
        refine r_callVi K [.ref (g.2.2 (48 + p.length)), .int (nI k)] [] dX3_extend_56 mf_X1_mayFollow (xL_0 hb) rfl qw_407 qw_310 qw_311 (c_mayFollow l g t Mi 1 hb tp L hok hLi.2.2 (48 + p.length) (xS_s _ (by omega)) (ab_ks L ++ p) (by rw [List.length_append]; omega) hSi k (by omega) h8) rfl rfl (by omega) (Nat.le_of_ble_eq_true rfl) (fun r M1 hp => ?_)
        obtain ⟨hp, he⟩ := hp
        have he := he.symm
        subst he
        rcases hp with ⟨rfl, hb_2⟩ | ⟨rfl, hb_2⟩
        · refine r_if_eq K 116 dX3_extend_59 (by decide) (fun h => absurd h (by decide)) (fun _ => ?_)
          have fr2 : ∀ c, c ≠ 48 + (p.length + 1) → (x_adv (x_cp Mi (48 + (p.length + 1)) (48 + p.length)) (48 + (p.length + 1)) tp k) c = Mi c := fun c hc => by rw [x_fr_adv (lo := 48 + (p.length + 1)) (hi := 48 + (p.length + 1) + 1) (by omega) (by omega) c (by omega), x_fr_cp (lo := 48 + (p.length + 1)) (hi := 48 + (p.length + 1) + 1) (by omega) (by omega) c (by omega)]
          have hL2 : x_ln (x_adv (x_cp Mi (48 + (p.length + 1)) (48 + p.length)) (48 + (p.length + 1)) tp k) 1 tp L := x_ln_fr hok.1 hLi (fun c hc => fr2 c (by omega)) (lo := 48) (hi := 54) (by omega)
          have hS2 : x_sp (x_adv (x_cp Mi (48 + (p.length + 1)) (48 + p.length)) (48 + (p.length + 1)) tp k) (48 + (p.length + 1)) tp (ab_ks L ++ p ++ [k]) := x_sp_adv k (x_sp_cp hSi)
          have hacc2 : x_acc (x_adv (x_cp Mi (48 + (p.length + 1)) (48 + p.length)) (48 + (p.length + 1)) tp k) h (ab_kfold (ab_F tp L r p sum) k a) := x_acc_fr hI.1 (fr2 45 (by omega)) (fr2 47 (by omega))
          have hA2 : (x_adv (x_cp Mi (48 + (p.length + 1)) (48 + p.length)) (48 + (p.length + 1)) tp k) 45 2 = nI h := by rw [fr2 45 (by omega)]; exact hI.2.1
          have hpl : (p ++ [k]).length = p.length + 1 := by simp
          have hlk : (ab_ks L ++ p ++ [k]).length = (ab_ks L).length + p.length + 1 := by simp [Nat.add_assoc]
          have hp8 : ∀ k' ∈ p ++ [k], k' < 8 := fun k' h' => (List.mem_append.mp h').elim (fun q => hP.2.2.2.1 k' q) (fun q => by simp at q; omega)
          have hall : ∀ k' ∈ ab_ks L ++ p ++ [k], k' < 8 := fun k' h' => by
            rw [List.append_assoc] at h'
            exact (List.mem_append.mp h').elim (fun q => hok.2.1 k' q) (fun q => hp8 k' q)
          have hK2 : ∀ i, i < (p ++ [k]).length → (x_adv (x_cp Mi (48 + (p.length + 1)) (48 + p.length)) (48 + (p.length + 1)) tp k) (48 + (i + 1)) 1 = nI ((p ++ [k]).getD i 0) := fun i hi => by
            rw [hpl] at hi
            by_cases e : i = p.length
            · subst e
              rw [hS2.2.1, ab_last_app]
              simp
            · rw [fr2 _ (by omega), hI.2.2 _ (by omega), hP.2.2.2.2.2.1 i (by omega)]
              simp [List.getElem?_append_left (show i < p.length by omega)]
          have hcb := ab_cost_bd ht hok hall (by rw [hlk]; omega)
          have hc1 : 0 ≤ (ab_lcost tp L (ab_ks L ++ p ++ [k])).toInt := hcb.1
          have hc2 : (ab_lcost tp L (ab_ks L ++ p ++ [k])).toInt ≤ 7000000 := hcb.2
          have hs1 := hP.2.2.2.2.2.2.2.2.1
          have hs2 := hP.2.2.2.2.2.2.2.2.2.1
          have hsum : (sum + ab_lcost tp L (ab_ks L ++ p ++ [k])).toInt = sum.toInt + (ab_lcost tp L (ab_ks L ++ p ++ [k])).toInt := ab_addI (by omega) (by omega)
          refine r_aload K 1 dX3_extend_62 rfl ?_
          refine r_aload K 2 dX3_extend_64 rfl ?_
          refine r_callVv K [.ref (g.2.2 (48 + p.length))] [] dX3_extend_66 mf_X4_copy (xS_s _ (by omega)) rfl qw_399 qw_343 qw_344 (c_Spot_copy l g t Mi (48 + (p.length + 1)) (48 + p.length) (xS_s _ (by omega)) (xS_s _ (by omega))) rfl rfl (by omega) (Nat.le_of_ble_eq_true rfl) (fun M1 hp => ?_)
          subst hp
          refine r_aload K 1 dX3_extend_69 rfl ?_
          refine r_iload K 0 dX3_extend_71 rfl ?_
          refine r_aload_n K 4 dX3_extend_73 rfl rfl ?_
          refine r_getI K (xL_0 hb) rfl ff_1_taper qw_73 dX3_extend_74 ?_
          refine r_top_eq tp (by rw [x_fr_cp (lo := 48) (hi := 54) (by omega) (by omega) 1 (by omega)]; exact hLi.2.2.1) ?_
          refine r_callVv K [.int (nI k), .int tp] [] dX3_extend_77 mf_X4_advance (xS_s _ (by omega)) rfl qw_408 qw_347 qw_348 (c_Spot_advance l g t (x_cp Mi (48 + (p.length + 1)) (48 + p.length)) (48 + (p.length + 1)) (xS_s _ (by omega)) k (by omega) tp) rfl rfl (by omega) (Nat.le_of_ble_eq_true rfl) (fun M1 hp => ?_)
          subst hp
          refine r_iload_n K 6 dX3_extend_80 rfl rfl ?_
          refine r_aload_n K 4 dX3_extend_81 rfl rfl ?_
          refine r_aload K 1 dX3_extend_82 rfl ?_
          refine r_callVi K [.ref (g.2.2 (48 + (p.length + 1)))] [.int sum] dX3_extend_84 mf_X1_cost (xL_0 hb) rfl qw_409 qw_381 qw_382 (c_Line_cost l g t (x_adv (x_cp Mi (48 + (p.length + 1)) (48 + p.length)) (48 + (p.length + 1)) tp k) 1 hb tp L hok hL2.2.2 (48 + (p.length + 1)) (ab_ks L ++ p ++ [k]).length (xS_s _ (by omega)) (by rw [hlk]; omega) hS2.1) rfl rfl (by omega) (Nat.le_of_ble_eq_true rfl) (fun r M1 hp => ?_)
          obtain ⟨hp, he⟩ := hp
          have he := he.symm
          subst he
          subst hp
          refine r_top_eq (ab_lcost tp L (ab_ks L ++ p ++ [k])) (by rw [hS2.2.2.2.2.1, hS2.2.2.2.2.2]; rfl) ?_
          refine r_iadd K dX3_extend_87 ?_
          refine r_istore K [(7, .int (sum + (ab_lcost tp L (ab_ks L ++ p ++ [k])))), (6, .int (nI k)), (5, .ref (g.2.2 (48 + (p.length + 1)))), (4, .ref (g.2.2 (48 + p.length))), (0, .ref (g.2.2 45)), (1, .ref (g.2.2 1)), (2, .int (nI p.length)), (3, .int sum)] dX3_extend_88 (by decide) rfl ?_
          refine r_aload_n K 4 dX3_extend_90 rfl rfl ?_
          refine r_getI K rfl rfl ff_3_rows qw_172 dX3_extend_91 ?_
          refine r_top_eq (nI (ab_kfold (ab_F tp L r p sum) k a).1) hacc2.1 ?_
          refine r_if_eq K 106 dX3_extend_94 (by decide) (fun h_3 => ?_) (fun h_3 => ?_)
          · have nh_3 : (ab_kfold (ab_F tp L r p sum) k a).1 = 0 := (nf_eq rfl rfl (by omega) (by omega)).mp h_3
            refine r_aload_n K 4 dX3_extend_106 rfl rfl ?_
            refine r_aload_n K 5 dX3_extend_107 rfl rfl ?_
            refine r_iload_n K 6 dX3_extend_108 rfl rfl ?_
            refine r_iconst K (v := 1) dX3_extend_109 (by decide) ?_
            refine r_iadd K dX3_extend_110 ?_
            refine r_top_eq (nI (p ++ [k]).length) (by rw [hpl]; exact nI_1 _) ?_
            refine r_iload K 0 dX3_extend_111 rfl ?_
            have hQ : x_eP (x_adv (x_cp Mi (48 + (p.length + 1)) (48 + p.length)) (48 + (p.length + 1)) tp k) tp L h r (p ++ [k]) (sum + ab_lcost tp L (ab_ks L ++ p ++ [k])) (ab_kfold (ab_F tp L r p sum) k a) := ⟨hL2, hA2, by rw [hpl]; omega, hp8, by rw [hpl, ← List.append_assoc]; exact hS2, hK2, hacc2, Or.inl nh_3, by omega, by rw [hpl]; omega, by omega⟩
            refine r_callSv K [.ref (g.2.2 45), .ref (g.2.2 1), .int (nI (p ++ [k]).length), .int (sum + (ab_lcost tp L (ab_ks L ++ p ++ [k])))] [] dX3_extend_113 mf_X3_extend qw_400 qw_401 (IH _ (p ++ [k]) _ (ab_kfold (ab_F tp L r p sum) k a) hQ) rfl rfl (by omega) (Nat.le_of_ble_eq_true rfl) (fun M1 hp => ?_)
            refine r_iinc_n K 1 [(6, .int (nI (k + 1))), (7, .int (sum + (ab_lcost tp L (ab_ks L ++ p ++ [k])))), (5, .ref (g.2.2 (48 + (p.length + 1)))), (4, .ref (g.2.2 (48 + p.length))), (0, .ref (g.2.2 45)), (1, .ref (g.2.2 1)), (2, .int (nI p.length)), (3, .int sum)] dX3_extend_116 rfl (by decide) rfl ?_
            refine r_goto K 44 dX3_extend_119 (by decide) ?_
            refine r_sub K [0, 2, 3, 4, 5, 6, 7] rfl ?_
            have hF : ab_kfold (ab_F tp L r p sum) (k + 1) a = ab_F tp L r p sum k (ab_kfold (ab_F tp L r p sum) k a) := rfl
            have hF2 : ab_F tp L r p sum k (ab_kfold (ab_F tp L r p sum) k a) = _ := if_pos hb_2
            exact ih (k + 1) _ (by omega) (by omega) (by rw [hF, hF2]; exact ⟨hp.1, hp.2.1, fun c hc => by rw [hp.2.2 c (by rw [hpl]; omega), fr2 c (by omega)]; exact hI.2.2 c hc⟩)
          · have nh_3 : ¬ (ab_kfold (ab_F tp L r p sum) k a).1 = 0 := mt (nf_eq rfl rfl (by omega) (by omega)).mpr h_3
            refine r_iload K 0 dX3_extend_97 rfl ?_
            refine r_aload_n K 4 dX3_extend_99 rfl rfl ?_
            refine r_getI K rfl rfl ff_3_least qw_174 dX3_extend_100 ?_
            refine r_top_eq ((ab_kfold (ab_F tp L r p sum) k a).2.1) (hacc2.2 (by omega)).1 ?_
            refine r_icmp_gt K 116 dX3_extend_103 (by decide) (fun h_4 => ?_) (fun h_4 => ?_)
            · refine r_iinc_n K 1 [(6, .int (nI (k + 1))), (7, .int (sum + (ab_lcost tp L (ab_ks L ++ p ++ [k])))), (5, .ref (g.2.2 (48 + (p.length + 1)))), (4, .ref (g.2.2 (48 + p.length))), (0, .ref (g.2.2 45)), (1, .ref (g.2.2 1)), (2, .int (nI p.length)), (3, .int sum)] dX3_extend_116 rfl (by decide) rfl ?_
              refine r_goto K 44 dX3_extend_119 (by decide) ?_
              refine r_sub K [0, 2, 3, 4, 5, 6, 7] rfl ?_
              have hF : ab_kfold (ab_F tp L r p sum) (k + 1) a = ab_F tp L r p sum k (ab_kfold (ab_F tp L r p sum) k a) := rfl
              have hF2 : ab_F tp L r p sum k (ab_kfold (ab_F tp L r p sum) k a) = _ := if_pos hb_2
              have hF3 := ab_srch_skip ht hok hok.2.1 hok.1 r (p ++ [k]) (sum + ab_lcost tp L (ab_ks L ++ p ++ [k])) (ab_kfold (ab_F tp L r p sum) k a) hp8 (by rw [hpl]; omega) (by omega) (by rw [hpl]; omega) (by omega) h_4
              exact ih (k + 1) _ (by omega) (by omega) (by rw [hF, hF2, hF3]; exact ⟨hacc2, hA2, fun c hc => by rw [fr2 c (by omega)]; exact hI.2.2 c hc⟩)
            · refine r_aload_n K 4 dX3_extend_106 rfl rfl ?_
              refine r_aload_n K 5 dX3_extend_107 rfl rfl ?_
              refine r_iload_n K 6 dX3_extend_108 rfl rfl ?_
              refine r_iconst K (v := 1) dX3_extend_109 (by decide) ?_
              refine r_iadd K dX3_extend_110 ?_
              refine r_top_eq (nI (p ++ [k]).length) (by rw [hpl]; exact nI_1 _) ?_
              refine r_iload K 0 dX3_extend_111 rfl ?_
              have hQ : x_eP (x_adv (x_cp Mi (48 + (p.length + 1)) (48 + p.length)) (48 + (p.length + 1)) tp k) tp L h r (p ++ [k]) (sum + ab_lcost tp L (ab_ks L ++ p ++ [k])) (ab_kfold (ab_F tp L r p sum) k a) := ⟨hL2, hA2, by rw [hpl]; omega, hp8, by rw [hpl, ← List.append_assoc]; exact hS2, hK2, hacc2, Or.inr (Int32.not_lt.mp h_4), by omega, by rw [hpl]; omega, by omega⟩
              refine r_callSv K [.ref (g.2.2 45), .ref (g.2.2 1), .int (nI (p ++ [k]).length), .int (sum + (ab_lcost tp L (ab_ks L ++ p ++ [k])))] [] dX3_extend_113 mf_X3_extend qw_400 qw_401 (IH _ (p ++ [k]) _ (ab_kfold (ab_F tp L r p sum) k a) hQ) rfl rfl (by omega) (Nat.le_of_ble_eq_true rfl) (fun M1 hp => ?_)
              refine r_iinc_n K 1 [(6, .int (nI (k + 1))), (7, .int (sum + (ab_lcost tp L (ab_ks L ++ p ++ [k])))), (5, .ref (g.2.2 (48 + (p.length + 1)))), (4, .ref (g.2.2 (48 + p.length))), (0, .ref (g.2.2 45)), (1, .ref (g.2.2 1)), (2, .int (nI p.length)), (3, .int sum)] dX3_extend_116 rfl (by decide) rfl ?_
              refine r_goto K 44 dX3_extend_119 (by decide) ?_
              refine r_sub K [0, 2, 3, 4, 5, 6, 7] rfl ?_
              have hF : ab_kfold (ab_F tp L r p sum) (k + 1) a = ab_F tp L r p sum k (ab_kfold (ab_F tp L r p sum) k a) := rfl
              have hF2 : ab_F tp L r p sum k (ab_kfold (ab_F tp L r p sum) k a) = _ := if_pos hb_2
              exact ih (k + 1) _ (by omega) (by omega) (by rw [hF, hF2]; exact ⟨hp.1, hp.2.1, fun c hc => by rw [hp.2.2 c (by rw [hpl]; omega), fr2 c (by omega)]; exact hI.2.2 c hc⟩)
        · refine r_if_eq K 116 dX3_extend_59 (by decide) (fun _ => ?_) (fun h => absurd h (by decide))
          refine r_iinc_n K 0 [(6, .int (nI (k + 1))), (5, .ref (g.2.2 (48 + (p.length + 1)))), (4, .ref (g.2.2 (48 + p.length))), (0, .ref (g.2.2 45)), (1, .ref (g.2.2 1)), (2, .int (nI p.length)), (3, .int sum)] dX3_extend_116 rfl (by decide) rfl ?_
          refine r_goto K 44 dX3_extend_119 (by decide) ?_
          have hF : ab_kfold (ab_F tp L r p sum) (k + 1) a = ab_F tp L r p sum k (ab_kfold (ab_F tp L r p sum) k a) := rfl
          have hF2 : ab_F tp L r p sum k (ab_kfold (ab_F tp L r p sum) k a) = ab_kfold (ab_F tp L r p sum) k a := if_neg hb_2
          exact ih (k + 1) _ (by omega) (by omega) (by rw [hF, hF2]; exact hI)
  exact lp 9 0 _ (by omega) (by omega) ⟨hP.2.2.2.2.2.2.1, hP.2.1, fun _ _ => rfl⟩
theorem c_extend (l : Launch) (g : rs_G) (t : Nat × Nat)  (hb : xL 1) (tp : Int32) (ht : ab_tp tp) (L : ab_L) (hok : ab_ok L) (h : Nat) (h1 : 1 ≤ h) (h5 : h ≤ 5) : ∀ (r : Nat) (M : rs_M) (p : List Nat) (sum : Int32) (a : ab_A), x_eP M tp L h r p sum a → rs_Cv l g xk t yX3_extend cX3_extend 8 (3 + r) [.ref (g.2.2 45), .ref (g.2.2 1), .int (nI p.length), .int sum] M (fun M1 => x_eQ M M1 h p (ab_srch tp L (ab_ks L) r p sum a))
  | 0, M, p, sum, a, hP => c_extend0 l g t M hb tp ht L hok h h1 h5 p sum a hP
  | r + 1, M, p, sum, a, hP => c_extendS l g t M hb tp ht L hok h h1 h5 r (c_extend l g t hb tp ht L hok h h1 h5 r) p sum a hP
