def ab_rhi (w : Nat) : Nat := match w with
  | 0 => 3
  | 1 => 2
  | _ => 20
theorem x_isrule {w v : Nat} (hw : w < 3) (hv : v ≤ 99) : (0 ≤ nI v ∧ ((nI w = 0 ∧ nI v ≤ 3) ∨ (nI w = 1 ∧ nI v ≤ 2) ∨ (nI w = 2 ∧ nI v ≤ 20))) ↔ v ≤ ab_rhi w := by
  have e0 : nI w = 0 ↔ w = 0 := nf_eq (X := w) (Y := 0) rfl rfl (by omega) (by decide)
  have e1 : nI w = 1 ↔ w = 1 := nf_eq (X := w) (Y := 1) rfl rfl (by omega) (by decide)
  have e2 : nI w = 2 ↔ w = 2 := nf_eq (X := w) (Y := 2) rfl rfl (by omega) (by decide)
  have l3 : nI v ≤ 3 ↔ v ≤ 3 := nf_le (X := v) (Y := 3) rfl rfl (by omega) (by decide)
  have l2 : nI v ≤ 2 ↔ v ≤ 2 := nf_le (X := v) (Y := 2) rfl rfl (by omega) (by decide)
  have l20 : nI v ≤ 20 ↔ v ≤ 20 := nf_le (X := v) (Y := 20) rfl rfl (by omega) (by decide)
  have p0 : 0 ≤ nI v := nI_pos' (by omega)
  rw [e0, e1, e2, l3, l2, l20]
  rcases (show w = 0 ∨ w = 1 ∨ w = 2 by omega) with rfl | rfl | rfl <;> simp [ab_rhi, p0]
theorem ab_rhi_lim {w v : Nat} (hw : w < 3) (h : v ≤ ab_rhi w) : ab_rlim w v := by
  rcases (show w = 0 ∨ w = 1 ∨ w = 2 by omega) with rfl | rfl | rfl
  · exact Or.inl ⟨rfl, h⟩
  · exact Or.inr (Or.inl ⟨rfl, h⟩)
  · exact Or.inr (Or.inr ⟨rfl, h⟩)
/-- behind readSigned -/
def x_sQ (M M1 : rs_M) (tx : List Int32) (r : Int32) (R : Nat ⊕ (Int32 × Nat)) : Prop := x_ft M M1 ∧ match R with
  | .inl f => r = 0 ∧ M1 37 2 = nI f
  | .inr (x, e) => r = 1 ∧ M1 37 4 = x ∧ M1 37 5 = nI e ∧ e ≤ tx.length ∧ -99 ≤ x.toInt ∧ x.toInt ≤ 99
theorem x_n99 {n : Nat} (h : n ≤ 99) : (-99 ≤ (nI n).toInt ∧ (nI n).toInt ≤ 99) ∧ (-99 ≤ (-(nI n)).toInt ∧ (-(nI n)).toInt ≤ 99) := by
  rw [sb_negT (by omega), nI_toInt (by omega)]
  omega
set_option maxHeartbeats 4000000 in
set_option maxRecDepth 100000 in
theorem c_readRule (l : Launch) (g : rs_G) (t : Nat × Nat) (M : rs_M) (tx : List Int32) (htx : x_text M tx) (T : ab_T) (hT : x_pS M T) (s p : Nat) (hs : M 37 2 = nI s) (hp5 : M 37 5 = nI p) (hpl : p ≤ tx.length) (w : Nat) (hw : w < 3) : rs_Ci l g xk t yX2_readRule cX2_readRule 3 .boolean 3 [.ref (g.2.2 37), .ref (g.2.2 18), .int (nI w)] M (fun r M1 => x_pQ M M1 tx r (ab_once tx T w 0 (ab_rhi w) s p)) := by
  have h8 := x_text_8 htx
  have hl120 := htx.2.1
  have hn12 := hT.2.1.1
  refine rs_ofz (plainFor_of_name (by decide)) (Nat.le_of_ble_eq_true rfl) ?_
  intro Y K hr
  show Y M 0 [(0, .ref (g.2.2 37)), (1, .ref (g.2.2 18)), (2, .int (nI w))] []
  refine r_aload_n K 0 dX2_readRule_0 rfl rfl ?_
  refine r_getR K rfl rfl ff_2_ruleTold qw_115 dX2_readRule_1 ?_
  refine r_iload_n K 2 dX2_readRule_4 rfl rfl ?_
  refine r_zald K (j := w) rfl rfl (by omega) (by decide) dX2_readRule_5 ?_
  refine r_top_eq (x_b (T.2.2.2 w)) (hT.2.2.2.2.2.2 w hw) ?_
  refine r_if_ne K 16 dX2_readRule_6 (by decide) (fun h_1 => ?_) (fun h_1 => ?_)
  · refine r_iconst K (v := 0) dX2_readRule_16 (by decide) ?_
    exact hr _ _ _ _ dX2_readRule_17 (Or.inl rfl) (x_flt_ok (x_fP_rf M) hT (ab_if_pos (Or.inl (x_b_0.mp h_1))) hs)
  · refine r_aload_n K 1 dX2_readRule_9 rfl rfl ?_
    refine r_getI K (xL_0 xL18) rfl ff_1_rings qw_70 dX2_readRule_10 ?_
    refine r_top_eq (nI (ab_ks T.1).length) hT.1.1 ?_
    refine r_if_le K 18 dX2_readRule_13 (by decide) (fun h_2 => ?_) (fun h_2 => ?_)
    · have nh_2 : (ab_ks T.1).length ≤ 0 := (nf_le rfl rfl (by omega) (by omega)).mp h_2
      refine r_aload_n K 0 dX2_readRule_18 rfl rfl ?_
      refine r_getR K rfl rfl ff_2_ruleTold qw_115 dX2_readRule_19 ?_
      refine r_iload_n K 2 dX2_readRule_22 rfl rfl ?_
      refine r_iconst K (v := 1) dX2_readRule_23 (by decide) ?_
      refine r_zast K (j := w) rfl rfl (by omega) (by decide) dX2_readRule_24 ?_
      refine r_mem (rs_st M 39 w 1) (by rw [x_nar1]) ?_
      refine r_aload_n K 0 dX2_readRule_25 rfl rfl ?_
      refine r_callVv K [] [] dX2_readRule_26 mf_X2_toNextToken rfl rfl qw_251 qw_253 qs_0 (c_next l g t (rs_st M 39 w 1) tx (x_text_fP htx (x_fP_39 (M := M) (j := w) (v := 1))) p (by rw [rs_st_ne _ _ _ (by decide)]; exact hp5) hpl) rfl rfl (by decide) (Nat.le_of_ble_eq_true rfl) (fun M1 hp => ?_)
      obtain ⟨t1, f1⟩ := hp
      have x1 := x_text_ft (x_text_fP htx (x_fP_39 (M := M) (j := w) (v := 1))) f1
      have s1 := x_pS_ft (x_nar_b hT hw) f1
      have l1 := ab_tok_len (tx := tx) (p := p) hpl
      have v1 := ab_tok_val (tx := tx) h8 (p := p)
      refine r_aload_n K 0 dX2_readRule_29 rfl rfl ?_
      refine r_getI K rfl rfl ff_2_kind qw_110 dX2_readRule_30 ?_
      refine r_top_eq (x_kc (ab_tok tx p)) t1.2.1 ?_
      refine r_bipush K (v := (-2)) dX2_readRule_33 (by decide) ?_
      refine r_icmp_ne K 49 dX2_readRule_35 (by decide) (fun h_3 => ?_) (fun h_3 => ?_)
      · refine r_iconst K (v := 0) dX2_readRule_49 (by decide) ?_
        have e : ab_once tx T w 0 (ab_rhi w) s p = .inl (ab_tok tx p).1 := by rw [ab_once, ab_if_neg (fun q => q.elim (fun q => (x_b_0.mpr q) h_1) (fun q => by omega)), ab_if_neg (fun q => h_3 ((x_kc_num v1.1).mpr q.1))]
        exact hr _ _ _ _ dX2_readRule_50 (Or.inl rfl) (x_flt_ok (x_fP_tr (x_fP_39 (j := w)) (x_fP_ft f1)) s1 e t1.1)
      · have hk1 : (ab_tok tx p).2.1 = 1 := (x_kc_num v1.1).mp h_3
        have h99 := l1.2.2.2.2.2.2 hk1
        refine r_iload_n K 2 dX2_readRule_38 rfl rfl ?_
        refine r_aload_n K 0 dX2_readRule_39 rfl rfl ?_
        refine r_getI K rfl rfl ff_2_number qw_111 dX2_readRule_40 ?_
        refine r_top_eq (nI (ab_tok tx p).2.2.1) (t1.2.2.1 hk1) ?_
        refine r_callNi K [.int (nI w), .int (nI (ab_tok tx p).2.2.1)] [] dX2_readRule_43 mf_X5_isRule (by decide) qw_279 (c_isRule l g xk t M1 (nI w) (nI (ab_tok tx p).2.2.1)) rfl rfl (by decide) (Nat.le_of_ble_eq_true rfl) (fun r M1 hp => ?_)
        obtain ⟨hp, he⟩ := hp
        have he := he.symm
        subst he
        rcases hp with ⟨rfl, hb_4⟩ | ⟨rfl, hb_4⟩
        · refine r_if_ne K 51 dX2_readRule_46 (by decide) (fun _ => ?_) (fun h => absurd h (by decide))
          have hv1 : (ab_tok tx p).2.2.1 ≤ ab_rhi w := (x_isrule hw h99).mp hb_4
          refine r_aload_n K 1 dX2_readRule_51 rfl rfl ?_
          refine r_iload_n K 2 dX2_readRule_52 rfl rfl ?_
          refine r_aload_n K 0 dX2_readRule_53 rfl rfl ?_
          refine r_getI K rfl rfl ff_2_number qw_111 dX2_readRule_54 ?_
          refine r_top_eq (nI (ab_tok tx p).2.2.1) (t1.2.2.1 hk1) ?_
          refine r_callVv K [.int (nI w), .int (nI (ab_tok tx p).2.2.1)] [] dX2_readRule_57 mf_X1_setRule (xL_0 xL18) rfl qw_281 qw_282 qw_283 (c_setRule l g t M1 18 xL18 T.2.1 T.1 s1.1 w (by omega) (ab_tok tx p).2.2.1) rfl rfl (by decide) (Nat.le_of_ble_eq_true rfl) (fun Mr hp => ?_)
          obtain ⟨hr1, hr2⟩ := hp
          refine r_aload_n K 0 dX2_readRule_60 rfl rfl ?_
          refine r_callVv K [] [] dX2_readRule_61 mf_X2_toNextToken rfl rfl qw_251 qw_253 qs_0 (c_next l g t Mr tx (x_text_fP x1 (x_fP_fr hr2)) ((ab_tok tx p).2.2.2) (by rw [hr2 37 (by decide)]; exact t1.2.2.2) l1.2.2.1) rfl rfl (by decide) (Nat.le_of_ble_eq_true rfl) (fun M2 hp => ?_)
          obtain ⟨t2, f2⟩ := hp
          have x2 := x_text_ft (x_text_fP x1 (x_fP_fr hr2)) f2
          have s2 := x_pS_ft (x_ln_pS s1 hr1 (ab_ok_rule s1.2.1 (ab_rhi_lim hw hv1)) hr2) f2
          have l2 := ab_tok_len (tx := tx) (p := (ab_tok tx p).2.2.2) l1.2.2.1
          have v2 := ab_tok_val (tx := tx) h8 (p := (ab_tok tx p).2.2.2)
          refine r_iconst K (v := 1) dX2_readRule_64 (by decide) ?_
          have e : ab_once tx T w 0 (ab_rhi w) s p = ab_fin tx (ab_setrule T.1 w (ab_tok tx p).2.2.1, T.2.1, T.2.2.1, ab_told T.2.2.2 w) (ab_tok tx p).2.2.2 := by rw [ab_once, ab_if_neg (fun q => q.elim (fun q => (x_b_0.mpr q) h_1) (fun q => by omega)), ab_if_pos ⟨hk1, Nat.zero_le _, hv1⟩, ab_setT, if_neg (show ¬ w = 3 by omega)]
          rw [e] at hr
          exact hr _ _ _ _ dX2_readRule_65 (Or.inr rfl) (x_fin_ok h8 l1.2.2.1 (x_fP_tr (x_fP_tr (x_fP_39 (j := w)) (x_fP_ft f1)) (x_fP_tr (x_fP_fr hr2) (x_fP_ft f2))) s2 t2)
        · refine r_if_ne K 51 dX2_readRule_46 (by decide) (fun h => absurd h (by decide)) (fun _ => ?_)
          refine r_iconst K (v := 0) dX2_readRule_49 (by decide) ?_
          have e : ab_once tx T w 0 (ab_rhi w) s p = .inl (ab_tok tx p).1 := by rw [ab_once, ab_if_neg (fun q => q.elim (fun q => (x_b_0.mpr q) h_1) (fun q => by omega)), ab_if_neg (fun q => hb_4 ((x_isrule hw h99).mpr q.2.2))]
          exact hr _ _ _ _ dX2_readRule_50 (Or.inl rfl) (x_flt_ok (x_fP_tr (x_fP_39 (j := w)) (x_fP_ft f1)) s1 e t1.1)
    · have nh_2 : ¬ (ab_ks T.1).length ≤ 0 := mt (nf_le rfl rfl (by omega) (by omega)).mpr h_2
      refine r_iconst K (v := 0) dX2_readRule_16 (by decide) ?_
      exact hr _ _ _ _ dX2_readRule_17 (Or.inl rfl) (x_flt_ok (x_fP_rf M) hT (ab_if_pos (Or.inr (by omega))) hs)
set_option maxHeartbeats 4000000 in
set_option maxRecDepth 100000 in
theorem c_readSigned (l : Launch) (g : rs_G) (t : Nat × Nat) (M : rs_M) (tx : List Int32) (htx : x_text M tx) (p : Nat) (hpl : p ≤ tx.length) (ht : x_tok M (ab_tok tx p)) : rs_Ci l g xk t yX2_readSigned cX2_readSigned 2 .boolean 2 [.ref (g.2.2 37)] M (fun r M1 => x_sQ M M1 tx r (ab_sgn tx p)) := by
  have h8 := x_text_8 htx
  have l0 := ab_tok_len (tx := tx) (p := p) hpl
  have v0 := ab_tok_val (tx := tx) h8 (p := p)
  refine rs_ofz (plainFor_of_name (by decide)) (Nat.le_of_ble_eq_true rfl) ?_
  intro Y K hr
  show Y M 0 [(0, .ref (g.2.2 37))] []
  refine r_aload_n K 0 dX2_readSigned_0 rfl rfl ?_
  refine r_getI K rfl rfl ff_2_kind qw_110 dX2_readSigned_1 ?_
  refine r_top_eq (x_kc (ab_tok tx p)) ht.2.1 ?_
  refine r_bipush K (v := 45) dX2_readSigned_4 (by decide) ?_
  refine r_icmp_ne K 13 dX2_readSigned_6 (by decide) (fun h_1 => ?_) (fun h_1 => ?_)
  · refine r_iconst K (v := 0) dX2_readSigned_13 (by decide) ?_
    refine r_istore_n K [(1, .int 0), (0, .ref (g.2.2 37))] dX2_readSigned_14 rfl (by decide) rfl ?_
    refine r_iload_n K 0 dX2_readSigned_15 rfl rfl ?_
    refine r_if_eq K 23 dX2_readSigned_16 (by decide) (fun _ => ?_) (fun h => absurd h (by decide))
    refine r_aload_n K 1 dX2_readSigned_23 rfl rfl ?_
    refine r_getI K rfl rfl ff_2_kind qw_110 dX2_readSigned_24 ?_
    refine r_top_eq (x_kc (ab_tok tx p)) ht.2.1 ?_
    refine r_bipush K (v := (-2)) dX2_readSigned_27 (by decide) ?_
    refine r_icmp_eq K 34 dX2_readSigned_29 (by decide) (fun h_2 => ?_) (fun h_2 => ?_)
    · have hk2 : (ab_tok tx p).2.1 = 1 := (x_kc_num v0.1).mp h_2
      refine r_iload_n K 0 dX2_readSigned_34 rfl rfl ?_
      refine r_if_eq K 47 dX2_readSigned_35 (by decide) (fun _ => ?_) (fun h => absurd h (by decide))
      refine r_iconst K (v := 1) dX2_readSigned_47 (by decide) ?_
      have e : ab_sgn tx p = .inr (nI (ab_tok tx p).2.2.1, (ab_tok tx p).2.2.2) := by rw [ab_sgn, ab_if_neg (fun q => h_1 ((x_kc_let v0.1 (c := 45) (by decide)).mpr q)), ab_if_pos hk2]
      have h99 := x_n99 (l0.2.2.2.2.2.2 hk2)
      exact hr _ _ _ _ dX2_readSigned_48 (Or.inr rfl) (by rw [e]; exact ⟨x_ft_rf M, rfl, ht.2.2.1 hk2, ht.2.2.2, l0.2.2.1, h99.1.1, h99.1.2⟩)
    · refine r_iconst K (v := 0) dX2_readSigned_32 (by decide) ?_
      have e : ab_sgn tx p = .inl (ab_tok tx p).1 := by rw [ab_sgn, ab_if_neg (fun q => h_1 ((x_kc_let v0.1 (c := 45) (by decide)).mpr q)), ab_if_neg (fun q => h_2 ((x_kc_num v0.1).mpr q))]
      exact hr _ _ _ _ dX2_readSigned_33 (Or.inl rfl) (by rw [e]; exact ⟨x_ft_rf M, rfl, ht.1⟩)
  · refine r_iconst K (v := 1) dX2_readSigned_9 (by decide) ?_
    refine r_goto K 14 dX2_readSigned_10 (by decide) ?_
    refine r_istore_n K [(1, .int 1), (0, .ref (g.2.2 37))] dX2_readSigned_14 rfl (by decide) rfl ?_
    refine r_iload_n K 0 dX2_readSigned_15 rfl rfl ?_
    refine r_if_eq K 23 dX2_readSigned_16 (by decide) (fun h => absurd h (by decide)) (fun _ => ?_)
    refine r_aload_n K 1 dX2_readSigned_19 rfl rfl ?_
    refine r_callVv K [] [] dX2_readSigned_20 mf_X2_toNextToken rfl rfl qw_251 qw_253 qs_0 (c_next l g t M tx htx (ab_tok tx p).2.2.2 ht.2.2.2 l0.2.2.1) rfl rfl (by decide) (Nat.le_of_ble_eq_true rfl) (fun M1 hp => ?_)
    obtain ⟨t1, f1⟩ := hp
    have l1 := ab_tok_len (tx := tx) (p := (ab_tok tx p).2.2.2) l0.2.2.1
    have v1 := ab_tok_val (tx := tx) h8 (p := (ab_tok tx p).2.2.2)
    refine r_aload_n K 1 dX2_readSigned_23 rfl rfl ?_
    refine r_getI K rfl rfl ff_2_kind qw_110 dX2_readSigned_24 ?_
    refine r_top_eq (x_kc (ab_tok tx (ab_tok tx p).2.2.2)) t1.2.1 ?_
    refine r_bipush K (v := (-2)) dX2_readSigned_27 (by decide) ?_
    refine r_icmp_eq K 34 dX2_readSigned_29 (by decide) (fun h_3 => ?_) (fun h_3 => ?_)
    · have hk2 : (ab_tok tx (ab_tok tx p).2.2.2).2.1 = 1 := (x_kc_num v1.1).mp h_3
      refine r_iload_n K 0 dX2_readSigned_34 rfl rfl ?_
      refine r_if_eq K 47 dX2_readSigned_35 (by decide) (fun h => absurd h (by decide)) (fun _ => ?_)
      refine r_aload_n K 1 dX2_readSigned_38 rfl rfl ?_
      refine r_aload_n K 1 dX2_readSigned_39 rfl rfl ?_
      refine r_getI K rfl rfl ff_2_number qw_111 dX2_readSigned_40 ?_
      refine r_top_eq (nI (ab_tok tx (ab_tok tx p).2.2.2).2.2.1) (t1.2.2.1 hk2) ?_
      refine r_ineg K dX2_readSigned_43 ?_
      refine r_put K rfl rfl ff_2_number qw_111 rfl rfl dX2_readSigned_44 ?_
      refine r_iconst K (v := 1) dX2_readSigned_47 (by decide) ?_
      have e : ab_sgn tx p = .inr (-(nI (ab_tok tx (ab_tok tx p).2.2.2).2.2.1), (ab_tok tx (ab_tok tx p).2.2.2).2.2.2) := by rw [ab_sgn, ab_if_pos ((x_kc_let v0.1 (c := 45) (by decide)).mp h_1), ab_if_pos hk2]
      have h99 := x_n99 (l1.2.2.2.2.2.2 hk2)
      exact hr _ _ _ _ dX2_readSigned_48 (Or.inr rfl) (by rw [e]; exact ⟨x_ft_tr f1 (x_ft_st (by decide) (by decide)), rfl, by rw [rs_st_eq], by rw [rs_st_nk _ _ _ (by decide)]; exact t1.2.2.2, l1.2.2.1, h99.2.1, h99.2.2⟩)
    · refine r_iconst K (v := 0) dX2_readSigned_32 (by decide) ?_
      have e : ab_sgn tx p = .inl (ab_tok tx (ab_tok tx p).2.2.2).1 := by rw [ab_sgn, ab_if_pos ((x_kc_let v0.1 (c := 45) (by decide)).mp h_1), ab_if_neg (fun q => h_3 ((x_kc_num v1.1).mpr q))]
      exact hr _ _ _ _ dX2_readSigned_33 (Or.inl rfl) (by rw [e]; exact ⟨f1, rfl, t1.1⟩)
set_option maxHeartbeats 4000000 in
set_option maxRecDepth 100000 in
theorem c_readWish (l : Launch) (g : rs_G) (t : Nat × Nat) (M : rs_M) (tx : List Int32) (htx : x_text M tx) (T : ab_T) (hT : x_pS M T) (s p : Nat) (hs : M 37 2 = nI s) (hp5 : M 37 5 = nI p) (hpl : p ≤ tx.length) : rs_Ci l g xk t yX2_readWish cX2_readWish 3 .boolean 3 [.ref (g.2.2 37), .ref (g.2.2 18)] M (fun r M1 => x_pQ M M1 tx r (ab_itW tx T s p)) := by
  have h8 := x_text_8 htx
  have hl120 := htx.2.1
  have hn12 := hT.2.1.1
  have hw17 := hT.2.2.2.2.1
  refine rs_ofz (plainFor_of_name (by decide)) (Nat.le_of_ble_eq_true rfl) ?_
  intro Y K hr
  show Y M 0 [(0, .ref (g.2.2 37)), (1, .ref (g.2.2 18))] []
  refine r_aload_n K 0 dX2_readWish_0 rfl rfl ?_
  refine r_getI K rfl rfl ff_2_wishesTold qw_113 dX2_readWish_1 ?_
  refine r_top_eq (nI T.2.2.1) hT.2.2.2.1 ?_
  refine r_bipush K (v := 17) dX2_readWish_4 (by decide) ?_
  refine r_icmp_lt K 11 dX2_readWish_6 (by decide) (fun h_1 => ?_) (fun h_1 => ?_)
  · have nh_1 : T.2.2.1 < 17 := (nf_lt rfl rfl (by omega) (by omega)).mp h_1
    refine r_aload_n K 0 dX2_readWish_11 rfl rfl ?_
    refine r_callVv K [] [] dX2_readWish_12 mf_X2_toNextToken rfl rfl qw_251 qw_253 qs_0 (c_next l g t M tx htx p hp5 hpl) rfl rfl (by decide) (Nat.le_of_ble_eq_true rfl) (fun M1 hp => ?_)
    obtain ⟨t1, f1⟩ := hp
    have x1 := x_text_ft htx f1
    have s1 := x_pS_ft hT f1
    have l1 := ab_tok_len (tx := tx) (p := p) hpl
    have v1 := ab_tok_val (tx := tx) h8 (p := p)
    refine r_aload_n K 0 dX2_readWish_15 rfl rfl ?_
    refine r_callVi K [] [] dX2_readWish_16 mf_X2_readSigned rfl rfl qw_289 qw_291 qs_7 (c_readSigned l g t M1 tx x1 p hpl t1) rfl rfl (by decide) (Nat.le_of_ble_eq_true rfl) (fun r M2 hp => ?_)
    obtain ⟨g2, hp⟩ := hp
    have x2 := x_text_ft x1 g2
    have s2 := x_pS_ft s1 g2
    rcases hq2 : ab_sgn tx p with ff | ⟨y2, e2⟩
    · rw [hq2] at hp
      obtain ⟨rfl, hf2⟩ := hp
      refine r_if_ne K 24 dX2_readWish_19 (by decide) (fun h => absurd h (by decide)) (fun _ => ?_)
      refine r_iconst K (v := 0) dX2_readWish_22 (by decide) ?_
      have e : ab_itW tx T s p = .inl ff := by rw [ab_itW, ab_if_neg (by omega), hq2, ab_itW1]
      exact hr _ _ _ _ dX2_readWish_23 (Or.inl rfl) (x_flt_ok (x_fP_tr (x_fP_ft f1) (x_fP_ft g2)) s2 e hf2)
    · rw [hq2] at hp
      obtain ⟨rfl, ha2, hb2, hc2, hd2, he2⟩ := hp
      refine r_if_ne K 24 dX2_readWish_19 (by decide) (fun _ => ?_) (fun h => absurd h (by decide))
      refine r_aload_n K 0 dX2_readWish_24 rfl rfl ?_
      refine r_getI K rfl rfl ff_2_number qw_111 dX2_readWish_25 ?_
      refine r_top_eq y2 ha2 ?_
      refine r_istore_n K [(2, .int y2), (0, .ref (g.2.2 37)), (1, .ref (g.2.2 18))] dX2_readWish_28 rfl (by decide) rfl ?_
      refine r_aload_n K 1 dX2_readWish_29 rfl rfl ?_
      refine r_callVv K [] [] dX2_readWish_30 mf_X2_toNextToken rfl rfl qw_251 qw_253 qs_0 (c_next l g t M2 tx x2 e2 hb2 hc2) rfl rfl (by decide) (Nat.le_of_ble_eq_true rfl) (fun M3 hp => ?_)
      obtain ⟨t3, f3⟩ := hp
      have x3 := x_text_ft x2 f3
      have s3 := x_pS_ft s2 f3
      have l3 := ab_tok_len (tx := tx) (p := e2) hc2
      have v3 := ab_tok_val (tx := tx) h8 (p := e2)
      refine r_aload_n K 1 dX2_readWish_33 rfl rfl ?_
      refine r_callVi K [] [] dX2_readWish_34 mf_X2_readSigned rfl rfl qw_289 qw_291 qs_7 (c_readSigned l g t M3 tx x3 e2 hc2 t3) rfl rfl (by decide) (Nat.le_of_ble_eq_true rfl) (fun r M4 hp => ?_)
      obtain ⟨g4, hp⟩ := hp
      have x4 := x_text_ft x3 g4
      have s4 := x_pS_ft s3 g4
      rcases hq4 : ab_sgn tx e2 with ff | ⟨y4, e4⟩
      · rw [hq4] at hp
        obtain ⟨rfl, hf4⟩ := hp
        refine r_if_ne K 42 dX2_readWish_37 (by decide) (fun h => absurd h (by decide)) (fun _ => ?_)
        refine r_iconst K (v := 0) dX2_readWish_40 (by decide) ?_
        have e : ab_itW tx T s p = .inl ff := by rw [ab_itW, ab_if_neg (by omega), hq2, ab_itW1, hq4, ab_itW2]
        exact hr _ _ _ _ dX2_readWish_41 (Or.inl rfl) (x_flt_ok (x_fP_tr (x_fP_tr (x_fP_ft f1) (x_fP_ft g2)) (x_fP_tr (x_fP_ft f3) (x_fP_ft g4))) s4 e hf4)
      · rw [hq4] at hp
        obtain ⟨rfl, ha4, hb4, hc4, hd4, he4⟩ := hp
        refine r_if_ne K 42 dX2_readWish_37 (by decide) (fun _ => ?_) (fun h => absurd h (by decide))
        refine r_aload_n K 1 dX2_readWish_42 rfl rfl ?_
        refine r_dup K dX2_readWish_43 rfl ?_
        refine r_getI K rfl rfl ff_2_wishesTold qw_113 dX2_readWish_44 ?_
        refine r_top_eq (nI T.2.2.1) s4.2.2.2.1 ?_
        refine r_iconst K (v := 1) dX2_readWish_47 (by decide) ?_
        refine r_iadd K dX2_readWish_48 ?_
        refine r_top_eq (nI (T.2.2.1 + 1)) (nI_1 _) ?_
        refine r_put K rfl rfl ff_2_wishesTold qw_113 rfl rfl dX2_readWish_49 ?_
        refine r_aload_n K 2 dX2_readWish_52 rfl rfl ?_
        refine r_aload_n K 1 dX2_readWish_53 rfl rfl ?_
        refine r_getI K rfl rfl ff_2_wishesTold qw_113 dX2_readWish_54 ?_
        refine r_top_eq (nI (T.2.2.1 + 1)) (by rw [rs_st_eq]) ?_
        refine r_iload_n K 0 dX2_readWish_57 rfl rfl ?_
        refine r_aload_n K 1 dX2_readWish_58 rfl rfl ?_
        refine r_getI K rfl rfl ff_2_number qw_111 dX2_readWish_59 ?_
        refine r_top_eq y4 (by rw [rs_st_nk _ _ _ (by decide)]; exact ha4) ?_
        have hLw : x_ln (rs_st M4 37 6 (nI (T.2.2.1 + 1))) 18 T.2.1 T.1 := x_ln_fr (lo := 37) (hi := 38) hn12 s4.1 (x_fr_st (by decide) (by decide)) (by omega)
        refine r_callVv K [.int (nI (T.2.2.1 + 1)), .int y2, .int y4] [] dX2_readWish_62 mf_X1_setWish (xL_0 xL18) rfl qw_293 qw_294 qw_295 (c_setWish l g t (rs_st M4 37 6 (nI (T.2.2.1 + 1))) 18 xL18 T.2.1 T.1 hLw (T.2.2.1 + 1) (by omega) (by omega) y2 y4) rfl rfl (by decide) (Nat.le_of_ble_eq_true rfl) (fun Mw hp => ?_)
        obtain ⟨hw1, hw2⟩ := hp
        have hSw : x_pS Mw (ab_setwish T.1 (T.2.2.1 + 1) y2 y4, T.2.1, T.2.2.1 + 1, T.2.2.2) := ⟨hw1, ab_ok_wish hT.2.1 (by omega) ⟨hd2, he2⟩ ⟨hd4, he4⟩, hT.2.2.1, by rw [hw2 37 (by decide), rs_st_eq], (show T.2.2.1 + 1 ≤ 17 by omega), by rw [hw2 37 (by decide), rs_st_nk _ _ _ (by decide)]; exact s4.2.2.2.2.2.1, fun i hi => by rw [hw2 39 (by decide), rs_st_ne _ _ _ (by decide)]; exact s4.2.2.2.2.2.2 i hi⟩
        refine r_aload_n K 1 dX2_readWish_65 rfl rfl ?_
        refine r_callVv K [] [] dX2_readWish_66 mf_X2_toNextToken rfl rfl qw_251 qw_253 qs_0 (c_next l g t Mw tx (x_text_fP (x_text_fP x4 (x_fP_st (M := M4) (j := 6) (v := nI (T.2.2.1 + 1)) (by decide))) (x_fP_fr hw2)) e4 (by rw [hw2 37 (by decide), rs_st_nk _ _ _ (by decide)]; exact hb4) hc4) rfl rfl (by decide) (Nat.le_of_ble_eq_true rfl) (fun M6 hp => ?_)
        obtain ⟨t6, f6⟩ := hp
        have x6 := x_text_ft (x_text_fP (x_text_fP x4 (x_fP_st (M := M4) (j := 6) (v := nI (T.2.2.1 + 1)) (by decide))) (x_fP_fr hw2)) f6
        have s6 := x_pS_ft hSw f6
        have l6 := ab_tok_len (tx := tx) (p := e4) hc4
        have v6 := ab_tok_val (tx := tx) h8 (p := e4)
        refine r_iconst K (v := 1) dX2_readWish_69 (by decide) ?_
        have e : ab_itW tx T s p = ab_fin tx (ab_setwish T.1 (T.2.2.1 + 1) y2 y4, T.2.1, T.2.2.1 + 1, T.2.2.2) e4 := by rw [ab_itW, ab_if_neg (by omega), hq2, ab_itW1, hq4, ab_itW2]
        rw [e] at hr
        exact hr _ _ _ _ dX2_readWish_70 (Or.inr rfl) (x_fin_ok h8 hc4 (x_fP_tr (x_fP_tr (x_fP_tr (x_fP_ft f1) (x_fP_ft g2)) (x_fP_tr (x_fP_ft f3) (x_fP_ft g4))) (x_fP_tr (x_fP_st (j := 6) (by decide)) (x_fP_tr (x_fP_fr hw2) (x_fP_ft f6)))) s6 t6)
  · have nh_1 : ¬ T.2.2.1 < 17 := mt (nf_lt rfl rfl (by omega) (by omega)).mpr h_1
    refine r_iconst K (v := 0) dX2_readWish_9 (by decide) ?_
    exact hr _ _ _ _ dX2_readWish_10 (Or.inl rfl) (x_flt_ok (x_fP_rf M) hT (ab_if_pos (by omega)) hs)
set_option maxHeartbeats 4000000 in
set_option maxRecDepth 100000 in
theorem c_readKey (l : Launch) (g : rs_G) (t : Nat × Nat) (M : rs_M) (tx : List Int32) (htx : x_text M tx) (T : ab_T) (hT : x_pS M T) (s p : Nat) (hs : M 37 2 = nI s) (hp5 : M 37 5 = nI p) (hpl : p ≤ tx.length) : rs_Ci l g xk t yX2_readKey cX2_readKey 2 .boolean 3 [.ref (g.2.2 37), .ref (g.2.2 18)] M (fun r M1 => x_pQ M M1 tx r (ab_itK tx T s p)) := by
  have h8 := x_text_8 htx
  have hl120 := htx.2.1
  have hn12 := hT.2.1.1
  refine rs_ofz (plainFor_of_name (by decide)) (Nat.le_of_ble_eq_true rfl) ?_
  intro Y K hr
  show Y M 0 [(0, .ref (g.2.2 37)), (1, .ref (g.2.2 18))] []
  refine r_aload_n K 1 dX2_readKey_0 rfl rfl ?_
  refine r_getI K (xL_0 xL18) rfl ff_1_rings qw_70 dX2_readKey_1 ?_
  refine r_top_eq (nI (ab_ks T.1).length) hT.1.1 ?_
  refine r_bipush K (v := 12) dX2_readKey_4 (by decide) ?_
  refine r_icmp_lt K 11 dX2_readKey_6 (by decide) (fun h_1 => ?_) (fun h_1 => ?_)
  · have nh_1 : (ab_ks T.1).length < 12 := (nf_lt rfl rfl (by omega) (by omega)).mp h_1
    refine r_aload_n K 0 dX2_readKey_11 rfl rfl ?_
    refine r_callVv K [] [] dX2_readKey_12 mf_X2_toNextToken rfl rfl qw_251 qw_253 qs_0 (c_next l g t M tx htx p hp5 hpl) rfl rfl (by decide) (Nat.le_of_ble_eq_true rfl) (fun M1 hp => ?_)
    obtain ⟨t1, f1⟩ := hp
    have x1 := x_text_ft htx f1
    have s1 := x_pS_ft hT f1
    have l1 := ab_tok_len (tx := tx) (p := p) hpl
    have v1 := ab_tok_val (tx := tx) h8 (p := p)
    refine r_aload_n K 0 dX2_readKey_15 rfl rfl ?_
    refine r_getI K rfl rfl ff_2_kind qw_110 dX2_readKey_16 ?_
    refine r_top_eq (x_kc (ab_tok tx p)) t1.2.1 ?_
    refine r_bipush K (v := (-2)) dX2_readKey_19 (by decide) ?_
    refine r_icmp_ne K 49 dX2_readKey_21 (by decide) (fun h_2 => ?_) (fun h_2 => ?_)
    · refine r_iconst K (v := 0) dX2_readKey_49 (by decide) ?_
      have e : ab_itK tx T s p = .inl (ab_tok tx p).1 := by rw [ab_itK, ab_if_neg (by omega), ab_if_neg (fun q => h_2 ((x_kc_num v1.1).mpr q.1))]
      exact hr _ _ _ _ dX2_readKey_50 (Or.inl rfl) (x_flt_ok (x_fP_ft f1) s1 e t1.1)
    · have hk1 : (ab_tok tx p).2.1 = 1 := (x_kc_num v1.1).mp h_2
      have h99 := l1.2.2.2.2.2.2 hk1
      have hn : (ab_ks T.1).length < 12 := by omega
      refine r_aload_n K 0 dX2_readKey_24 rfl rfl ?_
      refine r_getI K rfl rfl ff_2_number qw_111 dX2_readKey_25 ?_
      refine r_top_eq (nI (ab_tok tx p).2.2.1) (t1.2.2.1 hk1) ?_
      refine r_callNi K [.int (nI (ab_tok tx p).2.2.1)] [] dX2_readKey_28 mf_X5_isKey (by decide) qw_303 (c_isKey l g xk t M1 (nI (ab_tok tx p).2.2.1)) rfl rfl (by decide) (Nat.le_of_ble_eq_true rfl) (fun r M1 hp => ?_)
      obtain ⟨hp, he⟩ := hp
      have he := he.symm
      subst he
      rcases hp with ⟨rfl, hb_3⟩ | ⟨rfl, hb_3⟩
      · refine r_if_eq K 49 dX2_readKey_31 (by decide) (fun h => absurd h (by decide)) (fun _ => ?_)
        have hv1 : (ab_tok tx p).2.2.1 < 8 := by have := (nf_le (X := (ab_tok tx p).2.2.1) (Y := 7) rfl rfl (by omega) (by decide)).mp hb_3.2; omega
        refine r_aload_n K 1 dX2_readKey_34 rfl rfl ?_
        refine r_aload_n K 1 dX2_readKey_35 rfl rfl ?_
        refine r_callVr K [] [.ref (g.2.2 18)] dX2_readKey_36 mf_X1_last (xL_0 xL18) rfl qw_305 qw_306 qw_307 (c_Line_last l g t M1 18 xL18 (ab_ks T.1).length hn12 s1.1.1) rfl rfl (by decide) (Nat.le_of_ble_eq_true rfl) (fun r M9 hp => ?_)
        obtain ⟨hp, he⟩ := hp
        have he := he.symm
        subst he
        subst hp
        refine r_aload_n K 0 dX2_readKey_39 rfl rfl ?_
        refine r_getI K rfl rfl ff_2_number qw_111 dX2_readKey_40 ?_
        refine r_top_eq (nI (ab_tok tx p).2.2.1) (t1.2.2.1 hk1) ?_
        refine r_callVi K [.ref (g.2.2 (18 + 4 + (ab_ks T.1).length)), .int (nI (ab_tok tx p).2.2.1)] [] dX2_readKey_43 mf_X1_mayFollow (xL_0 xL18) rfl qw_309 qw_310 qw_311 (c_mayFollow l g t M1 18 xL18 T.2.1 T.1 s1.2.1 s1.1.2.2 (18 + 4 + (ab_ks T.1).length) (xL_s xL18 (by omega)) (ab_ks T.1) (by omega) (x_ln_last s1.1) (ab_tok tx p).2.2.1 hv1 s1.2.1.2.1) rfl rfl (by decide) (Nat.le_of_ble_eq_true rfl) (fun r M1 hp => ?_)
        obtain ⟨hp, he⟩ := hp
        have he := he.symm
        subst he
        rcases hp with ⟨rfl, hb_4⟩ | ⟨rfl, hb_4⟩
        · refine r_if_ne K 51 dX2_readKey_46 (by decide) (fun _ => ?_) (fun h => absurd h (by decide))
          refine r_aload_n K 1 dX2_readKey_51 rfl rfl ?_
          refine r_aload_n K 0 dX2_readKey_52 rfl rfl ?_
          refine r_getI K rfl rfl ff_2_number qw_111 dX2_readKey_53 ?_
          refine r_top_eq (nI (ab_tok tx p).2.2.1) (t1.2.2.1 hk1) ?_
          refine r_callVv K [.int (nI (ab_tok tx p).2.2.1)] [] dX2_readKey_56 mf_X1_build (xL_0 xL18) rfl qw_337 qw_338 qw_339 (c_build l g t M1 18 xL18 T.2.1 T.1 s1.1 hn (ab_tok tx p).2.2.1 hv1) rfl rfl (by decide) (Nat.le_of_ble_eq_true rfl) (fun Mb hp => ?_)
          obtain ⟨hb1, hb2⟩ := hp
          refine r_aload_n K 0 dX2_readKey_59 rfl rfl ?_
          refine r_callVv K [] [] dX2_readKey_60 mf_X2_toNextToken rfl rfl qw_251 qw_253 qs_0 (c_next l g t Mb tx (x_text_fP x1 (x_fP_fr hb2)) ((ab_tok tx p).2.2.2) (by rw [hb2 37 (by decide)]; exact t1.2.2.2) l1.2.2.1) rfl rfl (by decide) (Nat.le_of_ble_eq_true rfl) (fun M3 hp => ?_)
          obtain ⟨t3, f3⟩ := hp
          have x3 := x_text_ft (x_text_fP x1 (x_fP_fr hb2)) f3
          have s3 := x_pS_ft (x_ln_pS s1 hb1 (ab_ok_build hT.2.1 hn hv1) hb2) f3
          have l3 := ab_tok_len (tx := tx) (p := (ab_tok tx p).2.2.2) l1.2.2.1
          have v3 := ab_tok_val (tx := tx) h8 (p := (ab_tok tx p).2.2.2)
          refine r_iconst K (v := 1) dX2_readKey_63 (by decide) ?_
          have e : ab_itK tx T s p = ab_fin tx (ab_build T.1 (ab_tok tx p).2.2.1, T.2) (ab_tok tx p).2.2.2 := by rw [ab_itK, ab_if_neg (by omega), ab_if_pos ⟨hk1, by omega, hb_4⟩]
          rw [e] at hr
          exact hr _ _ _ _ dX2_readKey_64 (Or.inr rfl) (x_fin_ok h8 l1.2.2.1 (x_fP_tr (x_fP_ft f1) (x_fP_tr (x_fP_fr hb2) (x_fP_ft f3))) s3 t3)
        · refine r_if_ne K 51 dX2_readKey_46 (by decide) (fun h => absurd h (by decide)) (fun _ => ?_)
          refine r_iconst K (v := 0) dX2_readKey_49 (by decide) ?_
          have e : ab_itK tx T s p = .inl (ab_tok tx p).1 := by rw [ab_itK, ab_if_neg (by omega), ab_if_neg (fun q => hb_4 q.2.2)]
          exact hr _ _ _ _ dX2_readKey_50 (Or.inl rfl) (x_flt_ok (x_fP_ft f1) s1 e t1.1)
      · refine r_if_eq K 49 dX2_readKey_31 (by decide) (fun _ => ?_) (fun h => absurd h (by decide))
        refine r_iconst K (v := 0) dX2_readKey_49 (by decide) ?_
        have e : ab_itK tx T s p = .inl (ab_tok tx p).1 := by rw [ab_itK, ab_if_neg (by omega), ab_if_neg (fun q => hb_3 ⟨nI_pos' (by omega), (nf_le (X := (ab_tok tx p).2.2.1) (Y := 7) rfl rfl (by omega) (by decide)).mpr q.2.1⟩)]
        exact hr _ _ _ _ dX2_readKey_50 (Or.inl rfl) (x_flt_ok (x_fP_ft f1) s1 e t1.1)
  · have nh_1 : ¬ (ab_ks T.1).length < 12 := mt (nf_lt rfl rfl (by omega) (by omega)).mpr h_1
    refine r_iconst K (v := 0) dX2_readKey_9 (by decide) ?_
    exact hr _ _ _ _ dX2_readKey_10 (Or.inl rfl) (x_flt_ok (x_fP_rf M) hT (ab_if_pos (by omega)) hs)
theorem x_pQ_01 {M M1 : rs_M} {tx : List Int32} {r : Int32} {R : ab_E} (h : x_pQ M M1 tx r R) : r = 0 ∨ r = 1 := by
  obtain ⟨-, -, h⟩ := h
  cases R with
  | inl f => exact h.elim (fun q => Or.inl q.1) (fun q => Or.inr q.1)
  | inr q => exact Or.inr h.1
set_option maxHeartbeats 4000000 in
set_option maxRecDepth 100000 in
theorem c_readItem (l : Launch) (g : rs_G) (t : Nat × Nat) (M : rs_M) (tx : List Int32) (htx : x_text M tx) (T : ab_T) (hT : x_pS M T) (p0 : Nat) (hpl : p0 ≤ tx.length) (ht : x_tok M (ab_tok tx p0)) : rs_Ci l g xk t yX2_readItem cX2_readItem 2 .boolean 4 [.ref (g.2.2 37), .ref (g.2.2 18)] M (fun r M1 => x_pQ M M1 tx r (ab_item tx T (ab_tok tx p0))) := by
  have h8 := x_text_8 htx
  have l0 := ab_tok_len (tx := tx) (p := p0) hpl
  have v0 := ab_tok_val (tx := tx) h8 (p := p0)
  refine rs_ofz (plainFor_of_name (by decide)) (Nat.le_of_ble_eq_true rfl) ?_
  intro Y K hr
  show Y M 0 [(0, .ref (g.2.2 37)), (1, .ref (g.2.2 18))] []
  refine r_aload_n K 0 dX2_readItem_0 rfl rfl ?_
  refine r_getI K rfl rfl ff_2_kind qw_110 dX2_readItem_1 ?_
  refine r_top_eq (x_kc (ab_tok tx p0)) ht.2.1 ?_
  refine r_lookup K [(98, 70), (106, 77), (107, 97), (109, 84), (116, 64), (119, 91)] 103 dX2_readItem_4 (by decide) (by decide) (by decide) ?_
  simp only [rs_swp]
  refine ⟨fun h_1_0 => ?_, fun h_1_0 => ⟨fun h_1_1 => ?_, fun h_1_1 => ⟨fun h_1_2 => ?_, fun h_1_2 => ⟨fun h_1_3 => ?_, fun h_1_3 => ⟨fun h_1_4 => ?_, fun h_1_4 => ⟨fun h_1_5 => ?_, fun h_1_5 => ?_⟩⟩⟩⟩⟩⟩
  · refine r_aload_n K 0 dX2_readItem_70 rfl rfl ?_
    refine r_aload_n K 1 dX2_readItem_71 rfl rfl ?_
    refine r_iconst K (v := 0) dX2_readItem_72 (by decide) ?_
    refine r_callVi K [.ref (g.2.2 18), .int 0] [] dX2_readItem_73 mf_X2_readRule rfl rfl qw_274 qw_276 qs_5 (c_readRule l g t M tx htx T hT (ab_tok tx p0).1 (ab_tok tx p0).2.2.2 ht.1 ht.2.2.2 l0.2.2.1 0 (by decide)) rfl rfl (by decide) (Nat.le_of_ble_eq_true rfl) (fun r M1 hp => ?_)
    have hz := (x_kc_let v0.1 (c := 98) (by decide)).mp h_1_0
    have e : ab_item tx T (ab_tok tx p0) = ab_once tx T 0 0 3 (ab_tok tx p0).1 (ab_tok tx p0).2.2.2 := by rw [ab_item, if_neg (fun q => q hz.1), if_neg (by omega), if_pos hz.2]
    exact hr _ _ _ _ dX2_readItem_76 (x_pQ_01 hp) (by rw [e]; exact hp)
  · refine r_aload_n K 0 dX2_readItem_77 rfl rfl ?_
    refine r_aload_n K 1 dX2_readItem_78 rfl rfl ?_
    refine r_iconst K (v := 1) dX2_readItem_79 (by decide) ?_
    refine r_callVi K [.ref (g.2.2 18), .int 1] [] dX2_readItem_80 mf_X2_readRule rfl rfl qw_274 qw_276 qs_5 (c_readRule l g t M tx htx T hT (ab_tok tx p0).1 (ab_tok tx p0).2.2.2 ht.1 ht.2.2.2 l0.2.2.1 1 (by decide)) rfl rfl (by decide) (Nat.le_of_ble_eq_true rfl) (fun r M1 hp => ?_)
    have hz := (x_kc_let v0.1 (c := 106) (by decide)).mp h_1_1
    have e : ab_item tx T (ab_tok tx p0) = ab_once tx T 1 0 2 (ab_tok tx p0).1 (ab_tok tx p0).2.2.2 := by rw [ab_item, if_neg (fun q => q hz.1), if_neg (by omega), if_neg (by omega), if_pos hz.2]
    exact hr _ _ _ _ dX2_readItem_83 (x_pQ_01 hp) (by rw [e]; exact hp)
  · refine r_aload_n K 0 dX2_readItem_97 rfl rfl ?_
    refine r_aload_n K 1 dX2_readItem_98 rfl rfl ?_
    refine r_callVi K [.ref (g.2.2 18)] [] dX2_readItem_99 mf_X2_readKey rfl rfl qw_298 qw_300 qs_8 (c_readKey l g t M tx htx T hT (ab_tok tx p0).1 (ab_tok tx p0).2.2.2 ht.1 ht.2.2.2 l0.2.2.1) rfl rfl (by decide) (Nat.le_of_ble_eq_true rfl) (fun r M1 hp => ?_)
    have hz := (x_kc_let v0.1 (c := 107) (by decide)).mp h_1_2
    have e : ab_item tx T (ab_tok tx p0) = ab_itK tx T (ab_tok tx p0).1 (ab_tok tx p0).2.2.2 := by rw [ab_item, if_neg (fun q => q hz.1), if_neg (by omega), if_neg (by omega), if_neg (by omega), if_neg (by omega), if_neg (by omega), if_pos hz.2]
    exact hr _ _ _ _ dX2_readItem_102 (x_pQ_01 hp) (by rw [e]; exact hp)
  · refine r_aload_n K 0 dX2_readItem_84 rfl rfl ?_
    refine r_aload_n K 1 dX2_readItem_85 rfl rfl ?_
    refine r_iconst K (v := 2) dX2_readItem_86 (by decide) ?_
    refine r_callVi K [.ref (g.2.2 18), .int 2] [] dX2_readItem_87 mf_X2_readRule rfl rfl qw_274 qw_276 qs_5 (c_readRule l g t M tx htx T hT (ab_tok tx p0).1 (ab_tok tx p0).2.2.2 ht.1 ht.2.2.2 l0.2.2.1 2 (by decide)) rfl rfl (by decide) (Nat.le_of_ble_eq_true rfl) (fun r M1 hp => ?_)
    have hz := (x_kc_let v0.1 (c := 109) (by decide)).mp h_1_3
    have e : ab_item tx T (ab_tok tx p0) = ab_once tx T 2 0 20 (ab_tok tx p0).1 (ab_tok tx p0).2.2.2 := by rw [ab_item, if_neg (fun q => q hz.1), if_neg (by omega), if_neg (by omega), if_neg (by omega), if_pos hz.2]
    exact hr _ _ _ _ dX2_readItem_90 (x_pQ_01 hp) (by rw [e]; exact hp)
  · refine r_aload_n K 0 dX2_readItem_64 rfl rfl ?_
    refine r_aload_n K 1 dX2_readItem_65 rfl rfl ?_
    refine r_callVi K [.ref (g.2.2 18)] [] dX2_readItem_66 mf_X2_readTaper rfl rfl qw_270 qw_272 qs_4 (c_readTaper l g t M tx htx T hT (ab_tok tx p0).1 (ab_tok tx p0).2.2.2 ht.1 ht.2.2.2 l0.2.2.1) rfl rfl (by decide) (Nat.le_of_ble_eq_true rfl) (fun r M1 hp => ?_)
    have hz := (x_kc_let v0.1 (c := 116) (by decide)).mp h_1_4
    have e : ab_item tx T (ab_tok tx p0) = ab_once tx T 3 1 3 (ab_tok tx p0).1 (ab_tok tx p0).2.2.2 := by rw [ab_item, if_neg (fun q => q hz.1), if_pos hz.2]
    exact hr _ _ _ _ dX2_readItem_69 (x_pQ_01 hp) (by rw [e]; exact hp)
  · refine r_aload_n K 0 dX2_readItem_91 rfl rfl ?_
    refine r_aload_n K 1 dX2_readItem_92 rfl rfl ?_
    refine r_callVi K [.ref (g.2.2 18)] [] dX2_readItem_93 mf_X2_readWish rfl rfl qw_285 qw_287 qs_6 (c_readWish l g t M tx htx T hT (ab_tok tx p0).1 (ab_tok tx p0).2.2.2 ht.1 ht.2.2.2 l0.2.2.1) rfl rfl (by decide) (Nat.le_of_ble_eq_true rfl) (fun r M1 hp => ?_)
    have hz := (x_kc_let v0.1 (c := 119) (by decide)).mp h_1_5
    have e : ab_item tx T (ab_tok tx p0) = ab_itW tx T (ab_tok tx p0).1 (ab_tok tx p0).2.2.2 := by rw [ab_item, if_neg (fun q => q hz.1), if_neg (by omega), if_neg (by omega), if_neg (by omega), if_neg (by omega), if_pos hz.2]
    exact hr _ _ _ _ dX2_readItem_96 (x_pQ_01 hp) (by rw [e]; exact hp)
  · refine r_iconst K (v := 0) dX2_readItem_103 (by decide) ?_
    have e : ab_item tx T (ab_tok tx p0) = .inl (ab_tok tx p0).1 := by
      unfold ab_item
      by_cases h2 : (ab_tok tx p0).2.1 = 2
      · rw [if_neg (fun q => q h2), if_neg (fun q => h_1_4 ((x_kc_let v0.1 (c := 116) (by decide)).mpr ⟨h2, q⟩)), if_neg (fun q => h_1_0 ((x_kc_let v0.1 (c := 98) (by decide)).mpr ⟨h2, q⟩)), if_neg (fun q => h_1_1 ((x_kc_let v0.1 (c := 106) (by decide)).mpr ⟨h2, q⟩)), if_neg (fun q => h_1_3 ((x_kc_let v0.1 (c := 109) (by decide)).mpr ⟨h2, q⟩)), if_neg (fun q => h_1_5 ((x_kc_let v0.1 (c := 119) (by decide)).mpr ⟨h2, q⟩)), if_neg (fun q => h_1_2 ((x_kc_let v0.1 (c := 107) (by decide)).mpr ⟨h2, q⟩))]
      · rw [if_pos h2]
    exact hr _ _ _ _ dX2_readItem_104 (Or.inl rfl) (x_flt_ok (x_fP_rf M) hT e ht.1)
