/-! the reference reads -/
def m_pS (M : rs_M) (T : ab_T) : Prop := m_row (M 13) T.1 ∧ ab_ok T.1 ∧ ab_tp T.2.1 ∧ M 0 23 = T.2.1 ∧ M 0 24 = nI T.2.2.1 ∧ T.2.2.1 ≤ 17 ∧ ∃ b, b < 16 ∧ M 0 22 = nI b ∧ ∀ w, w < 4 → (b / 2 ^ w % 2 = 1 ↔ T.2.2.2 w = true)
theorem m_pS_fr {M M1 : rs_M} {T : ab_T} (h : m_pS M T) (e13 : M1 13 = M 13) (e : ∀ j, 22 ≤ j → j ≤ 24 → M1 0 j = M 0 j) : m_pS M1 T := by
  obtain ⟨h1, h2, h3, h4, h5, h6, b, b1, b2, b3⟩ := h
  exact ⟨by rw [e13]; exact h1, h2, h3, by rw [e 23 (by decide) (by decide)]; exact h4, by rw [e 24 (by decide) (by decide)]; exact h5, h6, b, b1, by rw [e 22 (by decide) (by decide)]; exact b2, b3⟩
theorem m_pS_ft {M M1 : rs_M} {T : ab_T} (h : m_pS M T) (hf : m_ft M M1) : m_pS M1 T := m_pS_fr h (hf.1 13 (by decide)) (fun j _ _ => hf.2 j (by omega))
def m_pQ (M M1 : rs_M) (tx : List Int32) (r : Int32) (R : ab_E) : Prop := m_k M M1 ∧ match R with
  | .inl f => r = 0 ∧ M1 0 21 = nI f
  | .inr (T, q) => r = 1 ∧ M1 0 17 = nI q ∧ q ≤ tx.length ∧ m_pS M1 T
theorem m_pQ_inl {M M1 : rs_M} {tx : List Int32} {R : ab_E} {f : Nat} (hk : m_k M M1) (hR : R = .inl f) (h : M1 0 21 = nI f) : m_pQ M M1 tx 0 R := by rw [hR]; exact ⟨hk, rfl, h⟩
theorem m_pQ_mono {M0 M M1 : rs_M} {tx : List Int32} {r : Int32} {R : ab_E} (hk : m_k M0 M) (h : m_pQ M M1 tx r R) : m_pQ M0 M1 tx r R := ⟨m_k_tr hk h.1, h.2⟩
theorem m_pQ_01 {M M1 : rs_M} {tx : List Int32} {r : Int32} {R : ab_E} (h : m_pQ M M1 tx r R) : r = 0 ∨ r = 1 := by
  obtain ⟨-, h⟩ := h
  rcases R with f | ⟨T, q⟩
  · exact Or.inl h.1
  · exact Or.inr h.1
def m_sQ (M M1 : rs_M) (tx : List Int32) (r : Int32) (R : Nat ⊕ (Int32 × Nat)) : Prop := m_ft M M1 ∧ match R with
  | .inl f => r = 0 ∧ M1 0 21 = nI f
  | .inr (x, e) => r = 1 ∧ M1 0 20 = x ∧ M1 0 17 = nI e ∧ e ≤ tx.length ∧ -99 ≤ x.toInt ∧ x.toInt ≤ 99
theorem m_sQ_01 {M M1 : rs_M} {tx : List Int32} {r : Int32} {R : Nat ⊕ (Int32 × Nat)} (h : m_sQ M M1 tx r R) : r = 0 ∨ r = 1 := by
  obtain ⟨-, h⟩ := h
  rcases R with f | ⟨x, e⟩
  · exact Or.inl h.1
  · exact Or.inr h.1
theorem x_or : ∀ b, b < 16 → ∀ w, w < 4 → nI b ||| ((1 : Int32) <<< (nI w &&& 31)) = nI (b ||| 2 ^ w) ∧ b ||| 2 ^ w < 16 ∧ ∀ v, v < 4 → ((b ||| 2 ^ w) / 2 ^ v % 2 = 1 ↔ (v = w ∨ b / 2 ^ v % 2 = 1)) := by decide
theorem ab_told_iff {f : Nat → Bool} {w v : Nat} : ab_told f w v = true ↔ (v = w ∨ f v = true) := by
  unfold ab_told
  by_cases e : v = w
  · rw [if_pos e]; exact ⟨fun _ => Or.inl e, fun _ => rfl⟩
  · rw [if_neg e]; exact ⟨fun q => Or.inr q, fun q => q.elim (fun q => absurd q e) id⟩
theorem m_once3 {M Mn : rs_M} {T : ab_T} {b v : Nat} (h : m_pS M T) (e13 : Mn 13 = M 13) (e24 : Mn 0 24 = M 0 24) (hb : b < 16) (hbw : ∀ w, w < 4 → (b / 2 ^ w % 2 = 1 ↔ T.2.2.2 w = true)) (e22 : Mn 0 22 = nI (b ||| 2 ^ 3)) (h1 : 1 ≤ v) (h3 : v ≤ 3) : m_pS (rs_st Mn 0 23 (nI v)) (ab_setT T 3 v) := by
  obtain ⟨g1, g2, g3, g4, g5, g6, -⟩ := h
  have hx := x_or b hb 3 (by decide)
  rw [ab_setT, if_pos rfl]
  refine ⟨by rw [rs_st_ne _ _ _ (by decide), e13]; exact g1, g2, ?_, by rw [rs_st_eq], by rw [rs_st_nk _ _ _ (by decide), e24]; exact g5, g6, b ||| 2 ^ 3, hx.2.1, by rw [rs_st_nk _ _ _ (by decide)]; exact e22, fun w hw => ?_⟩
  · rcases (show v = 1 ∨ v = 2 ∨ v = 3 by omega) with rfl | rfl | rfl
    · exact Or.inl rfl
    · exact Or.inr (Or.inl rfl)
    · exact Or.inr (Or.inr rfl)
  · rw [hx.2.2 w hw, ab_told_iff, hbw w hw]
theorem m_onceR {M Mn : rs_M} {T : ab_T} {b w v : Nat} (h : m_pS M T) (e13 : Mn 13 = M 13) (e23 : Mn 0 23 = M 0 23) (e24 : Mn 0 24 = M 0 24) (hb : b < 16) (hbw : ∀ w, w < 4 → (b / 2 ^ w % 2 = 1 ↔ T.2.2.2 w = true)) (e22 : Mn 0 22 = nI (b ||| 2 ^ w)) (hw : w < 3) (hv : v ≤ ab_rhi w) : m_pS (rs_st Mn 13 w (nI v)) (ab_setT T w v) := by
  obtain ⟨g1, g2, g3, g4, g5, g6, -⟩ := h
  have hx := x_or b hb w (by omega)
  rw [ab_setT, if_neg (by omega)]
  refine ⟨by rw [rs_st_row, e13]; exact m_row_rule g1 (by omega) v, ab_ok_rule g2 (ab_rhi_lim hw hv), g3, by rw [rs_st_ne _ _ _ (by decide), e23]; exact g4, by rw [rs_st_ne _ _ _ (by decide), e24]; exact g5, g6, b ||| 2 ^ w, hx.2.1, by rw [rs_st_ne _ _ _ (by decide)]; exact e22, fun q hq => ?_⟩
  rw [hx.2.2 q hq, ab_told_iff, hbw q hq]
theorem ab_tok_1 (tx : List Int32) (p : Nat) : (ab_tok tx p).1 = ab_bl tx (tx.length - p) p := by
  unfold ab_tok
  generalize ab_bl tx (tx.length - p) p = s
  generalize ab_de tx (tx.length - s) s = e
  unfold ab_tokat
  by_cases a : s < tx.length
  · rw [ab_if_pos a]
    by_cases b : s < e
    · rw [ab_if_pos b]
      by_cases c : e = s + 1
      · rw [ab_if_pos c]
      · rw [ab_if_neg c]
        by_cases d : e = s + 2 ∧ ¬ ab_ch tx s = 48
        · rw [ab_if_pos d]
        · rw [ab_if_neg d]
    · rw [ab_if_neg b]
      by_cases c : ab_let (ab_ch tx s)
      · rw [ab_if_pos c]
      · rw [ab_if_neg c]
  · rw [ab_if_neg a]
set_option maxHeartbeats 4000000 in
set_option maxRecDepth 100000 in
theorem cm_number (l : Launch) (g : rs_G) (t : Nat × Nat) (M : rs_M) (tx : List Int32) (htx : m_text M tx) (p : Nat) (hp : M 0 17 = nI p) (hpl : p ≤ tx.length) (lo hi : Nat) (hlo : lo ≤ 99) (hhi : hi ≤ 99) : rs_Ci l g mk t yX6_number cX6_number 3 .boolean 3 [.ref (g.2.2 0), .int (nI lo), .int (nI hi)] M (fun r M1 => (r = 1 ∧ ((ab_tok tx p).2.1 = 1 ∧ lo ≤ (ab_tok tx p).2.2.1 ∧ (ab_tok tx p).2.2.1 ≤ hi) ∧ m_tok M1 (ab_tok tx p) ∧ m_ft M M1) ∨ (r = 0 ∧ ¬ ((ab_tok tx p).2.1 = 1 ∧ lo ≤ (ab_tok tx p).2.2.1 ∧ (ab_tok tx p).2.2.1 ≤ hi) ∧ M1 0 21 = nI (ab_tok tx p).1 ∧ m_ft M M1)) := by
  have h8 := m_text_8 htx
  have hl120 := htx.2.1
  refine rs_ofz (plainFor_of_name (by decide)) (Nat.le_of_ble_eq_true rfl) ?_
  intro Y K hr
  show Y M 0 [(0, .ref (g.2.2 0)), (1, .int (nI lo)), (2, .int (nI hi))] []
  refine r_aload_n K 0 dX6_number_0 rfl rfl ?_
  refine r_callVv K [] [] dX6_number_1 mf_X6_next rfl rfl qw_655 qw_657 qs_20 (cm_next l g t M tx htx p hp hpl) rfl rfl (by decide) (Nat.le_of_ble_eq_true rfl) (fun Mn hp9 => ?_)
  obtain ⟨hn1, hn2⟩ := hp9
  refine r_aload_n K 0 dX6_number_4 rfl rfl ?_
  refine r_getI K rfl rfl ff_6_token qw_563 dX6_number_5 ?_
  refine r_top_eq (m_kc (ab_tok tx p)) hn1.2.1 ?_
  refine r_if_ne K 23 dX6_number_8 (by decide) (fun h_1 => ?_) (fun h_1 => ?_)
  · refine r_aload_n K 0 dX6_number_23 rfl rfl ?_
    refine r_callVi K [] [] dX6_number_24 mf_X6_fails rfl rfl qw_673 qw_675 qs_23 (cm_fails l g t Mn ((ab_tok tx p).1) hn1.1) rfl rfl (by decide) (Nat.le_of_ble_eq_true rfl) (fun r9 M9 hp9 => ?_)
    obtain ⟨hz1, hz2⟩ := hp9
    subst hz1
    subst hz2
    refine r_if_eq K 34 dX6_number_27 (by decide) (fun _ => ?_) (fun h => absurd h (by decide))
    refine r_iconst K (v := 0) dX6_number_34 (by decide) ?_
    exact hr _ _ _ _ dX6_number_35 (Or.inl rfl) (Or.inr ⟨rfl, fun q => h_1 ((m_kc_num (ab_tok_v h8)).mpr q.1), by rw [rs_st_eq], m_ft_tr hn2 (m_ft_st (by decide) (by decide))⟩)
  · have hnum := (m_kc_num (ab_tok_v h8)).mp h_1
    have h99 := (ab_tok_len hpl).2.2.2.2.2.2 hnum
    refine r_aload_n K 0 dX6_number_11 rfl rfl ?_
    refine r_getI K rfl rfl ff_6_value qw_564 dX6_number_12 ?_
    refine r_top_eq (nI (ab_tok tx p).2.2.1) (hn1.2.2.1 hnum) ?_
    refine r_iload_n K 1 dX6_number_15 rfl rfl ?_
    refine r_iload_n K 2 dX6_number_16 rfl rfl ?_
    refine r_callSi K [.int (nI (ab_tok tx p).2.2.1), .int (nI lo), .int (nI hi)] [] dX6_number_17 mf_X6_in qw_636 qw_637 (cm_in l g t Mn (nI (ab_tok tx p).2.2.1) (nI lo) (nI hi)) rfl rfl (by decide) (Nat.le_of_ble_eq_true rfl) (fun r M1 hp => ?_)
    obtain ⟨hp, he⟩ := hp
    have he := he.symm
    subst he
    rcases hp with ⟨rfl, hb_2⟩ | ⟨rfl, hb_2⟩
    · refine r_if_ne K 30 dX6_number_20 (by decide) (fun _ => ?_) (fun h => absurd h (by decide))
      refine r_iconst K (v := 1) dX6_number_30 (by decide) ?_
      refine r_goto K 35 dX6_number_31 (by decide) ?_
      exact hr _ _ _ _ dX6_number_35 (Or.inr rfl) (Or.inl ⟨rfl, ⟨hnum, (nf_le (X := lo) (Y := (ab_tok tx p).2.2.1) rfl rfl (by omega) (by omega)).mp hb_2.1, (nf_le (X := (ab_tok tx p).2.2.1) (Y := hi) rfl rfl (by omega) (by omega)).mp hb_2.2⟩, hn1, hn2⟩)
    · refine r_if_ne K 30 dX6_number_20 (by decide) (fun h => absurd h (by decide)) (fun _ => ?_)
      refine r_aload_n K 0 dX6_number_23 rfl rfl ?_
      refine r_callVi K [] [] dX6_number_24 mf_X6_fails rfl rfl qw_673 qw_675 qs_23 (cm_fails l g t Mn ((ab_tok tx p).1) hn1.1) rfl rfl (by decide) (Nat.le_of_ble_eq_true rfl) (fun r9 M9 hp9 => ?_)
      obtain ⟨hz1, hz2⟩ := hp9
      subst hz1
      subst hz2
      refine r_if_eq K 34 dX6_number_27 (by decide) (fun _ => ?_) (fun h => absurd h (by decide))
      refine r_iconst K (v := 0) dX6_number_34 (by decide) ?_
      exact hr _ _ _ _ dX6_number_35 (Or.inl rfl) (Or.inr ⟨rfl, fun q => hb_2 ⟨(nf_le (X := lo) (Y := (ab_tok tx p).2.2.1) rfl rfl (by omega) (by omega)).mpr q.2.1, (nf_le (X := (ab_tok tx p).2.2.1) (Y := hi) rfl rfl (by omega) (by omega)).mpr q.2.2⟩, by rw [rs_st_eq], m_ft_tr hn2 (m_ft_st (by decide) (by decide))⟩)
set_option maxHeartbeats 4000000 in
set_option maxRecDepth 100000 in
theorem cm_ends (l : Launch) (g : rs_G) (t : Nat × Nat) (M : rs_M) (tx : List Int32) (htx : m_text M tx) (p : Nat) (hp : M 0 17 = nI p) (hpl : p ≤ tx.length) (T : ab_T) (hT : m_pS M T) : rs_Ci l g mk t yX6_ends cX6_ends 1 .boolean 3 [.ref (g.2.2 0)] M (fun r M1 => m_pQ M M1 tx r (ab_fin tx T p) ∧ m_ft M M1) := by
  have h8 := m_text_8 htx
  have hl120 := htx.2.1
  refine rs_ofz (plainFor_of_name (by decide)) (Nat.le_of_ble_eq_true rfl) ?_
  intro Y K hr
  show Y M 0 [(0, .ref (g.2.2 0))] []
  refine r_aload_n K 0 dX6_ends_0 rfl rfl ?_
  refine r_callVv K [] [] dX6_ends_1 mf_X6_next rfl rfl qw_655 qw_657 qs_20 (cm_next l g t M tx htx p hp hpl) rfl rfl (by decide) (Nat.le_of_ble_eq_true rfl) (fun Mn hp9 => ?_)
  obtain ⟨hn1, hn2⟩ := hp9
  refine r_aload_n K 0 dX6_ends_4 rfl rfl ?_
  refine r_getI K rfl rfl ff_6_token qw_563 dX6_ends_5 ?_
  refine r_top_eq (m_kc (ab_tok tx p)) hn1.2.1 ?_
  refine r_bipush K (v := 59) dX6_ends_8 (by decide) ?_
  refine r_icmp_eq K 20 dX6_ends_10 (by decide) (fun h_1 => ?_) (fun h_1 => ?_)
  · refine r_iconst K (v := 1) dX6_ends_20 (by decide) ?_
    refine r_goto K 25 dX6_ends_21 (by decide) ?_
    have hl := ab_tok_len hpl
    exact hr _ _ _ _ dX6_ends_25 (Or.inr rfl) (by rw [ab_fin, ab_if_pos ((m_kc_let (c := 59) (ab_tok_v h8) (by decide) (by decide)).mp h_1)]; exact ⟨⟨m_k_ft hn2, rfl, hn1.2.2.2, hl.2.2.1, m_pS_ft hT hn2⟩, hn2⟩)
  · refine r_aload_n K 0 dX6_ends_13 rfl rfl ?_
    refine r_callVi K [] [] dX6_ends_14 mf_X6_fails rfl rfl qw_673 qw_675 qs_23 (cm_fails l g t Mn ((ab_tok tx p).1) hn1.1) rfl rfl (by decide) (Nat.le_of_ble_eq_true rfl) (fun r9 M9 hp9 => ?_)
    obtain ⟨hz1, hz2⟩ := hp9
    subst hz1
    subst hz2
    refine r_if_eq K 24 dX6_ends_17 (by decide) (fun _ => ?_) (fun h => absurd h (by decide))
    refine r_iconst K (v := 0) dX6_ends_24 (by decide) ?_
    exact hr _ _ _ _ dX6_ends_25 (Or.inl rfl) ⟨m_pQ_inl (m_k_tr (m_k_ft hn2) (m_k_st (by decide))) (by rw [ab_fin, ab_if_neg (fun q => h_1 ((m_kc_let (c := 59) (ab_tok_v h8) (by decide) (by decide)).mpr q))]) (by rw [rs_st_eq]), m_ft_tr hn2 (m_ft_st (by decide) (by decide))⟩
set_option maxHeartbeats 4000000 in
set_option maxRecDepth 100000 in
theorem cm_readsOnce (l : Launch) (g : rs_G) (t : Nat × Nat) (M : rs_M) (tx : List Int32) (htx : m_text M tx) (p : Nat) (hp : M 0 17 = nI p) (hpl : p ≤ tx.length) (T : ab_T) (hT : m_pS M T) (s : Nat) (hs : M 0 18 = nI s) (w lo hi : Nat) (hw : w < 4) (hlo : lo ≤ 99) (hhi : hi ≤ 99) (hq3 : w = 3 → ∀ v, lo ≤ v → v ≤ hi → 1 ≤ v ∧ v ≤ 3) (hqr : w < 3 → ∀ v, v ≤ hi → v ≤ ab_rhi w) : rs_Ci l g mk t yX6_readsOnce cX6_readsOnce 4 .boolean 4 [.ref (g.2.2 0), .int (nI w), .int (nI lo), .int (nI hi)] M (fun r M1 => m_pQ M M1 tx r (ab_once tx T w lo hi s p)) := by
  have h8 := m_text_8 htx
  have hl120 := htx.2.1
  have hn12 := hT.2.1.1
  obtain ⟨b, hb1, hb2, hb3⟩ := hT.2.2.2.2.2.2
  refine rs_ofz (plainFor_of_name (by decide)) (Nat.le_of_ble_eq_true rfl) ?_
  intro Y K hr
  show Y M 0 [(0, .ref (g.2.2 0)), (1, .int (nI w)), (2, .int (nI lo)), (3, .int (nI hi))] []
  refine r_aload_n K 0 dX6_readsOnce_0 rfl rfl ?_
  refine r_getI K rfl rfl ff_6_readOnce qw_566 dX6_readsOnce_1 ?_
  refine r_top_eq (nI b) hb2 ?_
  refine r_iload_n K 1 dX6_readsOnce_4 rfl rfl ?_
  refine r_callSi K [.int (nI b), .int (nI w)] [] dX6_readsOnce_5 mf_X6_has qw_670 qw_671 (cm_has l g t M b w (by omega) (by omega)) rfl rfl (by decide) (Nat.le_of_ble_eq_true rfl) (fun r M1 hp => ?_)
  obtain ⟨hp, he⟩ := hp
  have he := he.symm
  subst he
  rcases hp with ⟨rfl, hb_1⟩ | ⟨rfl, hb_1⟩
  · refine r_if_ne K 20 dX6_readsOnce_8 (by decide) (fun _ => ?_) (fun h => absurd h (by decide))
    refine r_aload_n K 0 dX6_readsOnce_20 rfl rfl ?_
    refine r_callVi K [] [] dX6_readsOnce_21 mf_X6_fails rfl rfl qw_673 qw_675 qs_23 (cm_fails l g t M s hs) rfl rfl (by decide) (Nat.le_of_ble_eq_true rfl) (fun r9 M9 hp9 => ?_)
    obtain ⟨hz1, hz2⟩ := hp9
    subst hz1
    subst hz2
    exact hr _ _ _ _ dX6_readsOnce_24 (Or.inl rfl) (m_pQ_inl (m_k_st (by decide)) (by rw [ab_once, ab_if_pos (Or.inl ((hb3 w hw).mp hb_1))]) (by rw [rs_st_eq]))
  · refine r_if_ne K 20 dX6_readsOnce_8 (by decide) (fun h => absurd h (by decide)) (fun _ => ?_)
    refine r_aload_n K 0 dX6_readsOnce_11 rfl rfl ?_
    refine r_getR K rfl rfl ff_6_read qw_569 dX6_readsOnce_12 ?_
    refine r_iconst K (v := 3) dX6_readsOnce_15 (by decide) ?_
    refine r_iald K (j := 3) rfl rfl (by decide) (by decide) dX6_readsOnce_16 ?_
    refine r_top_eq (nI (ab_ks T.1).length) hT.1.2.2.2.1 ?_
    refine r_if_le K 25 dX6_readsOnce_17 (by decide) (fun h_2 => ?_) (fun h_2 => ?_)
    · have nh_2 : (ab_ks T.1).length ≤ 0 := (nf_le rfl rfl (by omega) (by omega)).mp h_2
      refine r_aload_n K 0 dX6_readsOnce_25 rfl rfl ?_
      refine r_dup K dX6_readsOnce_26 rfl ?_
      refine r_getI K rfl rfl ff_6_readOnce qw_566 dX6_readsOnce_27 ?_
      refine r_top_eq (nI b) hb2 ?_
      refine r_iconst K (v := 1) dX6_readsOnce_30 (by decide) ?_
      refine r_iload_n K 1 dX6_readsOnce_31 rfl rfl ?_
      refine r_ishl K dX6_readsOnce_32 ?_
      refine r_ior K dX6_readsOnce_33 ?_
      refine r_top_eq (nI (b ||| 2 ^ w)) (x_or b hb1 w hw).1 ?_
      refine r_put K rfl rfl ff_6_readOnce qw_566 rfl rfl dX6_readsOnce_34 ?_
      refine r_aload_n K 0 dX6_readsOnce_37 rfl rfl ?_
      refine r_iload_n K 2 dX6_readsOnce_38 rfl rfl ?_
      refine r_iload_n K 3 dX6_readsOnce_39 rfl rfl ?_
      refine r_callVi K [.int (nI lo), .int (nI hi)] [] dX6_readsOnce_40 mf_X6_number rfl rfl qw_677 qw_679 qs_24 (cm_number l g t (rs_st M 0 22 (nI (b ||| 2 ^ w))) tx (m_text_fr htx (rs_st_nk _ _ _ (by decide)) (rs_st_ne _ _ _ (by decide))) p (by rw [rs_st_nk _ _ _ (by decide)]; exact hp) hpl lo hi hlo hhi) rfl rfl (by decide) (Nat.le_of_ble_eq_true rfl) (fun r Mn hp9 => ?_)
      rcases hp9 with ⟨rfl, hcn, hn1, hn2⟩ | ⟨rfl, hcn, hn1, hn2⟩
      · refine r_if_ne K 48 dX6_readsOnce_43 (by decide) (fun _ => ?_) (fun h => absurd h (by decide))
        refine r_iload_n K 1 dX6_readsOnce_48 rfl rfl ?_
        refine r_iconst K (v := 3) dX6_readsOnce_49 (by decide) ?_
        refine r_icmp_ne K 64 dX6_readsOnce_50 (by decide) (fun h_3 => ?_) (fun h_3 => ?_)
        · have nh_3 : ¬ w = 3 := mt (nf_eq rfl rfl (by omega) (by omega)).mpr h_3
          refine r_aload_n K 0 dX6_readsOnce_64 rfl rfl ?_
          refine r_getR K rfl rfl ff_6_read qw_569 dX6_readsOnce_65 ?_
          refine r_iload_n K 1 dX6_readsOnce_68 rfl rfl ?_
          refine r_aload_n K 0 dX6_readsOnce_69 rfl rfl ?_
          refine r_getI K rfl rfl ff_6_value qw_564 dX6_readsOnce_70 ?_
          refine r_top_eq (nI (ab_tok tx p).2.2.1) (hn1.2.2.1 hcn.1) ?_
          refine r_iast K (j := w) rfl rfl (by omega) (by decide) dX6_readsOnce_73 ?_
          refine r_aload_n K 0 dX6_readsOnce_74 rfl rfl ?_
          have hl := ab_tok_len hpl
          have e13 : Mn 13 = M 13 := by rw [hn2.1 13 (by decide), rs_st_ne _ _ _ (by decide)]
          have e23 : Mn 0 23 = M 0 23 := by rw [hn2.2 23 (by omega), rs_st_nk _ _ _ (by decide)]
          have e24 : Mn 0 24 = M 0 24 := by rw [hn2.2 24 (by omega), rs_st_nk _ _ _ (by decide)]
          have e22 : Mn 0 22 = nI (b ||| 2 ^ w) := by rw [hn2.2 22 (by omega), rs_st_eq]
          have hT2 : m_pS (rs_st Mn 13 w (nI (ab_tok tx p).2.2.1)) (ab_setT T w (ab_tok tx p).2.2.1) := m_onceR hT e13 e23 e24 hb1 hb3 e22 (by omega) (hqr (by omega) _ hcn.2.2)
          have hk2 : m_k M (rs_st Mn 13 w (nI (ab_tok tx p).2.2.1)) := m_k_tr (m_k_st (by decide)) (m_k_tr (m_k_ft hn2) ⟨fun c hc => rs_st_ne _ _ _ (by omega), fun j hj => by rw [rs_st_ne _ _ _ (by decide)], fun c c1 c2 => by rw [rs_st_ne _ _ _ (by omega)]⟩)
          refine r_callVi K [] [] dX6_readsOnce_75 mf_X6_ends rfl rfl qw_681 qw_683 qs_25 (cm_ends l g t (rs_st Mn 13 w (nI (ab_tok tx p).2.2.1)) tx (m_text_fr htx (hk2.2.1 15 (by omega)) (hk2.1 12 (by omega))) (ab_tok tx p).2.2.2 (by rw [rs_st_ne _ _ _ (by decide)]; exact hn1.2.2.2) hl.2.2.1 (ab_setT T w (ab_tok tx p).2.2.1) hT2) rfl rfl (by decide) (Nat.le_of_ble_eq_true rfl) (fun r Me hp9 => ?_)
          obtain ⟨hy1, hy2⟩ := hp9
          exact hr _ _ _ _ dX6_readsOnce_78 (m_pQ_01 hy1) (by rw [ab_once, ab_if_neg (fun q => q.elim (fun q => hb_1 ((hb3 w hw).mpr q)) (fun q => q (by omega))), ab_if_pos hcn]; exact m_pQ_mono hk2 hy1)
        · have nh_3 : w = 3 := (nf_eq rfl rfl (by omega) (by omega)).mp h_3
          have nh3 : w = 3 := by omega
          refine r_aload_n K 0 dX6_readsOnce_53 rfl rfl ?_
          refine r_aload_n K 0 dX6_readsOnce_54 rfl rfl ?_
          refine r_getI K rfl rfl ff_6_value qw_564 dX6_readsOnce_55 ?_
          refine r_top_eq (nI (ab_tok tx p).2.2.1) (hn1.2.2.1 hcn.1) ?_
          refine r_put K rfl rfl ff_6_readTaper qw_567 rfl rfl dX6_readsOnce_58 ?_
          refine r_goto K 74 dX6_readsOnce_61 (by decide) ?_
          refine r_aload_n K 0 dX6_readsOnce_74 rfl rfl ?_
          have hl := ab_tok_len hpl
          have e13 : Mn 13 = M 13 := by rw [hn2.1 13 (by decide), rs_st_ne _ _ _ (by decide)]
          have e23 : Mn 0 23 = M 0 23 := by rw [hn2.2 23 (by omega), rs_st_nk _ _ _ (by decide)]
          have e24 : Mn 0 24 = M 0 24 := by rw [hn2.2 24 (by omega), rs_st_nk _ _ _ (by decide)]
          have e22 : Mn 0 22 = nI (b ||| 2 ^ w) := by rw [hn2.2 22 (by omega), rs_st_eq]
          have hT2 : m_pS (rs_st Mn 0 23 (nI (ab_tok tx p).2.2.1)) (ab_setT T w (ab_tok tx p).2.2.1) := by subst nh3; exact m_once3 hT e13 e24 hb1 hb3 e22 (hq3 rfl _ hcn.2.1 hcn.2.2).1 (hq3 rfl _ hcn.2.1 hcn.2.2).2
          have hk2 : m_k M (rs_st Mn 0 23 (nI (ab_tok tx p).2.2.1)) := m_k_tr (m_k_st (by decide)) (m_k_tr (m_k_ft hn2) (m_k_st (by decide)))
          refine r_callVi K [] [] dX6_readsOnce_75 mf_X6_ends rfl rfl qw_681 qw_683 qs_25 (cm_ends l g t (rs_st Mn 0 23 (nI (ab_tok tx p).2.2.1)) tx (m_text_fr htx (hk2.2.1 15 (by omega)) (hk2.1 12 (by omega))) (ab_tok tx p).2.2.2 (by rw [rs_st_nk _ _ _ (by decide)]; exact hn1.2.2.2) hl.2.2.1 (ab_setT T w (ab_tok tx p).2.2.1) hT2) rfl rfl (by decide) (Nat.le_of_ble_eq_true rfl) (fun r Me hp9 => ?_)
          obtain ⟨hy1, hy2⟩ := hp9
          exact hr _ _ _ _ dX6_readsOnce_78 (m_pQ_01 hy1) (by rw [ab_once, ab_if_neg (fun q => q.elim (fun q => hb_1 ((hb3 w hw).mpr q)) (fun q => q (by omega))), ab_if_pos hcn]; exact m_pQ_mono hk2 hy1)
      · refine r_if_ne K 48 dX6_readsOnce_43 (by decide) (fun h => absurd h (by decide)) (fun _ => ?_)
        refine r_iconst K (v := 0) dX6_readsOnce_46 (by decide) ?_
        exact hr _ _ _ _ dX6_readsOnce_47 (Or.inl rfl) (m_pQ_inl (m_k_tr (m_k_st (by decide)) (m_k_ft hn2)) (by rw [ab_once, ab_if_neg (fun q => q.elim (fun q => hb_1 ((hb3 w hw).mpr q)) (fun q => q (by omega))), ab_if_neg hcn]) hn1)
    · have nh_2 : ¬ (ab_ks T.1).length ≤ 0 := mt (nf_le rfl rfl (by omega) (by omega)).mpr h_2
      refine r_aload_n K 0 dX6_readsOnce_20 rfl rfl ?_
      refine r_callVi K [] [] dX6_readsOnce_21 mf_X6_fails rfl rfl qw_673 qw_675 qs_23 (cm_fails l g t M s hs) rfl rfl (by decide) (Nat.le_of_ble_eq_true rfl) (fun r9 M9 hp9 => ?_)
      obtain ⟨hz1, hz2⟩ := hp9
      subst hz1
      subst hz2
      exact hr _ _ _ _ dX6_readsOnce_24 (Or.inl rfl) (m_pQ_inl (m_k_st (by decide)) (by rw [ab_once, ab_if_pos (Or.inr (by omega))]) (by rw [rs_st_eq]))
set_option maxHeartbeats 4000000 in
set_option maxRecDepth 100000 in
theorem cm_whole (l : Launch) (g : rs_G) (t : Nat × Nat) (M : rs_M) (tx : List Int32) (htx : m_text M tx) (p : Nat) (hp : M 0 17 = nI p) (hpl : p ≤ tx.length) : rs_Ci l g mk t yX6_whole cX6_whole 2 .boolean 3 [.ref (g.2.2 0)] M (fun r M1 => m_sQ M M1 tx r (ab_sgn tx p)) := by
  have h8 := m_text_8 htx
  have hl120 := htx.2.1
  refine rs_ofz (plainFor_of_name (by decide)) (Nat.le_of_ble_eq_true rfl) ?_
  intro Y K hr
  show Y M 0 [(0, .ref (g.2.2 0))] []
  refine r_aload_n K 0 dX6_whole_0 rfl rfl ?_
  refine r_callVv K [] [] dX6_whole_1 mf_X6_next rfl rfl qw_655 qw_657 qs_20 (cm_next l g t M tx htx p hp hpl) rfl rfl (by decide) (Nat.le_of_ble_eq_true rfl) (fun Mn hp9 => ?_)
  obtain ⟨hn1, hn2⟩ := hp9
  have hl := ab_tok_len hpl
  refine r_aload_n K 0 dX6_whole_4 rfl rfl ?_
  refine r_getI K rfl rfl ff_6_token qw_563 dX6_whole_5 ?_
  refine r_top_eq (m_kc (ab_tok tx p)) hn1.2.1 ?_
  refine r_bipush K (v := 45) dX6_whole_8 (by decide) ?_
  refine r_icmp_ne K 17 dX6_whole_10 (by decide) (fun h_1 => ?_) (fun h_1 => ?_)
  · refine r_iconst K (v := 0) dX6_whole_17 (by decide) ?_
    refine r_istore_n K [(1, .int 0), (0, .ref (g.2.2 0))] dX6_whole_18 rfl (by decide) rfl ?_
    refine r_iload_n K 0 dX6_whole_19 rfl rfl ?_
    refine r_if_eq K 27 dX6_whole_20 (by decide) (fun _ => ?_) (fun h => absurd h (by decide))
    refine r_aload_n K 1 dX6_whole_27 rfl rfl ?_
    refine r_getI K rfl rfl ff_6_token qw_563 dX6_whole_28 ?_
    refine r_top_eq (m_kc (ab_tok tx p)) hn1.2.1 ?_
    refine r_if_eq K 39 dX6_whole_31 (by decide) (fun h_2 => ?_) (fun h_2 => ?_)
    · have hnum := (m_kc_num (ab_tok_v h8)).mp h_2
      refine r_aload_n K 1 dX6_whole_39 rfl rfl ?_
      refine r_iload_n K 0 dX6_whole_40 rfl rfl ?_
      refine r_if_eq K 52 dX6_whole_41 (by decide) (fun _ => ?_) (fun h => absurd h (by decide))
      refine r_aload_n K 1 dX6_whole_52 rfl rfl ?_
      refine r_getI K rfl rfl ff_6_value qw_564 dX6_whole_53 ?_
      refine r_top_eq (nI (ab_tok tx p).2.2.1) (hn1.2.2.1 hnum) ?_
      refine r_put K rfl rfl ff_6_value qw_564 rfl rfl dX6_whole_56 ?_
      refine r_iconst K (v := 1) dX6_whole_59 (by decide) ?_
      have h99 := x_n99 (hl.2.2.2.2.2.2 hnum)
      exact hr _ _ _ _ dX6_whole_60 (Or.inr rfl) (by rw [ab_sgn, ab_if_neg (fun q => h_1 ((m_kc_let (c := 45) (ab_tok_v h8) (by decide) (by decide)).mpr q)), ab_if_pos hnum]; exact ⟨m_ft_tr hn2 (m_ft_st (by decide) (by decide)), rfl, by rw [rs_st_eq], by rw [rs_st_nk _ _ _ (by decide)]; exact hn1.2.2.2, hl.2.2.1, h99.1.1, h99.1.2⟩)
    · refine r_aload_n K 1 dX6_whole_34 rfl rfl ?_
      refine r_callVi K [] [] dX6_whole_35 mf_X6_fails rfl rfl qw_673 qw_675 qs_23 (cm_fails l g t Mn ((ab_tok tx p).1) hn1.1) rfl rfl (by decide) (Nat.le_of_ble_eq_true rfl) (fun r9 M9 hp9 => ?_)
      obtain ⟨hz1, hz2⟩ := hp9
      subst hz1
      subst hz2
      exact hr _ _ _ _ dX6_whole_38 (Or.inl rfl) (by rw [ab_sgn, ab_if_neg (fun q => h_1 ((m_kc_let (c := 45) (ab_tok_v h8) (by decide) (by decide)).mpr q)), ab_if_neg (fun q => h_2 ((m_kc_num (ab_tok_v h8)).mpr q))]; exact ⟨m_ft_tr hn2 (m_ft_st (by decide) (by decide)), rfl, by rw [rs_st_eq]⟩)
  · refine r_iconst K (v := 1) dX6_whole_13 (by decide) ?_
    refine r_goto K 18 dX6_whole_14 (by decide) ?_
    refine r_istore_n K [(1, .int 1), (0, .ref (g.2.2 0))] dX6_whole_18 rfl (by decide) rfl ?_
    refine r_iload_n K 0 dX6_whole_19 rfl rfl ?_
    refine r_if_eq K 27 dX6_whole_20 (by decide) (fun h => absurd h (by decide)) (fun _ => ?_)
    refine r_aload_n K 1 dX6_whole_23 rfl rfl ?_
    refine r_callVv K [] [] dX6_whole_24 mf_X6_next rfl rfl qw_655 qw_657 qs_20 (cm_next l g t Mn tx (m_text_ft htx hn2) (ab_tok tx p).2.2.2 hn1.2.2.2 hl.2.2.1) rfl rfl (by decide) (Nat.le_of_ble_eq_true rfl) (fun Mo hp9 => ?_)
    obtain ⟨ho1, ho2⟩ := hp9
    have hl2 := ab_tok_len hl.2.2.1
    refine r_aload_n K 1 dX6_whole_27 rfl rfl ?_
    refine r_getI K rfl rfl ff_6_token qw_563 dX6_whole_28 ?_
    refine r_top_eq (m_kc (ab_tok tx (ab_tok tx p).2.2.2)) ho1.2.1 ?_
    refine r_if_eq K 39 dX6_whole_31 (by decide) (fun h_3 => ?_) (fun h_3 => ?_)
    · have hnum := (m_kc_num (ab_tok_v h8)).mp h_3
      refine r_aload_n K 1 dX6_whole_39 rfl rfl ?_
      refine r_iload_n K 0 dX6_whole_40 rfl rfl ?_
      refine r_if_eq K 52 dX6_whole_41 (by decide) (fun h => absurd h (by decide)) (fun _ => ?_)
      refine r_aload_n K 1 dX6_whole_44 rfl rfl ?_
      refine r_getI K rfl rfl ff_6_value qw_564 dX6_whole_45 ?_
      refine r_top_eq (nI (ab_tok tx (ab_tok tx p).2.2.2).2.2.1) (ho1.2.2.1 hnum) ?_
      refine r_ineg K dX6_whole_48 ?_
      refine r_goto K 56 dX6_whole_49 (by decide) ?_
      refine r_put K rfl rfl ff_6_value qw_564 rfl rfl dX6_whole_56 ?_
      refine r_iconst K (v := 1) dX6_whole_59 (by decide) ?_
      have h99 := x_n99 (hl2.2.2.2.2.2.2 hnum)
      exact hr _ _ _ _ dX6_whole_60 (Or.inr rfl) (by rw [ab_sgn, ab_if_pos ((m_kc_let (c := 45) (ab_tok_v h8) (by decide) (by decide)).mp h_1), ab_if_pos hnum]; exact ⟨m_ft_tr (m_ft_tr hn2 ho2) (m_ft_st (by decide) (by decide)), rfl, by rw [rs_st_eq], by rw [rs_st_nk _ _ _ (by decide)]; exact ho1.2.2.2, hl2.2.2.1, h99.2.1, h99.2.2⟩)
    · refine r_aload_n K 1 dX6_whole_34 rfl rfl ?_
      refine r_callVi K [] [] dX6_whole_35 mf_X6_fails rfl rfl qw_673 qw_675 qs_23 (cm_fails l g t Mo ((ab_tok tx (ab_tok tx p).2.2.2).1) ho1.1) rfl rfl (by decide) (Nat.le_of_ble_eq_true rfl) (fun r9 M9 hp9 => ?_)
      obtain ⟨hz1, hz2⟩ := hp9
      subst hz1
      subst hz2
      exact hr _ _ _ _ dX6_whole_38 (Or.inl rfl) (by rw [ab_sgn, ab_if_pos ((m_kc_let (c := 45) (ab_tok_v h8) (by decide) (by decide)).mp h_1), ab_if_neg (fun q => h_3 ((m_kc_num (ab_tok_v h8)).mpr q))]; exact ⟨m_ft_tr (m_ft_tr hn2 ho2) (m_ft_st (by decide) (by decide)), rfl, by rw [rs_st_eq]⟩)
set_option maxHeartbeats 4000000 in
set_option maxRecDepth 100000 in
theorem cm_readsWish (l : Launch) (g : rs_G) (t : Nat × Nat) (M : rs_M) (tx : List Int32) (htx : m_text M tx) (p : Nat) (hp : M 0 17 = nI p) (hpl : p ≤ tx.length) (T : ab_T) (hT : m_pS M T) (s : Nat) (hs : M 0 18 = nI s) : rs_Ci l g mk t yX6_readsWish cX6_readsWish 2 .boolean 4 [.ref (g.2.2 0)] M (fun r M1 => m_pQ M M1 tx r (ab_itW tx T s p)) := by
  have h8 := m_text_8 htx
  have hl120 := htx.2.1
  have hw17 := hT.2.2.2.2.2.1
  refine rs_ofz (plainFor_of_name (by decide)) (Nat.le_of_ble_eq_true rfl) ?_
  intro Y K hr
  show Y M 0 [(0, .ref (g.2.2 0))] []
  refine r_aload_n K 0 dX6_readsWish_0 rfl rfl ?_
  refine r_getI K rfl rfl ff_6_readWishes qw_568 dX6_readsWish_1 ?_
  refine r_top_eq (nI T.2.2.1) hT.2.2.2.2.1 ?_
  refine r_bipush K (v := 17) dX6_readsWish_4 (by decide) ?_
  refine r_icmp_ne K 14 dX6_readsWish_6 (by decide) (fun h_1 => ?_) (fun h_1 => ?_)
  · have nh_1 : ¬ T.2.2.1 = 17 := mt (nf_eq rfl rfl (by omega) (by omega)).mpr h_1
    refine r_aload_n K 0 dX6_readsWish_14 rfl rfl ?_
    refine r_callVi K [] [] dX6_readsWish_15 mf_X6_whole rfl rfl qw_689 qw_691 qs_27 (cm_whole l g t M tx htx p hp hpl) rfl rfl (by decide) (Nat.le_of_ble_eq_true rfl) (fun r9 Ma hp9 => ?_)
    obtain ⟨hfa, hp9⟩ := hp9
    rcases hR1 : ab_sgn tx p with ff | ⟨x, e⟩
    · rw [hR1] at hp9
      obtain ⟨rfl, hff⟩ := hp9
      refine r_if_ne K 23 dX6_readsWish_18 (by decide) (fun h => absurd h (by decide)) (fun _ => ?_)
      refine r_iconst K (v := 0) dX6_readsWish_21 (by decide) ?_
      exact hr _ _ _ _ dX6_readsWish_22 (Or.inl rfl) (m_pQ_inl (m_k_ft hfa) (by rw [ab_itW, ab_if_neg (by omega), hR1, ab_itW1]) hff)
    · rw [hR1] at hp9
      obtain ⟨rfl, h20x, h17x, hlex, hx1x, hx2x⟩ := hp9
      refine r_if_ne K 23 dX6_readsWish_18 (by decide) (fun _ => ?_) (fun h => absurd h (by decide))
      refine r_aload_n K 0 dX6_readsWish_23 rfl rfl ?_
      refine r_getI K rfl rfl ff_6_value qw_564 dX6_readsWish_24 ?_
      refine r_top_eq x h20x ?_
      refine r_istore_n K [(1, .int x), (0, .ref (g.2.2 0))] dX6_readsWish_27 rfl (by decide) rfl ?_
      refine r_aload_n K 1 dX6_readsWish_28 rfl rfl ?_
      refine r_callVi K [] [] dX6_readsWish_29 mf_X6_whole rfl rfl qw_689 qw_691 qs_27 (cm_whole l g t Ma tx (m_text_ft htx hfa) e h17x hlex) rfl rfl (by decide) (Nat.le_of_ble_eq_true rfl) (fun r9 Mb hp9 => ?_)
      obtain ⟨hfb, hp9⟩ := hp9
      rcases hR2 : ab_sgn tx e with ff | ⟨y, e2⟩
      · rw [hR2] at hp9
        obtain ⟨rfl, hff⟩ := hp9
        refine r_if_ne K 37 dX6_readsWish_32 (by decide) (fun h => absurd h (by decide)) (fun _ => ?_)
        refine r_iconst K (v := 0) dX6_readsWish_35 (by decide) ?_
        exact hr _ _ _ _ dX6_readsWish_36 (Or.inl rfl) (m_pQ_inl (m_k_ft (m_ft_tr hfa hfb)) (by rw [ab_itW, ab_if_neg (by omega), hR1, ab_itW1]; rw [hR2, ab_itW2]) hff)
      · rw [hR2] at hp9
        obtain ⟨rfl, h20y, h17y, hley, hx1y, hx2y⟩ := hp9
        refine r_if_ne K 37 dX6_readsWish_32 (by decide) (fun _ => ?_) (fun h => absurd h (by decide))
        refine r_aload_n K 1 dX6_readsWish_37 rfl rfl ?_
        refine r_dup K dX6_readsWish_38 rfl ?_
        refine r_getI K rfl rfl ff_6_readWishes qw_568 dX6_readsWish_39 ?_
        refine r_top_eq (nI T.2.2.1) (by rw [(m_ft_tr hfa hfb).2 24 (by omega)]; exact hT.2.2.2.2.1) ?_
        refine r_iconst K (v := 1) dX6_readsWish_42 (by decide) ?_
        refine r_iadd K dX6_readsWish_43 ?_
        refine r_top_eq (nI (T.2.2.1 + 1)) (nI_1 _) ?_
        refine r_put K rfl rfl ff_6_readWishes qw_568 rfl rfl dX6_readsWish_44 ?_
        refine r_aload_n K 1 dX6_readsWish_47 rfl rfl ?_
        refine r_getR K rfl rfl ff_6_read qw_569 dX6_readsWish_48 ?_
        refine r_bipush K (v := 17) dX6_readsWish_51 (by decide) ?_
        refine r_aload_n K 1 dX6_readsWish_53 rfl rfl ?_
        refine r_getI K rfl rfl ff_6_readWishes qw_568 dX6_readsWish_54 ?_
        refine r_top_eq (nI (T.2.2.1 + 1)) (by rw [rs_st_eq]) ?_
        refine r_iadd K dX6_readsWish_57 ?_
        refine r_iload_n K 0 dX6_readsWish_58 rfl rfl ?_
        refine r_iast K (j := 17 + (T.2.2.1 + 1)) rfl (nI_add 17 _) (by omega) (by decide) dX6_readsWish_59 ?_
        refine r_aload_n K 1 dX6_readsWish_60 rfl rfl ?_
        refine r_getR K rfl rfl ff_6_read qw_569 dX6_readsWish_61 ?_
        refine r_bipush K (v := 35) dX6_readsWish_64 (by decide) ?_
        refine r_aload_n K 1 dX6_readsWish_66 rfl rfl ?_
        refine r_getI K rfl rfl ff_6_readWishes qw_568 dX6_readsWish_67 ?_
        refine r_top_eq (nI (T.2.2.1 + 1)) (by rw [rs_st_ne _ _ _ (by decide), rs_st_eq]) ?_
        refine r_iadd K dX6_readsWish_70 ?_
        refine r_aload_n K 1 dX6_readsWish_71 rfl rfl ?_
        refine r_getI K rfl rfl ff_6_value qw_564 dX6_readsWish_72 ?_
        refine r_top_eq y (by rw [rs_st_ne _ _ _ (by decide), rs_st_nk _ _ _ (by decide)]; exact h20y) ?_
        refine r_iast K (j := 35 + (T.2.2.1 + 1)) rfl (nI_add 35 _) (by omega) (by decide) dX6_readsWish_75 ?_
        refine r_aload_n K 1 dX6_readsWish_76 rfl rfl ?_
        have hff := m_ft_tr hfa hfb
        have hTb := m_pS_ft hT hff
        have e0 : ∀ j, j ≠ 24 → (rs_st (rs_st (rs_st Mb 0 24 (nI (T.2.2.1 + 1))) 13 (17 + (T.2.2.1 + 1)) x) 13 (35 + (T.2.2.1 + 1)) y) 0 j = Mb 0 j := fun j hj => by rw [rs_st_ne _ _ _ (by decide), rs_st_ne _ _ _ (by decide), rs_st_nk _ _ _ hj]
        have ec : ∀ c, c ≠ 0 → c ≠ 13 → (rs_st (rs_st (rs_st Mb 0 24 (nI (T.2.2.1 + 1))) 13 (17 + (T.2.2.1 + 1)) x) 13 (35 + (T.2.2.1 + 1)) y) c = Mb c := fun c c1 c2 => by rw [rs_st_ne _ _ _ c2, rs_st_ne _ _ _ c2, rs_st_ne _ _ _ c1]
        have hk2 : m_k M (rs_st (rs_st (rs_st Mb 0 24 (nI (T.2.2.1 + 1))) 13 (17 + (T.2.2.1 + 1)) x) 13 (35 + (T.2.2.1 + 1)) y) := m_k_tr (m_k_ft hff) ⟨fun c hc => ec c (by omega) (by omega), fun j hj => e0 j (by omega), fun c c1 c2 => by rw [ec c (by omega) (by omega)]⟩
        have hT2 : m_pS (rs_st (rs_st (rs_st Mb 0 24 (nI (T.2.2.1 + 1))) 13 (17 + (T.2.2.1 + 1)) x) 13 (35 + (T.2.2.1 + 1)) y) (ab_setwish T.1 (T.2.2.1 + 1) x y, T.2.1, T.2.2.1 + 1, T.2.2.2) := by
          obtain ⟨g1, g2, g3, g4, g5, g6, b, b1, b2, b3⟩ := hTb
          exact ⟨by rw [rs_st_row, rs_st_row, rs_st_ne _ _ _ (by decide)]; exact m_row_wish g1 g2.1 (by omega) x y, ab_ok_wish g2 (by omega) ⟨hx1x, hx2x⟩ ⟨hx1y, hx2y⟩, g3, by rw [e0 23 (by decide)]; exact g4, by rw [rs_st_ne _ _ _ (by decide), rs_st_ne _ _ _ (by decide), rs_st_eq], by show T.2.2.1 + 1 ≤ 17; omega, b, b1, by rw [e0 22 (by decide)]; exact b2, b3⟩
        refine r_callVi K [] [] dX6_readsWish_77 mf_X6_ends rfl rfl qw_681 qw_683 qs_25 (cm_ends l g t (rs_st (rs_st (rs_st Mb 0 24 (nI (T.2.2.1 + 1))) 13 (17 + (T.2.2.1 + 1)) x) 13 (35 + (T.2.2.1 + 1)) y) tx (m_text_fr htx (hk2.2.1 15 (by omega)) (hk2.1 12 (by omega))) e2 (by rw [e0 17 (by decide)]; exact h17y) hley (ab_setwish T.1 (T.2.2.1 + 1) x y, T.2.1, T.2.2.1 + 1, T.2.2.2) hT2) rfl rfl (by decide) (Nat.le_of_ble_eq_true rfl) (fun r Me hp9 => ?_)
        obtain ⟨hy1, hy2⟩ := hp9
        have eR : ab_itW tx T s p = ab_fin tx (ab_setwish T.1 (T.2.2.1 + 1) x y, T.2.1, T.2.2.1 + 1, T.2.2.2) e2 := by rw [ab_itW, ab_if_neg (by omega), hR1, ab_itW1]; rw [hR2, ab_itW2]
        exact hr _ _ _ _ dX6_readsWish_80 (m_pQ_01 hy1) (by rw [eR]; exact m_pQ_mono hk2 hy1)
  · have nh_1 : T.2.2.1 = 17 := (nf_eq rfl rfl (by omega) (by omega)).mp h_1
    refine r_aload_n K 0 dX6_readsWish_9 rfl rfl ?_
    refine r_callVi K [] [] dX6_readsWish_10 mf_X6_fails rfl rfl qw_673 qw_675 qs_23 (cm_fails l g t M s hs) rfl rfl (by decide) (Nat.le_of_ble_eq_true rfl) (fun r9 M9 hp9 => ?_)
    obtain ⟨hz1, hz2⟩ := hp9
    subst hz1
    subst hz2
    exact hr _ _ _ _ dX6_readsWish_13 (Or.inl rfl) (m_pQ_inl (m_k_st (by decide)) (by rw [ab_itW, ab_if_pos (by omega)]) (by rw [rs_st_eq]))
set_option maxHeartbeats 4000000 in
set_option maxRecDepth 100000 in
theorem cm_readsRing (l : Launch) (g : rs_G) (t : Nat × Nat) (M : rs_M) (tx : List Int32) (htx : m_text M tx) (p : Nat) (hp : M 0 17 = nI p) (hpl : p ≤ tx.length) (T : ab_T) (hT : m_pS M T) (s : Nat) (hs : M 0 18 = nI s) (hz : m_z M) : rs_Ci l g mk t yX6_readsRing cX6_readsRing 1 .boolean 4 [.ref (g.2.2 0)] M (fun r M1 => m_pQ M M1 tx r (ab_itK tx T s p)) := by
  have h8 := m_text_8 htx
  have hl120 := htx.2.1
  have hn12 := hT.2.1.1
  refine rs_ofz (plainFor_of_name (by decide)) (Nat.le_of_ble_eq_true rfl) ?_
  intro Y K hr
  show Y M 0 [(0, .ref (g.2.2 0))] []
  refine r_aload_n K 0 dX6_readsRing_0 rfl rfl ?_
  refine r_getR K rfl rfl ff_6_read qw_569 dX6_readsRing_1 ?_
  refine r_iconst K (v := 3) dX6_readsRing_4 (by decide) ?_
  refine r_iald K (j := 3) rfl rfl (by decide) (by decide) dX6_readsRing_5 ?_
  refine r_top_eq (nI (ab_ks T.1).length) hT.1.2.2.2.1 ?_
  refine r_bipush K (v := 12) dX6_readsRing_6 (by decide) ?_
  refine r_icmp_ne K 16 dX6_readsRing_8 (by decide) (fun h_1 => ?_) (fun h_1 => ?_)
  · have nh_1 : ¬ (ab_ks T.1).length = 12 := mt (nf_eq rfl rfl (by omega) (by omega)).mpr h_1
    refine r_aload_n K 0 dX6_readsRing_16 rfl rfl ?_
    refine r_iconst K (v := 0) dX6_readsRing_17 (by decide) ?_
    refine r_bipush K (v := 7) dX6_readsRing_18 (by decide) ?_
    refine r_callVi K [.int 0, .int 7] [] dX6_readsRing_20 mf_X6_number rfl rfl qw_677 qw_679 qs_24 (cm_number l g t M tx htx p hp hpl 0 7 (by decide) (by decide)) rfl rfl (by decide) (Nat.le_of_ble_eq_true rfl) (fun r Mn hp9 => ?_)
    rcases hp9 with ⟨rfl, hcn, hn1, hn2⟩ | ⟨rfl, hcn, hn1, hn2⟩
    · have hTn := m_pS_ft hT hn2
      have hzn : m_z Mn := m_z_fr hz (fun c c1 c2 => by rw [hn2.1 c (by omega)])
      refine r_if_ne K 28 dX6_readsRing_23 (by decide) (fun _ => ?_) (fun h => absurd h (by decide))
      refine r_aload_n K 0 dX6_readsRing_28 rfl rfl ?_
      refine r_aload_n K 0 dX6_readsRing_29 rfl rfl ?_
      refine r_getR K rfl rfl ff_6_read qw_569 dX6_readsRing_30 ?_
      refine r_aload_n K 0 dX6_readsRing_33 rfl rfl ?_
      refine r_getI K rfl rfl ff_6_readTaper qw_567 dX6_readsRing_34 ?_
      refine r_top_eq T.2.1 hTn.2.2.2.1 ?_
      refine r_callVv K [.ref (g.2.2 13), .int T.2.1] [] dX6_readsRing_37 mf_X6_layRings rfl rfl qw_697 qw_699 qs_29 (cm_layRings l g t Mn 13 (Or.inr rfl) T.1 hTn.2.1 hTn.1 hzn T.2.1) rfl rfl (by decide) (Nat.le_of_ble_eq_true rfl) (fun Mr hp => ?_)
      obtain ⟨hp1, hp2⟩ := hp
      refine r_aload_n K 0 dX6_readsRing_40 rfl rfl ?_
      refine r_aload_n K 0 dX6_readsRing_41 rfl rfl ?_
      refine r_getR K rfl rfl ff_6_read qw_569 dX6_readsRing_42 ?_
      refine r_aload_n K 0 dX6_readsRing_45 rfl rfl ?_
      refine r_getR K rfl rfl ff_6_read qw_569 dX6_readsRing_46 ?_
      refine r_iconst K (v := 3) dX6_readsRing_49 (by decide) ?_
      refine r_iald K (j := 3) rfl rfl (by decide) (by decide) dX6_readsRing_50 ?_
      refine r_top_eq (nI (ab_ks T.1).length) (by rw [hp2.1 13 (by decide)]; exact hTn.1.2.2.2.1) ?_
      refine r_iconst K (v := 1) dX6_readsRing_51 (by decide) ?_
      refine r_iadd K dX6_readsRing_52 ?_
      refine r_top_eq (nI ((ab_ks T.1).length + 1)) (nI_1 _) ?_
      refine r_aload_n K 0 dX6_readsRing_53 rfl rfl ?_
      refine r_getI K rfl rfl ff_6_value qw_564 dX6_readsRing_54 ?_
      refine r_top_eq (nI (ab_tok tx p).2.2.1) (by rw [hp2.1 0 (by decide)]; exact hn1.2.2.1 hcn.1) ?_
      refine r_aload_n K 0 dX6_readsRing_57 rfl rfl ?_
      refine r_getI K rfl rfl ff_6_readTaper qw_567 dX6_readsRing_58 ?_
      refine r_top_eq T.2.1 (by rw [hp2.1 0 (by decide)]; exact hTn.2.2.2.1) ?_
      have hgl : m_g Mr (ab_ks T.1).length (ab_geo T.2.1 (ab_ks T.1)) := by have := (hp1 _ (Nat.le_refl _)).1; rwa [List.take_length] at this
      have hc7 := hcn.2.2
      refine r_callVi K [.ref (g.2.2 13), .int (nI ((ab_ks T.1).length + 1)), .int (nI (ab_tok tx p).2.2.1), .int T.2.1] [] dX6_readsRing_61 mf_X6_mayBe rfl rfl qw_711 qw_713 qs_31 (cm_mayBe l g t Mr 13 (Or.inr rfl) T.1 hTn.2.1 (by rw [hp2.1 13 (by decide)]; exact hTn.1) T.2.1 (ab_ks T.1) (ab_ks T.1).length rfl (by omega) hTn.2.1.2.1 hgl (fun j hj => m_last hp1 hj) (ab_tok tx p).2.2.1 (by omega)) rfl rfl (by decide) (Nat.le_of_ble_eq_true rfl) (fun r Mm hp9 => ?_)
      obtain ⟨hb, hg1, hg2, hg3⟩ := hp9
      have hk3 : m_k M Mm := m_k_tr (m_k_ft hn2) (m_k_tr (m_k_fs hp2) (m_k_fs (m_fs_mono hg3 (by omega))))
      have em0 : Mm 0 = Mn 0 := (hg3.1 0 (by decide)).trans (hp2.1 0 (by decide))
      have em13 : Mm 13 = Mn 13 := (hg3.1 13 (by decide)).trans (hp2.1 13 (by decide))
      rcases hb with ⟨rfl, hmay⟩ | ⟨rfl, hmay⟩
      · refine r_if_ne K 72 dX6_readsRing_64 (by decide) (fun _ => ?_) (fun h => absurd h (by decide))
        refine r_aload_n K 0 dX6_readsRing_72 rfl rfl ?_
        refine r_getR K rfl rfl ff_6_read qw_569 dX6_readsRing_73 ?_
        refine r_iconst K (v := 3) dX6_readsRing_76 (by decide) ?_
        refine r_dup2 K dX6_readsRing_77 rfl rfl ?_
        refine r_iald K (j := 3) rfl rfl (by decide) (by decide) dX6_readsRing_78 ?_
        refine r_top_eq (nI (ab_ks T.1).length) (by rw [em13]; exact hTn.1.2.2.2.1) ?_
        refine r_iconst K (v := 1) dX6_readsRing_79 (by decide) ?_
        refine r_iadd K dX6_readsRing_80 ?_
        refine r_top_eq (nI ((ab_ks T.1).length + 1)) (nI_1 _) ?_
        refine r_iast K (j := 3) rfl rfl (by decide) (by decide) dX6_readsRing_81 ?_
        refine r_aload_n K 0 dX6_readsRing_82 rfl rfl ?_
        refine r_getR K rfl rfl ff_6_read qw_569 dX6_readsRing_83 ?_
        refine r_iconst K (v := 4) dX6_readsRing_86 (by decide) ?_
        refine r_aload_n K 0 dX6_readsRing_87 rfl rfl ?_
        refine r_getR K rfl rfl ff_6_read qw_569 dX6_readsRing_88 ?_
        refine r_iconst K (v := 3) dX6_readsRing_91 (by decide) ?_
        refine r_iald K (j := 3) rfl rfl (by decide) (by decide) dX6_readsRing_92 ?_
        refine r_top_eq (nI ((ab_ks T.1).length + 1)) (by rw [rs_st_eq]) ?_
        refine r_iadd K dX6_readsRing_93 ?_
        refine r_aload_n K 0 dX6_readsRing_94 rfl rfl ?_
        refine r_getI K rfl rfl ff_6_value qw_564 dX6_readsRing_95 ?_
        refine r_top_eq (nI (ab_tok tx p).2.2.1) (by rw [rs_st_ne _ _ _ (by decide), em0]; exact hn1.2.2.1 hcn.1) ?_
        refine r_iast K (j := 4 + ((ab_ks T.1).length + 1)) rfl (nI_add 4 _) (by omega) (by decide) dX6_readsRing_98 ?_
        refine r_aload_n K 0 dX6_readsRing_99 rfl rfl ?_
        have hl := ab_tok_len hpl
        have ec : ∀ c, c ≠ 13 → (rs_st (rs_st Mm 13 3 (nI ((ab_ks T.1).length + 1))) 13 (4 + ((ab_ks T.1).length + 1)) (nI (ab_tok tx p).2.2.1)) c = Mm c := fun c hc => by rw [rs_st_ne _ _ _ hc, rs_st_ne _ _ _ hc]
        have hk2 : m_k M (rs_st (rs_st Mm 13 3 (nI ((ab_ks T.1).length + 1))) 13 (4 + ((ab_ks T.1).length + 1)) (nI (ab_tok tx p).2.2.1)) := m_k_tr hk3 ⟨fun c hc => ec c (by omega), fun j _ => by rw [ec 0 (by decide)], fun c c1 c2 => by rw [ec c (by omega)]⟩
        have hT2 : m_pS (rs_st (rs_st Mm 13 3 (nI ((ab_ks T.1).length + 1))) 13 (4 + ((ab_ks T.1).length + 1)) (nI (ab_tok tx p).2.2.1)) (ab_build T.1 (ab_tok tx p).2.2.1, T.2) := by
          obtain ⟨g1, g2, g3, g4, g5, g6, b, b1, b2, b3⟩ := hTn
          exact ⟨by rw [rs_st_row, rs_st_row, em13]; exact m_row_build g1 (by omega) _, ab_ok_build g2 (by omega) (by omega), g3, by rw [ec 0 (by decide), em0]; exact g4, by rw [ec 0 (by decide), em0]; exact g5, g6, b, b1, by rw [ec 0 (by decide), em0]; exact b2, b3⟩
        refine r_callVi K [] [] dX6_readsRing_100 mf_X6_ends rfl rfl qw_681 qw_683 qs_25 (cm_ends l g t (rs_st (rs_st Mm 13 3 (nI ((ab_ks T.1).length + 1))) 13 (4 + ((ab_ks T.1).length + 1)) (nI (ab_tok tx p).2.2.1)) tx (m_text_fr htx (hk2.2.1 15 (by omega)) (hk2.1 12 (by omega))) (ab_tok tx p).2.2.2 (by rw [ec 0 (by decide), em0]; exact hn1.2.2.2) hl.2.2.1 (ab_build T.1 (ab_tok tx p).2.2.1, T.2) hT2) rfl rfl (by decide) (Nat.le_of_ble_eq_true rfl) (fun r Me hp9 => ?_)
        obtain ⟨hy1, hy2⟩ := hp9
        exact hr _ _ _ _ dX6_readsRing_103 (m_pQ_01 hy1) (by rw [ab_itK, ab_if_neg (by omega), ab_if_pos ⟨hcn.1, hcn.2.2, hmay⟩]; exact m_pQ_mono hk2 hy1)
      · refine r_if_ne K 72 dX6_readsRing_64 (by decide) (fun h => absurd h (by decide)) (fun _ => ?_)
        refine r_aload_n K 0 dX6_readsRing_67 rfl rfl ?_
        refine r_callVi K [] [] dX6_readsRing_68 mf_X6_fails rfl rfl qw_673 qw_675 qs_23 (cm_fails l g t Mm ((ab_tok tx p).1) (by rw [em0]; exact hn1.1)) rfl rfl (by decide) (Nat.le_of_ble_eq_true rfl) (fun r9 M9 hp9 => ?_)
        obtain ⟨hz1, hz2⟩ := hp9
        subst hz1
        subst hz2
        exact hr _ _ _ _ dX6_readsRing_71 (Or.inl rfl) (m_pQ_inl (m_k_tr hk3 (m_k_st (by decide))) (by rw [ab_itK, ab_if_neg (by omega), ab_if_neg (fun q => hmay q.2.2)]) (by rw [rs_st_eq]))
    · refine r_if_ne K 28 dX6_readsRing_23 (by decide) (fun h => absurd h (by decide)) (fun _ => ?_)
      refine r_iconst K (v := 0) dX6_readsRing_26 (by decide) ?_
      exact hr _ _ _ _ dX6_readsRing_27 (Or.inl rfl) (m_pQ_inl (m_k_ft hn2) (by rw [ab_itK, ab_if_neg (by omega), ab_if_neg (fun q => hcn ⟨q.1, Nat.zero_le _, q.2.1⟩)]) hn1)
  · have nh_1 : (ab_ks T.1).length = 12 := (nf_eq rfl rfl (by omega) (by omega)).mp h_1
    refine r_aload_n K 0 dX6_readsRing_11 rfl rfl ?_
    refine r_callVi K [] [] dX6_readsRing_12 mf_X6_fails rfl rfl qw_673 qw_675 qs_23 (cm_fails l g t M s hs) rfl rfl (by decide) (Nat.le_of_ble_eq_true rfl) (fun r9 M9 hp9 => ?_)
    obtain ⟨hz1, hz2⟩ := hp9
    subst hz1
    subst hz2
    exact hr _ _ _ _ dX6_readsRing_15 (Or.inl rfl) (m_pQ_inl (m_k_st (by decide)) (by rw [ab_itK, ab_if_pos (by omega)]) (by rw [rs_st_eq]))
set_option maxHeartbeats 4000000 in
set_option maxRecDepth 100000 in
theorem cm_readsItem (l : Launch) (g : rs_G) (t : Nat × Nat) (M : rs_M) (tx : List Int32) (htx : m_text M tx) (p : Nat) (hp : M 0 17 = nI p) (hpl : p ≤ tx.length) (T : ab_T) (hT : m_pS M T) (hz : m_z M) : rs_Ci l g mk t yX6_readsItem cX6_readsItem 1 .boolean 5 [.ref (g.2.2 0)] M (fun r M1 => m_pQ M M1 tx r (ab_item tx T (ab_tok tx p))) := by
  have h8 := m_text_8 htx
  have hl120 := htx.2.1
  refine rs_ofz (plainFor_of_name (by decide)) (Nat.le_of_ble_eq_true rfl) ?_
  intro Y K hr
  show Y M 0 [(0, .ref (g.2.2 0))] []
  refine r_aload_n K 0 dX6_readsItem_0 rfl rfl ?_
  refine r_callVv K [] [] dX6_readsItem_1 mf_X6_next rfl rfl qw_655 qw_657 qs_20 (cm_next l g t M tx htx p hp hpl) rfl rfl (by decide) (Nat.le_of_ble_eq_true rfl) (fun Mn hp9 => ?_)
  obtain ⟨hn1, hn2⟩ := hp9
  have hl := ab_tok_len hpl
  refine r_aload_n K 0 dX6_readsItem_4 rfl rfl ?_
  refine r_getI K rfl rfl ff_6_token qw_563 dX6_readsItem_5 ?_
  refine r_top_eq (m_kc (ab_tok tx p)) hn1.2.1 ?_
  refine r_lookup K [(98, 76), (106, 84), (107, 106), (109, 92), (116, 68), (119, 101)] 111 dX6_readsItem_8 (by decide) (by decide) (by decide) ?_
  simp only [rs_swp]
  refine ⟨fun h_1_0 => ?_, fun h_1_0 => ⟨fun h_1_1 => ?_, fun h_1_1 => ⟨fun h_1_2 => ?_, fun h_1_2 => ⟨fun h_1_3 => ?_, fun h_1_3 => ⟨fun h_1_4 => ?_, fun h_1_4 => ⟨fun h_1_5 => ?_, fun h_1_5 => ?_⟩⟩⟩⟩⟩⟩
  · refine r_aload_n K 0 dX6_readsItem_76 rfl rfl ?_
    refine r_iconst K (v := 0) dX6_readsItem_77 (by decide) ?_
    refine r_iconst K (v := 0) dX6_readsItem_78 (by decide) ?_
    refine r_iconst K (v := 3) dX6_readsItem_79 (by decide) ?_
    refine r_callVi K [.int 0, .int 0, .int 3] [] dX6_readsItem_80 mf_X6_readsOnce rfl rfl qw_666 qw_668 qs_22 (cm_readsOnce l g t Mn tx (m_text_ft htx hn2) (ab_tok tx p).2.2.2 hn1.2.2.2 hl.2.2.1 T (m_pS_ft hT hn2) (ab_tok tx p).1 hn1.1 0 0 3 (by decide) (by decide) (by decide) (fun q => absurd q (by decide)) (fun _ v q => q)) rfl rfl (by decide) (Nat.le_of_ble_eq_true rfl) (fun r Me hy1 => ?_)
    have qc := (m_kc_let (c := 98) (ab_tok_v h8) (by decide) (by decide)).mp h_1_0
    exact hr _ _ _ _ dX6_readsItem_83 (m_pQ_01 hy1) (by rw [ab_item, if_neg (fun q => q qc.1), if_neg (by rw [qc.2]; decide), if_pos qc.2]; exact m_pQ_mono (m_k_ft hn2) hy1)
  · refine r_aload_n K 0 dX6_readsItem_84 rfl rfl ?_
    refine r_iconst K (v := 1) dX6_readsItem_85 (by decide) ?_
    refine r_iconst K (v := 0) dX6_readsItem_86 (by decide) ?_
    refine r_iconst K (v := 2) dX6_readsItem_87 (by decide) ?_
    refine r_callVi K [.int 1, .int 0, .int 2] [] dX6_readsItem_88 mf_X6_readsOnce rfl rfl qw_666 qw_668 qs_22 (cm_readsOnce l g t Mn tx (m_text_ft htx hn2) (ab_tok tx p).2.2.2 hn1.2.2.2 hl.2.2.1 T (m_pS_ft hT hn2) (ab_tok tx p).1 hn1.1 1 0 2 (by decide) (by decide) (by decide) (fun q => absurd q (by decide)) (fun _ v q => q)) rfl rfl (by decide) (Nat.le_of_ble_eq_true rfl) (fun r Me hy1 => ?_)
    have qc := (m_kc_let (c := 106) (ab_tok_v h8) (by decide) (by decide)).mp h_1_1
    exact hr _ _ _ _ dX6_readsItem_91 (m_pQ_01 hy1) (by rw [ab_item, if_neg (fun q => q qc.1), if_neg (by rw [qc.2]; decide), if_neg (by rw [qc.2]; decide), if_pos qc.2]; exact m_pQ_mono (m_k_ft hn2) hy1)
  · refine r_aload_n K 0 dX6_readsItem_106 rfl rfl ?_
    refine r_callVi K [] [] dX6_readsItem_107 mf_X6_readsRing rfl rfl qw_693 qw_695 qs_28 (cm_readsRing l g t Mn tx (m_text_ft htx hn2) (ab_tok tx p).2.2.2 hn1.2.2.2 hl.2.2.1 T (m_pS_ft hT hn2) (ab_tok tx p).1 hn1.1 (m_z_fr hz (fun c c1 c2 => by rw [hn2.1 c (by omega)]))) rfl rfl (by decide) (Nat.le_of_ble_eq_true rfl) (fun r Me hy1 => ?_)
    have qc := (m_kc_let (c := 107) (ab_tok_v h8) (by decide) (by decide)).mp h_1_2
    exact hr _ _ _ _ dX6_readsItem_110 (m_pQ_01 hy1) (by rw [ab_item, if_neg (fun q => q qc.1), if_neg (by rw [qc.2]; decide), if_neg (by rw [qc.2]; decide), if_neg (by rw [qc.2]; decide), if_neg (by rw [qc.2]; decide), if_neg (by rw [qc.2]; decide), if_pos qc.2]; exact m_pQ_mono (m_k_ft hn2) hy1)
  · refine r_aload_n K 0 dX6_readsItem_92 rfl rfl ?_
    refine r_iconst K (v := 2) dX6_readsItem_93 (by decide) ?_
    refine r_iconst K (v := 0) dX6_readsItem_94 (by decide) ?_
    refine r_bipush K (v := 20) dX6_readsItem_95 (by decide) ?_
    refine r_callVi K [.int 2, .int 0, .int 20] [] dX6_readsItem_97 mf_X6_readsOnce rfl rfl qw_666 qw_668 qs_22 (cm_readsOnce l g t Mn tx (m_text_ft htx hn2) (ab_tok tx p).2.2.2 hn1.2.2.2 hl.2.2.1 T (m_pS_ft hT hn2) (ab_tok tx p).1 hn1.1 2 0 20 (by decide) (by decide) (by decide) (fun q => absurd q (by decide)) (fun _ v q => q)) rfl rfl (by decide) (Nat.le_of_ble_eq_true rfl) (fun r Me hy1 => ?_)
    have qc := (m_kc_let (c := 109) (ab_tok_v h8) (by decide) (by decide)).mp h_1_3
    exact hr _ _ _ _ dX6_readsItem_100 (m_pQ_01 hy1) (by rw [ab_item, if_neg (fun q => q qc.1), if_neg (by rw [qc.2]; decide), if_neg (by rw [qc.2]; decide), if_neg (by rw [qc.2]; decide), if_pos qc.2]; exact m_pQ_mono (m_k_ft hn2) hy1)
  · refine r_aload_n K 0 dX6_readsItem_68 rfl rfl ?_
    refine r_iconst K (v := 3) dX6_readsItem_69 (by decide) ?_
    refine r_iconst K (v := 1) dX6_readsItem_70 (by decide) ?_
    refine r_iconst K (v := 3) dX6_readsItem_71 (by decide) ?_
    refine r_callVi K [.int 3, .int 1, .int 3] [] dX6_readsItem_72 mf_X6_readsOnce rfl rfl qw_666 qw_668 qs_22 (cm_readsOnce l g t Mn tx (m_text_ft htx hn2) (ab_tok tx p).2.2.2 hn1.2.2.2 hl.2.2.1 T (m_pS_ft hT hn2) (ab_tok tx p).1 hn1.1 3 1 3 (by decide) (by decide) (by decide) (fun _ v a b => ⟨a, b⟩) (fun q => absurd q (by decide))) rfl rfl (by decide) (Nat.le_of_ble_eq_true rfl) (fun r Me hy1 => ?_)
    have qc := (m_kc_let (c := 116) (ab_tok_v h8) (by decide) (by decide)).mp h_1_4
    exact hr _ _ _ _ dX6_readsItem_75 (m_pQ_01 hy1) (by rw [ab_item, if_neg (fun q => q qc.1), if_pos qc.2]; exact m_pQ_mono (m_k_ft hn2) hy1)
  · refine r_aload_n K 0 dX6_readsItem_101 rfl rfl ?_
    refine r_callVi K [] [] dX6_readsItem_102 mf_X6_readsWish rfl rfl qw_685 qw_687 qs_26 (cm_readsWish l g t Mn tx (m_text_ft htx hn2) (ab_tok tx p).2.2.2 hn1.2.2.2 hl.2.2.1 T (m_pS_ft hT hn2) (ab_tok tx p).1 hn1.1) rfl rfl (by decide) (Nat.le_of_ble_eq_true rfl) (fun r Me hy1 => ?_)
    have qc := (m_kc_let (c := 119) (ab_tok_v h8) (by decide) (by decide)).mp h_1_5
    exact hr _ _ _ _ dX6_readsItem_105 (m_pQ_01 hy1) (by rw [ab_item, if_neg (fun q => q qc.1), if_neg (by rw [qc.2]; decide), if_neg (by rw [qc.2]; decide), if_neg (by rw [qc.2]; decide), if_neg (by rw [qc.2]; decide), if_pos qc.2]; exact m_pQ_mono (m_k_ft hn2) hy1)
  · refine r_aload_n K 0 dX6_readsItem_111 rfl rfl ?_
    refine r_callVi K [] [] dX6_readsItem_112 mf_X6_fails rfl rfl qw_673 qw_675 qs_23 (cm_fails l g t Mn ((ab_tok tx p).1) hn1.1) rfl rfl (by decide) (Nat.le_of_ble_eq_true rfl) (fun r9 M9 hp9 => ?_)
    obtain ⟨hz1, hz2⟩ := hp9
    subst hz1
    subst hz2
    have q98 : ¬ ((ab_tok tx p).2.1 = 2 ∧ (ab_tok tx p).2.2.1 = 98) := fun q => h_1_0 ((m_kc_let (c := 98) (ab_tok_v h8) (by decide) (by decide)).mpr q)
    have q106 : ¬ ((ab_tok tx p).2.1 = 2 ∧ (ab_tok tx p).2.2.1 = 106) := fun q => h_1_1 ((m_kc_let (c := 106) (ab_tok_v h8) (by decide) (by decide)).mpr q)
    have q107 : ¬ ((ab_tok tx p).2.1 = 2 ∧ (ab_tok tx p).2.2.1 = 107) := fun q => h_1_2 ((m_kc_let (c := 107) (ab_tok_v h8) (by decide) (by decide)).mpr q)
    have q109 : ¬ ((ab_tok tx p).2.1 = 2 ∧ (ab_tok tx p).2.2.1 = 109) := fun q => h_1_3 ((m_kc_let (c := 109) (ab_tok_v h8) (by decide) (by decide)).mpr q)
    have q116 : ¬ ((ab_tok tx p).2.1 = 2 ∧ (ab_tok tx p).2.2.1 = 116) := fun q => h_1_4 ((m_kc_let (c := 116) (ab_tok_v h8) (by decide) (by decide)).mpr q)
    have q119 : ¬ ((ab_tok tx p).2.1 = 2 ∧ (ab_tok tx p).2.2.1 = 119) := fun q => h_1_5 ((m_kc_let (c := 119) (ab_tok_v h8) (by decide) (by decide)).mpr q)
    have eR : ab_item tx T (ab_tok tx p) = .inl (ab_tok tx p).1 := by
      rw [ab_item]
      by_cases k2 : (ab_tok tx p).2.1 = 2
      · rw [if_neg (fun q => q k2), if_neg (fun q => q116 ⟨k2, q⟩), if_neg (fun q => q98 ⟨k2, q⟩), if_neg (fun q => q106 ⟨k2, q⟩), if_neg (fun q => q109 ⟨k2, q⟩), if_neg (fun q => q119 ⟨k2, q⟩), if_neg (fun q => q107 ⟨k2, q⟩)]
      · rw [if_pos k2]
    exact hr _ _ _ _ dX6_readsItem_115 (Or.inl rfl) (m_pQ_inl (m_k_tr (m_k_ft hn2) (m_k_st (by decide))) eR (by rw [rs_st_eq]))
set_option maxHeartbeats 4000000 in
set_option maxRecDepth 100000 in
theorem cm_begins (l : Launch) (g : rs_G) (t : Nat × Nat) (M : rs_M) (a : Nat) (ha : a = 1 ∨ a = 13) : rs_Cv l g mk t yX6_begins cX6_begins 2 0 [.ref (g.2.2 a)] M (fun M1 => m_row (M1 a) ab_L0 ∧ ∀ c, c ≠ a → M1 c = M c) := by
  have hma : mk[a]? = some (0, 53, []) := by rcases ha with rfl | rfl <;> rfl
  refine rs_ofv (plainFor_of_name (by decide)) (Nat.le_of_ble_eq_true rfl) ?_
  intro Y K hr
  show Y M 0 [(0, .ref (g.2.2 a))] []
  refine r_iconst K (v := 0) dX6_begins_0 (by decide) ?_
  refine r_istore_n K [(1, .int 0), (0, .ref (g.2.2 a))] dX6_begins_1 rfl (by decide) rfl ?_
  have lp : ∀ (f : Nat) (k : Nat) (Mi : rs_M), (53 - k < f) → (k ≤ 53) → ((∀ c, c ≠ a → Mi c = M c) ∧ ∀ q, q < k → Mi a q = 0) → Y Mi 2 [(1, .int (nI k)), (0, .ref (g.2.2 a))] [] := by
    intro f
    induction f with
    | zero =>
      intro k Mi hf
      exact absurd hf (Nat.not_lt_zero _)
    | succ f ih =>
      intro k Mi hf hk hI
      refine r_iload_n K 0 dX6_begins_2 rfl rfl ?_
      refine r_bipush K (v := 53) dX6_begins_3 (by decide) ?_
      refine r_icmp_ge K 18 dX6_begins_5 (by decide) (fun h_1 => ?_) (fun h_1 => ?_)
      · have nh_1 : 53 ≤ k := (nf_le rfl rfl (by omega) (by omega)).mp h_1
        refine r_aload_n K 1 dX6_begins_18 rfl rfl ?_
        refine r_iconst K (v := 0) dX6_begins_19 (by decide) ?_
        refine r_iconst K (v := 1) dX6_begins_20 (by decide) ?_
        refine r_iast K (j := 0) hma rfl (by decide) (by decide) dX6_begins_21 ?_
        have hz : ∀ q, q < 53 → q ≠ 0 → (rs_st Mi a 0 1) a q = 0 := fun q q1 q2 => by rw [rs_st_nk _ _ _ q2]; exact hI.2 q (by omega)
        exact hr _ _ _ dX6_begins_22 ⟨⟨by rw [rs_st_eq]; rfl, hz 1 (by decide) (by decide), hz 2 (by decide) (by decide), hz 3 (by decide) (by decide), fun i i1 i2 => absurd i2 (by show ¬ i ≤ 0; omega), fun p hp => ⟨hz _ (by omega) (by omega), hz _ (by omega) (by omega)⟩⟩, fun c hc => by rw [rs_st_ne _ _ _ hc]; exact hI.1 c hc⟩
      · have nh_1 : ¬ 53 ≤ k := mt (nf_le rfl rfl (by omega) (by omega)).mpr h_1
        refine r_aload_n K 1 dX6_begins_8 rfl rfl ?_
        refine r_iload_n K 0 dX6_begins_9 rfl rfl ?_
        refine r_iconst K (v := 0) dX6_begins_10 (by decide) ?_
        refine r_iast K (j := k) hma rfl (by omega) (by decide) dX6_begins_11 ?_
        refine r_iinc_n K 0 [(1, .int (nI (k + 1))), (0, .ref (g.2.2 a))] dX6_begins_12 rfl (by decide) rfl ?_
        refine r_goto K 2 dX6_begins_15 (by decide) ?_
        exact ih (k + 1) _ (by omega) (by omega) ⟨fun c hc => by rw [rs_st_ne _ _ _ hc]; exact hI.1 c hc, fun q hq => by
          by_cases e : q = k
          · subst e; rw [rs_st_eq]
          · rw [rs_st_nk _ _ _ e]; exact hI.2 q (by omega)⟩
  exact lp 54 0 M (by omega) (by omega) ⟨fun _ _ => rfl, fun q hq => absurd hq (Nat.not_lt_zero _)⟩
set_option maxHeartbeats 4000000 in
set_option maxRecDepth 100000 in
theorem cm_tunnel (l : Launch) (g : rs_G) (t : Nat × Nat) (M : rs_M) (A : ab_S) (hS : m_S M A) : rs_Ci l g mk t yX6_tunnel cX6_tunnel 3 .int 6 [.ref (g.2.2 0)] M (fun r M1 => m_R (ab_tunnel A) r M1) := by
  obtain ⟨hrow, hok, ht, h0, hun, hse, htx, him, hz⟩ := id hS
  have hn12 := hok.1
  obtain ⟨tx, htxe⟩ : ∃ tx, tx = A.2.2.2.2.1 := ⟨_, rfl⟩
  have hl120 : tx.length ≤ 120 := by rw [htxe]; exact htx.2.1
  refine rs_ofi (plainFor_of_name (by decide)) (Nat.le_of_ble_eq_true rfl) ?_
  intro Y K hr
  show Y M 0 [(0, .ref (g.2.2 0))] []
  refine r_aload_n K 0 dX6_tunnel_0 rfl rfl ?_
  refine r_getR K rfl rfl ff_6_read qw_569 dX6_tunnel_1 ?_
  refine r_callSv K [.ref (g.2.2 13)] [] dX6_tunnel_4 mf_X6_begins qw_541 qw_542 (cm_begins l g t M 13 (Or.inr rfl)) rfl rfl (by decide) (Nat.le_of_ble_eq_true rfl) (fun Mg hp => ?_)
  obtain ⟨hg1, hg2⟩ := hp
  refine r_aload_n K 0 dX6_tunnel_7 rfl rfl ?_
  refine r_iconst K (v := 0) dX6_tunnel_8 (by decide) ?_
  refine r_put K rfl rfl ff_6_readOnce qw_566 rfl rfl dX6_tunnel_9 ?_
  refine r_aload_n K 0 dX6_tunnel_12 rfl rfl ?_
  refine r_iconst K (v := 1) dX6_tunnel_13 (by decide) ?_
  refine r_put K rfl rfl ff_6_readTaper qw_567 rfl rfl dX6_tunnel_14 ?_
  refine r_aload_n K 0 dX6_tunnel_17 rfl rfl ?_
  refine r_iconst K (v := 0) dX6_tunnel_18 (by decide) ?_
  refine r_put K rfl rfl ff_6_readWishes qw_568 rfl rfl dX6_tunnel_19 ?_
  refine r_aload_n K 0 dX6_tunnel_22 rfl rfl ?_
  refine r_iconst K (v := 0) dX6_tunnel_23 (by decide) ?_
  refine r_put K rfl rfl ff_6_readAt qw_561 rfl rfl dX6_tunnel_24 ?_
  refine r_iconst K (v := 0) dX6_tunnel_27 (by decide) ?_
  refine r_istore_n K [(1, .int 0), (0, .ref (g.2.2 0))] dX6_tunnel_28 rfl (by decide) rfl ?_
  refine r_aload_n K 1 dX6_tunnel_29 rfl rfl ?_
  have e0 : ∀ j, j ≠ 17 → j ≠ 22 → j ≠ 23 → j ≠ 24 → (rs_st (rs_st (rs_st (rs_st Mg 0 22 0) 0 23 1) 0 24 0) 0 17 0) 0 j = M 0 j := fun j j1 j2 j3 j4 => by rw [rs_st_nk _ _ _ j1, rs_st_nk _ _ _ j4, rs_st_nk _ _ _ j3, rs_st_nk _ _ _ j2, hg2 0 (by decide)]
  have ec : ∀ c, c ≠ 0 → c ≠ 13 → (rs_st (rs_st (rs_st (rs_st Mg 0 22 0) 0 23 1) 0 24 0) 0 17 0) c = M c := fun c c1 c2 => by rw [rs_st_ne _ _ _ c1, rs_st_ne _ _ _ c1, rs_st_ne _ _ _ c1, rs_st_ne _ _ _ c1, hg2 c c2]
  have hS5 : m_S (rs_st (rs_st (rs_st (rs_st Mg 0 22 0) 0 23 1) 0 24 0) 0 17 0) A := m_S_k hS ⟨fun c hc => ec c (by omega) (by omega), fun j hj => e0 j (by omega) (by omega) (by omega) (by omega), fun c c1 c2 => by rw [ec c (by omega) (by omega)]⟩
  have hT5 : m_pS (rs_st (rs_st (rs_st (rs_st Mg 0 22 0) 0 23 1) 0 24 0) 0 17 0) ab_T0 := ⟨by rw [rs_st_ne _ _ _ (by decide), rs_st_ne _ _ _ (by decide), rs_st_ne _ _ _ (by decide), rs_st_ne _ _ _ (by decide)]; exact hg1, ab_ok_L0, Or.inl rfl, by simp [rs_st]; rfl, by simp [rs_st]; rfl, by decide, 0, by decide, by simp [rs_st]; rfl, fun w hw => by simp [ab_T0]⟩
  refine r_callVv K [] [] dX6_tunnel_30 mf_X6_blanks rfl rfl qw_647 qw_649 qs_18 (cm_blanks l g t (rs_st (rs_st (rs_st (rs_st Mg 0 22 0) 0 23 1) 0 24 0) 0 17 0) tx (by rw [htxe]; exact hS5.2.2.2.2.2.2.1) 0 (by rw [rs_st_eq]; rfl) (Nat.zero_le _)) rfl rfl (by decide) (Nat.le_of_ble_eq_true rfl) (fun Mb hp9 => ?_)
  obtain ⟨hb1, hb2, hb3⟩ := hp9
  have hfb : m_ft (rs_st (rs_st (rs_st (rs_st Mg 0 22 0) 0 23 1) 0 24 0) 0 17 0) Mb := ⟨hb2, fun j hj => hb3 j (by omega)⟩
  have lp : ∀ (f : Nat) (n : Nat) (p : Nat) (T : ab_T) (Mj : rs_M), (121 - n < f) → (n ≤ p) → (p ≤ tx.length) → (ab_items tx 121 ab_T0 0 0 = ab_items tx (121 - n) T p n) → (m_S Mj A) → (m_pS Mj T) → (Mj 0 17 = nI (ab_bl tx (tx.length - p) p)) → Y Mj 33 [(1, .int (nI n)), (0, .ref (g.2.2 0))] [] := by
    intro f
    induction f with
    | zero =>
      intro n p T Mj hf
      exact absurd hf (Nat.not_lt_zero _)
    | succ f ih =>
      intro n p T Mj hf hnp hpl hJ hSj hTj h17j
      have l0 := ab_tok_len (tx := tx) (p := p) hpl
      have hbl := (ab_bl_ge tx (tx.length - p) p).2 hpl
      refine r_aload_n K 1 dX6_tunnel_33 rfl rfl ?_
      refine r_getI K rfl rfl ff_6_readAt qw_561 dX6_tunnel_34 ?_
      refine r_top_eq (nI (ab_bl tx (tx.length - p) p)) h17j ?_
      refine r_aload_n K 1 dX6_tunnel_37 rfl rfl ?_
      refine r_getI K rfl rfl ff_6_letterMany qw_559 dX6_tunnel_38 ?_
      refine r_top_eq (nI tx.length) (by have q := hSj.2.2.2.2.2.2.1.1; rw [← htxe] at q; exact q) ?_
      refine r_icmp_ge K 69 dX6_tunnel_41 (by decide) (fun h_1 => ?_) (fun h_1 => ?_)
      · have nh_1 : tx.length ≤ (ab_bl tx (tx.length - p) p) := (nf_le rfl rfl (by omega) (by omega)).mp h_1
        have hk0 : (ab_tok tx p).2.1 = 0 := l0.2.2.2.2.1.mpr (by rw [ab_tok_1]; omega)
        have hE : ab_items tx 121 ab_T0 0 0 = .inr (T, n) := by rw [hJ, show 121 - n = (120 - n) + 1 by omega, ab_items, if_pos hk0]
        refine r_aload_n K 1 dX6_tunnel_69 rfl rfl ?_
        refine r_iconst K (v := 0) dX6_tunnel_70 (by decide) ?_
        refine r_put K rfl rfl ff_6_letterMany qw_559 rfl rfl dX6_tunnel_71 ?_
        refine r_aload_n K 1 dX6_tunnel_74 rfl rfl ?_
        refine r_aload_n K 1 dX6_tunnel_75 rfl rfl ?_
        refine r_getI K rfl rfl ff_6_readTaper qw_567 dX6_tunnel_76 ?_
        refine r_top_eq T.2.1 (by rw [rs_st_nk _ _ _ (by decide)]; exact hTj.2.2.2.1) ?_
        refine r_put K rfl rfl ff_6_taper qw_544 rfl rfl dX6_tunnel_79 ?_
        refine r_iconst K (v := 0) dX6_tunnel_82 (by decide) ?_
        refine r_istore_n K [(2, .int 0), (1, .int (nI n)), (0, .ref (g.2.2 0))] dX6_tunnel_83 rfl (by decide) rfl ?_
        have lq : ∀ (f : Nat) (k : Nat) (Mi : rs_M), (53 - k < f) → (k ≤ 53) → ((∀ c, c ≠ 1 → Mi c = (rs_st (rs_st Mj 0 15 0) 0 0 T.2.1) c) ∧ ∀ q, q < k → Mi 1 q = Mj 13 q) → Y Mi 84 [(2, .int (nI k)), (1, .int (nI n)), (0, .ref (g.2.2 0))] [] := by
          intro f
          induction f with
          | zero =>
            intro k Mi hf
            exact absurd hf (Nat.not_lt_zero _)
          | succ f ih =>
            intro k Mi hg hk hI
            refine r_iload_n K 0 dX6_tunnel_84 rfl rfl ?_
            refine r_bipush K (v := 53) dX6_tunnel_85 (by decide) ?_
            refine r_icmp_ge K 108 dX6_tunnel_87 (by decide) (fun h_2 => ?_) (fun h_2 => ?_)
            · have nh_2 : 53 ≤ k := (nf_le rfl rfl (by omega) (by omega)).mp h_2
              refine r_aload_n K 2 dX6_tunnel_108 rfl rfl ?_
              refine r_iconst K (v := 0) dX6_tunnel_109 (by decide) ?_
              refine r_put K rfl rfl ff_6_undoMany qw_546 rfl rfl dX6_tunnel_110 ?_
              refine r_aload_n K 2 dX6_tunnel_113 rfl rfl ?_
              refine r_iconst K (v := 0) dX6_tunnel_114 (by decide) ?_
              refine r_put K rfl rfl ff_6_seenMany qw_549 rfl rfl dX6_tunnel_115 ?_
              refine r_aload_n K 2 dX6_tunnel_118 rfl rfl ?_
              refine r_getR K rfl rfl ff_6_isKept qw_552 dX6_tunnel_119 ?_
              refine r_iconst K (v := 0) dX6_tunnel_122 (by decide) ?_
              refine r_iconst K (v := 0) dX6_tunnel_123 (by decide) ?_
              refine r_zast K (j := 0) rfl rfl (by decide) (by decide) dX6_tunnel_124 ?_
              refine r_aload_n K 2 dX6_tunnel_125 rfl rfl ?_
              refine r_getR K rfl rfl ff_6_isKept qw_552 dX6_tunnel_126 ?_
              refine r_iconst K (v := 1) dX6_tunnel_129 (by decide) ?_
              refine r_iconst K (v := 0) dX6_tunnel_130 (by decide) ?_
              refine r_zast K (j := 1) rfl rfl (by decide) (by decide) dX6_tunnel_131 ?_
              refine r_iload_n K 1 dX6_tunnel_132 rfl rfl ?_
              have hk53 : k = 53 := by omega
              subst hk53
              have e : ab_tunnel A = (nI n, (T.1, T.2.1, [], [], [], fun _ => none)) := by rw [ab_tunnel, ← htxe, hE]
              obtain ⟨g1, g2, g3, g4, g5, g6, -⟩ := hTj
              obtain ⟨-, -, -, -, ⟨a, a1, a2, -⟩, -, -, -, hzj⟩ := hSj
              have ef : ∀ c, c ≠ 0 → c ≠ 5 → (rs_st (rs_st (rs_st (rs_st Mi 0 2 0) 0 5 0) 5 0 (vp_nar .boolean 0)) 5 1 (vp_nar .boolean 0)) c = Mi c := fun c c1 c2 => by rw [rs_st_ne _ _ _ c2, rs_st_ne _ _ _ c2, rs_st_ne _ _ _ c1, rs_st_ne _ _ _ c1]
              have eg : ∀ j, j ≠ 2 → j ≠ 5 → (rs_st (rs_st (rs_st (rs_st Mi 0 2 0) 0 5 0) 5 0 (vp_nar .boolean 0)) 5 1 (vp_nar .boolean 0)) 0 j = Mi 0 j := fun j c1 c2 => by rw [rs_st_ne _ _ _ (by decide), rs_st_ne _ _ _ (by decide), rs_st_nk _ _ _ c2, rs_st_nk _ _ _ c1]
              refine hr _ _ _ _ dX6_tunnel_133 (by rw [e]; exact ⟨rfl, by rw [ef 1 (by decide) (by decide)]; exact m_row_same g2.1 g1 (fun q hq => hI.2 q hq), g2, g3, by rw [eg 0 (by decide) (by decide), hI.1 0 (by decide), rs_st_eq], m_und_0 (a := a) a1 (by rw [eg 3 (by decide) (by decide), hI.1 0 (by decide), rs_st_nk _ _ _ (by decide), rs_st_nk _ _ _ (by decide)]; exact a2) (by rw [rs_st_ne _ _ _ (by decide), rs_st_ne _ _ _ (by decide), rs_st_nk _ _ _ (by decide), rs_st_eq]), ⟨by rw [rs_st_ne _ _ _ (by decide), rs_st_ne _ _ _ (by decide), rs_st_eq]; rfl, by simp, fun i hi => absurd hi (Nat.not_lt_zero _)⟩, ⟨by rw [eg 15 (by decide) (by decide), hI.1 0 (by decide), rs_st_nk _ _ _ (by decide), rs_st_eq]; rfl, by simp, fun i hi => absurd hi (Nat.not_lt_zero _)⟩, ⟨show (rs_st (rs_st (rs_st (rs_st Mi 0 2 0) 0 5 0) 5 0 (vp_nar .boolean 0)) 5 1 (vp_nar .boolean 0)) 5 0 = 0 by rw [rs_st_nk _ _ _ (by decide), rs_st_eq, x_nar0], show (rs_st (rs_st (rs_st (rs_st Mi 0 2 0) 0 5 0) 5 0 (vp_nar .boolean 0)) 5 1 (vp_nar .boolean 0)) 5 1 = 0 by rw [rs_st_eq, x_nar0]⟩, m_z_fr hzj (fun c c1 c2 => by rw [ef c (by omega) (by omega), hI.1 c (by omega), rs_st_ne _ _ _ (by omega), rs_st_ne _ _ _ (by omega)])⟩)
            · have nh_2 : ¬ 53 ≤ k := mt (nf_le rfl rfl (by omega) (by omega)).mpr h_2
              refine r_aload_n K 2 dX6_tunnel_90 rfl rfl ?_
              refine r_getR K rfl rfl ff_6_now qw_545 dX6_tunnel_91 ?_
              refine r_iload_n K 0 dX6_tunnel_94 rfl rfl ?_
              refine r_aload_n K 2 dX6_tunnel_95 rfl rfl ?_
              refine r_getR K rfl rfl ff_6_read qw_569 dX6_tunnel_96 ?_
              refine r_iload_n K 0 dX6_tunnel_99 rfl rfl ?_
              refine r_iald K (j := k) rfl rfl (by omega) (by decide) dX6_tunnel_100 ?_
              refine r_top_eq (Mj 13 k) (by rw [hI.1 13 (by decide), rs_st_ne _ _ _ (by decide), rs_st_ne _ _ _ (by decide)]) ?_
              refine r_iast K (j := k) rfl rfl (by omega) (by decide) dX6_tunnel_101 ?_
              refine r_iinc_n K 0 [(2, .int (nI (k + 1))), (1, .int (nI n)), (0, .ref (g.2.2 0))] dX6_tunnel_102 rfl (by decide) rfl ?_
              refine r_goto K 84 dX6_tunnel_105 (by decide) ?_
              exact ih (k + 1) _ (by omega) (by omega) ⟨fun c hc => by rw [rs_st_ne _ _ _ hc]; exact hI.1 c hc, fun q hq => by
                by_cases e : q = k
                · subst e; rw [rs_st_eq]
                · rw [rs_st_nk _ _ _ e]; exact hI.2 q (by omega)⟩
        exact lq 54 0 _ (by omega) (by omega) ⟨fun _ _ => rfl, fun q hq => absurd hq (Nat.not_lt_zero _)⟩
      · have nh_1 : ¬ tx.length ≤ (ab_bl tx (tx.length - p) p) := mt (nf_le rfl rfl (by omega) (by omega)).mpr h_1
        refine r_aload_n K 1 dX6_tunnel_44 rfl rfl ?_
        have hk0 : ¬ (ab_tok tx p).2.1 = 0 := fun q => by have := l0.2.2.2.2.1.mp q; rw [ab_tok_1] at this; omega
        have hpn := l0.2.2.2.2.2.1 hk0
        refine r_callVi K [] [] dX6_tunnel_45 mf_X6_readsItem rfl rfl qw_651 qw_653 qs_19 (cm_readsItem l g t Mj tx (by rw [htxe]; exact hSj.2.2.2.2.2.2.1) (ab_bl tx (tx.length - p) p) h17j (by omega) T hTj hSj.2.2.2.2.2.2.2.2) rfl rfl (by decide) (Nat.le_of_ble_eq_true rfl) (fun r9 Me hp9 => ?_)
        obtain ⟨hke, hp9⟩ := hp9
        rw [ab_tok_bl] at hp9
        have hSe : m_S Me A := m_S_k hSj hke
        rcases hR : ab_item tx T (ab_tok tx p) with ff | ⟨T1, q⟩
        · rw [hR] at hp9
          obtain ⟨rfl, hff⟩ := hp9
          have hE : ab_items tx 121 ab_T0 0 0 = .inl ff := by rw [hJ, show 121 - n = (120 - n) + 1 by omega]; exact ab_items_bad hk0 hR
          refine r_if_ne K 59 dX6_tunnel_48 (by decide) (fun h => absurd h (by decide)) (fun _ => ?_)
          refine r_bipush K (v := (-10)) dX6_tunnel_51 (by decide) ?_
          refine r_aload_n K 1 dX6_tunnel_53 rfl rfl ?_
          refine r_getI K rfl rfl ff_6_faultAt qw_565 dX6_tunnel_54 ?_
          refine r_top_eq (nI ff) hff ?_
          refine r_isub K dX6_tunnel_57 ?_
          have e : ab_tunnel A = ((-10) - nI ff, A) := by rw [ab_tunnel, ← htxe, hE]
          exact hr _ _ _ _ dX6_tunnel_58 (by rw [e]; exact ⟨rfl, hSe⟩)
        · rw [hR] at hp9
          obtain ⟨rfl, hq17, hql, hT1⟩ := hp9
          have hgq := ab_item_ge l0.2.2.1 hR
          refine r_if_ne K 59 dX6_tunnel_48 (by decide) (fun _ => ?_) (fun h => absurd h (by decide))
          refine r_iinc_n K 0 [(1, .int (nI (n + 1))), (0, .ref (g.2.2 0))] dX6_tunnel_59 rfl (by decide) rfl ?_
          refine r_aload_n K 1 dX6_tunnel_62 rfl rfl ?_
          refine r_callVv K [] [] dX6_tunnel_63 mf_X6_blanks rfl rfl qw_647 qw_649 qs_18 (cm_blanks l g t Me tx (by rw [htxe]; exact hSe.2.2.2.2.2.2.1) q hq17 hql) rfl rfl (by decide) (Nat.le_of_ble_eq_true rfl) (fun Mb hp9 => ?_)
          obtain ⟨hb1, hb2, hb3⟩ := hp9
          have hfb : m_ft Me Mb := ⟨hb2, fun j hj => hb3 j (by omega)⟩
          refine r_goto K 33 dX6_tunnel_66 (by decide) ?_
          exact ih (n + 1) q T1 Mb (by omega) (by omega) hql (by rw [hJ, show 121 - n = (121 - (n + 1)) + 1 by omega]; exact ab_items_go hk0 hR) (m_S_k hSe (m_k_ft hfb)) (m_pS_ft hT1 hfb) hb1
  exact lp 122 0 0 ab_T0 Mb (by omega) (by omega) (Nat.zero_le _) rfl (m_S_k hS5 (m_k_ft hfb)) (m_pS_ft hT5 hfb) hb1
