/-! the reference's tokens -/
def m_ft (M M1 : rs_M) : Prop := (∀ c, c ≠ 0 → M1 c = M c) ∧ ∀ j, ¬ (17 ≤ j ∧ j ≤ 21) → M1 0 j = M 0 j
theorem m_ft_tr {M M1 M2 : rs_M} (h : m_ft M M1) (h2 : m_ft M1 M2) : m_ft M M2 := ⟨fun c hc => (h2.1 c hc).trans (h.1 c hc), fun j hj => (h2.2 j hj).trans (h.2 j hj)⟩
theorem m_ft_st {M : rs_M} {j : Nat} {v : Int32} (h1 : 17 ≤ j) (h2 : j ≤ 21) : m_ft M (rs_st M 0 j v) := ⟨fun c hc => rs_st_ne _ _ _ hc, fun k hk => rs_st_nk _ _ _ (by omega)⟩
theorem m_ft_rf (M : rs_M) : m_ft M M := ⟨fun _ _ => rfl, fun _ _ => rfl⟩
theorem m_text_ft {M M1 : rs_M} {tx : List Int32} (h : m_text M tx) (hf : m_ft M M1) : m_text M1 tx := m_text_fr h (hf.2 15 (by omega)) (hf.1 12 (by decide))
theorem m_k_ft {M M1 : rs_M} (h : m_ft M M1) : m_k M M1 := ⟨fun c hc => h.1 c (by omega), fun j hj => h.2 j (by omega), fun c c1 c2 => by rw [h.1 c (by omega)]⟩
def m_kc (τ : ab_K) : Int32 := match τ.2.1 with
  | 0 => -1
  | 1 => 0
  | 2 => nI τ.2.2.1
  | _ => -2
def m_tok (M : rs_M) (τ : ab_K) : Prop := M 0 18 = nI τ.1 ∧ M 0 19 = m_kc τ ∧ (τ.2.1 = 1 → M 0 20 = nI τ.2.2.1) ∧ M 0 17 = nI τ.2.2.2
theorem m_text_ch {M : rs_M} {tx : List Int32} (h : m_text M tx) {i : Nat} (hi : i < tx.length) : M 12 i = nI (ab_ch tx i) := by
  rw [(h.2.2 i hi).1]; exact ((m_text_8 h).2 i hi).1
theorem ab_bl_no (tx : List Int32) : ∀ f p, tx.length - p ≤ f → ab_bl tx f p < tx.length → ¬ ab_ch tx (ab_bl tx f p) = 32
  | 0, p, h, h2 => by simp only [ab_bl] at h2; omega
  | f + 1, p, h, h2 => by
    simp only [ab_bl] at h2 ⊢
    split
    · rename_i c
      rw [if_pos c] at h2
      exact ab_bl_no tx f (p + 1) (by omega) h2
    · rename_i c
      rw [if_neg c] at h2
      exact fun q => c ⟨h2, q⟩
theorem ab_bl_at {tx : List Int32} {s : Nat} (h : s < tx.length → ¬ ab_ch tx s = 32) (f : Nat) : ab_bl tx f s = s := by
  cases f with
  | zero => rfl
  | succ f => rw [ab_bl, if_neg (fun q => h q.1 q.2)]
theorem ab_tok_bl {tx : List Int32} {p : Nat} : ab_tok tx (ab_bl tx (tx.length - p) p) = ab_tok tx p := by
  rw [ab_tok, ab_bl_at (ab_bl_no tx _ p (Nat.le_refl _))]; rfl
theorem ab_de_at {tx : List Int32} {s : Nat} (h : ¬ ab_dig tx s) (f : Nat) : ab_de tx f s = s := by
  cases f with
  | zero => rfl
  | succ f => rw [ab_de]; exact if_neg h
def m_val (tx : List Int32) (s : Nat) : Nat → Nat
  | 0 => 0
  | k + 1 => if 99 < m_val tx s k then m_val tx s k else 10 * m_val tx s k + ab_ch tx (s + k) - 48
theorem m_val_1 (tx : List Int32) (s : Nat) : m_val tx s 1 = ab_ch tx s - 48 := by simp [m_val]
theorem m_val_2 {tx : List Int32} {s : Nat} (h : 48 ≤ ab_ch tx s ∧ ab_ch tx s ≤ 57) (h1 : 48 ≤ ab_ch tx (s + 1)) : m_val tx s 2 = 10 * (ab_ch tx s - 48) + (ab_ch tx (s + 1) - 48) := by
  rw [m_val, m_val_1, if_neg (by omega)]; omega
theorem m_val_big {tx : List Int32} {s : Nat} (h : 49 ≤ ab_ch tx s ∧ ab_ch tx s ≤ 57) (h1 : 48 ≤ ab_ch tx (s + 1)) (h2 : 48 ≤ ab_ch tx (s + 2)) : ∀ k, 99 < m_val tx s (k + 3)
  | 0 => by
    rw [m_val]
    have := m_val_2 (tx := tx) (s := s) (by omega) h1
    split
    · assumption
    · omega
  | k + 1 => by
    have := m_val_big h h1 h2 k
    rw [show k + 1 + 3 = (k + 3) + 1 by omega, m_val, if_pos this]; exact this
theorem ab_tok_let {tx : List Int32} {p : Nat} (h : (ab_tok tx p).2.1 = 2) : ab_let (ab_tok tx p).2.2.1 := by
  revert h
  unfold ab_tok
  generalize ab_bl tx (tx.length - p) p = s
  generalize ab_de tx (tx.length - s) s = e
  unfold ab_tokat
  by_cases a : s < tx.length
  · rw [ab_if_pos a]
    by_cases b : s < e
    · rw [ab_if_pos b]
      by_cases c : e = s + 1
      · rw [ab_if_pos c]; exact fun q => absurd q (by simp)
      · rw [ab_if_neg c]
        by_cases d : e = s + 2 ∧ ¬ ab_ch tx s = 48
        · rw [ab_if_pos d]; exact fun q => absurd q (by simp)
        · rw [ab_if_neg d]; exact fun q => absurd q (by simp)
    · rw [ab_if_neg b]
      by_cases c : ab_let (ab_ch tx s)
      · rw [ab_if_pos c]; exact fun _ => c
      · rw [ab_if_neg c]; exact fun q => absurd q (by simp)
  · rw [ab_if_neg a]; exact fun q => absurd q (by simp)
theorem ab_let_ge {c : Nat} (h : ab_let c) : 45 ≤ c := by unfold ab_let at h; omega
theorem m_kc_num {τ : ab_K} (h : τ.2.1 = 2 → 45 ≤ τ.2.2.1 ∧ τ.2.2.1 < 256) : m_kc τ = 0 ↔ τ.2.1 = 1 := by
  unfold m_kc
  split
  · rename_i e; exact ⟨fun q => absurd q (by decide), fun q => absurd q (by omega)⟩
  · rename_i e; exact ⟨fun _ => e, fun _ => rfl⟩
  · rename_i e
    have := h e
    exact ⟨fun q => absurd q (nI_ne0 (by omega) (by omega)), fun q => absurd q (by omega)⟩
  · rename_i e1 e2 e3; exact ⟨fun q => absurd q (by decide), fun q => absurd q e2⟩
theorem m_kc_let {τ : ab_K} (h : τ.2.1 = 2 → 45 ≤ τ.2.2.1 ∧ τ.2.2.1 < 256) {c : Nat} (h0 : 0 < c) (hc : c < 256) : m_kc τ = nI c ↔ (τ.2.1 = 2 ∧ τ.2.2.1 = c) := by
  unfold m_kc
  split
  · rename_i e; exact ⟨fun q => absurd q.symm (x_neg_nI (by omega) (by decide)), fun q => absurd q.1 (by omega)⟩
  · rename_i e; exact ⟨fun q => absurd q.symm (nI_ne0 h0 (by omega)), fun q => absurd q.1 (by omega)⟩
  · rename_i e
    have := h e
    exact ⟨fun q => ⟨e, (nI_eq (by omega) (by omega)).mp q⟩, fun q => by rw [q.2]⟩
  · rename_i e1 e2 e3; exact ⟨fun q => absurd q.symm (x_neg_nI (by omega) (by decide)), fun q => absurd q.1 e3⟩
theorem ab_tok_v {tx : List Int32} (h8 : ab_tok8 tx) {p : Nat} : (ab_tok tx p).2.1 = 2 → 45 ≤ (ab_tok tx p).2.2.1 ∧ (ab_tok tx p).2.2.1 < 256 := fun h => ⟨ab_let_ge (ab_tok_let h), (ab_tok_val h8).1 h⟩
set_option maxHeartbeats 4000000 in
set_option maxRecDepth 100000 in
theorem cm_blanks (l : Launch) (g : rs_G) (t : Nat × Nat) (M : rs_M) (tx : List Int32) (htx : m_text M tx) (p : Nat) (hp : M 0 17 = nI p) (hpl : p ≤ tx.length) : rs_Cv l g mk t yX6_blanks cX6_blanks 1 0 [.ref (g.2.2 0)] M (fun M1 => M1 0 17 = nI (ab_bl tx (tx.length - p) p) ∧ (∀ c, c ≠ 0 → M1 c = M c) ∧ ∀ j, j ≠ 17 → M1 0 j = M 0 j) := by
  have h8 := m_text_8 htx
  have hl120 := htx.2.1
  refine rs_ofv (plainFor_of_name (by decide)) (Nat.le_of_ble_eq_true rfl) ?_
  intro Y K hr
  show Y M 0 [(0, .ref (g.2.2 0))] []
  have lp : ∀ (f : Nat) (q : Nat) (Mi : rs_M), (121 - q < f) → (q ≤ tx.length) → (ab_bl tx (tx.length - p) p = ab_bl tx (tx.length - q) q) → (Mi 0 17 = nI q ∧ (∀ c, c ≠ 0 → Mi c = M c) ∧ ∀ j, j ≠ 17 → Mi 0 j = M 0 j) → Y Mi 0 [(0, .ref (g.2.2 0))] [] := by
    intro f
    induction f with
    | zero =>
      intro q Mi hf
      exact absurd hf (Nat.not_lt_zero _)
    | succ f ih =>
      intro q Mi hf hq hqe hI
      refine r_aload_n K 0 dX6_blanks_0 rfl rfl ?_
      refine r_getI K rfl rfl ff_6_readAt qw_561 dX6_blanks_1 ?_
      refine r_top_eq (nI q) hI.1 ?_
      refine r_aload_n K 0 dX6_blanks_4 rfl rfl ?_
      refine r_getI K rfl rfl ff_6_letterMany qw_559 dX6_blanks_5 ?_
      refine r_top_eq (nI tx.length) (by rw [hI.2.2 15 (by decide)]; exact htx.1) ?_
      refine r_icmp_ge K 38 dX6_blanks_8 (by decide) (fun h_1 => ?_) (fun h_1 => ?_)
      · have nh_1 : tx.length ≤ q := (nf_le rfl rfl (by omega) (by omega)).mp h_1
        have e : ab_bl tx (tx.length - p) p = q := by rw [hqe]; exact ab_bl_at (fun z => absurd z (by omega)) _
        exact hr _ _ _ dX6_blanks_38 (by rw [e]; exact hI)
      · have nh_1 : ¬ tx.length ≤ q := mt (nf_le rfl rfl (by omega) (by omega)).mpr h_1
        have hch := (h8.2 q (by omega)).2
        refine r_aload_n K 0 dX6_blanks_11 rfl rfl ?_
        refine r_getR K rfl rfl ff_6_text qw_560 dX6_blanks_12 ?_
        refine r_aload_n K 0 dX6_blanks_15 rfl rfl ?_
        refine r_getI K rfl rfl ff_6_readAt qw_561 dX6_blanks_16 ?_
        refine r_top_eq (nI q) hI.1 ?_
        refine r_iald K (j := q) rfl rfl (by omega) (by decide) dX6_blanks_19 ?_
        refine r_top_eq (nI (ab_ch tx q)) (by rw [hI.2.1 12 (by decide)]; exact m_text_ch htx (by omega)) ?_
        refine r_bipush K (v := 32) dX6_blanks_20 (by decide) ?_
        refine r_icmp_ne K 38 dX6_blanks_22 (by decide) (fun h_2 => ?_) (fun h_2 => ?_)
        · have nh_2 : ¬ ab_ch tx q = 32 := mt (nf_eq rfl rfl (by omega) (by omega)).mpr h_2
          have e : ab_bl tx (tx.length - p) p = q := by rw [hqe]; exact ab_bl_at (fun z => nh_2) _
          exact hr _ _ _ dX6_blanks_38 (by rw [e]; exact hI)
        · have nh_2 : ab_ch tx q = 32 := (nf_eq rfl rfl (by omega) (by omega)).mp h_2
          refine r_aload_n K 0 dX6_blanks_25 rfl rfl ?_
          refine r_dup K dX6_blanks_26 rfl ?_
          refine r_getI K rfl rfl ff_6_readAt qw_561 dX6_blanks_27 ?_
          refine r_top_eq (nI q) hI.1 ?_
          refine r_iconst K (v := 1) dX6_blanks_30 (by decide) ?_
          refine r_iadd K dX6_blanks_31 ?_
          refine r_top_eq (nI (q + 1)) (nI_1 _) ?_
          refine r_put K rfl rfl ff_6_readAt qw_561 rfl rfl dX6_blanks_32 ?_
          refine r_goto K 0 dX6_blanks_35 (by decide) ?_
          exact ih (q + 1) _ (by omega) (by omega) (by rw [hqe, show tx.length - q = (tx.length - (q + 1)) + 1 by omega, ab_bl, if_pos ⟨by omega, nh_2⟩]) ⟨by rw [rs_st_eq], fun c hc => by rw [rs_st_ne _ _ _ hc]; exact hI.2.1 c hc, fun j hj => by rw [rs_st_nk _ _ _ hj]; exact hI.2.2 j hj⟩
  exact lp 122 p M (by omega) hpl rfl ⟨hp, fun _ _ => rfl, fun _ _ => rfl⟩
set_option maxHeartbeats 4000000 in
set_option maxRecDepth 100000 in
theorem cm_isFigure (l : Launch) (g : rs_G) (t : Nat × Nat) (M : rs_M) (tx : List Int32) (htx : m_text M tx) (q : Nat) (hq : M 0 17 = nI q) (hql : q ≤ tx.length) : rs_Ci l g mk t yX6_isFigure cX6_isFigure 1 .boolean 1 [.ref (g.2.2 0)] M (fun r M1 => ab_b01 r (ab_dig tx q) ∧ M1 = M) := by
  have h8 := m_text_8 htx
  have hl120 := htx.2.1
  refine rs_ofz (plainFor_of_name (by decide)) (Nat.le_of_ble_eq_true rfl) ?_
  intro Y K hr
  show Y M 0 [(0, .ref (g.2.2 0))] []
  refine r_aload_n K 0 dX6_isFigure_0 rfl rfl ?_
  refine r_getI K rfl rfl ff_6_readAt qw_561 dX6_isFigure_1 ?_
  refine r_top_eq (nI q) hq ?_
  refine r_aload_n K 0 dX6_isFigure_4 rfl rfl ?_
  refine r_getI K rfl rfl ff_6_letterMany qw_559 dX6_isFigure_5 ?_
  refine r_top_eq (nI tx.length) htx.1 ?_
  refine r_icmp_ge K 34 dX6_isFigure_8 (by decide) (fun h_1 => ?_) (fun h_1 => ?_)
  · have nh_1 : tx.length ≤ q := (nf_le rfl rfl (by omega) (by omega)).mp h_1
    refine r_iconst K (v := 0) dX6_isFigure_34 (by decide) ?_
    exact hr _ _ _ _ dX6_isFigure_35 (Or.inl rfl) ⟨Or.inr ⟨rfl, fun z => absurd z.1 (by omega)⟩, rfl⟩
  · have nh_1 : ¬ tx.length ≤ q := mt (nf_le rfl rfl (by omega) (by omega)).mpr h_1
    have hch := (h8.2 q (by omega)).2
    refine r_aload_n K 0 dX6_isFigure_11 rfl rfl ?_
    refine r_getR K rfl rfl ff_6_text qw_560 dX6_isFigure_12 ?_
    refine r_aload_n K 0 dX6_isFigure_15 rfl rfl ?_
    refine r_getI K rfl rfl ff_6_readAt qw_561 dX6_isFigure_16 ?_
    refine r_top_eq (nI q) hq ?_
    refine r_iald K (j := q) rfl rfl (by omega) (by decide) dX6_isFigure_19 ?_
    refine r_top_eq (nI (ab_ch tx q)) (m_text_ch htx (by omega)) ?_
    refine r_bipush K (v := 48) dX6_isFigure_20 (by decide) ?_
    refine r_bipush K (v := 57) dX6_isFigure_22 (by decide) ?_
    refine r_callSi K [.int (nI (ab_ch tx q)), .int 48, .int 57] [] dX6_isFigure_24 mf_X6_in qw_636 qw_637 (cm_in l g t M (nI (ab_ch tx q)) 48 57) rfl rfl (by decide) (Nat.le_of_ble_eq_true rfl) (fun r M1 hp => ?_)
    obtain ⟨hp, he⟩ := hp
    have he := he.symm
    subst he
    rcases hp with ⟨rfl, hb_2⟩ | ⟨rfl, hb_2⟩
    · refine r_if_eq K 34 dX6_isFigure_27 (by decide) (fun h => absurd h (by decide)) (fun _ => ?_)
      refine r_iconst K (v := 1) dX6_isFigure_30 (by decide) ?_
      refine r_goto K 35 dX6_isFigure_31 (by decide) ?_
      exact hr _ _ _ _ dX6_isFigure_35 (Or.inr rfl) ⟨Or.inl ⟨rfl, ⟨by omega, (nf_le (X := 48) (Y := ab_ch tx q) rfl rfl (by decide) (by omega)).mp hb_2.1, (nf_le (X := ab_ch tx q) (Y := 57) rfl rfl (by omega) (by decide)).mp hb_2.2⟩⟩, rfl⟩
    · refine r_if_eq K 34 dX6_isFigure_27 (by decide) (fun _ => ?_) (fun h => absurd h (by decide))
      refine r_iconst K (v := 0) dX6_isFigure_34 (by decide) ?_
      exact hr _ _ _ _ dX6_isFigure_35 (Or.inl rfl) ⟨Or.inr ⟨rfl, fun z => hb_2 ⟨(nf_le (X := 48) (Y := ab_ch tx q) rfl rfl (by decide) (by omega)).mpr z.2.1, (nf_le (X := ab_ch tx q) (Y := 57) rfl rfl (by omega) (by decide)).mpr z.2.2⟩⟩, rfl⟩
set_option maxHeartbeats 4000000 in
set_option maxRecDepth 100000 in
theorem cm_isToken (l : Launch) (g : rs_G) (t : Nat × Nat) (M : rs_M) (c : Nat) (hc : c < 256) : rs_Ci l g mk t yX6_isToken cX6_isToken 1 .boolean 0 [.int (nI c)] M (fun r M1 => ab_b01 r (ab_let c) ∧ M1 = M) := by
  refine rs_ofz (plainFor_of_name (by decide)) (Nat.le_of_ble_eq_true rfl) ?_
  intro Y K hr
  show Y M 0 [(0, .int (nI c))] []
  refine r_iload_n K 0 dX6_isToken_0 rfl rfl ?_
  refine r_bipush K (v := 116) dX6_isToken_1 (by decide) ?_
  refine r_icmp_eq K 48 dX6_isToken_3 (by decide) (fun h_1 => ?_) (fun h_1 => ?_)
  · have nh_1 : c = 116 := (nf_eq rfl rfl (by omega) (by omega)).mp h_1
    refine r_iconst K (v := 1) dX6_isToken_48 (by decide) ?_
    refine r_goto K 53 dX6_isToken_49 (by decide) ?_
    exact hr _ _ _ _ dX6_isToken_53 (Or.inr rfl) ⟨Or.inl ⟨rfl, (by unfold ab_let; omega)⟩, rfl⟩
  · have nh_1 : ¬ c = 116 := mt (nf_eq rfl rfl (by omega) (by omega)).mpr h_1
    refine r_iload_n K 0 dX6_isToken_6 rfl rfl ?_
    refine r_bipush K (v := 98) dX6_isToken_7 (by decide) ?_
    refine r_icmp_eq K 48 dX6_isToken_9 (by decide) (fun h_2 => ?_) (fun h_2 => ?_)
    · have nh_2 : c = 98 := (nf_eq rfl rfl (by omega) (by omega)).mp h_2
      refine r_iconst K (v := 1) dX6_isToken_48 (by decide) ?_
      refine r_goto K 53 dX6_isToken_49 (by decide) ?_
      exact hr _ _ _ _ dX6_isToken_53 (Or.inr rfl) ⟨Or.inl ⟨rfl, (by unfold ab_let; omega)⟩, rfl⟩
    · have nh_2 : ¬ c = 98 := mt (nf_eq rfl rfl (by omega) (by omega)).mpr h_2
      refine r_iload_n K 0 dX6_isToken_12 rfl rfl ?_
      refine r_bipush K (v := 106) dX6_isToken_13 (by decide) ?_
      refine r_icmp_eq K 48 dX6_isToken_15 (by decide) (fun h_3 => ?_) (fun h_3 => ?_)
      · have nh_3 : c = 106 := (nf_eq rfl rfl (by omega) (by omega)).mp h_3
        refine r_iconst K (v := 1) dX6_isToken_48 (by decide) ?_
        refine r_goto K 53 dX6_isToken_49 (by decide) ?_
        exact hr _ _ _ _ dX6_isToken_53 (Or.inr rfl) ⟨Or.inl ⟨rfl, (by unfold ab_let; omega)⟩, rfl⟩
      · have nh_3 : ¬ c = 106 := mt (nf_eq rfl rfl (by omega) (by omega)).mpr h_3
        refine r_iload_n K 0 dX6_isToken_18 rfl rfl ?_
        refine r_bipush K (v := 109) dX6_isToken_19 (by decide) ?_
        refine r_icmp_eq K 48 dX6_isToken_21 (by decide) (fun h_4 => ?_) (fun h_4 => ?_)
        · have nh_4 : c = 109 := (nf_eq rfl rfl (by omega) (by omega)).mp h_4
          refine r_iconst K (v := 1) dX6_isToken_48 (by decide) ?_
          refine r_goto K 53 dX6_isToken_49 (by decide) ?_
          exact hr _ _ _ _ dX6_isToken_53 (Or.inr rfl) ⟨Or.inl ⟨rfl, (by unfold ab_let; omega)⟩, rfl⟩
        · have nh_4 : ¬ c = 109 := mt (nf_eq rfl rfl (by omega) (by omega)).mpr h_4
          refine r_iload_n K 0 dX6_isToken_24 rfl rfl ?_
          refine r_bipush K (v := 119) dX6_isToken_25 (by decide) ?_
          refine r_icmp_eq K 48 dX6_isToken_27 (by decide) (fun h_5 => ?_) (fun h_5 => ?_)
          · have nh_5 : c = 119 := (nf_eq rfl rfl (by omega) (by omega)).mp h_5
            refine r_iconst K (v := 1) dX6_isToken_48 (by decide) ?_
            refine r_goto K 53 dX6_isToken_49 (by decide) ?_
            exact hr _ _ _ _ dX6_isToken_53 (Or.inr rfl) ⟨Or.inl ⟨rfl, (by unfold ab_let; omega)⟩, rfl⟩
          · have nh_5 : ¬ c = 119 := mt (nf_eq rfl rfl (by omega) (by omega)).mpr h_5
            refine r_iload_n K 0 dX6_isToken_30 rfl rfl ?_
            refine r_bipush K (v := 107) dX6_isToken_31 (by decide) ?_
            refine r_icmp_eq K 48 dX6_isToken_33 (by decide) (fun h_6 => ?_) (fun h_6 => ?_)
            · have nh_6 : c = 107 := (nf_eq rfl rfl (by omega) (by omega)).mp h_6
              refine r_iconst K (v := 1) dX6_isToken_48 (by decide) ?_
              refine r_goto K 53 dX6_isToken_49 (by decide) ?_
              exact hr _ _ _ _ dX6_isToken_53 (Or.inr rfl) ⟨Or.inl ⟨rfl, (by unfold ab_let; omega)⟩, rfl⟩
            · have nh_6 : ¬ c = 107 := mt (nf_eq rfl rfl (by omega) (by omega)).mpr h_6
              refine r_iload_n K 0 dX6_isToken_36 rfl rfl ?_
              refine r_bipush K (v := 45) dX6_isToken_37 (by decide) ?_
              refine r_icmp_eq K 48 dX6_isToken_39 (by decide) (fun h_7 => ?_) (fun h_7 => ?_)
              · have nh_7 : c = 45 := (nf_eq rfl rfl (by omega) (by omega)).mp h_7
                refine r_iconst K (v := 1) dX6_isToken_48 (by decide) ?_
                refine r_goto K 53 dX6_isToken_49 (by decide) ?_
                exact hr _ _ _ _ dX6_isToken_53 (Or.inr rfl) ⟨Or.inl ⟨rfl, (by unfold ab_let; omega)⟩, rfl⟩
              · have nh_7 : ¬ c = 45 := mt (nf_eq rfl rfl (by omega) (by omega)).mpr h_7
                refine r_iload_n K 0 dX6_isToken_42 rfl rfl ?_
                refine r_bipush K (v := 59) dX6_isToken_43 (by decide) ?_
                refine r_icmp_ne K 52 dX6_isToken_45 (by decide) (fun h_8 => ?_) (fun h_8 => ?_)
                · have nh_8 : ¬ c = 59 := mt (nf_eq rfl rfl (by omega) (by omega)).mpr h_8
                  refine r_iconst K (v := 0) dX6_isToken_52 (by decide) ?_
                  exact hr _ _ _ _ dX6_isToken_53 (Or.inl rfl) ⟨Or.inr ⟨rfl, (by unfold ab_let; omega)⟩, rfl⟩
                · have nh_8 : c = 59 := (nf_eq rfl rfl (by omega) (by omega)).mp h_8
                  refine r_iconst K (v := 1) dX6_isToken_48 (by decide) ?_
                  refine r_goto K 53 dX6_isToken_49 (by decide) ?_
                  exact hr _ _ _ _ dX6_isToken_53 (Or.inr rfl) ⟨Or.inl ⟨rfl, (by unfold ab_let; omega)⟩, rfl⟩
set_option maxHeartbeats 4000000 in
set_option maxRecDepth 100000 in
theorem cm_next (l : Launch) (g : rs_G) (t : Nat × Nat) (M : rs_M) (tx : List Int32) (htx : m_text M tx) (p : Nat) (hp : M 0 17 = nI p) (hpl : p ≤ tx.length) : rs_Cv l g mk t yX6_next cX6_next 1 2 [.ref (g.2.2 0)] M (fun M1 => m_tok M1 (ab_tok tx p) ∧ m_ft M M1) := by
  have h8 := m_text_8 htx
  have hl120 := htx.2.1
  refine rs_ofv (plainFor_of_name (by decide)) (Nat.le_of_ble_eq_true rfl) ?_
  intro Y K hr
  show Y M 0 [(0, .ref (g.2.2 0))] []
  refine r_aload_n K 0 dX6_next_0 rfl rfl ?_
  refine r_callVv K [] [] dX6_next_1 mf_X6_blanks rfl rfl qw_647 qw_649 qs_18 (cm_blanks l g t M tx htx p hp hpl) rfl rfl (by decide) (Nat.le_of_ble_eq_true rfl) (fun Mb hp9 => ?_)
  obtain ⟨hb1, hb2, hb3⟩ := hp9
  have hsl := (ab_bl_ge tx (tx.length - p) p).2 hpl
  have hs32 := ab_bl_no tx (tx.length - p) p (Nat.le_refl _)
  obtain ⟨s, hs⟩ : ∃ s, s = ab_bl tx (tx.length - p) p := ⟨_, rfl⟩
  rw [← hs] at hb1 hsl hs32
  have hfb : m_ft M (rs_st Mb 0 18 (nI s)) := m_ft_tr ⟨hb2, fun j hj => hb3 j (by omega)⟩ (m_ft_st (by decide) (by decide))
  have htb := m_text_ft htx hfb
  have h17 : (rs_st Mb 0 18 (nI s)) 0 17 = nI s := by rw [rs_st_nk _ _ _ (by decide)]; exact hb1
  have h18 : (rs_st Mb 0 18 (nI s)) 0 18 = nI s := rs_st_eq _ _ _ _
  refine r_aload_n K 0 dX6_next_4 rfl rfl ?_
  refine r_aload_n K 0 dX6_next_5 rfl rfl ?_
  refine r_getI K rfl rfl ff_6_readAt qw_561 dX6_next_6 ?_
  refine r_top_eq (nI s) hb1 ?_
  refine r_put K rfl rfl ff_6_tokenAt qw_562 rfl rfl dX6_next_9 ?_
  refine r_aload_n K 0 dX6_next_12 rfl rfl ?_
  refine r_getI K rfl rfl ff_6_readAt qw_561 dX6_next_13 ?_
  refine r_top_eq (nI s) h17 ?_
  refine r_aload_n K 0 dX6_next_16 rfl rfl ?_
  refine r_getI K rfl rfl ff_6_letterMany qw_559 dX6_next_17 ?_
  refine r_top_eq (nI tx.length) htb.1 ?_
  refine r_icmp_ne K 31 dX6_next_20 (by decide) (fun h_1 => ?_) (fun h_1 => ?_)
  · have nh_1 : ¬ s = tx.length := mt (nf_eq rfl rfl (by omega) (by omega)).mpr h_1
    have hch := (h8.2 s (by omega)).2
    refine r_aload_n K 0 dX6_next_31 rfl rfl ?_
    refine r_callVi K [] [] dX6_next_32 mf_X6_isFigure rfl rfl qw_659 qw_661 qs_21 (cm_isFigure l g t (rs_st Mb 0 18 (nI s)) tx htb s h17 hsl) rfl rfl (by decide) (Nat.le_of_ble_eq_true rfl) (fun r M1 hp => ?_)
    obtain ⟨hp, he⟩ := hp
    have he := he.symm
    subst he
    rcases hp with ⟨rfl, hb_2⟩ | ⟨rfl, hb_2⟩
    · refine r_if_eq K 152 dX6_next_35 (by decide) (fun h => absurd h (by decide)) (fun _ => ?_)
      have hsd := hb_2
      refine r_aload_n K 0 dX6_next_38 rfl rfl ?_
      refine r_iconst K (v := 0) dX6_next_39 (by decide) ?_
      refine r_put K rfl rfl ff_6_value qw_564 rfl rfl dX6_next_40 ?_
      have lp : ∀ (f : Nat) (e : Nat) (Mi : rs_M), (121 - e < f) → (s ≤ e) → (e ≤ tx.length) → (ab_de tx (tx.length - s) s = ab_de tx (tx.length - e) e) → (m_val tx s (e - s) ≤ 2000) → (Mi 0 17 = nI e ∧ Mi 0 18 = nI s ∧ Mi 0 20 = nI (m_val tx s (e - s)) ∧ m_ft M Mi) → Y Mi 43 [(0, .ref (g.2.2 0))] [] := by
        intro f
        induction f with
        | zero =>
          intro e Mi hf
          exact absurd hf (Nat.not_lt_zero _)
        | succ f ih =>
          intro e Mi hf hse1 hel hq2 hv hI
          have hti := m_text_ft htx hI.2.2.2
          refine r_aload_n K 0 dX6_next_43 rfl rfl ?_
          refine r_callVi K [] [] dX6_next_44 mf_X6_isFigure rfl rfl qw_659 qw_661 qs_21 (cm_isFigure l g t Mi tx hti e hI.1 hel) rfl rfl (by decide) (Nat.le_of_ble_eq_true rfl) (fun r M1 hp => ?_)
          obtain ⟨hp, he⟩ := hp
          have he := he.symm
          subst he
          rcases hp with ⟨rfl, hb_3⟩ | ⟨rfl, hb_3⟩
          · refine r_if_eq K 103 dX6_next_47 (by decide) (fun h => absurd h (by decide)) (fun _ => ?_)
            have hdg := hb_3
            obtain ⟨dg1, dg2, dg3⟩ := id hdg
            refine r_aload_n K 0 dX6_next_50 rfl rfl ?_
            refine r_aload_n K 0 dX6_next_51 rfl rfl ?_
            refine r_getI K rfl rfl ff_6_value qw_564 dX6_next_52 ?_
            refine r_top_eq (nI (m_val tx s (e - s))) hI.2.2.1 ?_
            refine r_bipush K (v := 99) dX6_next_55 (by decide) ?_
            refine r_icmp_le K 67 dX6_next_57 (by decide) (fun h_4 => ?_) (fun h_4 => ?_)
            · have nh_4 : m_val tx s (e - s) ≤ 99 := (nf_le rfl rfl (by omega) (by omega)).mp h_4
              refine r_bipush K (v := 10) dX6_next_67 (by decide) ?_
              refine r_aload_n K 0 dX6_next_69 rfl rfl ?_
              refine r_getI K rfl rfl ff_6_value qw_564 dX6_next_70 ?_
              refine r_top_eq (nI (m_val tx s (e - s))) hI.2.2.1 ?_
              refine r_imul K dX6_next_73 ?_
              refine r_top_eq (nI (10 * m_val tx s (e - s))) (pk_mul 10 _) ?_
              refine r_aload_n K 0 dX6_next_74 rfl rfl ?_
              refine r_getR K rfl rfl ff_6_text qw_560 dX6_next_75 ?_
              refine r_aload_n K 0 dX6_next_78 rfl rfl ?_
              refine r_getI K rfl rfl ff_6_readAt qw_561 dX6_next_79 ?_
              refine r_top_eq (nI e) hI.1 ?_
              refine r_iald K (j := e) rfl rfl (by omega) (by decide) dX6_next_82 ?_
              refine r_top_eq (nI (ab_ch tx e)) (m_text_ch hti (by omega)) ?_
              refine r_iadd K dX6_next_83 ?_
              refine r_top_eq (nI (10 * m_val tx s (e - s) + ab_ch tx e)) (nI_add _ _) ?_
              refine r_bipush K (v := 48) dX6_next_84 (by decide) ?_
              refine r_isub K dX6_next_86 ?_
              refine r_top_eq (nI (10 * m_val tx s (e - s) + ab_ch tx e - 48)) (pk_sub (b := 48) (by omega)) ?_
              refine r_put K rfl rfl ff_6_value qw_564 rfl rfl dX6_next_87 ?_
              refine r_aload_n K 0 dX6_next_90 rfl rfl ?_
              refine r_dup K dX6_next_91 rfl ?_
              refine r_getI K rfl rfl ff_6_readAt qw_561 dX6_next_92 ?_
              refine r_top_eq (nI e) (by rw [rs_st_nk _ _ _ (by decide)]; exact hI.1) ?_
              refine r_iconst K (v := 1) dX6_next_95 (by decide) ?_
              refine r_iadd K dX6_next_96 ?_
              refine r_top_eq (nI (e + 1)) (nI_1 _) ?_
              refine r_put K rfl rfl ff_6_readAt qw_561 rfl rfl dX6_next_97 ?_
              refine r_goto K 43 dX6_next_100 (by decide) ?_
              have ev : m_val tx s (e + 1 - s) = 10 * m_val tx s (e - s) + ab_ch tx e - 48 := by rw [show e + 1 - s = (e - s) + 1 by omega, m_val, if_neg (by omega), show s + (e - s) = e by omega]
              exact ih (e + 1) _ (by omega) (by omega) (by omega) (by rw [hq2, show tx.length - e = (tx.length - (e + 1)) + 1 by omega, ab_de]; exact if_pos hdg) (by omega) ⟨by rw [rs_st_eq], by rw [rs_st_nk _ _ _ (by decide), rs_st_nk _ _ _ (by decide)]; exact hI.2.1, by rw [rs_st_nk _ _ _ (by decide), rs_st_eq, ev], m_ft_tr hI.2.2.2 (m_ft_tr (m_ft_st (by decide) (by decide)) (m_ft_st (by decide) (by decide)))⟩
            · have nh_4 : ¬ m_val tx s (e - s) ≤ 99 := mt (nf_le rfl rfl (by omega) (by omega)).mpr h_4
              refine r_aload_n K 0 dX6_next_60 rfl rfl ?_
              refine r_getI K rfl rfl ff_6_value qw_564 dX6_next_61 ?_
              refine r_top_eq (nI (m_val tx s (e - s))) hI.2.2.1 ?_
              refine r_goto K 87 dX6_next_64 (by decide) ?_
              refine r_put K rfl rfl ff_6_value qw_564 rfl rfl dX6_next_87 ?_
              refine r_aload_n K 0 dX6_next_90 rfl rfl ?_
              refine r_dup K dX6_next_91 rfl ?_
              refine r_getI K rfl rfl ff_6_readAt qw_561 dX6_next_92 ?_
              refine r_top_eq (nI e) (by rw [rs_st_nk _ _ _ (by decide)]; exact hI.1) ?_
              refine r_iconst K (v := 1) dX6_next_95 (by decide) ?_
              refine r_iadd K dX6_next_96 ?_
              refine r_top_eq (nI (e + 1)) (nI_1 _) ?_
              refine r_put K rfl rfl ff_6_readAt qw_561 rfl rfl dX6_next_97 ?_
              refine r_goto K 43 dX6_next_100 (by decide) ?_
              have ev : m_val tx s (e + 1 - s) = m_val tx s (e - s) := by rw [show e + 1 - s = (e - s) + 1 by omega, m_val, if_pos (by omega)]
              exact ih (e + 1) _ (by omega) (by omega) (by omega) (by rw [hq2, show tx.length - e = (tx.length - (e + 1)) + 1 by omega, ab_de]; exact if_pos hdg) (by omega) ⟨by rw [rs_st_eq], by rw [rs_st_nk _ _ _ (by decide), rs_st_nk _ _ _ (by decide)]; exact hI.2.1, by rw [rs_st_nk _ _ _ (by decide), rs_st_eq, ev], m_ft_tr hI.2.2.2 (m_ft_tr (m_ft_st (by decide) (by decide)) (m_ft_st (by decide) (by decide)))⟩
          · refine r_if_eq K 103 dX6_next_47 (by decide) (fun _ => ?_) (fun h => absurd h (by decide))
            have hnd := hb_3
            have hee : ab_de tx (tx.length - s) s = e := by rw [hq2]; exact ab_de_at hnd _
            have hse2 : s < e := by
              rcases Nat.lt_or_ge s e with q | q
              · exact q
              · exact absurd hsd (by rw [show s = e by omega]; exact hnd)
            have htok : ab_tok tx p = ab_tokat tx s e := by rw [ab_tok, ← hs, hee]
            have hdd := ab_de_dig tx (tx.length - s) s
            rw [hee] at hdd
            have d0 := hdd s (Nat.le_refl _) hse2
            refine r_aload_n K 0 dX6_next_103 rfl rfl ?_
            refine r_aload_n K 0 dX6_next_104 rfl rfl ?_
            refine r_getI K rfl rfl ff_6_value qw_564 dX6_next_105 ?_
            refine r_top_eq (nI (m_val tx s (e - s))) hI.2.2.1 ?_
            refine r_bipush K (v := 99) dX6_next_108 (by decide) ?_
            refine r_icmp_gt K 140 dX6_next_110 (by decide) (fun h_5 => ?_) (fun h_5 => ?_)
            · have nh_5 : 99 < m_val tx s (e - s) := (nf_lt rfl rfl (by omega) (by omega)).mp h_5
              refine r_bipush K (v := (-2)) dX6_next_140 (by decide) ?_
              refine r_goto K 146 dX6_next_142 (by decide) ?_
              refine r_put K rfl rfl ff_6_token qw_563 rfl rfl dX6_next_146 ?_
              refine r_goto K 195 dX6_next_149 (by decide) ?_
              rw [htok] at hr
              refine hr _ _ _ dX6_next_195 ⟨?_, m_ft_tr hI.2.2.2 (m_ft_st (by decide) (by decide))⟩
              have q1 : ¬ e = s + 1 := fun q => by
                have := m_val_1 tx s
                rw [show e - s = 1 by omega] at nh_5
                omega
              have q2 : ¬ (e = s + 2 ∧ ¬ ab_ch tx s = 48) := fun q => by
                have d1 := hdd (s + 1) (by omega) (by omega)
                have := m_val_2 (tx := tx) (s := s) d0 d1.1
                rw [show e - s = 2 by omega] at nh_5
                omega
              rw [ab_tokat, ab_if_pos (by omega), ab_if_pos hse2, ab_if_neg q1, ab_if_neg q2]
              exact ⟨by rw [rs_st_nk _ _ _ (by decide)]; exact hI.2.1, by rw [rs_st_eq]; rfl, fun q => absurd q (by simp), by rw [rs_st_nk _ _ _ (by decide)]; exact hI.1⟩
            · have nh_5 : ¬ 99 < m_val tx s (e - s) := mt (nf_lt rfl rfl (by omega) (by omega)).mpr h_5
              refine r_aload_n K 0 dX6_next_113 rfl rfl ?_
              refine r_getR K rfl rfl ff_6_text qw_560 dX6_next_114 ?_
              refine r_aload_n K 0 dX6_next_117 rfl rfl ?_
              refine r_getI K rfl rfl ff_6_tokenAt qw_562 dX6_next_118 ?_
              refine r_top_eq (nI s) hI.2.1 ?_
              refine r_iald K (j := s) rfl rfl (by omega) (by decide) dX6_next_121 ?_
              refine r_top_eq (nI (ab_ch tx s)) (m_text_ch hti (by omega)) ?_
              refine r_bipush K (v := 48) dX6_next_122 (by decide) ?_
              refine r_icmp_ne K 145 dX6_next_124 (by decide) (fun h_6 => ?_) (fun h_6 => ?_)
              · have nh_6 : ¬ ab_ch tx s = 48 := mt (nf_eq rfl rfl (by omega) (by omega)).mpr h_6
                refine r_iconst K (v := 0) dX6_next_145 (by decide) ?_
                refine r_put K rfl rfl ff_6_token qw_563 rfl rfl dX6_next_146 ?_
                refine r_goto K 195 dX6_next_149 (by decide) ?_
                rw [htok] at hr
                refine hr _ _ _ dX6_next_195 ⟨?_, m_ft_tr hI.2.2.2 (m_ft_st (by decide) (by decide))⟩
                by_cases q1 : e = s + 1
                · rw [ab_tokat, ab_if_pos (by omega), ab_if_pos hse2, ab_if_pos q1]
                  exact ⟨by rw [rs_st_nk _ _ _ (by decide)]; exact hI.2.1, by rw [rs_st_eq]; rfl, fun q => by rw [rs_st_nk _ _ _ (by decide), hI.2.2.1, show e - s = 1 by omega, m_val_1], by rw [rs_st_nk _ _ _ (by decide)]; exact hI.1⟩
                · have d1 := hdd (s + 1) (by omega) (by omega)
                  have q2 : e = s + 2 := by
                    rcases Nat.lt_or_ge e (s + 3) with q | q
                    · omega
                    · have d2 := hdd (s + 2) (by omega) (by omega)
                      have := m_val_big (tx := tx) (s := s) ⟨by omega, d0.2⟩ d1.1 d2.1 (e - s - 3)
                      rw [show e - s - 3 + 3 = e - s by omega] at this
                      omega
                  rw [ab_tokat, ab_if_pos (by omega), ab_if_pos hse2, ab_if_neg q1, ab_if_pos ⟨q2, by omega⟩]
                  exact ⟨by rw [rs_st_nk _ _ _ (by decide)]; exact hI.2.1, by rw [rs_st_eq]; rfl, fun q => by rw [rs_st_nk _ _ _ (by decide), hI.2.2.1, show e - s = 2 by omega, m_val_2 d0 d1.1], by rw [rs_st_nk _ _ _ (by decide)]; exact hI.1⟩
              · have nh_6 : ab_ch tx s = 48 := (nf_eq rfl rfl (by omega) (by omega)).mp h_6
                refine r_aload_n K 0 dX6_next_127 rfl rfl ?_
                refine r_getI K rfl rfl ff_6_readAt qw_561 dX6_next_128 ?_
                refine r_top_eq (nI e) hI.1 ?_
                refine r_aload_n K 0 dX6_next_131 rfl rfl ?_
                refine r_getI K rfl rfl ff_6_tokenAt qw_562 dX6_next_132 ?_
                refine r_top_eq (nI s) hI.2.1 ?_
                refine r_isub K dX6_next_135 ?_
                refine r_top_eq (nI (e - s)) (pk_sub (by omega)) ?_
                refine r_iconst K (v := 1) dX6_next_136 (by decide) ?_
                refine r_icmp_le K 145 dX6_next_137 (by decide) (fun h_7 => ?_) (fun h_7 => ?_)
                · have nh_7 : (e - s) ≤ 1 := (nf_le rfl rfl (by omega) (by omega)).mp h_7
                  refine r_iconst K (v := 0) dX6_next_145 (by decide) ?_
                  refine r_put K rfl rfl ff_6_token qw_563 rfl rfl dX6_next_146 ?_
                  refine r_goto K 195 dX6_next_149 (by decide) ?_
                  rw [htok] at hr
                  refine hr _ _ _ dX6_next_195 ⟨?_, m_ft_tr hI.2.2.2 (m_ft_st (by decide) (by decide))⟩
                  have q1 : e = s + 1 := by omega
                  rw [ab_tokat, ab_if_pos (by omega), ab_if_pos hse2, ab_if_pos q1]
                  exact ⟨by rw [rs_st_nk _ _ _ (by decide)]; exact hI.2.1, by rw [rs_st_eq]; rfl, fun q => by rw [rs_st_nk _ _ _ (by decide), hI.2.2.1, show e - s = 1 by omega, m_val_1], by rw [rs_st_nk _ _ _ (by decide)]; exact hI.1⟩
                · have nh_7 : ¬ (e - s) ≤ 1 := mt (nf_le rfl rfl (by omega) (by omega)).mpr h_7
                  refine r_bipush K (v := (-2)) dX6_next_140 (by decide) ?_
                  refine r_goto K 146 dX6_next_142 (by decide) ?_
                  refine r_put K rfl rfl ff_6_token qw_563 rfl rfl dX6_next_146 ?_
                  refine r_goto K 195 dX6_next_149 (by decide) ?_
                  rw [htok] at hr
                  refine hr _ _ _ dX6_next_195 ⟨?_, m_ft_tr hI.2.2.2 (m_ft_st (by decide) (by decide))⟩
                  have q1 : ¬ e = s + 1 := by omega
                  have q2 : ¬ (e = s + 2 ∧ ¬ ab_ch tx s = 48) := by omega
                  rw [ab_tokat, ab_if_pos (by omega), ab_if_pos hse2, ab_if_neg q1, ab_if_neg q2]
                  exact ⟨by rw [rs_st_nk _ _ _ (by decide)]; exact hI.2.1, by rw [rs_st_eq]; rfl, fun q => absurd q (by simp), by rw [rs_st_nk _ _ _ (by decide)]; exact hI.1⟩
      exact lp 122 s _ (by omega) (by omega) hsl rfl (by rw [Nat.sub_self, m_val]; omega) ⟨by rw [rs_st_nk _ _ _ (by decide)]; exact h17, by rw [rs_st_nk _ _ _ (by decide)]; exact h18, by rw [rs_st_eq, Nat.sub_self, m_val]; rfl, m_ft_tr hfb (m_ft_st (by decide) (by decide))⟩
    · refine r_if_eq K 152 dX6_next_35 (by decide) (fun _ => ?_) (fun h => absurd h (by decide))
      have hnd := hb_2
      have htok : ab_tok tx p = ab_tokat tx s s := by rw [ab_tok, ← hs, ab_de_at hnd]
      refine r_aload_n K 0 dX6_next_152 rfl rfl ?_
      refine r_aload_n K 0 dX6_next_153 rfl rfl ?_
      refine r_getR K rfl rfl ff_6_text qw_560 dX6_next_154 ?_
      refine r_aload_n K 0 dX6_next_157 rfl rfl ?_
      refine r_getI K rfl rfl ff_6_readAt qw_561 dX6_next_158 ?_
      refine r_top_eq (nI s) h17 ?_
      refine r_iald K (j := s) rfl rfl (by omega) (by decide) dX6_next_161 ?_
      refine r_top_eq (nI (ab_ch tx s)) (m_text_ch htb (by omega)) ?_
      refine r_callSi K [.int (nI (ab_ch tx s))] [.ref (g.2.2 0)] dX6_next_162 mf_X6_isToken qw_663 qw_664 (cm_isToken l g t (rs_st Mb 0 18 (nI s)) (ab_ch tx s) hch) rfl rfl (by decide) (Nat.le_of_ble_eq_true rfl) (fun r M1 hp => ?_)
      obtain ⟨hp, he⟩ := hp
      have he := he.symm
      subst he
      rcases hp with ⟨rfl, hb_8⟩ | ⟨rfl, hb_8⟩
      · refine r_if_eq K 180 dX6_next_165 (by decide) (fun h => absurd h (by decide)) (fun _ => ?_)
        refine r_aload_n K 0 dX6_next_168 rfl rfl ?_
        refine r_getR K rfl rfl ff_6_text qw_560 dX6_next_169 ?_
        refine r_aload_n K 0 dX6_next_172 rfl rfl ?_
        refine r_getI K rfl rfl ff_6_readAt qw_561 dX6_next_173 ?_
        refine r_top_eq (nI s) h17 ?_
        refine r_iald K (j := s) rfl rfl (by omega) (by decide) dX6_next_176 ?_
        refine r_top_eq (nI (ab_ch tx s)) (m_text_ch htb (by omega)) ?_
        refine r_goto K 182 dX6_next_177 (by decide) ?_
        refine r_put K rfl rfl ff_6_token qw_563 rfl rfl dX6_next_182 ?_
        refine r_aload_n K 0 dX6_next_185 rfl rfl ?_
        refine r_dup K dX6_next_186 rfl ?_
        refine r_getI K rfl rfl ff_6_readAt qw_561 dX6_next_187 ?_
        refine r_top_eq (nI s) (by rw [rs_st_nk _ _ _ (by decide)]; exact h17) ?_
        refine r_iconst K (v := 1) dX6_next_190 (by decide) ?_
        refine r_iadd K dX6_next_191 ?_
        refine r_top_eq (nI (s + 1)) (nI_1 _) ?_
        refine r_put K rfl rfl ff_6_readAt qw_561 rfl rfl dX6_next_192 ?_
        rw [htok] at hr
        refine hr _ _ _ dX6_next_195 ⟨?_, m_ft_tr hfb (m_ft_tr (m_ft_st (by decide) (by decide)) (m_ft_st (by decide) (by decide)))⟩
        rw [ab_tokat, ab_if_pos (by omega), ab_if_neg (Nat.lt_irrefl _), ab_if_pos hb_8]
        exact ⟨by rw [rs_st_nk _ _ _ (by decide), rs_st_nk _ _ _ (by decide)]; exact h18, by rw [rs_st_nk _ _ _ (by decide), rs_st_eq]; rfl, fun q => absurd q (by simp), by rw [rs_st_eq]⟩
      · refine r_if_eq K 180 dX6_next_165 (by decide) (fun _ => ?_) (fun h => absurd h (by decide))
        refine r_bipush K (v := (-2)) dX6_next_180 (by decide) ?_
        refine r_put K rfl rfl ff_6_token qw_563 rfl rfl dX6_next_182 ?_
        refine r_aload_n K 0 dX6_next_185 rfl rfl ?_
        refine r_dup K dX6_next_186 rfl ?_
        refine r_getI K rfl rfl ff_6_readAt qw_561 dX6_next_187 ?_
        refine r_top_eq (nI s) (by rw [rs_st_nk _ _ _ (by decide)]; exact h17) ?_
        refine r_iconst K (v := 1) dX6_next_190 (by decide) ?_
        refine r_iadd K dX6_next_191 ?_
        refine r_top_eq (nI (s + 1)) (nI_1 _) ?_
        refine r_put K rfl rfl ff_6_readAt qw_561 rfl rfl dX6_next_192 ?_
        rw [htok] at hr
        refine hr _ _ _ dX6_next_195 ⟨?_, m_ft_tr hfb (m_ft_tr (m_ft_st (by decide) (by decide)) (m_ft_st (by decide) (by decide)))⟩
        rw [ab_tokat, ab_if_pos (by omega), ab_if_neg (Nat.lt_irrefl _), ab_if_neg hb_8]
        exact ⟨by rw [rs_st_nk _ _ _ (by decide), rs_st_nk _ _ _ (by decide)]; exact h18, by rw [rs_st_nk _ _ _ (by decide), rs_st_eq]; rfl, fun q => absurd q (by simp), by rw [rs_st_eq]⟩
  · have nh_1 : s = tx.length := (nf_eq rfl rfl (by omega) (by omega)).mp h_1
    refine r_aload_n K 0 dX6_next_23 rfl rfl ?_
    refine r_iconst K (v := (-1)) dX6_next_24 (by decide) ?_
    refine r_put K rfl rfl ff_6_token qw_563 rfl rfl dX6_next_25 ?_
    refine r_goto K 195 dX6_next_28 (by decide) ?_
    have htok : ab_tok tx p = ab_tokat tx s s := by rw [ab_tok, ← hs, ab_de_at (fun q => absurd q.1 (by omega))]
    rw [htok] at hr
    refine hr _ _ _ dX6_next_195 ⟨?_, m_ft_tr hfb (m_ft_st (by decide) (by decide))⟩
    rw [ab_tokat, ab_if_neg (by omega)]
    exact ⟨by rw [rs_st_nk _ _ _ (by decide)]; exact h18, by rw [rs_st_eq]; rfl, fun q => absurd q (by simp), by rw [rs_st_nk _ _ _ (by decide)]; exact h17⟩
set_option maxHeartbeats 4000000 in
set_option maxRecDepth 100000 in
theorem cm_fails (l : Launch) (g : rs_G) (t : Nat × Nat) (M : rs_M) (f : Nat) (hf : M 0 18 = nI f) : rs_Ci l g mk t yX6_fails cX6_fails 1 .boolean 0 [.ref (g.2.2 0)] M (fun r M1 => r = 0 ∧ M1 = rs_st M 0 21 (nI f)) := by
  refine rs_ofz (plainFor_of_name (by decide)) (Nat.le_of_ble_eq_true rfl) ?_
  intro Y K hr
  show Y M 0 [(0, .ref (g.2.2 0))] []
  refine r_aload_n K 0 dX6_fails_0 rfl rfl ?_
  refine r_aload_n K 0 dX6_fails_1 rfl rfl ?_
  refine r_getI K rfl rfl ff_6_tokenAt qw_562 dX6_fails_2 ?_
  refine r_top_eq (nI f) hf ?_
  refine r_put K rfl rfl ff_6_faultAt qw_565 rfl rfl dX6_fails_5 ?_
  refine r_iconst K (v := 0) dX6_fails_8 (by decide) ?_
  exact hr _ _ _ _ dX6_fails_9 (Or.inl rfl) ⟨rfl, rfl⟩
