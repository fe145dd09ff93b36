/-! reading: line, taper, wishes told, what was told (0 bar, 1 way, 2 tail, 3 taper) -/
abbrev ab_T : Type := ab_L × Int32 × Nat × (Nat → Bool)
abbrev ab_E : Type := Nat ⊕ (ab_T × Nat)
def ab_told (f : Nat → Bool) (w : Nat) : Nat → Bool := fun i => if i = w then true else f i
def ab_setT (T : ab_T) (w v : Nat) : ab_T := if w = 3 then (T.1, nI v, T.2.2.1, ab_told T.2.2.2 w) else (ab_setrule T.1 w v, T.2.1, T.2.2.1, ab_told T.2.2.2 w)
noncomputable def ab_fin (tx : List Int32) (T : ab_T) (p : Nat) : ab_E := ab_if ((ab_tok tx p).2.1 = 2 ∧ (ab_tok tx p).2.2.1 = 59) (.inr (T, (ab_tok tx p).2.2.2)) (.inl (ab_tok tx p).1)
noncomputable def ab_once (tx : List Int32) (T : ab_T) (w lo hi s p : Nat) : ab_E := ab_if (T.2.2.2 w = true ∨ ¬ (ab_ks T.1).length = 0) (.inl s) (ab_if ((ab_tok tx p).2.1 = 1 ∧ lo ≤ (ab_tok tx p).2.2.1 ∧ (ab_tok tx p).2.2.1 ≤ hi) (ab_fin tx (ab_setT T w (ab_tok tx p).2.2.1) (ab_tok tx p).2.2.2) (.inl (ab_tok tx p).1))
noncomputable def ab_sgn (tx : List Int32) (p : Nat) : Nat ⊕ (Int32 × Nat) := ab_if ((ab_tok tx p).2.1 = 2 ∧ (ab_tok tx p).2.2.1 = 45) (ab_if ((ab_tok tx (ab_tok tx p).2.2.2).2.1 = 1) (.inr (-(nI (ab_tok tx (ab_tok tx p).2.2.2).2.2.1), (ab_tok tx (ab_tok tx p).2.2.2).2.2.2)) (.inl (ab_tok tx (ab_tok tx p).2.2.2).1)) (ab_if ((ab_tok tx p).2.1 = 1) (.inr (nI (ab_tok tx p).2.2.1, (ab_tok tx p).2.2.2)) (.inl (ab_tok tx p).1))
noncomputable def ab_itW2 (tx : List Int32) (T : ab_T) (x : Int32) (o : Nat ⊕ (Int32 × Nat)) : ab_E := match o with
  | .inl f => .inl f
  | .inr (y, e) => ab_fin tx (ab_setwish T.1 (T.2.2.1 + 1) x y, T.2.1, T.2.2.1 + 1, T.2.2.2) e
noncomputable def ab_itW1 (tx : List Int32) (T : ab_T) (o : Nat ⊕ (Int32 × Nat)) : ab_E := match o with
  | .inl f => .inl f
  | .inr (x, e) => ab_itW2 tx T x (ab_sgn tx e)
noncomputable def ab_itW (tx : List Int32) (T : ab_T) (s p : Nat) : ab_E := ab_if (T.2.2.1 = 17) (.inl s) (ab_itW1 tx T (ab_sgn tx p))
noncomputable def ab_itK (tx : List Int32) (T : ab_T) (s p : Nat) : ab_E := ab_if ((ab_ks T.1).length = 12) (.inl s) (ab_if ((ab_tok tx p).2.1 = 1 ∧ (ab_tok tx p).2.2.1 ≤ 7 ∧ ab_may T.2.1 T.1 (ab_ks T.1) (ab_tok tx p).2.2.1) (ab_fin tx (ab_build T.1 (ab_tok tx p).2.2.1, T.2) (ab_tok tx p).2.2.2) (.inl (ab_tok tx p).1))
noncomputable def ab_item (tx : List Int32) (T : ab_T) (τ : ab_K) : ab_E := if ¬ τ.2.1 = 2 then .inl τ.1 else if τ.2.2.1 = 116 then ab_once tx T 3 1 3 τ.1 τ.2.2.2 else if τ.2.2.1 = 98 then ab_once tx T 0 0 3 τ.1 τ.2.2.2 else if τ.2.2.1 = 106 then ab_once tx T 1 0 2 τ.1 τ.2.2.2 else if τ.2.2.1 = 109 then ab_once tx T 2 0 20 τ.1 τ.2.2.2 else if τ.2.2.1 = 119 then ab_itW tx T τ.1 τ.2.2.2 else if τ.2.2.1 = 107 then ab_itK tx T τ.1 τ.2.2.2 else .inl τ.1
noncomputable def ab_items (tx : List Int32) : Nat → ab_T → Nat → Nat → Nat ⊕ (ab_T × Nat)
  | 0, T, _, n => .inr (T, n)
  | f + 1, T, p, n => if (ab_tok tx p).2.1 = 0 then .inr (T, n) else match ab_item tx T (ab_tok tx p) with
    | .inl s => .inl s
    | .inr (T1, q) => ab_items tx f T1 q (n + 1)
def ab_T0 : ab_T := (ab_L0, 1, 0, fun _ => false)
theorem ab_tok_val {tx : List Int32} (h8 : ab_tok8 tx) {p : Nat} : ((ab_tok tx p).2.1 = 2 → (ab_tok tx p).2.2.1 < 256) ∧ (ab_tok tx p).2.1 ≤ 3 := by
  unfold ab_tok
  generalize ab_bl tx (tx.length - p) p = s
  generalize ab_de tx (tx.length - s) s = e
  unfold ab_tokat
  by_cases a : s < tx.length
  · rw [ab_if_pos a]
    have hc := (h8.2 s a).2
    by_cases b : s < e
    · rw [ab_if_pos b]
      by_cases c : e = s + 1
      · rw [ab_if_pos c]; exact ⟨fun q => absurd q (by simp), by simp⟩
      · rw [ab_if_neg c]
        by_cases d : e = s + 2 ∧ ¬ ab_ch tx s = 48
        · rw [ab_if_pos d]; exact ⟨fun q => absurd q (by simp), by simp⟩
        · rw [ab_if_neg d]; exact ⟨fun q => absurd q (by simp), by simp⟩
    · rw [ab_if_neg b]
      by_cases c : ab_let (ab_ch tx s)
      · rw [ab_if_pos c]; exact ⟨fun _ => hc, by simp⟩
      · rw [ab_if_neg c]; exact ⟨fun q => absurd q (by simp), by simp⟩
  · rw [ab_if_neg a]; exact ⟨fun q => absurd q (by simp), by simp⟩
theorem x_neg_nI {n : Nat} (h : n < 2 ^ 31) {k : Int32} (hk : k.toInt < 0) : ¬ nI n = k := by
  intro q
  have := congrArg Int32.toInt q
  rw [nI_toInt h] at this
  omega
theorem x_kc_num {τ : ab_K} (h : τ.2.1 = 2 → τ.2.2.1 < 256) : x_kc τ = -2 ↔ τ.2.1 = 1 := by
  unfold x_kc
  split
  · rename_i e; exact ⟨fun q => absurd q (by decide), fun q => absurd q (by omega)⟩
  · rename_i e; exact ⟨fun _ => e, fun _ => rfl⟩
  · rename_i e; exact ⟨fun q => absurd q (x_neg_nI (by have := h e; omega) (by decide)), fun q => absurd q (by omega)⟩
  · rename_i e1 e2 e3; exact ⟨fun q => absurd q (by decide), fun q => absurd q e2⟩
theorem x_kc_end {τ : ab_K} (h : τ.2.1 = 2 → τ.2.2.1 < 256) : x_kc τ = -1 ↔ τ.2.1 = 0 := by
  unfold x_kc
  split
  · rename_i e; exact ⟨fun _ => e, fun _ => rfl⟩
  · rename_i e; exact ⟨fun q => absurd q (by decide), fun q => absurd q (by omega)⟩
  · rename_i e; exact ⟨fun q => absurd q (x_neg_nI (by have := h e; omega) (by decide)), fun q => absurd q (by omega)⟩
  · rename_i e1 e2 e3; exact ⟨fun q => absurd q (by decide), fun q => absurd q e1⟩
theorem x_kc_let {τ : ab_K} (h : τ.2.1 = 2 → τ.2.2.1 < 256) {c : Nat} (hc : c < 256) : x_kc τ = nI c ↔ (τ.2.1 = 2 ∧ τ.2.2.1 = c) := by
  unfold x_kc
  split
  · rename_i e; exact ⟨fun q => absurd q.symm (x_neg_nI (by omega) (by decide)), fun q => absurd q.1 (by omega)⟩
  · rename_i e; exact ⟨fun q => absurd q.symm (x_neg_nI (by omega) (by decide)), fun q => absurd q.1 (by omega)⟩
  · rename_i e
    have := h e
    exact ⟨fun q => ⟨e, (nI_eq (by omega) (by omega)).mp q⟩, fun q => by rw [q.2]⟩
  · rename_i e1 e2 e3; exact ⟨fun q => absurd q.symm (x_neg_nI (by omega) (by decide)), fun q => absurd q.1 e3⟩
def x_b (b : Bool) : Int32 := if b then 1 else 0
theorem x_b_0 {b : Bool} : ¬ x_b b = 0 ↔ b = true := by cases b <;> simp [x_b]
def x_pS (M : rs_M) (T : ab_T) : Prop := x_ln M 18 T.2.1 T.1 ∧ ab_ok T.1 ∧ ab_tp T.2.1 ∧ M 37 6 = nI T.2.2.1 ∧ T.2.2.1 ≤ 17 ∧ M 37 7 = x_b (T.2.2.2 3) ∧ ∀ i, i < 3 → M 39 i = x_b (T.2.2.2 i)
theorem x_pS_ft {M M1 : rs_M} {T : ab_T} (h : x_pS M T) (hf : x_ft M M1) : x_pS M1 T := by
  obtain ⟨h1, h2, h3, h4, h5, h6, h7⟩ := h
  exact ⟨x_ln_fr (lo := 37) (hi := 38) h2.1 h1 (fun c hc => hf.1 c (by omega)) (by omega), h2, h3, by rw [hf.2 6 (by omega)]; exact h4, h5, by rw [hf.2 7 (by omega)]; exact h6, fun i hi => by rw [hf.1 39 (by decide)]; exact h7 i hi⟩
/-- what reading may change -/
def x_fP (M M1 : rs_M) : Prop := (∀ c, ¬ (18 ≤ c ∧ c < 35) → c ≠ 37 → c ≠ 39 → M1 c = M c) ∧ M1 37 1 = M 37 1
theorem x_fP_tr {M M1 M2 : rs_M} (h : x_fP M M1) (h2 : x_fP M1 M2) : x_fP M M2 := ⟨fun c c1 c2 c3 => (h2.1 c c1 c2 c3).trans (h.1 c c1 c2 c3), h2.2.trans h.2⟩
theorem x_fP_ft {M M1 : rs_M} (h : x_ft M M1) : x_fP M M1 := ⟨fun c c1 c2 c3 => h.1 c c2, h.2 1 (by omega)⟩
theorem x_fP_st {M : rs_M} {j : Nat} {v : Int32} (h : j ≠ 1) : x_fP M (rs_st M 37 j v) := ⟨fun c c1 c2 c3 => rs_st_ne _ _ _ c2, rs_st_nk _ _ _ (fun e => h e.symm)⟩
theorem x_fP_39 {M : rs_M} {j : Nat} {v : Int32} : x_fP M (rs_st M 39 j v) := ⟨fun c c1 c2 c3 => rs_st_ne _ _ _ c3, by rw [rs_st_ne _ _ _ (by decide)]⟩
theorem x_fP_fr {M M1 : rs_M} (h : x_fr M M1 18 35) : x_fP M M1 := ⟨fun c c1 c2 c3 => h c (by omega), by rw [h 37 (by decide)]⟩
theorem x_fP_rf (M : rs_M) : x_fP M M := ⟨fun _ _ _ _ => rfl, rfl⟩
theorem x_text_fP {M M1 : rs_M} {tx : List Int32} (h : x_text M tx) (hf : x_fP M M1) : x_text M1 tx := ⟨by rw [hf.2]; exact h.1, h.2.1, fun i hi => by rw [hf.1 38 (by omega) (by decide) (by decide)]; exact h.2.2 i hi⟩
/-- behind a reading: R is what it comes to -/
def x_pQ (M M1 : rs_M) (tx : List Int32) (r : Int32) (R : ab_E) : Prop := x_fP M M1 ∧ (∃ T, x_pS M1 T) ∧ match R with
  | .inl f => (r = 0 ∧ M1 37 2 = nI f) ∨ (r = 1 ∧ ¬ M1 37 3 = 59 ∧ M1 37 2 = nI f)
  | .inr (T, q) => r = 1 ∧ M1 37 3 = 59 ∧ M1 37 5 = nI q ∧ q ≤ tx.length ∧ x_pS M1 T
theorem x_fin_ok {M M1 : rs_M} {tx : List Int32} {T : ab_T} {p : Nat} (h8 : ab_tok8 tx) (hp : p ≤ tx.length) (hf : x_fP M M1) (hT : x_pS M1 T) (ht : x_tok M1 (ab_tok tx p)) : x_pQ M M1 tx 1 (ab_fin tx T p) := by
  refine ⟨hf, ⟨T, hT⟩, ?_⟩
  have hl := ab_tok_len hp
  have hk := x_kc_let (τ := ab_tok tx p) (ab_tok_val h8).1 (c := 59) (by decide)
  unfold ab_fin
  by_cases h : (ab_tok tx p).2.1 = 2 ∧ (ab_tok tx p).2.2.1 = 59
  · rw [ab_if_pos h]
    exact ⟨rfl, by rw [ht.2.1]; exact hk.mpr h, ht.2.2.2, hl.2.2.1, hT⟩
  · rw [ab_if_neg h]
    exact Or.inr ⟨rfl, fun q => h (hk.mp (by rw [← ht.2.1]; exact q)), ht.1⟩
theorem x_flt_ok {M M1 : rs_M} {tx : List Int32} {T : ab_T} {R : ab_E} {f : Nat} (hf : x_fP M M1) (hT : x_pS M1 T) (hR : R = .inl f) (hs : M1 37 2 = nI f) : x_pQ M M1 tx 0 R := by
  subst hR
  exact ⟨hf, ⟨T, hT⟩, Or.inl ⟨rfl, hs⟩⟩
theorem x_nar_b {M : rs_M} {T : ab_T} (h : x_pS M T) {w : Nat} (hw : w < 3) : x_pS (rs_st M 39 w 1) (T.1, T.2.1, T.2.2.1, ab_told T.2.2.2 w) := by
  obtain ⟨h1, h2, h3, h4, h5, h6, h7⟩ := h
  refine ⟨x_ln_fr (lo := 39) (hi := 40) h2.1 h1 (x_fr_st (by decide) (by decide)) (by omega), h2, h3, by rw [rs_st_ne _ _ _ (by decide)]; exact h4, h5, ?_, fun i hi => ?_⟩
  · rw [rs_st_ne _ _ _ (by decide), h6]
    simp only [ab_told, if_neg (show ¬ 3 = w by omega)]
  · by_cases e : i = w
    · subst e; rw [rs_st_eq]; simp [ab_told, x_b]
    · rw [rs_st_nk _ _ _ e, h7 i hi]; simp only [ab_told, if_neg e]
theorem x_nar_t {M : rs_M} {T : ab_T} (h : x_pS M T) : x_pS (rs_st M 37 7 1) (T.1, T.2.1, T.2.2.1, ab_told T.2.2.2 3) := by
  obtain ⟨h1, h2, h3, h4, h5, h6, h7⟩ := h
  refine ⟨x_ln_fr (lo := 37) (hi := 38) h2.1 h1 (x_fr_st (by decide) (by decide)) (by omega), h2, h3, by rw [rs_st_nk _ _ _ (by decide)]; exact h4, h5, by rw [rs_st_eq]; simp [ab_told, x_b], fun i hi => ?_⟩
  rw [rs_st_ne _ _ _ (by decide), h7 i hi]; simp only [ab_told, if_neg (show ¬ i = 3 by omega)]
theorem x_tp_ok {M : rs_M} {T : ab_T} (h : x_pS M T) (h0 : (ab_ks T.1).length = 0) {v : Nat} (h1 : 1 ≤ v) (h3 : v ≤ 3) : x_pS (rs_st M 18 4 (nI v)) (T.1, nI v, T.2.2) := by
  obtain ⟨⟨a3, as, a4, a5, a6, a7, aw⟩, g2, g3, g4, g5, g6, g7⟩ := h
  refine ⟨⟨by rw [rs_st_nk _ _ _ (by decide)]; exact a3, fun i hi => ?_, by rw [rs_st_eq], by rw [rs_st_nk _ _ _ (by decide)]; exact a5, by rw [rs_st_nk _ _ _ (by decide)]; exact a6, by rw [rs_st_nk _ _ _ (by decide)]; exact a7, fun p hp => by rw [rs_st_ne _ _ _ (by decide), rs_st_ne _ _ _ (by decide)]; exact aw p hp⟩, g2, ?_, by rw [rs_st_ne _ _ _ (by decide)]; exact g4, g5, by rw [rs_st_ne _ _ _ (by decide)]; exact g6, fun i hi => by rw [rs_st_ne _ _ _ (by decide)]; exact g7 i hi⟩
  · have hi0 : i = 0 := by have hi : i ≤ (ab_ks T.1).length := hi; omega
    subst hi0
    have := as 0 (Nat.zero_le _)
    exact x_sp_same (show x_sp M (18 + 4 + 0) (nI v) [] from this) (fun j _ => by rw [rs_st_ne _ _ _ (by decide)])
  · rcases (show v = 1 ∨ v = 2 ∨ v = 3 by omega) with rfl | rfl | rfl
    · exact Or.inl rfl
    · exact Or.inr (Or.inl rfl)
    · exact Or.inr (Or.inr rfl)
theorem x_ln_pS {M M1 : rs_M} {T : ab_T} {L : ab_L} (h : x_pS M T) (hl : x_ln M1 18 T.2.1 L) (hok : ab_ok L) (hf : x_fr M M1 18 35) : x_pS M1 (L, T.2) := by
  obtain ⟨h1, h2, h3, h4, h5, h6, h7⟩ := h
  exact ⟨hl, hok, h3, by rw [hf 37 (by decide)]; exact h4, h5, by rw [hf 37 (by decide)]; exact h6, fun i hi => by rw [hf 39 (by decide)]; exact h7 i hi⟩
set_option maxHeartbeats 4000000 in
set_option maxRecDepth 100000 in
theorem c_readTaper (l : Launch) (g : rs_G) (t : Nat × Nat) (M : rs_M) (tx : List Int32) (htx : x_text M tx) (T : ab_T) (hT : x_pS M T) (s p : Nat) (hs : M 37 2 = nI s) (hp5 : M 37 5 = nI p) (hpl : p ≤ tx.length) : rs_Ci l g xk t yX2_readTaper cX2_readTaper 2 .boolean 3 [.ref (g.2.2 37), .ref (g.2.2 18)] M (fun r M1 => x_pQ M M1 tx r (ab_once tx T 3 1 3 s p)) := by
  have h8 := x_text_8 htx
  have hl120 := htx.2.1
  have hn12 := hT.2.1.1
  refine rs_ofz (plainFor_of_name (by decide)) (Nat.le_of_ble_eq_true rfl) ?_
  intro Y K hr
  show Y M 0 [(0, .ref (g.2.2 37)), (1, .ref (g.2.2 18))] []
  refine r_aload_n K 0 dX2_readTaper_0 rfl rfl ?_
  refine r_getI K rfl rfl ff_2_taperTold qw_114 dX2_readTaper_1 ?_
  refine r_top_eq (x_b (T.2.2.2 3)) hT.2.2.2.2.2.1 ?_
  refine r_if_ne K 14 dX2_readTaper_4 (by decide) (fun h_1 => ?_) (fun h_1 => ?_)
  · refine r_iconst K (v := 0) dX2_readTaper_14 (by decide) ?_
    exact hr _ _ _ _ dX2_readTaper_15 (Or.inl rfl) (x_flt_ok (x_fP_rf M) hT (ab_if_pos (Or.inl (x_b_0.mp h_1))) hs)
  · refine r_aload_n K 1 dX2_readTaper_7 rfl rfl ?_
    refine r_getI K (xL_0 xL18) rfl ff_1_rings qw_70 dX2_readTaper_8 ?_
    refine r_top_eq (nI (ab_ks T.1).length) hT.1.1 ?_
    refine r_if_le K 16 dX2_readTaper_11 (by decide) (fun h_2 => ?_) (fun h_2 => ?_)
    · have nh_2 : (ab_ks T.1).length ≤ 0 := (nf_le rfl rfl (by omega) (by omega)).mp h_2
      refine r_aload_n K 0 dX2_readTaper_16 rfl rfl ?_
      refine r_iconst K (v := 1) dX2_readTaper_17 (by decide) ?_
      refine r_put K rfl rfl ff_2_taperTold qw_114 rfl rfl dX2_readTaper_18 ?_
      refine r_aload_n K 0 dX2_readTaper_21 rfl rfl ?_
      refine r_callVv K [] [] dX2_readTaper_22 mf_X2_toNextToken rfl rfl qw_251 qw_253 qs_0 (c_next l g t (rs_st M 37 7 1) tx (x_text_fP htx (x_fP_st (M := M) (j := 7) (v := 1) (by decide))) p (by rw [rs_st_nk _ _ _ (by decide)]; exact hp5) hpl) rfl rfl (by decide) (Nat.le_of_ble_eq_true rfl) (fun M1 hp => ?_)
      obtain ⟨t1, f1⟩ := hp
      have x1 := x_text_ft (x_text_fP htx (x_fP_st (M := M) (j := 7) (v := 1) (by decide))) f1
      have s1 := x_pS_ft (x_nar_t hT) f1
      have l1 := ab_tok_len (tx := tx) (p := p) hpl
      have v1 := ab_tok_val (tx := tx) h8 (p := p)
      refine r_aload_n K 0 dX2_readTaper_25 rfl rfl ?_
      refine r_getI K rfl rfl ff_2_kind qw_110 dX2_readTaper_26 ?_
      refine r_top_eq (x_kc (ab_tok tx p)) t1.2.1 ?_
      refine r_bipush K (v := (-2)) dX2_readTaper_29 (by decide) ?_
      refine r_icmp_ne K 46 dX2_readTaper_31 (by decide) (fun h_3 => ?_) (fun h_3 => ?_)
      · refine r_iconst K (v := 0) dX2_readTaper_46 (by decide) ?_
        have e : ab_once tx T 3 1 3 s p = .inl (ab_tok tx p).1 := by rw [ab_once, ab_if_neg (fun q => q.elim (fun q => (fun z => z h_1) (x_b_0.mpr q)) (fun q => by omega)), ab_if_neg (fun q => h_3 ((x_kc_num v1.1).mpr q.1))]
        exact hr _ _ _ _ dX2_readTaper_47 (Or.inl rfl) (x_flt_ok (x_fP_tr (x_fP_st (j := 7) (by decide)) (x_fP_ft f1)) s1 e t1.1)
      · have hk1 : (ab_tok tx p).2.1 = 1 := (x_kc_num v1.1).mp h_3
        have h99 := l1.2.2.2.2.2.2 hk1
        refine r_aload_n K 0 dX2_readTaper_34 rfl rfl ?_
        refine r_getI K rfl rfl ff_2_number qw_111 dX2_readTaper_35 ?_
        refine r_top_eq (nI (ab_tok tx p).2.2.1) (t1.2.2.1 hk1) ?_
        refine r_iconst K (v := 1) dX2_readTaper_38 (by decide) ?_
        refine r_iconst K (v := 3) dX2_readTaper_39 (by decide) ?_
        refine r_callNi K [.int (nI (ab_tok tx p).2.2.1), .int 1, .int 3] [] dX2_readTaper_40 mf_X5_isWithin (by decide) qw_228 (c_isWithin l g xk t M1 (nI (ab_tok tx p).2.2.1) 1 3) rfl rfl (by decide) (Nat.le_of_ble_eq_true rfl) (fun r M1 hp => ?_)
        obtain ⟨hp, he⟩ := hp
        have he := he.symm
        subst he
        rcases hp with ⟨rfl, hb_4⟩ | ⟨rfl, hb_4⟩
        · refine r_if_ne K 48 dX2_readTaper_43 (by decide) (fun _ => ?_) (fun h => absurd h (by decide))
          have hv1 : 1 ≤ (ab_tok tx p).2.2.1 ∧ (ab_tok tx p).2.2.1 ≤ 3 := ⟨(nf_le (X := 1) (Y := (ab_tok tx p).2.2.1) rfl rfl (by decide) (by omega)).mp hb_4.1, (nf_le (X := (ab_tok tx p).2.2.1) (Y := 3) rfl rfl (by omega) (by decide)).mp hb_4.2⟩
          have h0 : (ab_ks T.1).length = 0 := by omega
          refine r_aload_n K 1 dX2_readTaper_48 rfl rfl ?_
          refine r_aload_n K 0 dX2_readTaper_49 rfl rfl ?_
          refine r_getI K rfl rfl ff_2_number qw_111 dX2_readTaper_50 ?_
          refine r_top_eq (nI (ab_tok tx p).2.2.1) (t1.2.2.1 hk1) ?_
          refine r_put K (xL_0 xL18) rfl ff_1_taper qw_74 rfl rfl dX2_readTaper_53 ?_
          refine r_aload_n K 0 dX2_readTaper_56 rfl rfl ?_
          refine r_callVv K [] [] dX2_readTaper_57 mf_X2_toNextToken rfl rfl qw_251 qw_253 qs_0 (c_next l g t (rs_st M1 18 4 (nI (ab_tok tx p).2.2.1)) tx (x_text_fP x1 (x_fP_fr (x_fr_st (M := M1) (c := 18) (k := 4) (v := nI (ab_tok tx p).2.2.1) (by decide) (by decide)))) ((ab_tok tx p).2.2.2) (by rw [rs_st_ne _ _ _ (by decide)]; exact t1.2.2.2) l1.2.2.1) rfl rfl (by decide) (Nat.le_of_ble_eq_true rfl) (fun M2 hp => ?_)
          obtain ⟨t2, f2⟩ := hp
          have x2 := x_text_ft (x_text_fP x1 (x_fP_fr (x_fr_st (M := M1) (c := 18) (k := 4) (v := nI (ab_tok tx p).2.2.1) (by decide) (by decide)))) f2
          have s2 := x_pS_ft (x_tp_ok s1 h0 (v := (ab_tok tx p).2.2.1) hv1.1 hv1.2) f2
          have l2 := ab_tok_len (tx := tx) (p := (ab_tok tx p).2.2.2) l1.2.2.1
          have v2 := ab_tok_val (tx := tx) h8 (p := (ab_tok tx p).2.2.2)
          refine r_iconst K (v := 1) dX2_readTaper_60 (by decide) ?_
          have e : ab_once tx T 3 1 3 s p = ab_fin tx (T.1, nI (ab_tok tx p).2.2.1, T.2.2.1, ab_told T.2.2.2 3) (ab_tok tx p).2.2.2 := by rw [ab_once, ab_if_neg (fun q => q.elim (fun q => (fun z => z h_1) (x_b_0.mpr q)) (fun q => by omega)), ab_if_pos ⟨hk1, hv1.1, hv1.2⟩]; rfl
          rw [e] at hr
          exact hr _ _ _ _ dX2_readTaper_61 (Or.inr rfl) (x_fin_ok h8 l1.2.2.1 (x_fP_tr (x_fP_tr (x_fP_st (j := 7) (by decide)) (x_fP_ft f1)) (x_fP_tr (x_fP_fr (x_fr_st (by decide) (by decide))) (x_fP_ft f2))) s2 t2)
        · refine r_if_ne K 48 dX2_readTaper_43 (by decide) (fun h => absurd h (by decide)) (fun _ => ?_)
          refine r_iconst K (v := 0) dX2_readTaper_46 (by decide) ?_
          have e : ab_once tx T 3 1 3 s p = .inl (ab_tok tx p).1 := by rw [ab_once, ab_if_neg (fun q => q.elim (fun q => (fun z => z h_1) (x_b_0.mpr q)) (fun q => by omega)), ab_if_neg (fun q => hb_4 ⟨(nf_le (X := 1) (Y := (ab_tok tx p).2.2.1) rfl rfl (by decide) (by omega)).mpr q.2.1, (nf_le (X := (ab_tok tx p).2.2.1) (Y := 3) rfl rfl (by omega) (by decide)).mpr q.2.2⟩)]
          exact hr _ _ _ _ dX2_readTaper_47 (Or.inl rfl) (x_flt_ok (x_fP_tr (x_fP_st (j := 7) (by decide)) (x_fP_ft f1)) s1 e t1.1)
    · have nh_2 : ¬ (ab_ks T.1).length ≤ 0 := mt (nf_le rfl rfl (by omega) (by omega)).mpr h_2
      refine r_iconst K (v := 0) dX2_readTaper_14 (by decide) ?_
      exact hr _ _ _ _ dX2_readTaper_15 (Or.inl rfl) (x_flt_ok (x_fP_rf M) hT (ab_if_pos (Or.inr (by omega))) hs)
