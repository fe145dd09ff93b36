theorem ab_fin_ge {tx : List Int32} {T T1 : ab_T} {p q : Nat} (hp : p ≤ tx.length) (h : ab_fin tx T p = .inr (T1, q)) : p ≤ q ∧ q ≤ tx.length := by
  have hl := ab_tok_len hp
  unfold ab_fin at h
  by_cases c : (ab_tok tx p).2.1 = 2 ∧ (ab_tok tx p).2.2.1 = 59
  · rw [ab_if_pos c] at h
    cases h
    omega
  · rw [ab_if_neg c] at h
    cases h
theorem ab_once_ge {tx : List Int32} {T T1 : ab_T} {w lo hi s p q : Nat} (hp : p ≤ tx.length) (h : ab_once tx T w lo hi s p = .inr (T1, q)) : p ≤ q := by
  have hl := ab_tok_len hp
  unfold ab_once at h
  by_cases c : T.2.2.2 w = true ∨ ¬ (ab_ks T.1).length = 0
  · rw [ab_if_pos c] at h; cases h
  · rw [ab_if_neg c] at h
    by_cases d : (ab_tok tx p).2.1 = 1 ∧ lo ≤ (ab_tok tx p).2.2.1 ∧ (ab_tok tx p).2.2.1 ≤ hi
    · rw [ab_if_pos d] at h
      have := ab_fin_ge hl.2.2.1 h
      omega
    · rw [ab_if_neg d] at h; cases h
theorem ab_sgn_ge {tx : List Int32} {p e : Nat} {x : Int32} (hp : p ≤ tx.length) (h : ab_sgn tx p = .inr (x, e)) : p ≤ e ∧ e ≤ tx.length := by
  have hl := ab_tok_len hp
  have hl2 := ab_tok_len hl.2.2.1
  unfold ab_sgn at h
  by_cases c : (ab_tok tx p).2.1 = 2 ∧ (ab_tok tx p).2.2.1 = 45
  · rw [ab_if_pos c] at h
    by_cases d : (ab_tok tx (ab_tok tx p).2.2.2).2.1 = 1
    · rw [ab_if_pos d] at h; cases h; omega
    · rw [ab_if_neg d] at h; cases h
  · rw [ab_if_neg c] at h
    by_cases d : (ab_tok tx p).2.1 = 1
    · rw [ab_if_pos d] at h; cases h; omega
    · rw [ab_if_neg d] at h; cases h
theorem ab_itW_ge {tx : List Int32} {T T1 : ab_T} {s p q : Nat} (hp : p ≤ tx.length) (h : ab_itW tx T s p = .inr (T1, q)) : p ≤ q := by
  unfold ab_itW at h
  by_cases c : T.2.2.1 = 17
  · rw [ab_if_pos c] at h; cases h
  · rw [ab_if_neg c] at h
    cases h1 : ab_sgn tx p with
    | inl f => rw [h1] at h; cases h
    | inr a =>
      obtain ⟨x, e⟩ := a
      rw [h1] at h
      have g1 := ab_sgn_ge hp h1
      simp only [ab_itW1] at h
      cases h2 : ab_sgn tx e with
      | inl f => rw [h2] at h; cases h
      | inr b =>
        obtain ⟨y, e2⟩ := b
        rw [h2] at h
        have g2 := ab_sgn_ge g1.2 h2
        have := ab_fin_ge g2.2 h
        omega
theorem ab_itK_ge {tx : List Int32} {T T1 : ab_T} {s p q : Nat} (hp : p ≤ tx.length) (h : ab_itK tx T s p = .inr (T1, q)) : p ≤ q := by
  have hl := ab_tok_len hp
  unfold ab_itK at h
  by_cases c : (ab_ks T.1).length = 12
  · rw [ab_if_pos c] at h; cases h
  · rw [ab_if_neg c] at h
    by_cases d : (ab_tok tx p).2.1 = 1 ∧ (ab_tok tx p).2.2.1 ≤ 7 ∧ ab_may T.2.1 T.1 (ab_ks T.1) (ab_tok tx p).2.2.1
    · rw [ab_if_pos d] at h
      have := ab_fin_ge hl.2.2.1 h
      omega
    · rw [ab_if_neg d] at h; cases h
theorem ab_item_ge {tx : List Int32} {T T1 : ab_T} {τ : ab_K} {q : Nat} (hp : τ.2.2.2 ≤ tx.length) (h : ab_item tx T τ = .inr (T1, q)) : τ.2.2.2 ≤ q := by
  unfold ab_item at h
  split at h
  · cases h
  · split at h
    · exact ab_once_ge hp h
    · split at h
      · exact ab_once_ge hp h
      · split at h
        · exact ab_once_ge hp h
        · split at h
          · exact ab_once_ge hp h
          · split at h
            · exact ab_itW_ge hp h
            · split at h
              · exact ab_itK_ge hp h
              · cases h
def x_rQ (M M1 : rs_M) (r : Int32) (R : Nat ⊕ (ab_T × Nat)) : Prop := x_fP M M1 ∧ (∃ T, x_pS M1 T) ∧ match R with
  | .inl s => r = (-10) - nI s ∧ s ≤ 120
  | .inr (T, n) => r = nI n ∧ n ≤ 120 ∧ x_pS M1 T
noncomputable def ab_tunnel (A : ab_S) : Int32 × ab_S := match ab_items A.2.2.2.2.1 121 ab_T0 0 0 with
  | .inl s => ((-10) - nI s, A)
  | .inr (T, n) => (nI n, (T.1, T.2.1, [], [], [], fun _ => none))
theorem ab_items_bad {tx : List Int32} {f : Nat} {T : ab_T} {p n s : Nat} (h0 : ¬ (ab_tok tx p).2.1 = 0) (h : ab_item tx T (ab_tok tx p) = .inl s) : ab_items tx (f + 1) T p n = .inl s := by
  rw [ab_items, if_neg h0, h]
theorem ab_items_go {tx : List Int32} {f : Nat} {T T1 : ab_T} {p q n : Nat} (h0 : ¬ (ab_tok tx p).2.1 = 0) (h : ab_item tx T (ab_tok tx p) = .inr (T1, q)) : ab_items tx (f + 1) T p n = ab_items tx f T1 q (n + 1) := by
  rw [ab_items, if_neg h0, h]
theorem x_m10 {n : Nat} (h : n ≤ 120) : ¬ 0 ≤ (-10 : Int32) - nI n := by
  intro q
  rw [Int32.le_iff_toInt_le] at q
  have e : (-10 : Int32).toInt = -10 := by decide
  have z : (0 : Int32).toInt = 0 := by decide
  rw [ab_subI (by rw [nI_toInt (by omega)]; omega) (by rw [nI_toInt (by omega)]; omega), nI_toInt (by omega)] at q
  omega
theorem ab_ok_L0 : ab_ok ab_L0 := ⟨by decide, fun k hk => absurd hk List.not_mem_nil, by decide, by decide, by decide, fun p _ => (by decide : -99 ≤ (0 : Int32).toInt ∧ (0 : Int32).toInt ≤ 99 ∧ -99 ≤ (0 : Int32).toInt ∧ (0 : Int32).toInt ≤ 99), rfl, rfl⟩
theorem ab_fin_fle {tx : List Int32} {T : ab_T} {p f : Nat} (hp : p ≤ tx.length) (h : ab_fin tx T p = .inl f) : f ≤ tx.length := by
  have hl := ab_tok_len hp
  unfold ab_fin at h
  by_cases c : (ab_tok tx p).2.1 = 2 ∧ (ab_tok tx p).2.2.1 = 59
  · rw [ab_if_pos c] at h; cases h
  · rw [ab_if_neg c] at h; cases h; omega
theorem ab_once_fle {tx : List Int32} {T : ab_T} {w lo hi s p f : Nat} (hs : s ≤ tx.length) (hp : p ≤ tx.length) (h : ab_once tx T w lo hi s p = .inl f) : f ≤ tx.length := by
  have hl := ab_tok_len hp
  unfold ab_once at h
  by_cases c : T.2.2.2 w = true ∨ ¬ (ab_ks T.1).length = 0
  · rw [ab_if_pos c] at h; cases h; exact hs
  · rw [ab_if_neg c] at h
    by_cases d : (ab_tok tx p).2.1 = 1 ∧ lo ≤ (ab_tok tx p).2.2.1 ∧ (ab_tok tx p).2.2.1 ≤ hi
    · rw [ab_if_pos d] at h; exact ab_fin_fle hl.2.2.1 h
    · rw [ab_if_neg d] at h; cases h; omega
theorem ab_sgn_fle {tx : List Int32} {p f : Nat} (hp : p ≤ tx.length) (h : ab_sgn tx p = .inl f) : f ≤ tx.length := by
  have hl := ab_tok_len hp
  have hl2 := ab_tok_len hl.2.2.1
  unfold ab_sgn at h
  by_cases c : (ab_tok tx p).2.1 = 2 ∧ (ab_tok tx p).2.2.1 = 45
  · rw [ab_if_pos c] at h
    by_cases d : (ab_tok tx (ab_tok tx p).2.2.2).2.1 = 1
    · rw [ab_if_pos d] at h; cases h
    · rw [ab_if_neg d] at h; cases h; omega
  · rw [ab_if_neg c] at h
    by_cases d : (ab_tok tx p).2.1 = 1
    · rw [ab_if_pos d] at h; cases h
    · rw [ab_if_neg d] at h; cases h; omega
theorem ab_itW_fle {tx : List Int32} {T : ab_T} {s p f : Nat} (hs : s ≤ tx.length) (hp : p ≤ tx.length) (h : ab_itW tx T s p = .inl f) : f ≤ tx.length := by
  unfold ab_itW at h
  by_cases c : T.2.2.1 = 17
  · rw [ab_if_pos c] at h; cases h; exact hs
  · rw [ab_if_neg c] at h
    cases h1 : ab_sgn tx p with
    | inl f2 => rw [h1] at h; cases h; exact ab_sgn_fle hp h1
    | inr a =>
      obtain ⟨x, e⟩ := a
      rw [h1] at h
      have g1 := ab_sgn_ge hp h1
      simp only [ab_itW1] at h
      cases h2 : ab_sgn tx e with
      | inl f2 => rw [h2] at h; cases h; exact ab_sgn_fle g1.2 h2
      | inr b =>
        obtain ⟨y, e2⟩ := b
        rw [h2] at h
        exact ab_fin_fle (ab_sgn_ge g1.2 h2).2 h
theorem ab_itK_fle {tx : List Int32} {T : ab_T} {s p f : Nat} (hs : s ≤ tx.length) (hp : p ≤ tx.length) (h : ab_itK tx T s p = .inl f) : f ≤ tx.length := by
  have hl := ab_tok_len hp
  unfold ab_itK at h
  by_cases c : (ab_ks T.1).length = 12
  · rw [ab_if_pos c] at h; cases h; exact hs
  · rw [ab_if_neg c] at h
    by_cases d : (ab_tok tx p).2.1 = 1 ∧ (ab_tok tx p).2.2.1 ≤ 7 ∧ ab_may T.2.1 T.1 (ab_ks T.1) (ab_tok tx p).2.2.1
    · rw [ab_if_pos d] at h; exact ab_fin_fle hl.2.2.1 h
    · rw [ab_if_neg d] at h; cases h; omega
theorem ab_item_fle {tx : List Int32} {T : ab_T} {p f : Nat} (h8 : ab_tok8 tx) (hp : p ≤ tx.length) (h : ab_item tx T (ab_tok tx p) = .inl f) : f ≤ tx.length := by
  have hl := ab_tok_len hp
  have h1 := hl.1
  have h2 := hl.2.2.1
  unfold ab_item at h
  split at h
  · cases h; exact h1
  · split at h
    · exact ab_once_fle h1 h2 h
    · split at h
      · exact ab_once_fle h1 h2 h
      · split at h
        · exact ab_once_fle h1 h2 h
        · split at h
          · exact ab_once_fle h1 h2 h
          · split at h
            · exact ab_itW_fle h1 h2 h
            · split at h
              · exact ab_itK_fle h1 h2 h
              · cases h; exact h1
set_option maxHeartbeats 4000000 in
set_option maxRecDepth 100000 in
theorem c_readInto (l : Launch) (g : rs_G) (t : Nat × Nat) (M : rs_M) (tx : List Int32) (htx : x_text M tx) (hL0 : x_ln M 18 1 ab_L0) : rs_Ci l g xk t yX2_readInto cX2_readInto 3 .int 5 [.ref (g.2.2 37), .ref (g.2.2 18)] M (fun r M1 => x_rQ M M1 r (ab_items tx 121 ab_T0 0 0)) := by
  have h8 := x_text_8 htx
  have hl120 := htx.2.1
  refine rs_ofi (plainFor_of_name (by decide)) (Nat.le_of_ble_eq_true rfl) ?_
  intro Y K hr
  show Y M 0 [(0, .ref (g.2.2 37)), (1, .ref (g.2.2 18))] []
  refine r_aload_n K 0 dX2_readInto_0 rfl rfl ?_
  refine r_iconst K (v := 0) dX2_readInto_1 (by decide) ?_
  refine r_put K rfl rfl ff_2_behind qw_112 rfl rfl dX2_readInto_2 ?_
  refine r_aload_n K 0 dX2_readInto_5 rfl rfl ?_
  refine r_iconst K (v := 0) dX2_readInto_6 (by decide) ?_
  refine r_put K rfl rfl ff_2_wishesTold qw_113 rfl rfl dX2_readInto_7 ?_
  refine r_aload_n K 0 dX2_readInto_10 rfl rfl ?_
  refine r_iconst K (v := 0) dX2_readInto_11 (by decide) ?_
  refine r_put K rfl rfl ff_2_taperTold qw_114 rfl rfl dX2_readInto_12 ?_
  refine r_iconst K (v := 0) dX2_readInto_15 (by decide) ?_
  refine r_istore_n K [(2, .int 0), (0, .ref (g.2.2 37)), (1, .ref (g.2.2 18))] dX2_readInto_16 rfl (by decide) rfl ?_
  have la : ∀ (f : Nat) (i : Nat) (Mi : rs_M), (3 - i < f) → (i ≤ 3) → ((∀ c, c ≠ 39 → Mi c = (rs_st (rs_st (rs_st M 37 5 0) 37 6 0) 37 7 0) c) ∧ ∀ j, j < i → Mi 39 j = 0) → Y Mi 17 [(2, .int (nI i)), (0, .ref (g.2.2 37)), (1, .ref (g.2.2 18))] [] := by
    intro f
    induction f with
    | zero =>
      intro i Mi hf
      exact absurd hf (Nat.not_lt_zero _)
    | succ f ih =>
      intro i Mi hf hi hA
      refine r_iload_n K 0 dX2_readInto_17 rfl rfl ?_
      refine r_iconst K (v := 2) dX2_readInto_18 (by decide) ?_
      refine r_icmp_gt K 35 dX2_readInto_19 (by decide) (fun h_1 => ?_) (fun h_1 => ?_)
      · have nh_1 : 2 < i := (nf_lt rfl rfl (by omega) (by omega)).mp h_1
        refine r_iconst K (v := 0) dX2_readInto_35 (by decide) ?_
        refine r_istore_n K [(2, .int 0), (0, .ref (g.2.2 37)), (1, .ref (g.2.2 18))] dX2_readInto_36 rfl (by decide) rfl ?_
        refine r_aload_n K 1 dX2_readInto_37 rfl rfl ?_
        have hi3 : i = 3 := by omega
        subst hi3
        have hfi : x_fP M Mi := ⟨fun c c1 c2 c3 => by rw [hA.1 c c3, rs_st_ne _ _ _ c2, rs_st_ne _ _ _ c2, rs_st_ne _ _ _ c2], by rw [hA.1 37 (by decide)]; simp [rs_st]⟩
        have hxi : x_text Mi tx := x_text_fP htx hfi
        have hsi : x_pS Mi ab_T0 := ⟨x_ln_fr (lo := 37) (hi := 40) (by decide) hL0 (fun c hc => by rw [hA.1 c (by omega), rs_st_ne _ _ _ (by omega), rs_st_ne _ _ _ (by omega), rs_st_ne _ _ _ (by omega)]) (by omega), ab_ok_L0, Or.inl rfl, by rw [hA.1 37 (by decide)]; simp [rs_st]; rfl, by decide, by rw [hA.1 37 (by decide)]; simp [rs_st]; rfl, fun j hj => hA.2 j hj⟩
        refine r_callVv K [] [] dX2_readInto_38 mf_X2_toNextToken rfl rfl qw_251 qw_253 qs_0 (c_next l g t Mi tx hxi 0 (by rw [hA.1 37 (by decide)]; simp [rs_st]; rfl) (Nat.zero_le _)) rfl rfl (by decide) (Nat.le_of_ble_eq_true rfl) (fun M1 hp => ?_)
        obtain ⟨t1, f1⟩ := hp
        have lp : ∀ (f : Nat) (n : Nat) (p : Nat) (T : ab_T) (Mj : rs_M), (121 - n < f) → (n ≤ p) → (p ≤ tx.length) → (ab_items tx 121 ab_T0 0 0 = ab_items tx (121 - n) T p n) → (x_text Mj tx) → (x_pS Mj T) → (x_fP M Mj) → (x_tok Mj (ab_tok tx p)) → Y Mj 41 [(2, .int (nI n)), (0, .ref (g.2.2 37)), (1, .ref (g.2.2 18))] [] := by
          intro f
          induction f with
          | zero =>
            intro n p T Mj hf
            exact absurd hf (Nat.not_lt_zero _)
          | succ f ih =>
            intro n p T Mj hf hnp hpl hJ hxj hTj hfj htj
            have l0 := ab_tok_len (tx := tx) (p := p) hpl
            have v0 := ab_tok_val (tx := tx) h8 (p := p)
            have hfle : ∀ ff, ab_item tx T (ab_tok tx p) = .inl ff → ff ≤ 120 := fun ff hz => by have := ab_item_fle h8 hpl hz; omega
            refine r_aload_n K 1 dX2_readInto_41 rfl rfl ?_
            refine r_getI K rfl rfl ff_2_kind qw_110 dX2_readInto_42 ?_
            refine r_top_eq (x_kc (ab_tok tx p)) htj.2.1 ?_
            refine r_iconst K (v := (-1)) dX2_readInto_45 (by decide) ?_
            refine r_icmp_eq K 90 dX2_readInto_46 (by decide) (fun h_2 => ?_) (fun h_2 => ?_)
            · refine r_iload_n K 0 dX2_readInto_90 rfl rfl ?_
              have hk0 : (ab_tok tx p).2.1 = 0 := (x_kc_end v0.1).mp h_2
              have hE : ab_items tx 121 ab_T0 0 0 = .inr (T, n) := by rw [hJ, show 121 - n = (120 - n) + 1 by omega, ab_items, if_pos hk0]
              exact hr _ _ _ _ dX2_readInto_91 (by rw [hE]; exact ⟨hfj, ⟨T, hTj⟩, rfl, by omega, hTj⟩)
            · refine r_iload_n K 0 dX2_readInto_49 rfl rfl ?_
              refine r_bipush K (v := 120) dX2_readInto_50 (by decide) ?_
              refine r_icmp_gt K 90 dX2_readInto_52 (by decide) (fun h => absurd h (mt (nf_lt (X := 120) (Y := n) rfl rfl (by decide) (by omega)).mp (by omega))) (fun _ => ?_)
              refine r_aload_n K 1 dX2_readInto_55 rfl rfl ?_
              refine r_aload_n K 2 dX2_readInto_56 rfl rfl ?_
              have hk0 : ¬ (ab_tok tx p).2.1 = 0 := fun q => h_2 ((x_kc_end v0.1).mpr q)
              have hpn := l0.2.2.2.2.2.1 hk0
              refine r_callVi K [.ref (g.2.2 18)] [] dX2_readInto_57 mf_X2_readItem rfl rfl qw_266 qw_268 qs_3 (c_readItem l g t Mj tx hxj T hTj p hpl htj) rfl rfl (by decide) (Nat.le_of_ble_eq_true rfl) (fun r M1 hp => ?_)
              obtain ⟨fp1, hex1, hp⟩ := hp
              have x1 := x_text_fP hxj fp1
              rcases hR : ab_item tx T (ab_tok tx p) with ff | ⟨T1, q⟩
              · rw [hR] at hp
                have hE : ab_items tx 121 ab_T0 0 0 = .inl ff := by rw [hJ, show 121 - n = (120 - n) + 1 by omega]; exact ab_items_bad hk0 hR
                have hff : ff ≤ 120 := hfle ff hR
                rcases hp with ⟨rfl, hst⟩ | ⟨rfl, hne, hst⟩
                · refine r_if_eq K 72 dX2_readInto_60 (by decide) (fun _ => ?_) (fun h => absurd h (by decide))
                  refine r_bipush K (v := (-10)) dX2_readInto_72 (by decide) ?_
                  refine r_aload_n K 1 dX2_readInto_74 rfl rfl ?_
                  refine r_getI K rfl rfl ff_2_start qw_109 dX2_readInto_75 ?_
                  refine r_top_eq (nI ff) hst ?_
                  refine r_isub K dX2_readInto_78 ?_
                  exact hr _ _ _ _ dX2_readInto_79 (by rw [hE]; exact ⟨x_fP_tr hfj fp1, hex1, rfl, hff⟩)
                · refine r_if_eq K 72 dX2_readInto_60 (by decide) (fun h => absurd h (by decide)) (fun _ => ?_)
                  refine r_aload_n K 1 dX2_readInto_63 rfl rfl ?_
                  refine r_getI K rfl rfl ff_2_kind qw_110 dX2_readInto_64 ?_
                  refine r_bipush K (v := 59) dX2_readInto_67 (by decide) ?_
                  refine r_icmp_eq K 80 dX2_readInto_69 (by decide) (fun h => absurd h hne) (fun _ => ?_)
                  refine r_bipush K (v := (-10)) dX2_readInto_72 (by decide) ?_
                  refine r_aload_n K 1 dX2_readInto_74 rfl rfl ?_
                  refine r_getI K rfl rfl ff_2_start qw_109 dX2_readInto_75 ?_
                  refine r_top_eq (nI ff) hst ?_
                  refine r_isub K dX2_readInto_78 ?_
                  exact hr _ _ _ _ dX2_readInto_79 (by rw [hE]; exact ⟨x_fP_tr hfj fp1, hex1, rfl, hff⟩)
              · rw [hR] at hp
                obtain ⟨rfl, h59, hq5, hql, hT1⟩ := hp
                have hgq := ab_item_ge l0.2.2.1 hR
                refine r_if_eq K 72 dX2_readInto_60 (by decide) (fun h => absurd h (by decide)) (fun _ => ?_)
                refine r_aload_n K 1 dX2_readInto_63 rfl rfl ?_
                refine r_getI K rfl rfl ff_2_kind qw_110 dX2_readInto_64 ?_
                refine r_top_eq 59 h59 ?_
                refine r_bipush K (v := 59) dX2_readInto_67 (by decide) ?_
                refine r_icmp_eq K 80 dX2_readInto_69 (by decide) (fun _ => ?_) (fun h => absurd h (by decide))
                refine r_iinc_n K 0 [(2, .int (nI (n + 1))), (0, .ref (g.2.2 37)), (1, .ref (g.2.2 18))] dX2_readInto_80 rfl (by decide) rfl ?_
                refine r_aload_n K 1 dX2_readInto_83 rfl rfl ?_
                refine r_callVv K [] [] dX2_readInto_84 mf_X2_toNextToken rfl rfl qw_251 qw_253 qs_0 (c_next l g t M1 tx x1 q hq5 hql) rfl rfl (by decide) (Nat.le_of_ble_eq_true rfl) (fun M2 hp9 => ?_)
                obtain ⟨t2, f2⟩ := hp9
                refine r_goto K 41 dX2_readInto_87 (by decide) ?_
                exact ih (n + 1) q T1 M2 (by omega) (by omega) hql (by rw [hJ, show 121 - n = (121 - (n + 1)) + 1 by omega]; exact ab_items_go hk0 hR) (x_text_ft x1 f2) (x_pS_ft hT1 f2) (x_fP_tr hfj (x_fP_tr fp1 (x_fP_ft f2))) t2
        exact lp 122 0 0 ab_T0 M1 (by omega) (by omega) (Nat.zero_le _) rfl (x_text_ft hxi f1) (x_pS_ft hsi f1) (x_fP_tr hfi (x_fP_ft f1)) t1
      · have nh_1 : ¬ 2 < i := mt (nf_lt rfl rfl (by omega) (by omega)).mpr h_1
        refine r_aload_n K 1 dX2_readInto_22 rfl rfl ?_
        refine r_getR K rfl rfl ff_2_ruleTold qw_115 dX2_readInto_23 ?_
        refine r_iload_n K 0 dX2_readInto_26 rfl rfl ?_
        refine r_iconst K (v := 0) dX2_readInto_27 (by decide) ?_
        refine r_zast K (j := i) rfl rfl (by omega) (by decide) dX2_readInto_28 ?_
        refine r_mem (rs_st Mi 39 i 0) (by rw [x_nar0]) ?_
        refine r_iinc_n K 0 [(2, .int (nI (i + 1))), (0, .ref (g.2.2 37)), (1, .ref (g.2.2 18))] dX2_readInto_29 rfl (by decide) rfl ?_
        refine r_goto K 17 dX2_readInto_32 (by decide) ?_
        exact ih (i + 1) _ (by omega) (by omega) ⟨fun c hc => by rw [rs_st_ne _ _ _ hc]; exact hA.1 c hc, fun j hj => by
          by_cases e : j = i
          · subst e; rw [rs_st_eq]
          · rw [rs_st_nk _ _ _ e]; exact hA.2 j (by omega)⟩
  exact la 4 0 _ (by omega) (by omega) ⟨fun _ _ => rfl, fun j hj => absurd hj (Nat.not_lt_zero _)⟩
theorem x_ln_fr1 {M M1 : rs_M} {tp : Int32} {L : ab_L} (hL : (ab_ks L).length ≤ 12) (h : x_ln M 1 tp L) (hf : ∀ c, 1 ≤ c → c < 18 → M1 c = M c) : x_ln M1 1 tp L := by
  obtain ⟨h3, hs, h4, h5, h6, h7, hw⟩ := h
  refine ⟨by rw [hf 1 (by omega) (by omega)]; exact h3, fun i hi => x_sp_same (hs i hi) (fun j _ => by rw [hf (1 + 4 + i) (by omega) (by omega)]), by rw [hf 1 (by omega) (by omega)]; exact h4, by rw [hf 1 (by omega) (by omega)]; exact h5, by rw [hf 1 (by omega) (by omega)]; exact h6, by rw [hf 1 (by omega) (by omega)]; exact h7, fun p hp => ⟨by rw [hf (1 + 2) (by omega) (by omega)]; exact (hw p hp).1, by rw [hf (1 + 3) (by omega) (by omega)]; exact (hw p hp).2⟩⟩
set_option maxHeartbeats 4000000 in
set_option maxRecDepth 100000 in
theorem c_tunnel (l : Launch) (g : rs_G) (t : Nat × Nat) (M : rs_M) (A : ab_S) (hS : x_S M A) : rs_Ci l g xk t yX5_tunnel cX5_tunnel 3 .int 6 [.ref (g.2.2 0)] M (fun r M1 => x_R (ab_tunnel A) r M1) := by
  obtain ⟨hL, hok, ht, hdr, him, htx, hun, hca, hse⟩ := id hS
  have hn12 := hok.1
  refine rs_ofi (plainFor_of_name (by decide)) (Nat.le_of_ble_eq_true rfl) ?_
  intro Y K hr
  show Y M 0 [(0, .ref (g.2.2 0))] []
  refine r_aload_n K 0 dX5_tunnel_0 rfl rfl ?_
  refine r_getR K rfl rfl ff_5_draft qw_190 dX5_tunnel_1 ?_
  refine r_callVv K [] [] dX5_tunnel_4 mf_X1_reset (xL_0 xL18) rfl qw_243 qw_244 qw_245 (c_reset l g t M 18 xL18 1 hdr) rfl rfl (by decide) (Nat.le_of_ble_eq_true rfl) (fun Mz hp => ?_)
  obtain ⟨hz1, hz2⟩ := hp
  refine r_aload_n K 0 dX5_tunnel_7 rfl rfl ?_
  refine r_getR K rfl rfl ff_5_script qw_193 dX5_tunnel_8 ?_
  refine r_aload_n K 0 dX5_tunnel_11 rfl rfl ?_
  refine r_getR K rfl rfl ff_5_draft qw_190 dX5_tunnel_12 ?_
  refine r_callVi K [.ref (g.2.2 18)] [] dX5_tunnel_15 mf_X2_readInto rfl rfl qw_247 qw_248 qw_249 (c_readInto l g t Mz A.2.2.2.2.1 (x_text_fr htx (hz2 37 (by decide)) (hz2 38 (by decide))) hz1) rfl rfl (by decide) (Nat.le_of_ble_eq_true rfl) (fun r Mr hp => ?_)
  obtain ⟨fp, hex, hp⟩ := hp
  obtain ⟨T0, hT0⟩ := hex
  have hrc : ∀ c, ¬ (18 ≤ c ∧ c < 35) → c ≠ 37 → c ≠ 39 → Mr c = M c := fun c c1 c2 c3 => by rw [fp.1 c c1 c2 c3, hz2 c (by omega)]
  have hdr2 : x_sp Mr 22 1 [] := hT0.1.2.1 0 (Nat.zero_le _)
  rcases hR : ab_items A.2.2.2.2.1 121 ab_T0 0 0 with ff | ⟨T, n⟩
  · rw [hR] at hp
    obtain ⟨rfl, hff⟩ := hp
    refine r_istore_n K [(1, .int ((-10) - nI ff)), (0, .ref (g.2.2 0))] dX5_tunnel_18 rfl (by decide) rfl ?_
    refine r_iload_n K 0 dX5_tunnel_19 rfl rfl ?_
    refine r_if_ge K 25 dX5_tunnel_20 (by decide) (fun h => absurd h (x_m10 hff)) (fun _ => ?_)
    refine r_iload_n K 0 dX5_tunnel_23 rfl rfl ?_
    have e : ab_tunnel A = ((-10) - nI ff, A) := by rw [ab_tunnel, hR]
    exact hr _ _ _ _ dX5_tunnel_24 (by rw [e]; exact ⟨rfl, x_ln_fr (lo := 18) (hi := 40) hn12 hL (fun c hc => hrc c (by omega) (by omega) (by omega)) (by omega), hok, ht, hdr2, x_im_fr him (fun c hc => hrc c (by omega) (by omega) (by omega)), x_text_fP (x_text_fr htx (hz2 37 (by decide)) (hz2 38 (by decide))) fp, x_und_fr hun (fun c c1 c2 => hrc c (by omega) (by omega) (by omega)), x_cache_fr hca (fun c c1 c2 => hrc c (by omega) (by omega) (by omega)), x_seen_fr hse (hrc 0 (by decide) (by decide) (by decide)) (hrc 55 (by decide) (by decide) (by decide)) (hrc 56 (by decide) (by decide) (by decide))⟩)
  · rw [hR] at hp
    obtain ⟨rfl, hn120, hT⟩ := hp
    refine r_istore_n K [(1, .int (nI n)), (0, .ref (g.2.2 0))] dX5_tunnel_18 rfl (by decide) rfl ?_
    refine r_iload_n K 0 dX5_tunnel_19 rfl rfl ?_
    refine r_if_ge K 25 dX5_tunnel_20 (by decide) (fun _ => ?_) (fun h => absurd (nI_pos' (by omega)) h)
    refine r_aload_n K 1 dX5_tunnel_25 rfl rfl ?_
    refine r_getR K rfl rfl ff_5_line qw_189 dX5_tunnel_26 ?_
    refine r_aload_n K 1 dX5_tunnel_29 rfl rfl ?_
    refine r_getR K rfl rfl ff_5_draft qw_190 dX5_tunnel_30 ?_
    refine r_callVv K [.ref (g.2.2 18)] [] dX5_tunnel_33 mf_X1_copy (xL_0 xL1) rfl qw_352 qw_353 qw_354 (c_Line_copy l g t Mr 1 18 xL1 xL18 (by omega) T.2.1 T.1 hT.2.1.1 hT.1) rfl rfl (by decide) (Nat.le_of_ble_eq_true rfl) (fun Mc hp => ?_)
    obtain ⟨hc1, hc2⟩ := hp
    refine r_aload_n K 1 dX5_tunnel_36 rfl rfl ?_
    refine r_callVv K [] [] dX5_tunnel_37 mf_X5_lineChanged rfl rfl qw_356 qw_358 qs_11 (c_lineChanged l g t Mc) rfl rfl (by decide) (Nat.le_of_ble_eq_true rfl) (fun M1 hp => ?_)
    subst hp
    refine r_aload_n K 1 dX5_tunnel_40 rfl rfl ?_
    refine r_getR K rfl rfl ff_5_script qw_193 dX5_tunnel_41 ?_
    refine r_iconst K (v := 0) dX5_tunnel_44 (by decide) ?_
    refine r_put K rfl rfl ff_2_length qw_108 rfl rfl dX5_tunnel_45 ?_
    refine r_aload_n K 1 dX5_tunnel_48 rfl rfl ?_
    refine r_getR K rfl rfl ff_5_deeds qw_194 dX5_tunnel_49 ?_
    refine r_iconst K (v := 0) dX5_tunnel_52 (by decide) ?_
    refine r_put K rfl rfl ff_0_size qw_147 rfl rfl dX5_tunnel_53 ?_
    refine r_aload_n K 1 dX5_tunnel_56 rfl rfl ?_
    refine r_iconst K (v := 0) dX5_tunnel_57 (by decide) ?_
    refine r_put K rfl rfl ff_5_seen qw_199 rfl rfl dX5_tunnel_58 ?_
    refine r_iconst K (v := 0) dX5_tunnel_61 (by decide) ?_
    refine r_istore_n K [(2, .int 0), (1, .int (nI n)), (0, .ref (g.2.2 0))] dX5_tunnel_62 rfl (by decide) rfl ?_
    have la : ∀ (f : Nat) (i : Nat) (Mi : rs_M), (2 - i < f) → (i ≤ 2) → ((∀ c, c ≠ 36 → Mi c = (rs_st (rs_st (rs_st (rs_st Mc 45 2 0) 37 1 0) 40 4 0) 0 10 0) c) ∧ ∀ j, j < i → Mi 36 j = 0) → Y Mi 63 [(2, .int (nI i)), (1, .int (nI n)), (0, .ref (g.2.2 0))] [] := by
      intro f
      induction f with
      | zero =>
        intro i Mi hf
        exact absurd hf (Nat.not_lt_zero _)
      | succ f ih =>
        intro i Mi hf hi hA
        refine r_iload_n K 0 dX5_tunnel_63 rfl rfl ?_
        refine r_iconst K (v := 2) dX5_tunnel_64 (by decide) ?_
        refine r_icmp_ge K 81 dX5_tunnel_65 (by decide) (fun h_1 => ?_) (fun h_1 => ?_)
        · have nh_1 : 2 ≤ i := (nf_le rfl rfl (by omega) (by omega)).mp h_1
          refine r_iload_n K 1 dX5_tunnel_81 rfl rfl ?_
          have hi2 : i = 2 := by omega
          subst hi2
          have e : ab_tunnel A = (nI n, (T.1, T.2.1, [], [], [], fun _ => none)) := by rw [ab_tunnel, hR]
          have hx : ∀ c, c ≠ 36 → c ≠ 0 → c ≠ 40 → c ≠ 37 → c ≠ 45 → Mi c = Mc c := fun c c1 c2 c3 c4 c5 => by rw [hA.1 c c1, rs_st_ne _ _ _ c2, rs_st_ne _ _ _ c3, rs_st_ne _ _ _ c4, rs_st_ne _ _ _ c5]
          have hT12 := hT.2.1.1
          refine hr _ _ _ _ dX5_tunnel_82 (by rw [e]; exact ⟨rfl, x_ln_fr1 hT12 hc1 (fun c c1 c2 => hx c (by omega) (by omega) (by omega) (by omega) (by omega)), hT.2.1, hT.2.2.1, x_sp_same hdr2 (fun j _ => by rw [hx 22 (by decide) (by decide) (by decide) (by decide) (by decide), hc2 22 (by decide)]), ⟨hA.2 0 (by decide), hA.2 1 (by decide)⟩, ⟨by rw [hA.1 37 (by decide)]; simp [rs_st]; rfl, by simp, fun i hi => absurd hi (Nat.not_lt_zero _)⟩, x_und_0 (by rw [hA.1 40 (by decide)]; simp [rs_st]), x_cache_0 (by rw [hA.1 45 (by decide)]; simp [rs_st]), ⟨by rw [hA.1 0 (by decide)]; simp [rs_st]; rfl, by simp, fun i hi => absurd hi (Nat.not_lt_zero _)⟩⟩)
        · have nh_1 : ¬ 2 ≤ i := mt (nf_le rfl rfl (by omega) (by omega)).mpr h_1
          refine r_aload_n K 2 dX5_tunnel_68 rfl rfl ?_
          refine r_getR K rfl rfl ff_5_kept qw_192 dX5_tunnel_69 ?_
          refine r_iload_n K 0 dX5_tunnel_72 rfl rfl ?_
          refine r_iconst K (v := 0) dX5_tunnel_73 (by decide) ?_
          refine r_zast K (j := i) rfl rfl (by omega) (by decide) dX5_tunnel_74 ?_
          refine r_mem (rs_st Mi 36 i 0) (by rw [x_nar0]) ?_
          refine r_iinc_n K 0 [(2, .int (nI (i + 1))), (1, .int (nI n)), (0, .ref (g.2.2 0))] dX5_tunnel_75 rfl (by decide) rfl ?_
          refine r_goto K 63 dX5_tunnel_78 (by decide) ?_
          exact ih (i + 1) _ (by omega) (by omega) ⟨fun c hc => by rw [rs_st_ne _ _ _ hc]; exact hA.1 c hc, fun j hj => by
            by_cases e : j = i
            · subst e; rw [rs_st_eq]
            · rw [rs_st_nk _ _ _ e]; exact hA.2 j (by omega)⟩
    exact la 3 0 _ (by omega) (by omega) ⟨fun _ _ => rfl, fun j hj => absurd hj (Nat.not_lt_zero _)⟩
theorem x_255 {c : Int32} (h : 0 ≤ c ∧ c ≤ 255) : 0 ≤ c.toInt ∧ c.toInt ≤ 255 := by
  obtain ⟨h1, h2⟩ := h
  rw [Int32.le_iff_toInt_le] at h1 h2
  have e1 : (0 : Int32).toInt = 0 := by decide
  have e2 : (255 : Int32).toInt = 255 := by decide
  omega
set_option maxHeartbeats 4000000 in
set_option maxRecDepth 100000 in
theorem c_type (l : Launch) (g : rs_G) (t : Nat × Nat) (M : rs_M) (A : ab_S) (hS : x_S M A) (c : Int32) : rs_Ci l g xk t yX5_type cX5_type 2 .int 2 [.ref (g.2.2 0), .int c] M (fun r M1 => x_R (ab_type A c) r M1) := by
  obtain ⟨hL, hok, ht, hdr, him, htx, hun, hca, hse⟩ := id hS
  have hn12 := hok.1
  refine rs_ofi (plainFor_of_name (by decide)) (Nat.le_of_ble_eq_true rfl) ?_
  intro Y K hr
  show Y M 0 [(0, .ref (g.2.2 0)), (1, .int c)] []
  refine r_iload_n K 1 dX5_type_0 rfl rfl ?_
  refine r_iconst K (v := 0) dX5_type_1 (by decide) ?_
  refine r_sipush K (v := 255) dX5_type_2 (by decide) ?_
  refine r_callSi K [.int c, .int 0, .int 255] [] dX5_type_5 mf_X5_isWithin qw_227 qw_228 (c_isWithin l g xk t M c 0 255) rfl rfl (by decide) (Nat.le_of_ble_eq_true rfl) (fun r M1 hp => ?_)
  obtain ⟨hp, he⟩ := hp
  have he := he.symm
  subst he
  rcases hp with ⟨rfl, hb_1⟩ | ⟨rfl, hb_1⟩
  · refine r_if_ne K 13 dX5_type_8 (by decide) (fun _ => ?_) (fun h => absurd h (by decide))
    refine r_aload_n K 0 dX5_type_13 rfl rfl ?_
    refine r_getR K rfl rfl ff_5_script qw_193 dX5_type_14 ?_
    refine r_iload_n K 1 dX5_type_17 rfl rfl ?_
    have hc := x_255 hb_1
    refine r_callVi K [.int c] [] dX5_type_18 mf_X2_add rfl rfl qw_230 qw_231 qw_232 (c_Script_add l g t M A.2.2.2.2.1 htx c hc.1 hc.2) rfl rfl (by decide) (Nat.le_of_ble_eq_true rfl) (fun r M1 hp => ?_)
    rcases hp with ⟨rfl, hq1, hq2, hq3⟩ | ⟨rfl, hq1, hq2, hq3⟩
    · refine r_if_eq K 34 dX5_type_21 (by decide) (fun h => absurd h (by decide)) (fun _ => ?_)
      refine r_aload_n K 0 dX5_type_24 rfl rfl ?_
      refine r_getR K rfl rfl ff_5_script qw_193 dX5_type_25 ?_
      refine r_getI K rfl rfl ff_2_length qw_108 dX5_type_28 ?_
      refine r_top_eq (nI (A.2.2.2.2.1.length + 1)) (by rw [hq2.1]; simp) ?_
      refine r_goto K 36 dX5_type_31 (by decide) ?_
      have e : ab_type A c = (nI (A.2.2.2.2.1.length + 1), ab_wT A (A.2.2.2.2.1 ++ [c])) := by rw [ab_type, ab_if_pos hb_1, ab_if_pos hq1]
      exact hr _ _ _ _ dX5_type_36 (by rw [e]; exact ⟨rfl, (x_S_text hS hq3 hq2)⟩)
    · refine r_if_eq K 34 dX5_type_21 (by decide) (fun _ => ?_) (fun h => absurd h (by decide))
      refine r_bipush K (v := (-3)) dX5_type_34 (by decide) ?_
      have e : ab_type A c = (-3, A) := by rw [ab_type, ab_if_pos hb_1, ab_if_neg hq1]
      exact hr _ _ _ _ dX5_type_36 (by rw [e]; exact ⟨rfl, (x_S_text hS hq3 hq2)⟩)
  · refine r_if_ne K 13 dX5_type_8 (by decide) (fun h => absurd h (by decide)) (fun _ => ?_)
    refine r_iconst K (v := (-1)) dX5_type_11 (by decide) ?_
    have e : ab_type A c = (-1, A) := by rw [ab_type, ab_if_neg hb_1]
    exact hr _ _ _ _ dX5_type_12 (by rw [e]; exact ⟨rfl, hS⟩)
