/-! the text's tokens -/
def ab_ch (tx : List Int32) (i : Nat) : Nat := (tx.getD i 0).toNatClampNeg
def ab_tok8 (tx : List Int32) : Prop := tx.length ≤ 120 ∧ ∀ i, i < tx.length → tx.getD i 0 = nI (ab_ch tx i) ∧ ab_ch tx i < 256
theorem x_text_8 {M : rs_M} {tx : List Int32} (h : x_text M tx) : ab_tok8 tx := ⟨h.2.1, fun i hi => by
  obtain ⟨-, h1, h2⟩ := h.2.2 i hi
  have n0 : ¬ tx.getD i 0 < 0 := fun q => by
    rw [Int32.lt_iff_toInt_lt] at q
    have z : (0 : Int32).toInt = 0 := by decide
    omega
  obtain ⟨j, hj, e⟩ := nI_of n0
  have e2 : ab_ch tx i = j := by rw [ab_ch, e, nI_clamp hj]
  rw [e, nI_toInt hj] at h2
  exact ⟨by rw [e2]; exact e, by omega⟩⟩
def ab_bl (tx : List Int32) : Nat → Nat → Nat
  | 0, p => p
  | f + 1, p => if p < tx.length ∧ ab_ch tx p = 32 then ab_bl tx f (p + 1) else p
def ab_dig (tx : List Int32) (p : Nat) : Prop := p < tx.length ∧ 48 ≤ ab_ch tx p ∧ ab_ch tx p ≤ 57
def ab_de (tx : List Int32) : Nat → Nat → Nat
  | 0, p => p
  | f + 1, p => if p < tx.length ∧ 48 ≤ ab_ch tx p ∧ ab_ch tx p ≤ 57 then ab_de tx f (p + 1) else p
def ab_let (c : Nat) : Prop := c = 45 ∨ c = 59 ∨ c = 98 ∨ c = 106 ∨ c = 107 ∨ c = 109 ∨ c = 116 ∨ c = 119
/-- a token: its first letter's place, what it is (0 the end, 1 a number, 2 a letter, 3 another), its number or letter, what is behind it -/
abbrev ab_K : Type := Nat × Nat × Nat × Nat
noncomputable def ab_tokat (tx : List Int32) (s e : Nat) : ab_K := ab_if (s < tx.length) (ab_if (s < e) (ab_if (e = s + 1) (s, 1, ab_ch tx s - 48, e) (ab_if (e = s + 2 ∧ ¬ ab_ch tx s = 48) (s, 1, 10 * (ab_ch tx s - 48) + (ab_ch tx (s + 1) - 48), e) (s, 3, 0, e))) (ab_if (ab_let (ab_ch tx s)) (s, 2, ab_ch tx s, s + 1) (s, 3, 0, s + 1))) (s, 0, 0, s)
noncomputable def ab_tok (tx : List Int32) (p : Nat) : ab_K := ab_tokat tx (ab_bl tx (tx.length - p) p) (ab_de tx (tx.length - ab_bl tx (tx.length - p) p) (ab_bl tx (tx.length - p) p))
theorem ab_bl_ge (tx : List Int32) : ∀ f p, p ≤ ab_bl tx f p ∧ (p ≤ tx.length → ab_bl tx f p ≤ tx.length)
  | 0, p => ⟨Nat.le_refl _, id⟩
  | f + 1, p => by
    simp only [ab_bl]
    split
    · have := ab_bl_ge tx f (p + 1)
      exact ⟨by omega, fun _ => this.2 (by omega)⟩
    · exact ⟨Nat.le_refl _, id⟩
theorem ab_de_ge (tx : List Int32) : ∀ f p, p ≤ ab_de tx f p ∧ (p ≤ tx.length → ab_de tx f p ≤ tx.length)
  | 0, p => ⟨Nat.le_refl _, id⟩
  | f + 1, p => by
    simp only [ab_de]
    split
    · have := ab_de_ge tx f (p + 1)
      exact ⟨by omega, fun _ => this.2 (by omega)⟩
    · exact ⟨Nat.le_refl _, id⟩
theorem ab_de_dig (tx : List Int32) : ∀ f p i, p ≤ i → i < ab_de tx f p → 48 ≤ ab_ch tx i ∧ ab_ch tx i ≤ 57
  | 0, p, i, h1, h2 => absurd h2 (by simp only [ab_de]; omega)
  | f + 1, p, i, h1, h2 => by
    simp only [ab_de] at h2
    split at h2
    · rename_i h
      by_cases e : i = p
      · subst e; exact h.2
      · exact ab_de_dig tx f (p + 1) i (by omega) h2
    · omega
theorem ab_tok_len {tx : List Int32} {p : Nat} (hp : p ≤ tx.length) : (ab_tok tx p).1 ≤ tx.length ∧ p ≤ (ab_tok tx p).1 ∧ (ab_tok tx p).2.2.2 ≤ tx.length ∧ (ab_tok tx p).1 ≤ (ab_tok tx p).2.2.2 ∧ ((ab_tok tx p).2.1 = 0 ↔ (ab_tok tx p).1 = tx.length) ∧ ((ab_tok tx p).2.1 ≠ 0 → p < (ab_tok tx p).2.2.2) ∧ ((ab_tok tx p).2.1 = 1 → (ab_tok tx p).2.2.1 ≤ 99) := by
  have h1 := ab_bl_ge tx (tx.length - p) p
  have h2 := ab_de_ge tx (tx.length - ab_bl tx (tx.length - p) p) (ab_bl tx (tx.length - p) p)
  have h3 := ab_de_dig tx (tx.length - ab_bl tx (tx.length - p) p) (ab_bl tx (tx.length - p) p)
  unfold ab_tok
  generalize ab_bl tx (tx.length - p) p = s at *
  generalize ab_de tx (tx.length - s) s = e at *
  have hs := h1.2 hp
  have he := h2.2 hs
  unfold ab_tokat
  by_cases a : s < tx.length
  · rw [ab_if_pos a]
    by_cases b : s < e
    · rw [ab_if_pos b]
      have d0 := h3 s (Nat.le_refl _) b
      by_cases c : e = s + 1
      · rw [ab_if_pos c]
        refine ⟨?_, ?_, ?_, ?_, ?_, ?_, ?_⟩ <;> simp only <;> omega
      · rw [ab_if_neg c]
        by_cases d : e = s + 2 ∧ ¬ ab_ch tx s = 48
        · rw [ab_if_pos d]
          have d1 := h3 (s + 1) (by omega) (by omega)
          refine ⟨?_, ?_, ?_, ?_, ?_, ?_, ?_⟩ <;> simp only <;> omega
        · rw [ab_if_neg d]
          refine ⟨?_, ?_, ?_, ?_, ?_, ?_, ?_⟩ <;> simp only <;> omega
    · rw [ab_if_neg b]
      by_cases c : ab_let (ab_ch tx s)
      · rw [ab_if_pos c]
        refine ⟨?_, ?_, ?_, ?_, ?_, ?_, ?_⟩ <;> simp only <;> omega
      · rw [ab_if_neg c]
        refine ⟨?_, ?_, ?_, ?_, ?_, ?_, ?_⟩ <;> simp only <;> omega
  · rw [ab_if_neg a]
    exact ⟨hs, h1.1, hs, Nat.le_refl _, ⟨fun _ => (show s = tx.length by omega), fun _ => rfl⟩, fun h => absurd rfl h, fun h => absurd h (by simp)⟩
/-- the class's number for a kind -/
def x_kc (τ : ab_K) : Int32 := match τ.2.1 with
  | 0 => -1
  | 1 => -2
  | 2 => nI τ.2.2.1
  | _ => -3
/-- the token that the class looks at -/
def x_tok (M : rs_M) (τ : ab_K) : Prop := M 37 2 = nI τ.1 ∧ M 37 3 = x_kc τ ∧ (τ.2.1 = 1 → M 37 4 = nI τ.2.2.1) ∧ M 37 5 = nI τ.2.2.2
def x_kat (tx : List Int32) (p : Nat) : Int32 := if p < tx.length then (if ab_ch tx p = 32 ∨ ab_ch tx p = 45 ∨ ab_ch tx p = 59 ∨ ab_ch tx p = 98 ∨ ab_ch tx p = 106 ∨ ab_ch tx p = 107 ∨ ab_ch tx p = 109 ∨ ab_ch tx p = 116 ∨ ab_ch tx p = 119 then nI (ab_ch tx p) else -3) else -1
def x_dat (tx : List Int32) (p : Nat) : Int32 := if p < tx.length ∧ 48 ≤ ab_ch tx p ∧ ab_ch tx p ≤ 57 then nI (ab_ch tx p - 48) else -9
/-- only the token changes -/
def x_ft (M M1 : rs_M) : Prop := (∀ c, c ≠ 37 → M1 c = M c) ∧ ∀ j, ¬ (2 ≤ j ∧ j ≤ 5) → M1 37 j = M 37 j
theorem x_ft_tr {M M1 M2 : rs_M} (h : x_ft M M1) (h2 : x_ft M1 M2) : x_ft M M2 := ⟨fun c hc => (h2.1 c hc).trans (h.1 c hc), fun j hj => (h2.2 j hj).trans (h.2 j hj)⟩
theorem x_ft_st {M : rs_M} {j : Nat} {v : Int32} (h1 : 2 ≤ j) (h2 : j ≤ 5) : x_ft M (rs_st M 37 j v) := ⟨fun c hc => rs_st_ne _ _ _ hc, fun k hk => rs_st_nk _ _ _ (by omega)⟩
theorem x_ft_rf (M : rs_M) : x_ft M M := ⟨fun _ _ => rfl, fun _ _ => rfl⟩
theorem x_text_ft {M M1 : rs_M} {tx : List Int32} (h : x_text M tx) (hf : x_ft M M1) : x_text M1 tx := by
  refine ⟨by rw [hf.2 1 (by omega)]; exact h.1, h.2.1, fun i hi => by rw [hf.1 38 (by decide)]; exact h.2.2 i hi⟩
set_option maxHeartbeats 4000000 in
set_option maxRecDepth 100000 in
theorem c_kindAt (l : Launch) (g : rs_G) (t : Nat × Nat) (M : rs_M) (tx : List Int32) (htx : x_text M tx) (p : Nat) (hp : p < 1000) : rs_Ci l g xk t yX2_kindAt cX2_kindAt 3 .int 0 [.ref (g.2.2 37), .int (nI p)] M (fun r M1 => r = x_kat tx p ∧ M1 = M) := by
  have h8 := x_text_8 htx
  have hl120 := htx.2.1
  refine rs_ofi (plainFor_of_name (by decide)) (Nat.le_of_ble_eq_true rfl) ?_
  intro Y K hr
  show Y M 0 [(0, .ref (g.2.2 37)), (1, .int (nI p))] []
  refine r_iload_n K 1 dX2_kindAt_0 rfl rfl ?_
  refine r_if_lt K 18 dX2_kindAt_1 (by decide) (fun h => absurd h (nI_pos (by omega))) (fun _ => ?_)
  refine r_iload_n K 1 dX2_kindAt_4 rfl rfl ?_
  refine r_aload_n K 0 dX2_kindAt_5 rfl rfl ?_
  refine r_getI K rfl rfl ff_2_length qw_107 dX2_kindAt_6 ?_
  refine r_top_eq (nI tx.length) htx.1 ?_
  refine r_icmp_ge K 18 dX2_kindAt_9 (by decide) (fun h_1 => ?_) (fun h_1 => ?_)
  · have nh_1 : tx.length ≤ p := (nf_le rfl rfl (by omega) (by omega)).mp h_1
    refine r_iconst K (v := (-1)) dX2_kindAt_18 (by decide) ?_
    exact hr _ _ _ _ dX2_kindAt_19 ⟨by rw [x_kat, if_neg (by omega)], rfl⟩
  · have nh_1 : ¬ tx.length ≤ p := mt (nf_le rfl rfl (by omega) (by omega)).mpr h_1
    refine r_iload_n K 1 dX2_kindAt_12 rfl rfl ?_
    refine r_bipush K (v := 120) dX2_kindAt_13 (by decide) ?_
    refine r_icmp_lt K 20 dX2_kindAt_15 (by decide) (fun h_2 => ?_) (fun h_2 => ?_)
    · have nh_2 : p < 120 := (nf_lt rfl rfl (by omega) (by omega)).mp h_2
      refine r_aload_n K 0 dX2_kindAt_20 rfl rfl ?_
      refine r_getR K rfl rfl ff_2_letters qw_106 dX2_kindAt_21 ?_
      refine r_iload_n K 1 dX2_kindAt_24 rfl rfl ?_
      refine r_iald K (j := p) rfl rfl (by omega) (by decide) dX2_kindAt_25 ?_
      refine r_top_eq (nI (ab_ch tx p)) (by rw [(htx.2.2 p (by omega)).1]; exact (h8.2 p (by omega)).1) ?_
      have hc8 := (h8.2 p (by omega)).2
      refine r_istore_n K [(2, .int (nI (ab_ch tx p))), (0, .ref (g.2.2 37)), (1, .int (nI p))] dX2_kindAt_26 rfl (by decide) rfl ?_
      refine r_iload_n K 0 dX2_kindAt_27 rfl rfl ?_
      refine r_lookup K [(32, 112), (45, 112), (59, 112), (98, 112), (106, 112), (107, 112), (109, 112), (116, 112), (119, 112)] 114 dX2_kindAt_28 (by decide) (by decide) (by decide) ?_
      simp only [rs_swp]
      refine ⟨fun h_3_0 => ?_, fun h_3_0 => ⟨fun h_3_1 => ?_, fun h_3_1 => ⟨fun h_3_2 => ?_, fun h_3_2 => ⟨fun h_3_3 => ?_, fun h_3_3 => ⟨fun h_3_4 => ?_, fun h_3_4 => ⟨fun h_3_5 => ?_, fun h_3_5 => ⟨fun h_3_6 => ?_, fun h_3_6 => ⟨fun h_3_7 => ?_, fun h_3_7 => ⟨fun h_3_8 => ?_, fun h_3_8 => ?_⟩⟩⟩⟩⟩⟩⟩⟩⟩
      · refine r_iload_n K 0 dX2_kindAt_112 rfl rfl ?_
        have nh_3_0 : (ab_ch tx p) = 32 := (nf_eq rfl rfl (by omega) (by omega)).mp h_3_0
        exact hr _ _ _ _ dX2_kindAt_113 ⟨by rw [x_kat, if_pos (by omega), if_pos (by omega)], rfl⟩
      · refine r_iload_n K 0 dX2_kindAt_112 rfl rfl ?_
        have nh_3_1 : (ab_ch tx p) = 45 := (nf_eq rfl rfl (by omega) (by omega)).mp h_3_1
        exact hr _ _ _ _ dX2_kindAt_113 ⟨by rw [x_kat, if_pos (by omega), if_pos (by omega)], rfl⟩
      · refine r_iload_n K 0 dX2_kindAt_112 rfl rfl ?_
        have nh_3_2 : (ab_ch tx p) = 59 := (nf_eq rfl rfl (by omega) (by omega)).mp h_3_2
        exact hr _ _ _ _ dX2_kindAt_113 ⟨by rw [x_kat, if_pos (by omega), if_pos (by omega)], rfl⟩
      · refine r_iload_n K 0 dX2_kindAt_112 rfl rfl ?_
        have nh_3_3 : (ab_ch tx p) = 98 := (nf_eq rfl rfl (by omega) (by omega)).mp h_3_3
        exact hr _ _ _ _ dX2_kindAt_113 ⟨by rw [x_kat, if_pos (by omega), if_pos (by omega)], rfl⟩
      · refine r_iload_n K 0 dX2_kindAt_112 rfl rfl ?_
        have nh_3_4 : (ab_ch tx p) = 106 := (nf_eq rfl rfl (by omega) (by omega)).mp h_3_4
        exact hr _ _ _ _ dX2_kindAt_113 ⟨by rw [x_kat, if_pos (by omega), if_pos (by omega)], rfl⟩
      · refine r_iload_n K 0 dX2_kindAt_112 rfl rfl ?_
        have nh_3_5 : (ab_ch tx p) = 107 := (nf_eq rfl rfl (by omega) (by omega)).mp h_3_5
        exact hr _ _ _ _ dX2_kindAt_113 ⟨by rw [x_kat, if_pos (by omega), if_pos (by omega)], rfl⟩
      · refine r_iload_n K 0 dX2_kindAt_112 rfl rfl ?_
        have nh_3_6 : (ab_ch tx p) = 109 := (nf_eq rfl rfl (by omega) (by omega)).mp h_3_6
        exact hr _ _ _ _ dX2_kindAt_113 ⟨by rw [x_kat, if_pos (by omega), if_pos (by omega)], rfl⟩
      · refine r_iload_n K 0 dX2_kindAt_112 rfl rfl ?_
        have nh_3_7 : (ab_ch tx p) = 116 := (nf_eq rfl rfl (by omega) (by omega)).mp h_3_7
        exact hr _ _ _ _ dX2_kindAt_113 ⟨by rw [x_kat, if_pos (by omega), if_pos (by omega)], rfl⟩
      · refine r_iload_n K 0 dX2_kindAt_112 rfl rfl ?_
        have nh_3_8 : (ab_ch tx p) = 119 := (nf_eq rfl rfl (by omega) (by omega)).mp h_3_8
        exact hr _ _ _ _ dX2_kindAt_113 ⟨by rw [x_kat, if_pos (by omega), if_pos (by omega)], rfl⟩
      · refine r_bipush K (v := (-3)) dX2_kindAt_114 (by decide) ?_
        have nh_3_0 : ¬ (ab_ch tx p) = 32 := mt (nf_eq rfl rfl (by omega) (by omega)).mpr h_3_0
        have nh_3_1 : ¬ (ab_ch tx p) = 45 := mt (nf_eq rfl rfl (by omega) (by omega)).mpr h_3_1
        have nh_3_2 : ¬ (ab_ch tx p) = 59 := mt (nf_eq rfl rfl (by omega) (by omega)).mpr h_3_2
        have nh_3_3 : ¬ (ab_ch tx p) = 98 := mt (nf_eq rfl rfl (by omega) (by omega)).mpr h_3_3
        have nh_3_4 : ¬ (ab_ch tx p) = 106 := mt (nf_eq rfl rfl (by omega) (by omega)).mpr h_3_4
        have nh_3_5 : ¬ (ab_ch tx p) = 107 := mt (nf_eq rfl rfl (by omega) (by omega)).mpr h_3_5
        have nh_3_6 : ¬ (ab_ch tx p) = 109 := mt (nf_eq rfl rfl (by omega) (by omega)).mpr h_3_6
        have nh_3_7 : ¬ (ab_ch tx p) = 116 := mt (nf_eq rfl rfl (by omega) (by omega)).mpr h_3_7
        have nh_3_8 : ¬ (ab_ch tx p) = 119 := mt (nf_eq rfl rfl (by omega) (by omega)).mpr h_3_8
        exact hr _ _ _ _ dX2_kindAt_116 ⟨by rw [x_kat, if_pos (by omega), if_neg (by omega)], rfl⟩
    · have nh_2 : ¬ p < 120 := mt (nf_lt rfl rfl (by omega) (by omega)).mpr h_2
      refine r_iconst K (v := (-1)) dX2_kindAt_18 (by decide) ?_
      exact hr _ _ _ _ dX2_kindAt_19 ⟨by rw [x_kat, if_neg (by omega)], rfl⟩
set_option maxHeartbeats 4000000 in
set_option maxRecDepth 100000 in
theorem c_digitAt (l : Launch) (g : rs_G) (t : Nat × Nat) (M : rs_M) (tx : List Int32) (htx : x_text M tx) (p : Nat) (hp : p < 1000) : rs_Ci l g xk t yX2_digitAt cX2_digitAt 3 .int 0 [.ref (g.2.2 37), .int (nI p)] M (fun r M1 => r = x_dat tx p ∧ M1 = M) := by
  have h8 := x_text_8 htx
  have hl120 := htx.2.1
  refine rs_ofi (plainFor_of_name (by decide)) (Nat.le_of_ble_eq_true rfl) ?_
  intro Y K hr
  show Y M 0 [(0, .ref (g.2.2 37)), (1, .int (nI p))] []
  refine r_iload_n K 1 dX2_digitAt_0 rfl rfl ?_
  refine r_if_lt K 18 dX2_digitAt_1 (by decide) (fun h => absurd h (nI_pos (by omega))) (fun _ => ?_)
  refine r_iload_n K 1 dX2_digitAt_4 rfl rfl ?_
  refine r_aload_n K 0 dX2_digitAt_5 rfl rfl ?_
  refine r_getI K rfl rfl ff_2_length qw_107 dX2_digitAt_6 ?_
  refine r_top_eq (nI tx.length) htx.1 ?_
  refine r_icmp_ge K 18 dX2_digitAt_9 (by decide) (fun h_1 => ?_) (fun h_1 => ?_)
  · have nh_1 : tx.length ≤ p := (nf_le rfl rfl (by omega) (by omega)).mp h_1
    refine r_bipush K (v := (-9)) dX2_digitAt_18 (by decide) ?_
    exact hr _ _ _ _ dX2_digitAt_20 ⟨by rw [x_dat, if_neg (by omega)], rfl⟩
  · have nh_1 : ¬ tx.length ≤ p := mt (nf_le rfl rfl (by omega) (by omega)).mpr h_1
    refine r_iload_n K 1 dX2_digitAt_12 rfl rfl ?_
    refine r_bipush K (v := 120) dX2_digitAt_13 (by decide) ?_
    refine r_icmp_lt K 21 dX2_digitAt_15 (by decide) (fun h_2 => ?_) (fun h_2 => ?_)
    · have nh_2 : p < 120 := (nf_lt rfl rfl (by omega) (by omega)).mp h_2
      refine r_aload_n K 0 dX2_digitAt_21 rfl rfl ?_
      refine r_getR K rfl rfl ff_2_letters qw_106 dX2_digitAt_22 ?_
      refine r_iload_n K 1 dX2_digitAt_25 rfl rfl ?_
      refine r_iald K (j := p) rfl rfl (by omega) (by decide) dX2_digitAt_26 ?_
      refine r_top_eq (nI (ab_ch tx p)) (by rw [(htx.2.2 p (by omega)).1]; exact (h8.2 p (by omega)).1) ?_
      have hc8 := (h8.2 p (by omega)).2
      refine r_istore_n K [(2, .int (nI (ab_ch tx p))), (0, .ref (g.2.2 37)), (1, .int (nI p))] dX2_digitAt_27 rfl (by decide) rfl ?_
      refine r_iload_n K 0 dX2_digitAt_28 rfl rfl ?_
      refine r_bipush K (v := 48) dX2_digitAt_29 (by decide) ?_
      refine r_icmp_lt K 47 dX2_digitAt_31 (by decide) (fun h_3 => ?_) (fun h_3 => ?_)
      · have nh_3 : (ab_ch tx p) < 48 := (nf_lt rfl rfl (by omega) (by omega)).mp h_3
        refine r_bipush K (v := (-9)) dX2_digitAt_47 (by decide) ?_
        exact hr _ _ _ _ dX2_digitAt_49 ⟨by rw [x_dat, if_neg (by omega)], rfl⟩
      · have nh_3 : ¬ (ab_ch tx p) < 48 := mt (nf_lt rfl rfl (by omega) (by omega)).mpr h_3
        refine r_iload_n K 0 dX2_digitAt_34 rfl rfl ?_
        refine r_bipush K (v := 57) dX2_digitAt_35 (by decide) ?_
        refine r_icmp_gt K 47 dX2_digitAt_37 (by decide) (fun h_4 => ?_) (fun h_4 => ?_)
        · have nh_4 : 57 < (ab_ch tx p) := (nf_lt rfl rfl (by omega) (by omega)).mp h_4
          refine r_bipush K (v := (-9)) dX2_digitAt_47 (by decide) ?_
          exact hr _ _ _ _ dX2_digitAt_49 ⟨by rw [x_dat, if_neg (by omega)], rfl⟩
        · have nh_4 : ¬ 57 < (ab_ch tx p) := mt (nf_lt rfl rfl (by omega) (by omega)).mpr h_4
          refine r_iload_n K 0 dX2_digitAt_40 rfl rfl ?_
          refine r_bipush K (v := 48) dX2_digitAt_41 (by decide) ?_
          refine r_isub K dX2_digitAt_43 ?_
          refine r_top_eq (nI (ab_ch tx p - 48)) (pk_sub (b := 48) (by omega)) ?_
          refine r_goto K 49 dX2_digitAt_44 (by decide) ?_
          exact hr _ _ _ _ dX2_digitAt_49 ⟨by rw [x_dat, if_pos (by omega)], rfl⟩
    · have nh_2 : ¬ p < 120 := mt (nf_lt rfl rfl (by omega) (by omega)).mpr h_2
      refine r_bipush K (v := (-9)) dX2_digitAt_18 (by decide) ?_
      exact hr _ _ _ _ dX2_digitAt_20 ⟨by rw [x_dat, if_neg (by omega)], rfl⟩
set_option maxHeartbeats 4000000 in
set_option maxRecDepth 100000 in
theorem c_isNumber (l : Launch) (g : rs_G) (t : Nat × Nat) (M : rs_M) (n : Int32) (k : Nat) (hk : k < 1000) : rs_Ci l g xk t yX2_isNumber cX2_isNumber 2 .boolean 0 [.int n, .int (nI k)] M (fun r M1 => ab_b01 r (k = 1 ∨ (k = 2 ∧ 10 ≤ n)) ∧ M1 = M) := by
  refine rs_ofz (plainFor_of_name (by decide)) (Nat.le_of_ble_eq_true rfl) ?_
  intro Y K hr
  show Y M 0 [(0, .int n), (1, .int (nI k))] []
  refine r_iload_n K 1 dX2_isNumber_0 rfl rfl ?_
  refine r_iconst K (v := 1) dX2_isNumber_1 (by decide) ?_
  refine r_icmp_eq K 16 dX2_isNumber_2 (by decide) (fun h_1 => ?_) (fun h_1 => ?_)
  · have nh_1 : k = 1 := (nf_eq rfl rfl (by omega) (by omega)).mp h_1
    refine r_iconst K (v := 1) dX2_isNumber_16 (by decide) ?_
    refine r_goto K 21 dX2_isNumber_17 (by decide) ?_
    exact hr _ _ _ _ dX2_isNumber_21 (Or.inr rfl) ⟨Or.inl ⟨rfl, Or.inl nh_1⟩, rfl⟩
  · have nh_1 : ¬ k = 1 := mt (nf_eq rfl rfl (by omega) (by omega)).mpr h_1
    refine r_iload_n K 1 dX2_isNumber_5 rfl rfl ?_
    refine r_iconst K (v := 2) dX2_isNumber_6 (by decide) ?_
    refine r_icmp_ne K 20 dX2_isNumber_7 (by decide) (fun h_2 => ?_) (fun h_2 => ?_)
    · have nh_2 : ¬ k = 2 := mt (nf_eq rfl rfl (by omega) (by omega)).mpr h_2
      refine r_iconst K (v := 0) dX2_isNumber_20 (by decide) ?_
      exact hr _ _ _ _ dX2_isNumber_21 (Or.inl rfl) ⟨Or.inr ⟨rfl, fun q => by omega⟩, rfl⟩
    · have nh_2 : k = 2 := (nf_eq rfl rfl (by omega) (by omega)).mp h_2
      refine r_iload_n K 0 dX2_isNumber_10 rfl rfl ?_
      refine r_bipush K (v := 10) dX2_isNumber_11 (by decide) ?_
      refine r_icmp_lt K 20 dX2_isNumber_13 (by decide) (fun h_3 => ?_) (fun h_3 => ?_)
      · refine r_iconst K (v := 0) dX2_isNumber_20 (by decide) ?_
        exact hr _ _ _ _ dX2_isNumber_21 (Or.inl rfl) ⟨Or.inr ⟨rfl, fun q => q.elim (fun q => by omega) (fun q => absurd q.2 (Int32.not_le.mpr h_3))⟩, rfl⟩
      · refine r_iconst K (v := 1) dX2_isNumber_16 (by decide) ?_
        refine r_goto K 21 dX2_isNumber_17 (by decide) ?_
        exact hr _ _ _ _ dX2_isNumber_21 (Or.inr rfl) ⟨Or.inl ⟨rfl, Or.inr ⟨nh_2, Int32.not_lt.mp h_3⟩⟩, rfl⟩
set_option maxHeartbeats 4000000 in
set_option maxRecDepth 100000 in
theorem c_Script_add (l : Launch) (g : rs_G) (t : Nat × Nat) (M : rs_M) (tx : List Int32) (htx : x_text M tx) (c : Int32) (hc1 : 0 ≤ c.toInt) (hc2 : c.toInt ≤ 255) : rs_Ci l g xk t yX2_add cX2_add 2 .boolean 1 [.ref (g.2.2 37), .int c] M (fun r M1 => (r = 1 ∧ tx.length < 120 ∧ x_text M1 (tx ++ [c]) ∧ ∀ c, c < 37 ∨ 39 < c → M1 c = M c) ∨ (r = 0 ∧ ¬ tx.length < 120 ∧ x_text M1 tx ∧ ∀ c, c < 37 ∨ 39 < c → M1 c = M c)) := by
  have hl120 := htx.2.1
  refine rs_ofz (plainFor_of_name (by decide)) (Nat.le_of_ble_eq_true rfl) ?_
  intro Y K hr
  show Y M 0 [(0, .ref (g.2.2 37)), (1, .int c)] []
  refine r_aload_n K 0 dX2_add_0 rfl rfl ?_
  refine r_getI K rfl rfl ff_2_length qw_107 dX2_add_1 ?_
  refine r_top_eq (nI tx.length) htx.1 ?_
  refine r_iconst K (v := 0) dX2_add_4 (by decide) ?_
  refine r_bipush K (v := 119) dX2_add_5 (by decide) ?_
  refine r_callNi K [.int (nI tx.length), .int 0, .int 119] [] dX2_add_7 mf_X5_isWithin (by decide) qw_228 (c_isWithin l g xk t M (nI tx.length) 0 119) rfl rfl (by decide) (Nat.le_of_ble_eq_true rfl) (fun r M1 hp => ?_)
  obtain ⟨hp, he⟩ := hp
  have he := he.symm
  subst he
  rcases hp with ⟨rfl, hb_1⟩ | ⟨rfl, hb_1⟩
  · refine r_if_ne K 15 dX2_add_10 (by decide) (fun _ => ?_) (fun h => absurd h (by decide))
    have hlt : tx.length ≤ 119 := (nf_le (X := tx.length) (Y := 119) rfl rfl (by omega) (by decide)).mp hb_1.2
    refine r_aload_n K 0 dX2_add_15 rfl rfl ?_
    refine r_getR K rfl rfl ff_2_letters qw_106 dX2_add_16 ?_
    refine r_aload_n K 0 dX2_add_19 rfl rfl ?_
    refine r_getI K rfl rfl ff_2_length qw_107 dX2_add_20 ?_
    refine r_top_eq (nI tx.length) htx.1 ?_
    refine r_iload_n K 1 dX2_add_23 rfl rfl ?_
    refine r_iast K (j := tx.length) rfl rfl (by omega) (by decide) dX2_add_24 ?_
    refine r_aload_n K 0 dX2_add_25 rfl rfl ?_
    refine r_dup K dX2_add_26 rfl ?_
    refine r_getI K rfl rfl ff_2_length qw_107 dX2_add_27 ?_
    refine r_top_eq (nI tx.length) (by rw [rs_st_ne _ _ _ (by decide)]; exact htx.1) ?_
    refine r_iconst K (v := 1) dX2_add_30 (by decide) ?_
    refine r_iadd K dX2_add_31 ?_
    refine r_top_eq (nI (tx.length + 1)) (nI_1 _) ?_
    refine r_put K rfl rfl ff_2_length qw_107 rfl rfl dX2_add_32 ?_
    refine r_iconst K (v := 1) dX2_add_35 (by decide) ?_
    refine hr _ _ _ _ dX2_add_36 (Or.inr rfl) (Or.inl ⟨rfl, by omega, ⟨by rw [rs_st_eq]; simp, by simp; omega, fun i hi => ?_⟩, fun c hc => by rw [rs_st_ne _ _ _ (by omega), rs_st_ne _ _ _ (by omega)]⟩)
    rw [rs_st_ne _ _ _ (by decide)]
    by_cases e : i = tx.length
    · subst e
      rw [rs_st_eq]
      simp [hc1, hc2]
    · have hi2 : i < tx.length := by simp at hi; omega
      rw [rs_st_nk _ _ _ e]
      simpa [List.getElem?_append_left hi2] using htx.2.2 i hi2
  · refine r_if_ne K 15 dX2_add_10 (by decide) (fun h => absurd h (by decide)) (fun _ => ?_)
    refine r_iconst K (v := 0) dX2_add_13 (by decide) ?_
    have hlt : ¬ tx.length < 120 := fun q => hb_1 (x_within (a := 0) (b := 119) rfl (by omega) (by omega) (by decide))
    exact hr _ _ _ _ dX2_add_14 (Or.inl rfl) (Or.inr ⟨rfl, by omega, htx, fun _ _ => rfl⟩)
/-- while blanks are passed over -/
def x_tA (M Mi : rs_M) (s : Nat) : Prop := Mi 37 2 = nI s ∧ x_ft M Mi
/-- while digits are read: s the start, e what is behind, n the digits' number -/
def x_tB (M Mi : rs_M) (s e : Nat) (n : Int32) : Prop := Mi 37 2 = nI s ∧ Mi 37 5 = nI e ∧ Mi 37 4 = n ∧ x_ft M Mi
def ab_val (tx : List Int32) (s : Nat) : Nat → Int32
  | 0 => 0
  | k + 1 => ab_val tx s k * 10 + nI (ab_ch tx (s + k) - 48)
theorem x_kat_bl {tx : List Int32} {p : Nat} (h8 : ab_tok8 tx) (hp : p < tx.length) : x_kat tx p = 32 ↔ ab_ch tx p = 32 := by
  have hc := (h8.2 p hp).2
  rw [x_kat, if_pos hp]
  constructor
  · intro h
    split at h
    · exact (nf_eq (X := ab_ch tx p) (Y := 32) rfl rfl (by omega) (by decide)).mp h
    · exact absurd h (by decide)
  · intro h
    rw [if_pos (Or.inl h), h]; rfl
theorem x_kat_let {tx : List Int32} {p : Nat} (h : p < tx.length) (hl : ab_let (ab_ch tx p)) : x_kat tx p = nI (ab_ch tx p) := by
  rw [x_kat, if_pos h]; exact if_pos (Or.inr hl)
theorem x_kat_no {tx : List Int32} {p : Nat} (h : p < tx.length) (h32 : ¬ ab_ch tx p = 32) (hl : ¬ ab_let (ab_ch tx p)) : x_kat tx p = -3 := by
  rw [x_kat, if_pos h]; exact if_neg (fun z => z.elim h32 hl)
theorem x_dat_dig {tx : List Int32} {p : Nat} (h8 : ab_tok8 tx) : (0 ≤ x_dat tx p) ↔ (p < tx.length ∧ 48 ≤ ab_ch tx p ∧ ab_ch tx p ≤ 57) := by
  rw [x_dat]
  split
  · rename_i h
    exact ⟨fun _ => h, fun _ => nI_pos' (by omega)⟩
  · rename_i h
    exact ⟨fun q => absurd q (by decide), fun q => absurd q h⟩
theorem x_ne_m1 {n : Nat} (h : n < 2 ^ 31) : ¬ nI n = -1 := by
  intro q
  have := congrArg Int32.toInt q
  rw [nI_toInt h] at this
  have e : (-1 : Int32).toInt = -1 := by decide
  omega
set_option maxHeartbeats 4000000 in
set_option maxRecDepth 100000 in
theorem c_next (l : Launch) (g : rs_G) (t : Nat × Nat) (M : rs_M) (tx : List Int32) (htx : x_text M tx) (p : Nat) (hp : M 37 5 = nI p) (hpl : p ≤ tx.length) : rs_Cv l g xk t yX2_toNextToken cX2_toNextToken 1 1 [.ref (g.2.2 37)] M (fun M1 => x_tok M1 (ab_tok tx p) ∧ x_ft M M1) := by
  have h8 := x_text_8 htx
  have hl120 := htx.2.1
  refine rs_ofv (plainFor_of_name (by decide)) (Nat.le_of_ble_eq_true rfl) ?_
  intro Y K hr
  show Y M 0 [(0, .ref (g.2.2 37))] []
  refine r_aload_n K 0 dX2_toNextToken_0 rfl rfl ?_
  refine r_aload_n K 0 dX2_toNextToken_1 rfl rfl ?_
  refine r_getI K rfl rfl ff_2_behind qw_112 dX2_toNextToken_2 ?_
  refine r_top_eq (nI p) hp ?_
  refine r_put K rfl rfl ff_2_start qw_109 rfl rfl dX2_toNextToken_5 ?_
  have la : ∀ (f : Nat) (s : Nat) (Mi : rs_M), (121 - s < f) → (s ≤ tx.length) → (ab_bl tx (tx.length - p) p = ab_bl tx (tx.length - s) s) → (x_tA M Mi s) → Y Mi 8 [(0, .ref (g.2.2 37))] [] := by
    intro f
    induction f with
    | zero =>
      intro s Mi hf
      exact absurd hf (Nat.not_lt_zero _)
    | succ f ih =>
      intro s Mi hf hs hq hI
      have hti := x_text_ft htx hI.2
      refine r_aload_n K 0 dX2_toNextToken_8 rfl rfl ?_
      refine r_getI K rfl rfl ff_2_start qw_109 dX2_toNextToken_9 ?_
      refine r_top_eq (nI s) hI.1 ?_
      refine r_aload_n K 0 dX2_toNextToken_12 rfl rfl ?_
      refine r_getI K rfl rfl ff_2_length qw_107 dX2_toNextToken_13 ?_
      refine r_top_eq (nI tx.length) hti.1 ?_
      refine r_icmp_ge K 45 dX2_toNextToken_16 (by decide) (fun h_1 => ?_) (fun h_1 => ?_)
      · have nh_1 : tx.length ≤ s := (nf_le rfl rfl (by omega) (by omega)).mp h_1
        have hse : ab_bl tx (tx.length - p) p = s := by rw [hq, show tx.length - s = 0 by omega, ab_bl]
        have h32 : s < tx.length → ¬ ab_ch tx s = 32 := fun q => absurd q (by omega)
        refine r_aload_n K 0 dX2_toNextToken_45 rfl rfl ?_
        refine r_aload_n K 0 dX2_toNextToken_46 rfl rfl ?_
        refine r_getI K rfl rfl ff_2_start qw_109 dX2_toNextToken_47 ?_
        refine r_top_eq (nI s) hI.1 ?_
        refine r_put K rfl rfl ff_2_behind qw_112 rfl rfl dX2_toNextToken_50 ?_
        refine r_aload_n K 0 dX2_toNextToken_53 rfl rfl ?_
        refine r_iconst K (v := 0) dX2_toNextToken_54 (by decide) ?_
        refine r_put K rfl rfl ff_2_number qw_111 rfl rfl dX2_toNextToken_55 ?_
        have lb : ∀ (f : Nat) (e : Nat) (Mi : rs_M), (121 - e < f) → (s ≤ e) → (e ≤ tx.length) → (ab_de tx (tx.length - s) s = ab_de tx (tx.length - e) e) → (x_tB M Mi s e (ab_val tx s (e - s))) → Y Mi 58 [(0, .ref (g.2.2 37))] [] := by
          intro f
          induction f with
          | zero =>
            intro e Mi hf
            exact absurd hf (Nat.not_lt_zero _)
          | succ f ih =>
            intro e Mi hf hse1 hel hq2 hI
            have hti := x_text_ft htx hI.2.2.2
            refine r_aload_n K 0 dX2_toNextToken_58 rfl rfl ?_
            refine r_getI K rfl rfl ff_2_behind qw_112 dX2_toNextToken_59 ?_
            refine r_top_eq (nI e) hI.2.1 ?_
            refine r_aload_n K 0 dX2_toNextToken_62 rfl rfl ?_
            refine r_getI K rfl rfl ff_2_length qw_107 dX2_toNextToken_63 ?_
            refine r_top_eq (nI tx.length) hti.1 ?_
            refine r_icmp_ge K 113 dX2_toNextToken_66 (by decide) (fun h_2 => ?_) (fun h_2 => ?_)
            · have nh_2 : tx.length ≤ e := (nf_le rfl rfl (by omega) (by omega)).mp h_2
              have hee : ab_de tx (tx.length - s) s = e := by rw [hq2, show tx.length - e = 0 by omega, ab_de]
              have htok : ab_tok tx p = ab_tokat tx s e := by rw [ab_tok, hse, hee]
              have hdd := ab_de_dig tx (tx.length - s) s
              rw [hee] at hdd
              refine r_aload_n K 0 dX2_toNextToken_113 rfl rfl ?_
              refine r_getI K rfl rfl ff_2_behind qw_112 dX2_toNextToken_114 ?_
              refine r_top_eq (nI e) hI.2.1 ?_
              refine r_aload_n K 0 dX2_toNextToken_117 rfl rfl ?_
              refine r_getI K rfl rfl ff_2_start qw_109 dX2_toNextToken_118 ?_
              refine r_top_eq (nI s) hI.1 ?_
              refine r_icmp_le K 155 dX2_toNextToken_121 (by decide) (fun h_3 => ?_) (fun h_3 => ?_)
              · have nh_3 : e ≤ s := (nf_le rfl rfl (by omega) (by omega)).mp h_3
                refine r_aload_n K 0 dX2_toNextToken_155 rfl rfl ?_
                refine r_aload_n K 0 dX2_toNextToken_156 rfl rfl ?_
                refine r_aload_n K 0 dX2_toNextToken_157 rfl rfl ?_
                refine r_getI K rfl rfl ff_2_start qw_109 dX2_toNextToken_158 ?_
                refine r_top_eq (nI s) hI.1 ?_
                refine r_callVi K [.int (nI s)] [.ref (g.2.2 37)] dX2_toNextToken_161 mf_X2_kindAt rfl rfl qw_255 qw_257 qs_1 (c_kindAt l g t Mi tx hti s (by omega)) rfl rfl (by decide) (Nat.le_of_ble_eq_true rfl) (fun r M1 hp => ?_)
                obtain ⟨hp, he⟩ := hp
                have he := he.symm
                subst he
                subst hp
                refine r_put K rfl rfl ff_2_kind qw_110 rfl rfl dX2_toNextToken_164 ?_
                refine r_aload_n K 0 dX2_toNextToken_167 rfl rfl ?_
                refine r_getI K rfl rfl ff_2_kind qw_110 dX2_toNextToken_168 ?_
                refine r_top_eq (x_kat tx s) (by rw [rs_st_eq]) ?_
                refine r_iconst K (v := (-1)) dX2_toNextToken_171 (by decide) ?_
                refine r_icmp_eq K 185 dX2_toNextToken_172 (by decide) (fun h_4 => ?_) (fun h_4 => ?_)
                · rw [htok] at hr
                  have hes : e = s := by omega
                  subst hes
                  have hlen : ¬ e < tx.length := by
                    intro q
                    have hc := (h8.2 e q).2
                    rw [x_kat, if_pos q] at h_4
                    split at h_4
                    · exact absurd h_4 (x_ne_m1 (by omega))
                    · exact absurd h_4 (by decide)
                  refine hr _ _ _ dX2_toNextToken_185 ⟨?_, x_ft_tr hI.2.2.2 (x_ft_st (by decide) (by decide))⟩
                  rw [ab_tokat, ab_if_neg hlen]
                  exact ⟨by rw [rs_st_nk _ _ _ (by decide)]; exact hI.1, by rw [rs_st_eq]; exact h_4, fun q => absurd q (by simp), by rw [rs_st_nk _ _ _ (by decide)]; exact hI.2.1⟩
                · refine r_aload_n K 0 dX2_toNextToken_175 rfl rfl ?_
                  refine r_dup K dX2_toNextToken_176 rfl ?_
                  refine r_getI K rfl rfl ff_2_behind qw_112 dX2_toNextToken_177 ?_
                  refine r_top_eq (nI e) (by rw [rs_st_nk _ _ _ (by decide)]; exact hI.2.1) ?_
                  refine r_iconst K (v := 1) dX2_toNextToken_180 (by decide) ?_
                  refine r_iadd K dX2_toNextToken_181 ?_
                  refine r_top_eq (nI (e + 1)) (nI_1 _) ?_
                  refine r_put K rfl rfl ff_2_behind qw_112 rfl rfl dX2_toNextToken_182 ?_
                  rw [htok] at hr
                  have hes : e = s := by omega
                  subst hes
                  have hlen : e < tx.length := by
                    rcases Nat.lt_or_ge e tx.length with q | q
                    · exact q
                    · exact absurd (by rw [x_kat, if_neg (by omega)]) h_4
                  have hc8 := (h8.2 e hlen).2
                  refine hr _ _ _ dX2_toNextToken_185 ⟨?_, x_ft_tr hI.2.2.2 (x_ft_tr (x_ft_st (by decide) (by decide)) (x_ft_st (by decide) (by decide)))⟩
                  have h32 : ¬ ab_ch tx e = 32 := h32 hlen
                  rw [ab_tokat, ab_if_pos hlen, ab_if_neg (Nat.lt_irrefl _)]
                  by_cases hlet : ab_let (ab_ch tx e)
                  · rw [ab_if_pos hlet]
                    exact ⟨by rw [rs_st_nk _ _ _ (by decide), rs_st_nk _ _ _ (by decide)]; exact hI.1, by rw [rs_st_nk _ _ _ (by decide), rs_st_eq, x_kat_let hlen hlet]; rfl, fun q => absurd q (by simp), by rw [rs_st_eq]⟩
                  · rw [ab_if_neg hlet]
                    exact ⟨by rw [rs_st_nk _ _ _ (by decide), rs_st_nk _ _ _ (by decide)]; exact hI.1, by rw [rs_st_nk _ _ _ (by decide), rs_st_eq, x_kat_no hlen h32 hlet]; rfl, fun q => absurd q (by simp), by rw [rs_st_eq]⟩
              · have nh_3 : ¬ e ≤ s := mt (nf_le rfl rfl (by omega) (by omega)).mpr h_3
                refine r_aload_n K 0 dX2_toNextToken_124 rfl rfl ?_
                refine r_aload_n K 0 dX2_toNextToken_125 rfl rfl ?_
                refine r_getI K rfl rfl ff_2_number qw_111 dX2_toNextToken_126 ?_
                refine r_top_eq (ab_val tx s (e - s)) hI.2.2.1 ?_
                refine r_aload_n K 0 dX2_toNextToken_129 rfl rfl ?_
                refine r_getI K rfl rfl ff_2_behind qw_112 dX2_toNextToken_130 ?_
                refine r_top_eq (nI e) hI.2.1 ?_
                refine r_aload_n K 0 dX2_toNextToken_133 rfl rfl ?_
                refine r_getI K rfl rfl ff_2_start qw_109 dX2_toNextToken_134 ?_
                refine r_top_eq (nI s) hI.1 ?_
                refine r_isub K dX2_toNextToken_137 ?_
                refine r_top_eq (nI (e - s)) (pk_sub (by omega)) ?_
                refine r_callSi K [.int (ab_val tx s (e - s)), .int (nI (e - s))] [.ref (g.2.2 37)] dX2_toNextToken_138 mf_X2_isNumber qw_263 qw_264 (c_isNumber l g t Mi (ab_val tx s (e - s)) (e - s) (by omega)) rfl rfl (by decide) (Nat.le_of_ble_eq_true rfl) (fun r M1 hp => ?_)
                obtain ⟨hp, he⟩ := hp
                have he := he.symm
                subst he
                rcases hp with ⟨rfl, hb_5⟩ | ⟨rfl, hb_5⟩
                · refine r_if_eq K 149 dX2_toNextToken_141 (by decide) (fun h => absurd h (by decide)) (fun _ => ?_)
                  refine r_bipush K (v := (-2)) dX2_toNextToken_144 (by decide) ?_
                  refine r_goto K 151 dX2_toNextToken_146 (by decide) ?_
                  refine r_put K rfl rfl ff_2_kind qw_110 rfl rfl dX2_toNextToken_151 ?_
                  rw [htok] at hr
                  refine hr _ _ _ dX2_toNextToken_154 ⟨?_, x_ft_tr hI.2.2.2 (x_ft_st (by decide) (by decide))⟩
                  have d0 := hdd s (Nat.le_refl _) (by omega)
                  rcases hb_5 with q | q
                  · have q1 : e = s + 1 := by omega
                    rw [ab_tokat, ab_if_pos (by omega), ab_if_pos (by omega), ab_if_pos q1]
                    exact ⟨by rw [rs_st_nk _ _ _ (by decide)]; exact hI.1, by rw [rs_st_eq]; rfl, fun _ => by rw [rs_st_nk _ _ _ (by decide), hI.2.2.1, q, ab_val, ab_val]; simp, by rw [rs_st_nk _ _ _ (by decide)]; exact hI.2.1⟩
                  · have q1 : e = s + 2 := by omega
                    have d1 := hdd (s + 1) (by omega) (by omega)
                    have hv : ab_val tx s (e - s) = nI (10 * (ab_ch tx s - 48) + (ab_ch tx (s + 1) - 48)) := by rw [q.1, ab_val, ab_val, ab_val, Int32.zero_mul, Int32.zero_add, show (10 : Int32) = nI 10 from rfl, pk_mul, nI_add, Nat.mul_comm]; rfl
                    have hv2 := q.2
                    rw [hv, show (10 : Int32) = nI 10 from rfl, nI_leI (by decide) (by omega)] at hv2
                    rw [ab_tokat, ab_if_pos (by omega), ab_if_pos (by omega), ab_if_neg (by omega), ab_if_pos ⟨q1, by omega⟩]
                    exact ⟨by rw [rs_st_nk _ _ _ (by decide)]; exact hI.1, by rw [rs_st_eq]; rfl, fun _ => by rw [rs_st_nk _ _ _ (by decide), hI.2.2.1, hv], by rw [rs_st_nk _ _ _ (by decide)]; exact hI.2.1⟩
                · refine r_if_eq K 149 dX2_toNextToken_141 (by decide) (fun _ => ?_) (fun h => absurd h (by decide))
                  refine r_bipush K (v := (-3)) dX2_toNextToken_149 (by decide) ?_
                  refine r_put K rfl rfl ff_2_kind qw_110 rfl rfl dX2_toNextToken_151 ?_
                  rw [htok] at hr
                  refine hr _ _ _ dX2_toNextToken_154 ⟨?_, x_ft_tr hI.2.2.2 (x_ft_st (by decide) (by decide))⟩
                  have d0 := hdd s (Nat.le_refl _) (by omega)
                  have q1 : ¬ e = s + 1 := fun q => hb_5 (Or.inl (by omega))
                  have q2 : ¬ (e = s + 2 ∧ ¬ ab_ch tx s = 48) := by
                    intro q
                    have d1 := hdd (s + 1) (by omega) (by omega)
                    have hv : ab_val tx s (e - s) = nI (10 * (ab_ch tx s - 48) + (ab_ch tx (s + 1) - 48)) := by rw [show e - s = 2 by omega, ab_val, ab_val, ab_val, Int32.zero_mul, Int32.zero_add, show (10 : Int32) = nI 10 from rfl, pk_mul, nI_add, Nat.mul_comm]; rfl
                    exact hb_5 (Or.inr ⟨by omega, by rw [hv, show (10 : Int32) = nI 10 from rfl, nI_leI (by decide) (by omega)]; omega⟩)
                  rw [ab_tokat, ab_if_pos (by omega), ab_if_pos (by omega), ab_if_neg q1, ab_if_neg q2]
                  exact ⟨by rw [rs_st_nk _ _ _ (by decide)]; exact hI.1, by rw [rs_st_eq]; rfl, fun q => absurd q (by simp), by rw [rs_st_nk _ _ _ (by decide)]; exact hI.2.1⟩
            · have nh_2 : ¬ tx.length ≤ e := mt (nf_le rfl rfl (by omega) (by omega)).mpr h_2
              refine r_aload_n K 0 dX2_toNextToken_69 rfl rfl ?_
              refine r_aload_n K 0 dX2_toNextToken_70 rfl rfl ?_
              refine r_getI K rfl rfl ff_2_behind qw_112 dX2_toNextToken_71 ?_
              refine r_top_eq (nI e) hI.2.1 ?_
              refine r_callVi K [.int (nI e)] [] dX2_toNextToken_74 mf_X2_digitAt rfl rfl qw_259 qw_261 qs_2 (c_digitAt l g t Mi tx hti e (by omega)) rfl rfl (by decide) (Nat.le_of_ble_eq_true rfl) (fun r M1 hp => ?_)
              obtain ⟨hp, he⟩ := hp
              have he := he.symm
              subst he
              subst hp
              refine r_if_lt K 113 dX2_toNextToken_77 (by decide) (fun h_6 => ?_) (fun h_6 => ?_)
              · have hee : ab_de tx (tx.length - s) s = e := by rw [hq2, show tx.length - e = (tx.length - (e + 1)) + 1 by omega, ab_de, if_neg (fun z => absurd ((x_dat_dig h8).mpr z) (Int32.not_le.mpr h_6))]
                have htok : ab_tok tx p = ab_tokat tx s e := by rw [ab_tok, hse, hee]
                have hdd := ab_de_dig tx (tx.length - s) s
                rw [hee] at hdd
                refine r_aload_n K 0 dX2_toNextToken_113 rfl rfl ?_
                refine r_getI K rfl rfl ff_2_behind qw_112 dX2_toNextToken_114 ?_
                refine r_top_eq (nI e) hI.2.1 ?_
                refine r_aload_n K 0 dX2_toNextToken_117 rfl rfl ?_
                refine r_getI K rfl rfl ff_2_start qw_109 dX2_toNextToken_118 ?_
                refine r_top_eq (nI s) hI.1 ?_
                refine r_icmp_le K 155 dX2_toNextToken_121 (by decide) (fun h_7 => ?_) (fun h_7 => ?_)
                · have nh_7 : e ≤ s := (nf_le rfl rfl (by omega) (by omega)).mp h_7
                  refine r_aload_n K 0 dX2_toNextToken_155 rfl rfl ?_
                  refine r_aload_n K 0 dX2_toNextToken_156 rfl rfl ?_
                  refine r_aload_n K 0 dX2_toNextToken_157 rfl rfl ?_
                  refine r_getI K rfl rfl ff_2_start qw_109 dX2_toNextToken_158 ?_
                  refine r_top_eq (nI s) hI.1 ?_
                  refine r_callVi K [.int (nI s)] [.ref (g.2.2 37)] dX2_toNextToken_161 mf_X2_kindAt rfl rfl qw_255 qw_257 qs_1 (c_kindAt l g t Mi tx hti s (by omega)) rfl rfl (by decide) (Nat.le_of_ble_eq_true rfl) (fun r M1 hp => ?_)
                  obtain ⟨hp, he⟩ := hp
                  have he := he.symm
                  subst he
                  subst hp
                  refine r_put K rfl rfl ff_2_kind qw_110 rfl rfl dX2_toNextToken_164 ?_
                  refine r_aload_n K 0 dX2_toNextToken_167 rfl rfl ?_
                  refine r_getI K rfl rfl ff_2_kind qw_110 dX2_toNextToken_168 ?_
                  refine r_top_eq (x_kat tx s) (by rw [rs_st_eq]) ?_
                  refine r_iconst K (v := (-1)) dX2_toNextToken_171 (by decide) ?_
                  refine r_icmp_eq K 185 dX2_toNextToken_172 (by decide) (fun h_8 => ?_) (fun h_8 => ?_)
                  · rw [htok] at hr
                    have hes : e = s := by omega
                    subst hes
                    have hlen : ¬ e < tx.length := by
                      intro q
                      have hc := (h8.2 e q).2
                      rw [x_kat, if_pos q] at h_8
                      split at h_8
                      · exact absurd h_8 (x_ne_m1 (by omega))
                      · exact absurd h_8 (by decide)
                    refine hr _ _ _ dX2_toNextToken_185 ⟨?_, x_ft_tr hI.2.2.2 (x_ft_st (by decide) (by decide))⟩
                    rw [ab_tokat, ab_if_neg hlen]
                    exact ⟨by rw [rs_st_nk _ _ _ (by decide)]; exact hI.1, by rw [rs_st_eq]; exact h_8, fun q => absurd q (by simp), by rw [rs_st_nk _ _ _ (by decide)]; exact hI.2.1⟩
                  · refine r_aload_n K 0 dX2_toNextToken_175 rfl rfl ?_
                    refine r_dup K dX2_toNextToken_176 rfl ?_
                    refine r_getI K rfl rfl ff_2_behind qw_112 dX2_toNextToken_177 ?_
                    refine r_top_eq (nI e) (by rw [rs_st_nk _ _ _ (by decide)]; exact hI.2.1) ?_
                    refine r_iconst K (v := 1) dX2_toNextToken_180 (by decide) ?_
                    refine r_iadd K dX2_toNextToken_181 ?_
                    refine r_top_eq (nI (e + 1)) (nI_1 _) ?_
                    refine r_put K rfl rfl ff_2_behind qw_112 rfl rfl dX2_toNextToken_182 ?_
                    rw [htok] at hr
                    have hes : e = s := by omega
                    subst hes
                    have hlen : e < tx.length := by
                      rcases Nat.lt_or_ge e tx.length with q | q
                      · exact q
                      · exact absurd (by rw [x_kat, if_neg (by omega)]) h_8
                    have hc8 := (h8.2 e hlen).2
                    refine hr _ _ _ dX2_toNextToken_185 ⟨?_, x_ft_tr hI.2.2.2 (x_ft_tr (x_ft_st (by decide) (by decide)) (x_ft_st (by decide) (by decide)))⟩
                    have h32 : ¬ ab_ch tx e = 32 := h32 hlen
                    rw [ab_tokat, ab_if_pos hlen, ab_if_neg (Nat.lt_irrefl _)]
                    by_cases hlet : ab_let (ab_ch tx e)
                    · rw [ab_if_pos hlet]
                      exact ⟨by rw [rs_st_nk _ _ _ (by decide), rs_st_nk _ _ _ (by decide)]; exact hI.1, by rw [rs_st_nk _ _ _ (by decide), rs_st_eq, x_kat_let hlen hlet]; rfl, fun q => absurd q (by simp), by rw [rs_st_eq]⟩
                    · rw [ab_if_neg hlet]
                      exact ⟨by rw [rs_st_nk _ _ _ (by decide), rs_st_nk _ _ _ (by decide)]; exact hI.1, by rw [rs_st_nk _ _ _ (by decide), rs_st_eq, x_kat_no hlen h32 hlet]; rfl, fun q => absurd q (by simp), by rw [rs_st_eq]⟩
                · have nh_7 : ¬ e ≤ s := mt (nf_le rfl rfl (by omega) (by omega)).mpr h_7
                  refine r_aload_n K 0 dX2_toNextToken_124 rfl rfl ?_
                  refine r_aload_n K 0 dX2_toNextToken_125 rfl rfl ?_
                  refine r_getI K rfl rfl ff_2_number qw_111 dX2_toNextToken_126 ?_
                  refine r_top_eq (ab_val tx s (e - s)) hI.2.2.1 ?_
                  refine r_aload_n K 0 dX2_toNextToken_129 rfl rfl ?_
                  refine r_getI K rfl rfl ff_2_behind qw_112 dX2_toNextToken_130 ?_
                  refine r_top_eq (nI e) hI.2.1 ?_
                  refine r_aload_n K 0 dX2_toNextToken_133 rfl rfl ?_
                  refine r_getI K rfl rfl ff_2_start qw_109 dX2_toNextToken_134 ?_
                  refine r_top_eq (nI s) hI.1 ?_
                  refine r_isub K dX2_toNextToken_137 ?_
                  refine r_top_eq (nI (e - s)) (pk_sub (by omega)) ?_
                  refine r_callSi K [.int (ab_val tx s (e - s)), .int (nI (e - s))] [.ref (g.2.2 37)] dX2_toNextToken_138 mf_X2_isNumber qw_263 qw_264 (c_isNumber l g t Mi (ab_val tx s (e - s)) (e - s) (by omega)) rfl rfl (by decide) (Nat.le_of_ble_eq_true rfl) (fun r M1 hp => ?_)
                  obtain ⟨hp, he⟩ := hp
                  have he := he.symm
                  subst he
                  rcases hp with ⟨rfl, hb_9⟩ | ⟨rfl, hb_9⟩
                  · refine r_if_eq K 149 dX2_toNextToken_141 (by decide) (fun h => absurd h (by decide)) (fun _ => ?_)
                    refine r_bipush K (v := (-2)) dX2_toNextToken_144 (by decide) ?_
                    refine r_goto K 151 dX2_toNextToken_146 (by decide) ?_
                    refine r_put K rfl rfl ff_2_kind qw_110 rfl rfl dX2_toNextToken_151 ?_
                    rw [htok] at hr
                    refine hr _ _ _ dX2_toNextToken_154 ⟨?_, x_ft_tr hI.2.2.2 (x_ft_st (by decide) (by decide))⟩
                    have d0 := hdd s (Nat.le_refl _) (by omega)
                    rcases hb_9 with q | q
                    · have q1 : e = s + 1 := by omega
                      rw [ab_tokat, ab_if_pos (by omega), ab_if_pos (by omega), ab_if_pos q1]
                      exact ⟨by rw [rs_st_nk _ _ _ (by decide)]; exact hI.1, by rw [rs_st_eq]; rfl, fun _ => by rw [rs_st_nk _ _ _ (by decide), hI.2.2.1, q, ab_val, ab_val]; simp, by rw [rs_st_nk _ _ _ (by decide)]; exact hI.2.1⟩
                    · have q1 : e = s + 2 := by omega
                      have d1 := hdd (s + 1) (by omega) (by omega)
                      have hv : ab_val tx s (e - s) = nI (10 * (ab_ch tx s - 48) + (ab_ch tx (s + 1) - 48)) := by rw [q.1, ab_val, ab_val, ab_val, Int32.zero_mul, Int32.zero_add, show (10 : Int32) = nI 10 from rfl, pk_mul, nI_add, Nat.mul_comm]; rfl
                      have hv2 := q.2
                      rw [hv, show (10 : Int32) = nI 10 from rfl, nI_leI (by decide) (by omega)] at hv2
                      rw [ab_tokat, ab_if_pos (by omega), ab_if_pos (by omega), ab_if_neg (by omega), ab_if_pos ⟨q1, by omega⟩]
                      exact ⟨by rw [rs_st_nk _ _ _ (by decide)]; exact hI.1, by rw [rs_st_eq]; rfl, fun _ => by rw [rs_st_nk _ _ _ (by decide), hI.2.2.1, hv], by rw [rs_st_nk _ _ _ (by decide)]; exact hI.2.1⟩
                  · refine r_if_eq K 149 dX2_toNextToken_141 (by decide) (fun _ => ?_) (fun h => absurd h (by decide))
                    refine r_bipush K (v := (-3)) dX2_toNextToken_149 (by decide) ?_
                    refine r_put K rfl rfl ff_2_kind qw_110 rfl rfl dX2_toNextToken_151 ?_
                    rw [htok] at hr
                    refine hr _ _ _ dX2_toNextToken_154 ⟨?_, x_ft_tr hI.2.2.2 (x_ft_st (by decide) (by decide))⟩
                    have d0 := hdd s (Nat.le_refl _) (by omega)
                    have q1 : ¬ e = s + 1 := fun q => hb_9 (Or.inl (by omega))
                    have q2 : ¬ (e = s + 2 ∧ ¬ ab_ch tx s = 48) := by
                      intro q
                      have d1 := hdd (s + 1) (by omega) (by omega)
                      have hv : ab_val tx s (e - s) = nI (10 * (ab_ch tx s - 48) + (ab_ch tx (s + 1) - 48)) := by rw [show e - s = 2 by omega, ab_val, ab_val, ab_val, Int32.zero_mul, Int32.zero_add, show (10 : Int32) = nI 10 from rfl, pk_mul, nI_add, Nat.mul_comm]; rfl
                      exact hb_9 (Or.inr ⟨by omega, by rw [hv, show (10 : Int32) = nI 10 from rfl, nI_leI (by decide) (by omega)]; omega⟩)
                    rw [ab_tokat, ab_if_pos (by omega), ab_if_pos (by omega), ab_if_neg q1, ab_if_neg q2]
                    exact ⟨by rw [rs_st_nk _ _ _ (by decide)]; exact hI.1, by rw [rs_st_eq]; rfl, fun q => absurd q (by simp), by rw [rs_st_nk _ _ _ (by decide)]; exact hI.2.1⟩
              · have hdg := (x_dat_dig h8).mp (Int32.not_lt.mp h_6)
                refine r_aload_n K 0 dX2_toNextToken_80 rfl rfl ?_
                refine r_aload_n K 0 dX2_toNextToken_81 rfl rfl ?_
                refine r_getI K rfl rfl ff_2_number qw_111 dX2_toNextToken_82 ?_
                refine r_top_eq (ab_val tx s (e - s)) hI.2.2.1 ?_
                refine r_bipush K (v := 10) dX2_toNextToken_85 (by decide) ?_
                refine r_imul K dX2_toNextToken_87 ?_
                refine r_aload_n K 0 dX2_toNextToken_88 rfl rfl ?_
                refine r_aload_n K 0 dX2_toNextToken_89 rfl rfl ?_
                refine r_getI K rfl rfl ff_2_behind qw_112 dX2_toNextToken_90 ?_
                refine r_top_eq (nI e) hI.2.1 ?_
                refine r_callVi K [.int (nI e)] [.int ((ab_val tx s (e - s)) * 10), .ref (g.2.2 37)] dX2_toNextToken_93 mf_X2_digitAt rfl rfl qw_259 qw_261 qs_2 (c_digitAt l g t Mi tx hti e (by omega)) rfl rfl (by decide) (Nat.le_of_ble_eq_true rfl) (fun r M1 hp => ?_)
                obtain ⟨hp, he⟩ := hp
                have he := he.symm
                subst he
                subst hp
                refine r_iadd K dX2_toNextToken_96 ?_
                refine r_top_eq (ab_val tx s (e + 1 - s)) (by rw [show e + 1 - s = (e - s) + 1 by omega, ab_val, show s + (e - s) = e by omega, x_dat, if_pos hdg]) ?_
                refine r_put K rfl rfl ff_2_number qw_111 rfl rfl dX2_toNextToken_97 ?_
                refine r_aload_n K 0 dX2_toNextToken_100 rfl rfl ?_
                refine r_dup K dX2_toNextToken_101 rfl ?_
                refine r_getI K rfl rfl ff_2_behind qw_112 dX2_toNextToken_102 ?_
                refine r_top_eq (nI e) (by rw [rs_st_nk _ _ _ (by decide)]; exact hI.2.1) ?_
                refine r_iconst K (v := 1) dX2_toNextToken_105 (by decide) ?_
                refine r_iadd K dX2_toNextToken_106 ?_
                refine r_top_eq (nI (e + 1)) (nI_1 _) ?_
                refine r_put K rfl rfl ff_2_behind qw_112 rfl rfl dX2_toNextToken_107 ?_
                refine r_goto K 58 dX2_toNextToken_110 (by decide) ?_
                exact ih (e + 1) _ (by omega) (by omega) (by omega) (by rw [hq2, show tx.length - e = (tx.length - (e + 1)) + 1 by omega, ab_de, if_pos hdg]) ⟨by rw [rs_st_nk _ _ _ (by decide), rs_st_nk _ _ _ (by decide)]; exact hI.1, by rw [rs_st_eq], by rw [rs_st_nk _ _ _ (by decide), rs_st_eq], x_ft_tr hI.2.2.2 (x_ft_tr (x_ft_st (by decide) (by decide)) (x_ft_st (by decide) (by decide)))⟩
        exact lb 122 s _ (by omega) (by omega) hs rfl ⟨by rw [rs_st_nk _ _ _ (by decide), rs_st_nk _ _ _ (by decide)]; exact hI.1, by rw [rs_st_nk _ _ _ (by decide), rs_st_eq], by rw [rs_st_eq, Nat.sub_self, ab_val], x_ft_tr hI.2 (x_ft_tr (x_ft_st (by decide) (by decide)) (x_ft_st (by decide) (by decide)))⟩
      · have nh_1 : ¬ tx.length ≤ s := mt (nf_le rfl rfl (by omega) (by omega)).mpr h_1
        refine r_aload_n K 0 dX2_toNextToken_19 rfl rfl ?_
        refine r_aload_n K 0 dX2_toNextToken_20 rfl rfl ?_
        refine r_getI K rfl rfl ff_2_start qw_109 dX2_toNextToken_21 ?_
        refine r_top_eq (nI s) hI.1 ?_
        refine r_callVi K [.int (nI s)] [] dX2_toNextToken_24 mf_X2_kindAt rfl rfl qw_255 qw_257 qs_1 (c_kindAt l g t Mi tx hti s (by omega)) rfl rfl (by decide) (Nat.le_of_ble_eq_true rfl) (fun r M1 hp => ?_)
        obtain ⟨hp, he⟩ := hp
        have he := he.symm
        subst he
        subst hp
        refine r_bipush K (v := 32) dX2_toNextToken_27 (by decide) ?_
        refine r_icmp_ne K 45 dX2_toNextToken_29 (by decide) (fun h_10 => ?_) (fun h_10 => ?_)
        · have hse : ab_bl tx (tx.length - p) p = s := by rw [hq, show tx.length - s = (tx.length - (s + 1)) + 1 by omega, ab_bl, if_neg (fun z => h_10 ((x_kat_bl h8 (by omega)).mpr z.2))]
          have h32 : s < tx.length → ¬ ab_ch tx s = 32 := fun q z => h_10 ((x_kat_bl h8 q).mpr z)
          refine r_aload_n K 0 dX2_toNextToken_45 rfl rfl ?_
          refine r_aload_n K 0 dX2_toNextToken_46 rfl rfl ?_
          refine r_getI K rfl rfl ff_2_start qw_109 dX2_toNextToken_47 ?_
          refine r_top_eq (nI s) hI.1 ?_
          refine r_put K rfl rfl ff_2_behind qw_112 rfl rfl dX2_toNextToken_50 ?_
          refine r_aload_n K 0 dX2_toNextToken_53 rfl rfl ?_
          refine r_iconst K (v := 0) dX2_toNextToken_54 (by decide) ?_
          refine r_put K rfl rfl ff_2_number qw_111 rfl rfl dX2_toNextToken_55 ?_
          have lb : ∀ (f : Nat) (e : Nat) (Mi : rs_M), (121 - e < f) → (s ≤ e) → (e ≤ tx.length) → (ab_de tx (tx.length - s) s = ab_de tx (tx.length - e) e) → (x_tB M Mi s e (ab_val tx s (e - s))) → Y Mi 58 [(0, .ref (g.2.2 37))] [] := by
            intro f
            induction f with
            | zero =>
              intro e Mi hf
              exact absurd hf (Nat.not_lt_zero _)
            | succ f ih =>
              intro e Mi hf hse1 hel hq2 hI
              have hti := x_text_ft htx hI.2.2.2
              refine r_aload_n K 0 dX2_toNextToken_58 rfl rfl ?_
              refine r_getI K rfl rfl ff_2_behind qw_112 dX2_toNextToken_59 ?_
              refine r_top_eq (nI e) hI.2.1 ?_
              refine r_aload_n K 0 dX2_toNextToken_62 rfl rfl ?_
              refine r_getI K rfl rfl ff_2_length qw_107 dX2_toNextToken_63 ?_
              refine r_top_eq (nI tx.length) hti.1 ?_
              refine r_icmp_ge K 113 dX2_toNextToken_66 (by decide) (fun h_11 => ?_) (fun h_11 => ?_)
              · have nh_11 : tx.length ≤ e := (nf_le rfl rfl (by omega) (by omega)).mp h_11
                have hee : ab_de tx (tx.length - s) s = e := by rw [hq2, show tx.length - e = 0 by omega, ab_de]
                have htok : ab_tok tx p = ab_tokat tx s e := by rw [ab_tok, hse, hee]
                have hdd := ab_de_dig tx (tx.length - s) s
                rw [hee] at hdd
                refine r_aload_n K 0 dX2_toNextToken_113 rfl rfl ?_
                refine r_getI K rfl rfl ff_2_behind qw_112 dX2_toNextToken_114 ?_
                refine r_top_eq (nI e) hI.2.1 ?_
                refine r_aload_n K 0 dX2_toNextToken_117 rfl rfl ?_
                refine r_getI K rfl rfl ff_2_start qw_109 dX2_toNextToken_118 ?_
                refine r_top_eq (nI s) hI.1 ?_
                refine r_icmp_le K 155 dX2_toNextToken_121 (by decide) (fun h_12 => ?_) (fun h_12 => ?_)
                · have nh_12 : e ≤ s := (nf_le rfl rfl (by omega) (by omega)).mp h_12
                  refine r_aload_n K 0 dX2_toNextToken_155 rfl rfl ?_
                  refine r_aload_n K 0 dX2_toNextToken_156 rfl rfl ?_
                  refine r_aload_n K 0 dX2_toNextToken_157 rfl rfl ?_
                  refine r_getI K rfl rfl ff_2_start qw_109 dX2_toNextToken_158 ?_
                  refine r_top_eq (nI s) hI.1 ?_
                  refine r_callVi K [.int (nI s)] [.ref (g.2.2 37)] dX2_toNextToken_161 mf_X2_kindAt rfl rfl qw_255 qw_257 qs_1 (c_kindAt l g t Mi tx hti s (by omega)) rfl rfl (by decide) (Nat.le_of_ble_eq_true rfl) (fun r M1 hp => ?_)
                  obtain ⟨hp, he⟩ := hp
                  have he := he.symm
                  subst he
                  subst hp
                  refine r_put K rfl rfl ff_2_kind qw_110 rfl rfl dX2_toNextToken_164 ?_
                  refine r_aload_n K 0 dX2_toNextToken_167 rfl rfl ?_
                  refine r_getI K rfl rfl ff_2_kind qw_110 dX2_toNextToken_168 ?_
                  refine r_top_eq (x_kat tx s) (by rw [rs_st_eq]) ?_
                  refine r_iconst K (v := (-1)) dX2_toNextToken_171 (by decide) ?_
                  refine r_icmp_eq K 185 dX2_toNextToken_172 (by decide) (fun h_13 => ?_) (fun h_13 => ?_)
                  · rw [htok] at hr
                    have hes : e = s := by omega
                    subst hes
                    have hlen : ¬ e < tx.length := by
                      intro q
                      have hc := (h8.2 e q).2
                      rw [x_kat, if_pos q] at h_13
                      split at h_13
                      · exact absurd h_13 (x_ne_m1 (by omega))
                      · exact absurd h_13 (by decide)
                    refine hr _ _ _ dX2_toNextToken_185 ⟨?_, x_ft_tr hI.2.2.2 (x_ft_st (by decide) (by decide))⟩
                    rw [ab_tokat, ab_if_neg hlen]
                    exact ⟨by rw [rs_st_nk _ _ _ (by decide)]; exact hI.1, by rw [rs_st_eq]; exact h_13, fun q => absurd q (by simp), by rw [rs_st_nk _ _ _ (by decide)]; exact hI.2.1⟩
                  · refine r_aload_n K 0 dX2_toNextToken_175 rfl rfl ?_
                    refine r_dup K dX2_toNextToken_176 rfl ?_
                    refine r_getI K rfl rfl ff_2_behind qw_112 dX2_toNextToken_177 ?_
                    refine r_top_eq (nI e) (by rw [rs_st_nk _ _ _ (by decide)]; exact hI.2.1) ?_
                    refine r_iconst K (v := 1) dX2_toNextToken_180 (by decide) ?_
                    refine r_iadd K dX2_toNextToken_181 ?_
                    refine r_top_eq (nI (e + 1)) (nI_1 _) ?_
                    refine r_put K rfl rfl ff_2_behind qw_112 rfl rfl dX2_toNextToken_182 ?_
                    rw [htok] at hr
                    have hes : e = s := by omega
                    subst hes
                    have hlen : e < tx.length := by
                      rcases Nat.lt_or_ge e tx.length with q | q
                      · exact q
                      · exact absurd (by rw [x_kat, if_neg (by omega)]) h_13
                    have hc8 := (h8.2 e hlen).2
                    refine hr _ _ _ dX2_toNextToken_185 ⟨?_, x_ft_tr hI.2.2.2 (x_ft_tr (x_ft_st (by decide) (by decide)) (x_ft_st (by decide) (by decide)))⟩
                    have h32 : ¬ ab_ch tx e = 32 := h32 hlen
                    rw [ab_tokat, ab_if_pos hlen, ab_if_neg (Nat.lt_irrefl _)]
                    by_cases hlet : ab_let (ab_ch tx e)
                    · rw [ab_if_pos hlet]
                      exact ⟨by rw [rs_st_nk _ _ _ (by decide), rs_st_nk _ _ _ (by decide)]; exact hI.1, by rw [rs_st_nk _ _ _ (by decide), rs_st_eq, x_kat_let hlen hlet]; rfl, fun q => absurd q (by simp), by rw [rs_st_eq]⟩
                    · rw [ab_if_neg hlet]
                      exact ⟨by rw [rs_st_nk _ _ _ (by decide), rs_st_nk _ _ _ (by decide)]; exact hI.1, by rw [rs_st_nk _ _ _ (by decide), rs_st_eq, x_kat_no hlen h32 hlet]; rfl, fun q => absurd q (by simp), by rw [rs_st_eq]⟩
                · have nh_12 : ¬ e ≤ s := mt (nf_le rfl rfl (by omega) (by omega)).mpr h_12
                  refine r_aload_n K 0 dX2_toNextToken_124 rfl rfl ?_
                  refine r_aload_n K 0 dX2_toNextToken_125 rfl rfl ?_
                  refine r_getI K rfl rfl ff_2_number qw_111 dX2_toNextToken_126 ?_
                  refine r_top_eq (ab_val tx s (e - s)) hI.2.2.1 ?_
                  refine r_aload_n K 0 dX2_toNextToken_129 rfl rfl ?_
                  refine r_getI K rfl rfl ff_2_behind qw_112 dX2_toNextToken_130 ?_
                  refine r_top_eq (nI e) hI.2.1 ?_
                  refine r_aload_n K 0 dX2_toNextToken_133 rfl rfl ?_
                  refine r_getI K rfl rfl ff_2_start qw_109 dX2_toNextToken_134 ?_
                  refine r_top_eq (nI s) hI.1 ?_
                  refine r_isub K dX2_toNextToken_137 ?_
                  refine r_top_eq (nI (e - s)) (pk_sub (by omega)) ?_
                  refine r_callSi K [.int (ab_val tx s (e - s)), .int (nI (e - s))] [.ref (g.2.2 37)] dX2_toNextToken_138 mf_X2_isNumber qw_263 qw_264 (c_isNumber l g t Mi (ab_val tx s (e - s)) (e - s) (by omega)) rfl rfl (by decide) (Nat.le_of_ble_eq_true rfl) (fun r M1 hp => ?_)
                  obtain ⟨hp, he⟩ := hp
                  have he := he.symm
                  subst he
                  rcases hp with ⟨rfl, hb_14⟩ | ⟨rfl, hb_14⟩
                  · refine r_if_eq K 149 dX2_toNextToken_141 (by decide) (fun h => absurd h (by decide)) (fun _ => ?_)
                    refine r_bipush K (v := (-2)) dX2_toNextToken_144 (by decide) ?_
                    refine r_goto K 151 dX2_toNextToken_146 (by decide) ?_
                    refine r_put K rfl rfl ff_2_kind qw_110 rfl rfl dX2_toNextToken_151 ?_
                    rw [htok] at hr
                    refine hr _ _ _ dX2_toNextToken_154 ⟨?_, x_ft_tr hI.2.2.2 (x_ft_st (by decide) (by decide))⟩
                    have d0 := hdd s (Nat.le_refl _) (by omega)
                    rcases hb_14 with q | q
                    · have q1 : e = s + 1 := by omega
                      rw [ab_tokat, ab_if_pos (by omega), ab_if_pos (by omega), ab_if_pos q1]
                      exact ⟨by rw [rs_st_nk _ _ _ (by decide)]; exact hI.1, by rw [rs_st_eq]; rfl, fun _ => by rw [rs_st_nk _ _ _ (by decide), hI.2.2.1, q, ab_val, ab_val]; simp, by rw [rs_st_nk _ _ _ (by decide)]; exact hI.2.1⟩
                    · have q1 : e = s + 2 := by omega
                      have d1 := hdd (s + 1) (by omega) (by omega)
                      have hv : ab_val tx s (e - s) = nI (10 * (ab_ch tx s - 48) + (ab_ch tx (s + 1) - 48)) := by rw [q.1, ab_val, ab_val, ab_val, Int32.zero_mul, Int32.zero_add, show (10 : Int32) = nI 10 from rfl, pk_mul, nI_add, Nat.mul_comm]; rfl
                      have hv2 := q.2
                      rw [hv, show (10 : Int32) = nI 10 from rfl, nI_leI (by decide) (by omega)] at hv2
                      rw [ab_tokat, ab_if_pos (by omega), ab_if_pos (by omega), ab_if_neg (by omega), ab_if_pos ⟨q1, by omega⟩]
                      exact ⟨by rw [rs_st_nk _ _ _ (by decide)]; exact hI.1, by rw [rs_st_eq]; rfl, fun _ => by rw [rs_st_nk _ _ _ (by decide), hI.2.2.1, hv], by rw [rs_st_nk _ _ _ (by decide)]; exact hI.2.1⟩
                  · refine r_if_eq K 149 dX2_toNextToken_141 (by decide) (fun _ => ?_) (fun h => absurd h (by decide))
                    refine r_bipush K (v := (-3)) dX2_toNextToken_149 (by decide) ?_
                    refine r_put K rfl rfl ff_2_kind qw_110 rfl rfl dX2_toNextToken_151 ?_
                    rw [htok] at hr
                    refine hr _ _ _ dX2_toNextToken_154 ⟨?_, x_ft_tr hI.2.2.2 (x_ft_st (by decide) (by decide))⟩
                    have d0 := hdd s (Nat.le_refl _) (by omega)
                    have q1 : ¬ e = s + 1 := fun q => hb_14 (Or.inl (by omega))
                    have q2 : ¬ (e = s + 2 ∧ ¬ ab_ch tx s = 48) := by
                      intro q
                      have d1 := hdd (s + 1) (by omega) (by omega)
                      have hv : ab_val tx s (e - s) = nI (10 * (ab_ch tx s - 48) + (ab_ch tx (s + 1) - 48)) := by rw [show e - s = 2 by omega, ab_val, ab_val, ab_val, Int32.zero_mul, Int32.zero_add, show (10 : Int32) = nI 10 from rfl, pk_mul, nI_add, Nat.mul_comm]; rfl
                      exact hb_14 (Or.inr ⟨by omega, by rw [hv, show (10 : Int32) = nI 10 from rfl, nI_leI (by decide) (by omega)]; omega⟩)
                    rw [ab_tokat, ab_if_pos (by omega), ab_if_pos (by omega), ab_if_neg q1, ab_if_neg q2]
                    exact ⟨by rw [rs_st_nk _ _ _ (by decide)]; exact hI.1, by rw [rs_st_eq]; rfl, fun q => absurd q (by simp), by rw [rs_st_nk _ _ _ (by decide)]; exact hI.2.1⟩
              · have nh_11 : ¬ tx.length ≤ e := mt (nf_le rfl rfl (by omega) (by omega)).mpr h_11
                refine r_aload_n K 0 dX2_toNextToken_69 rfl rfl ?_
                refine r_aload_n K 0 dX2_toNextToken_70 rfl rfl ?_
                refine r_getI K rfl rfl ff_2_behind qw_112 dX2_toNextToken_71 ?_
                refine r_top_eq (nI e) hI.2.1 ?_
                refine r_callVi K [.int (nI e)] [] dX2_toNextToken_74 mf_X2_digitAt rfl rfl qw_259 qw_261 qs_2 (c_digitAt l g t Mi tx hti e (by omega)) rfl rfl (by decide) (Nat.le_of_ble_eq_true rfl) (fun r M1 hp => ?_)
                obtain ⟨hp, he⟩ := hp
                have he := he.symm
                subst he
                subst hp
                refine r_if_lt K 113 dX2_toNextToken_77 (by decide) (fun h_15 => ?_) (fun h_15 => ?_)
                · have hee : ab_de tx (tx.length - s) s = e := by rw [hq2, show tx.length - e = (tx.length - (e + 1)) + 1 by omega, ab_de, if_neg (fun z => absurd ((x_dat_dig h8).mpr z) (Int32.not_le.mpr h_15))]
                  have htok : ab_tok tx p = ab_tokat tx s e := by rw [ab_tok, hse, hee]
                  have hdd := ab_de_dig tx (tx.length - s) s
                  rw [hee] at hdd
                  refine r_aload_n K 0 dX2_toNextToken_113 rfl rfl ?_
                  refine r_getI K rfl rfl ff_2_behind qw_112 dX2_toNextToken_114 ?_
                  refine r_top_eq (nI e) hI.2.1 ?_
                  refine r_aload_n K 0 dX2_toNextToken_117 rfl rfl ?_
                  refine r_getI K rfl rfl ff_2_start qw_109 dX2_toNextToken_118 ?_
                  refine r_top_eq (nI s) hI.1 ?_
                  refine r_icmp_le K 155 dX2_toNextToken_121 (by decide) (fun h_16 => ?_) (fun h_16 => ?_)
                  · have nh_16 : e ≤ s := (nf_le rfl rfl (by omega) (by omega)).mp h_16
                    refine r_aload_n K 0 dX2_toNextToken_155 rfl rfl ?_
                    refine r_aload_n K 0 dX2_toNextToken_156 rfl rfl ?_
                    refine r_aload_n K 0 dX2_toNextToken_157 rfl rfl ?_
                    refine r_getI K rfl rfl ff_2_start qw_109 dX2_toNextToken_158 ?_
                    refine r_top_eq (nI s) hI.1 ?_
                    refine r_callVi K [.int (nI s)] [.ref (g.2.2 37)] dX2_toNextToken_161 mf_X2_kindAt rfl rfl qw_255 qw_257 qs_1 (c_kindAt l g t Mi tx hti s (by omega)) rfl rfl (by decide) (Nat.le_of_ble_eq_true rfl) (fun r M1 hp => ?_)
                    obtain ⟨hp, he⟩ := hp
                    have he := he.symm
                    subst he
                    subst hp
                    refine r_put K rfl rfl ff_2_kind qw_110 rfl rfl dX2_toNextToken_164 ?_
                    refine r_aload_n K 0 dX2_toNextToken_167 rfl rfl ?_
                    refine r_getI K rfl rfl ff_2_kind qw_110 dX2_toNextToken_168 ?_
                    refine r_top_eq (x_kat tx s) (by rw [rs_st_eq]) ?_
                    refine r_iconst K (v := (-1)) dX2_toNextToken_171 (by decide) ?_
                    refine r_icmp_eq K 185 dX2_toNextToken_172 (by decide) (fun h_17 => ?_) (fun h_17 => ?_)
                    · rw [htok] at hr
                      have hes : e = s := by omega
                      subst hes
                      have hlen : ¬ e < tx.length := by
                        intro q
                        have hc := (h8.2 e q).2
                        rw [x_kat, if_pos q] at h_17
                        split at h_17
                        · exact absurd h_17 (x_ne_m1 (by omega))
                        · exact absurd h_17 (by decide)
                      refine hr _ _ _ dX2_toNextToken_185 ⟨?_, x_ft_tr hI.2.2.2 (x_ft_st (by decide) (by decide))⟩
                      rw [ab_tokat, ab_if_neg hlen]
                      exact ⟨by rw [rs_st_nk _ _ _ (by decide)]; exact hI.1, by rw [rs_st_eq]; exact h_17, fun q => absurd q (by simp), by rw [rs_st_nk _ _ _ (by decide)]; exact hI.2.1⟩
                    · refine r_aload_n K 0 dX2_toNextToken_175 rfl rfl ?_
                      refine r_dup K dX2_toNextToken_176 rfl ?_
                      refine r_getI K rfl rfl ff_2_behind qw_112 dX2_toNextToken_177 ?_
                      refine r_top_eq (nI e) (by rw [rs_st_nk _ _ _ (by decide)]; exact hI.2.1) ?_
                      refine r_iconst K (v := 1) dX2_toNextToken_180 (by decide) ?_
                      refine r_iadd K dX2_toNextToken_181 ?_
                      refine r_top_eq (nI (e + 1)) (nI_1 _) ?_
                      refine r_put K rfl rfl ff_2_behind qw_112 rfl rfl dX2_toNextToken_182 ?_
                      rw [htok] at hr
                      have hes : e = s := by omega
                      subst hes
                      have hlen : e < tx.length := by
                        rcases Nat.lt_or_ge e tx.length with q | q
                        · exact q
                        · exact absurd (by rw [x_kat, if_neg (by omega)]) h_17
                      have hc8 := (h8.2 e hlen).2
                      refine hr _ _ _ dX2_toNextToken_185 ⟨?_, x_ft_tr hI.2.2.2 (x_ft_tr (x_ft_st (by decide) (by decide)) (x_ft_st (by decide) (by decide)))⟩
                      have h32 : ¬ ab_ch tx e = 32 := h32 hlen
                      rw [ab_tokat, ab_if_pos hlen, ab_if_neg (Nat.lt_irrefl _)]
                      by_cases hlet : ab_let (ab_ch tx e)
                      · rw [ab_if_pos hlet]
                        exact ⟨by rw [rs_st_nk _ _ _ (by decide), rs_st_nk _ _ _ (by decide)]; exact hI.1, by rw [rs_st_nk _ _ _ (by decide), rs_st_eq, x_kat_let hlen hlet]; rfl, fun q => absurd q (by simp), by rw [rs_st_eq]⟩
                      · rw [ab_if_neg hlet]
                        exact ⟨by rw [rs_st_nk _ _ _ (by decide), rs_st_nk _ _ _ (by decide)]; exact hI.1, by rw [rs_st_nk _ _ _ (by decide), rs_st_eq, x_kat_no hlen h32 hlet]; rfl, fun q => absurd q (by simp), by rw [rs_st_eq]⟩
                  · have nh_16 : ¬ e ≤ s := mt (nf_le rfl rfl (by omega) (by omega)).mpr h_16
                    refine r_aload_n K 0 dX2_toNextToken_124 rfl rfl ?_
                    refine r_aload_n K 0 dX2_toNextToken_125 rfl rfl ?_
                    refine r_getI K rfl rfl ff_2_number qw_111 dX2_toNextToken_126 ?_
                    refine r_top_eq (ab_val tx s (e - s)) hI.2.2.1 ?_
                    refine r_aload_n K 0 dX2_toNextToken_129 rfl rfl ?_
                    refine r_getI K rfl rfl ff_2_behind qw_112 dX2_toNextToken_130 ?_
                    refine r_top_eq (nI e) hI.2.1 ?_
                    refine r_aload_n K 0 dX2_toNextToken_133 rfl rfl ?_
                    refine r_getI K rfl rfl ff_2_start qw_109 dX2_toNextToken_134 ?_
                    refine r_top_eq (nI s) hI.1 ?_
                    refine r_isub K dX2_toNextToken_137 ?_
                    refine r_top_eq (nI (e - s)) (pk_sub (by omega)) ?_
                    refine r_callSi K [.int (ab_val tx s (e - s)), .int (nI (e - s))] [.ref (g.2.2 37)] dX2_toNextToken_138 mf_X2_isNumber qw_263 qw_264 (c_isNumber l g t Mi (ab_val tx s (e - s)) (e - s) (by omega)) rfl rfl (by decide) (Nat.le_of_ble_eq_true rfl) (fun r M1 hp => ?_)
                    obtain ⟨hp, he⟩ := hp
                    have he := he.symm
                    subst he
                    rcases hp with ⟨rfl, hb_18⟩ | ⟨rfl, hb_18⟩
                    · refine r_if_eq K 149 dX2_toNextToken_141 (by decide) (fun h => absurd h (by decide)) (fun _ => ?_)
                      refine r_bipush K (v := (-2)) dX2_toNextToken_144 (by decide) ?_
                      refine r_goto K 151 dX2_toNextToken_146 (by decide) ?_
                      refine r_put K rfl rfl ff_2_kind qw_110 rfl rfl dX2_toNextToken_151 ?_
                      rw [htok] at hr
                      refine hr _ _ _ dX2_toNextToken_154 ⟨?_, x_ft_tr hI.2.2.2 (x_ft_st (by decide) (by decide))⟩
                      have d0 := hdd s (Nat.le_refl _) (by omega)
                      rcases hb_18 with q | q
                      · have q1 : e = s + 1 := by omega
                        rw [ab_tokat, ab_if_pos (by omega), ab_if_pos (by omega), ab_if_pos q1]
                        exact ⟨by rw [rs_st_nk _ _ _ (by decide)]; exact hI.1, by rw [rs_st_eq]; rfl, fun _ => by rw [rs_st_nk _ _ _ (by decide), hI.2.2.1, q, ab_val, ab_val]; simp, by rw [rs_st_nk _ _ _ (by decide)]; exact hI.2.1⟩
                      · have q1 : e = s + 2 := by omega
                        have d1 := hdd (s + 1) (by omega) (by omega)
                        have hv : ab_val tx s (e - s) = nI (10 * (ab_ch tx s - 48) + (ab_ch tx (s + 1) - 48)) := by rw [q.1, ab_val, ab_val, ab_val, Int32.zero_mul, Int32.zero_add, show (10 : Int32) = nI 10 from rfl, pk_mul, nI_add, Nat.mul_comm]; rfl
                        have hv2 := q.2
                        rw [hv, show (10 : Int32) = nI 10 from rfl, nI_leI (by decide) (by omega)] at hv2
                        rw [ab_tokat, ab_if_pos (by omega), ab_if_pos (by omega), ab_if_neg (by omega), ab_if_pos ⟨q1, by omega⟩]
                        exact ⟨by rw [rs_st_nk _ _ _ (by decide)]; exact hI.1, by rw [rs_st_eq]; rfl, fun _ => by rw [rs_st_nk _ _ _ (by decide), hI.2.2.1, hv], by rw [rs_st_nk _ _ _ (by decide)]; exact hI.2.1⟩
                    · refine r_if_eq K 149 dX2_toNextToken_141 (by decide) (fun _ => ?_) (fun h => absurd h (by decide))
                      refine r_bipush K (v := (-3)) dX2_toNextToken_149 (by decide) ?_
                      refine r_put K rfl rfl ff_2_kind qw_110 rfl rfl dX2_toNextToken_151 ?_
                      rw [htok] at hr
                      refine hr _ _ _ dX2_toNextToken_154 ⟨?_, x_ft_tr hI.2.2.2 (x_ft_st (by decide) (by decide))⟩
                      have d0 := hdd s (Nat.le_refl _) (by omega)
                      have q1 : ¬ e = s + 1 := fun q => hb_18 (Or.inl (by omega))
                      have q2 : ¬ (e = s + 2 ∧ ¬ ab_ch tx s = 48) := by
                        intro q
                        have d1 := hdd (s + 1) (by omega) (by omega)
                        have hv : ab_val tx s (e - s) = nI (10 * (ab_ch tx s - 48) + (ab_ch tx (s + 1) - 48)) := by rw [show e - s = 2 by omega, ab_val, ab_val, ab_val, Int32.zero_mul, Int32.zero_add, show (10 : Int32) = nI 10 from rfl, pk_mul, nI_add, Nat.mul_comm]; rfl
                        exact hb_18 (Or.inr ⟨by omega, by rw [hv, show (10 : Int32) = nI 10 from rfl, nI_leI (by decide) (by omega)]; omega⟩)
                      rw [ab_tokat, ab_if_pos (by omega), ab_if_pos (by omega), ab_if_neg q1, ab_if_neg q2]
                      exact ⟨by rw [rs_st_nk _ _ _ (by decide)]; exact hI.1, by rw [rs_st_eq]; rfl, fun q => absurd q (by simp), by rw [rs_st_nk _ _ _ (by decide)]; exact hI.2.1⟩
                · have hdg := (x_dat_dig h8).mp (Int32.not_lt.mp h_15)
                  refine r_aload_n K 0 dX2_toNextToken_80 rfl rfl ?_
                  refine r_aload_n K 0 dX2_toNextToken_81 rfl rfl ?_
                  refine r_getI K rfl rfl ff_2_number qw_111 dX2_toNextToken_82 ?_
                  refine r_top_eq (ab_val tx s (e - s)) hI.2.2.1 ?_
                  refine r_bipush K (v := 10) dX2_toNextToken_85 (by decide) ?_
                  refine r_imul K dX2_toNextToken_87 ?_
                  refine r_aload_n K 0 dX2_toNextToken_88 rfl rfl ?_
                  refine r_aload_n K 0 dX2_toNextToken_89 rfl rfl ?_
                  refine r_getI K rfl rfl ff_2_behind qw_112 dX2_toNextToken_90 ?_
                  refine r_top_eq (nI e) hI.2.1 ?_
                  refine r_callVi K [.int (nI e)] [.int ((ab_val tx s (e - s)) * 10), .ref (g.2.2 37)] dX2_toNextToken_93 mf_X2_digitAt rfl rfl qw_259 qw_261 qs_2 (c_digitAt l g t Mi tx hti e (by omega)) rfl rfl (by decide) (Nat.le_of_ble_eq_true rfl) (fun r M1 hp => ?_)
                  obtain ⟨hp, he⟩ := hp
                  have he := he.symm
                  subst he
                  subst hp
                  refine r_iadd K dX2_toNextToken_96 ?_
                  refine r_top_eq (ab_val tx s (e + 1 - s)) (by rw [show e + 1 - s = (e - s) + 1 by omega, ab_val, show s + (e - s) = e by omega, x_dat, if_pos hdg]) ?_
                  refine r_put K rfl rfl ff_2_number qw_111 rfl rfl dX2_toNextToken_97 ?_
                  refine r_aload_n K 0 dX2_toNextToken_100 rfl rfl ?_
                  refine r_dup K dX2_toNextToken_101 rfl ?_
                  refine r_getI K rfl rfl ff_2_behind qw_112 dX2_toNextToken_102 ?_
                  refine r_top_eq (nI e) (by rw [rs_st_nk _ _ _ (by decide)]; exact hI.2.1) ?_
                  refine r_iconst K (v := 1) dX2_toNextToken_105 (by decide) ?_
                  refine r_iadd K dX2_toNextToken_106 ?_
                  refine r_top_eq (nI (e + 1)) (nI_1 _) ?_
                  refine r_put K rfl rfl ff_2_behind qw_112 rfl rfl dX2_toNextToken_107 ?_
                  refine r_goto K 58 dX2_toNextToken_110 (by decide) ?_
                  exact ih (e + 1) _ (by omega) (by omega) (by omega) (by rw [hq2, show tx.length - e = (tx.length - (e + 1)) + 1 by omega, ab_de, if_pos hdg]) ⟨by rw [rs_st_nk _ _ _ (by decide), rs_st_nk _ _ _ (by decide)]; exact hI.1, by rw [rs_st_eq], by rw [rs_st_nk _ _ _ (by decide), rs_st_eq], x_ft_tr hI.2.2.2 (x_ft_tr (x_ft_st (by decide) (by decide)) (x_ft_st (by decide) (by decide)))⟩
          exact lb 122 s _ (by omega) (by omega) hs rfl ⟨by rw [rs_st_nk _ _ _ (by decide), rs_st_nk _ _ _ (by decide)]; exact hI.1, by rw [rs_st_nk _ _ _ (by decide), rs_st_eq], by rw [rs_st_eq, Nat.sub_self, ab_val], x_ft_tr hI.2 (x_ft_tr (x_ft_st (by decide) (by decide)) (x_ft_st (by decide) (by decide)))⟩
        · refine r_aload_n K 0 dX2_toNextToken_32 rfl rfl ?_
          refine r_dup K dX2_toNextToken_33 rfl ?_
          refine r_getI K rfl rfl ff_2_start qw_109 dX2_toNextToken_34 ?_
          refine r_top_eq (nI s) hI.1 ?_
          refine r_iconst K (v := 1) dX2_toNextToken_37 (by decide) ?_
          refine r_iadd K dX2_toNextToken_38 ?_
          refine r_top_eq (nI (s + 1)) (nI_1 _) ?_
          refine r_put K rfl rfl ff_2_start qw_109 rfl rfl dX2_toNextToken_39 ?_
          refine r_goto K 8 dX2_toNextToken_42 (by decide) ?_
          have hb32 := (x_kat_bl h8 (by omega)).mp h_10
          exact ih (s + 1) _ (by omega) (by omega) (by rw [hq, show tx.length - s = (tx.length - (s + 1)) + 1 by omega, ab_bl, if_pos ⟨by omega, hb32⟩]) ⟨by rw [rs_st_eq], x_ft_tr hI.2 (x_ft_st (by decide) (by decide))⟩
  exact la 122 p _ (by omega) hpl rfl ⟨by rw [rs_st_eq], x_ft_st (by decide) (by decide)⟩
