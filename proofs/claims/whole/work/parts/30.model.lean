/-! the reference: a row of 53 numbers is a line -/
def m_row (f : Nat → Int32) (L : ab_L) : Prop := f 0 = nI (ab_bar L) ∧ f 1 = nI (ab_way L) ∧ f 2 = nI (ab_tail L) ∧ f 3 = nI (ab_ks L).length ∧ (∀ i, 1 ≤ i → i ≤ (ab_ks L).length → f (4 + i) = nI ((ab_ks L).getD (i - 1) 0)) ∧ ∀ p, p < 18 → f (17 + p) = ab_wx L p ∧ f (35 + p) = ab_wy L p
theorem m_row_same {f g : Nat → Int32} {L : ab_L} (hn : (ab_ks L).length ≤ 12) (h : m_row f L) (e : ∀ k, k < 53 → g k = f k) : m_row g L := by
  obtain ⟨h0, h1, h2, h3, h4, h5⟩ := h
  exact ⟨by rw [e 0 (by decide)]; exact h0, by rw [e 1 (by decide)]; exact h1, by rw [e 2 (by decide)]; exact h2, by rw [e 3 (by decide)]; exact h3, fun i a b => by rw [e _ (by omega)]; exact h4 i a b, fun p hp => by rw [e _ (by omega), e _ (by omega)]; exact h5 p hp⟩
/-- the line behind ring i, in the reference's rows -/
def m_g (M : rs_M) (i : Nat) (q : ab_P) : Prop := M 8 i = q.1 ∧ M 9 i = q.2.1 ∧ M 10 i = q.2.2.1 ∧ M 11 i = q.2.2.2
/-- only the scratch rows change, and there only the places lo and on -/
def m_fs (M M1 : rs_M) (lo : Nat) : Prop := (∀ c, c < 7 ∨ 11 < c → M1 c = M c) ∧ ∀ c j, 7 ≤ c → c ≤ 11 → j < lo → M1 c j = M c j
theorem m_fs_rf (M : rs_M) (lo : Nat) : m_fs M M lo := ⟨fun _ _ => rfl, fun _ _ _ _ _ => rfl⟩
theorem m_fs_tr {M M1 M2 : rs_M} {lo : Nat} (h : m_fs M M1 lo) (h2 : m_fs M1 M2 lo) : m_fs M M2 lo := ⟨fun c hc => (h2.1 c hc).trans (h.1 c hc), fun c j c1 c2 hj => (h2.2 c j c1 c2 hj).trans (h.2 c j c1 c2 hj)⟩
theorem m_fs_mono {M M1 : rs_M} {a b : Nat} (h : m_fs M M1 a) (hab : b ≤ a) : m_fs M M1 b := ⟨h.1, fun c j c1 c2 hj => h.2 c j c1 c2 (by omega)⟩
theorem m_fs_st {M : rs_M} {c j lo : Nat} {v : Int32} (h1 : 7 ≤ c) (h2 : c ≤ 11) (h3 : lo ≤ j) : m_fs M (rs_st M c j v) lo := ⟨fun c' hc => rs_st_ne _ _ _ (by omega), fun c' j' c1 c2 hj => by
  by_cases e : c' = c
  · subst e; exact rs_st_nk _ _ _ (by omega)
  · rw [rs_st_ne _ _ _ e]⟩
theorem m_g_fs {M M1 : rs_M} {lo i : Nat} {q : ab_P} (h : m_g M i q) (hf : m_fs M M1 lo) (hi : i < lo) : m_g M1 i q := ⟨by rw [hf.2 8 i (by decide) (by decide) hi]; exact h.1, by rw [hf.2 9 i (by decide) (by decide) hi]; exact h.2.1, by rw [hf.2 10 i (by decide) (by decide) hi]; exact h.2.2.1, by rw [hf.2 11 i (by decide) (by decide) hi]; exact h.2.2.2⟩
def m_z (M : rs_M) : Prop := m_g M 0 (0, 0, 0, 0)
theorem ab_leanXY : ∀ k, k < 8 → rs_lX ((k + 6) % 8) = rs_lY k := by decide
theorem ab_room_eq {s a b : Int32} : s - a + b = s - (a - b) := by grind
theorem ab_max_eq {x y : Int32} (h : ¬ x ≤ y) : (if x < y then y else x) = x := if_neg (fun q => h (Int32.le_of_lt q))
theorem ab_max_eq2 {x y : Int32} (h : x ≤ y) : (if x < y then y else x) = y := by
  split
  · rfl
  · rename_i q
    exact Int32.le_antisymm h (Int32.not_lt.mp q)
theorem ab_on {j k : Nat} (hj : j < 8) (hk : k < 8) : nI k - nI j + 8 - (nI k - nI j + 8) / 8 * 8 = nI (ab_apart j k) := by
  have e : nI k - nI j + 8 = nI (k + 8 - j) := by
    rw [show k + 8 - j = (k + 8) - j by omega, ← pk_sub (by omega), ← nI_add]
    show nI k - nI j + nI 8 = _
    grind
  rw [e, ab_apart]
  exact pk_rem (d := 8) (by omega) (by decide) (by decide)
set_option maxHeartbeats 4000000 in
set_option maxRecDepth 100000 in
theorem cm_in (l : Launch) (g : rs_G) (t : Nat × Nat) (M : rs_M) (n a b : Int32) : rs_Ci l g mk t yX6_in cX6_in 3 .boolean 0 [.int n, .int a, .int b] M (fun r M1 => ab_b01 r (a ≤ n ∧ n ≤ b) ∧ M1 = M) := by
  refine rs_ofz (plainFor_of_name (by decide)) (Nat.le_of_ble_eq_true rfl) ?_
  intro Y K hr
  show Y M 0 [(0, .int n), (1, .int a), (2, .int b)] []
  refine r_iload_n K 0 dX6_in_0 rfl rfl ?_
  refine r_iload_n K 1 dX6_in_1 rfl rfl ?_
  refine r_icmp_lt K 14 dX6_in_2 (by decide) (fun h_1 => ?_) (fun h_1 => ?_)
  · refine r_iconst K (v := 0) dX6_in_14 (by decide) ?_
    exact hr _ _ _ _ dX6_in_15 (Or.inl rfl) ⟨Or.inr ⟨rfl, fun q => absurd q.1 (Int32.not_le.mpr h_1)⟩, rfl⟩
  · refine r_iload_n K 0 dX6_in_5 rfl rfl ?_
    refine r_iload_n K 2 dX6_in_6 rfl rfl ?_
    refine r_icmp_gt K 14 dX6_in_7 (by decide) (fun h_2 => ?_) (fun h_2 => ?_)
    · refine r_iconst K (v := 0) dX6_in_14 (by decide) ?_
      exact hr _ _ _ _ dX6_in_15 (Or.inl rfl) ⟨Or.inr ⟨rfl, fun q => absurd q.2 (Int32.not_le.mpr h_2)⟩, rfl⟩
    · refine r_iconst K (v := 1) dX6_in_10 (by decide) ?_
      refine r_goto K 15 dX6_in_11 (by decide) ?_
      exact hr _ _ _ _ dX6_in_15 (Or.inr rfl) ⟨Or.inl ⟨rfl, ⟨Int32.not_lt.mp h_1, Int32.not_lt.mp h_2⟩⟩, rfl⟩
set_option maxHeartbeats 4000000 in
set_option maxRecDepth 100000 in
theorem cm_has (l : Launch) (g : rs_G) (t : Nat × Nat) (M : rs_M) (m j : Nat) (hm : m < 2 ^ 31) (hj : j < 31) : rs_Ci l g mk t yX6_has cX6_has 2 .boolean 0 [.int (nI m), .int (nI j)] M (fun r M1 => ab_b01 r (m / 2 ^ j % 2 = 1) ∧ M1 = M) := by
  refine rs_ofz (plainFor_of_name (by decide)) (Nat.le_of_ble_eq_true rfl) ?_
  intro Y K hr
  show Y M 0 [(0, .int (nI m)), (1, .int (nI j))] []
  refine r_iload_n K 0 dX6_has_0 rfl rfl ?_
  refine r_iload_n K 1 dX6_has_1 rfl rfl ?_
  refine r_ishr K dX6_has_2 ?_
  refine r_top_eq (nI (m / 2 ^ j)) (ab_shr (by omega) (by omega)) ?_
  refine r_iconst K (v := 1) dX6_has_3 (by decide) ?_
  refine r_iand K dX6_has_4 ?_
  refine r_top_eq (nI (m / 2 ^ j % 2)) (ab_and1 (by have := Nat.div_le_self m (2 ^ j); omega)) ?_
  refine r_iconst K (v := 1) dX6_has_5 (by decide) ?_
  refine r_icmp_ne K 13 dX6_has_6 (by decide) (fun h_1 => ?_) (fun h_1 => ?_)
  · have nh_1 : ¬ (m / 2 ^ j % 2) = 1 := mt (nf_eq rfl rfl (by omega) (by omega)).mpr h_1
    refine r_iconst K (v := 0) dX6_has_13 (by decide) ?_
    exact hr _ _ _ _ dX6_has_14 (Or.inl rfl) ⟨Or.inr ⟨rfl, by omega⟩, rfl⟩
  · have nh_1 : (m / 2 ^ j % 2) = 1 := (nf_eq rfl rfl (by omega) (by omega)).mp h_1
    refine r_iconst K (v := 1) dX6_has_9 (by decide) ?_
    refine r_goto K 14 dX6_has_10 (by decide) ?_
    exact hr _ _ _ _ dX6_has_14 (Or.inr rfl) ⟨Or.inl ⟨rfl, by omega⟩, rfl⟩
set_option maxHeartbeats 4000000 in
set_option maxRecDepth 100000 in
theorem cm_far (l : Launch) (g : rs_G) (t : Nat × Nat) (M : rs_M) (v : Int32) : rs_Ci l g mk t yX6_far cX6_far 1 .int 0 [.int v] M (fun r M1 => r = ab_abs v ∧ M1 = M) := by
  refine rs_ofi (plainFor_of_name (by decide)) (Nat.le_of_ble_eq_true rfl) ?_
  intro Y K hr
  show Y M 0 [(0, .int v)] []
  refine r_iload_n K 0 dX6_far_0 rfl rfl ?_
  refine r_if_ge K 9 dX6_far_1 (by decide) (fun h_1 => ?_) (fun h_1 => ?_)
  · refine r_iload_n K 0 dX6_far_9 rfl rfl ?_
    exact hr _ _ _ _ dX6_far_10 ⟨by rw [ab_abs, if_pos h_1], rfl⟩
  · refine r_iload_n K 0 dX6_far_4 rfl rfl ?_
    refine r_ineg K dX6_far_5 ?_
    refine r_goto K 10 dX6_far_6 (by decide) ?_
    exact hr _ _ _ _ dX6_far_10 ⟨by rw [ab_abs, if_neg h_1, Int32.zero_sub], rfl⟩
set_option maxHeartbeats 4000000 in
set_option maxRecDepth 100000 in
theorem cm_leanX (l : Launch) (g : rs_G) (t : Nat × Nat) (M : rs_M) (k : Nat) (hk : k < 8) : rs_Ci l g mk t yX6_leanX cX6_leanX 1 .int 0 [.int (nI k)] M (fun r M1 => r = rs_lX k ∧ M1 = M) := by
  refine rs_ofi (plainFor_of_name (by decide)) (Nat.le_of_ble_eq_true rfl) ?_
  intro Y K hr
  show Y M 0 [(0, .int (nI k))] []
  refine r_iload_n K 0 dX6_leanX_0 rfl rfl ?_
  refine r_if_ne K 8 dX6_leanX_1 (by decide) (fun h_1 => ?_) (fun h_1 => ?_)
  · have nh_1 : ¬ k = 0 := mt (nf_eq rfl rfl (by omega) (by omega)).mpr h_1
    refine r_iload_n K 0 dX6_leanX_8 rfl rfl ?_
    refine r_iconst K (v := 4) dX6_leanX_9 (by decide) ?_
    refine r_icmp_ne K 18 dX6_leanX_10 (by decide) (fun h_2 => ?_) (fun h_2 => ?_)
    · have nh_2 : ¬ k = 4 := mt (nf_eq rfl rfl (by omega) (by omega)).mpr h_2
      refine r_iload_n K 0 dX6_leanX_18 rfl rfl ?_
      refine r_iconst K (v := 1) dX6_leanX_19 (by decide) ?_
      refine r_icmp_eq K 29 dX6_leanX_20 (by decide) (fun h_3 => ?_) (fun h_3 => ?_)
      · have nh_3 : k = 1 := (nf_eq rfl rfl (by omega) (by omega)).mp h_3
        refine r_iconst K (v := 1) dX6_leanX_29 (by decide) ?_
        refine r_goto K 48 dX6_leanX_30 (by decide) ?_
        have hk0 : k = 1 := by omega
        subst hk0
        exact hr _ _ _ _ dX6_leanX_48 ⟨rfl, rfl⟩
      · have nh_3 : ¬ k = 1 := mt (nf_eq rfl rfl (by omega) (by omega)).mpr h_3
        refine r_iload_n K 0 dX6_leanX_23 rfl rfl ?_
        refine r_bipush K (v := 7) dX6_leanX_24 (by decide) ?_
        refine r_icmp_ne K 33 dX6_leanX_26 (by decide) (fun h_4 => ?_) (fun h_4 => ?_)
        · have nh_4 : ¬ k = 7 := mt (nf_eq rfl rfl (by omega) (by omega)).mpr h_4
          refine r_iload_n K 0 dX6_leanX_33 rfl rfl ?_
          refine r_iconst K (v := 3) dX6_leanX_34 (by decide) ?_
          refine r_icmp_eq K 43 dX6_leanX_35 (by decide) (fun h_5 => ?_) (fun h_5 => ?_)
          · have nh_5 : k = 3 := (nf_eq rfl rfl (by omega) (by omega)).mp h_5
            refine r_iconst K (v := (-1)) dX6_leanX_43 (by decide) ?_
            refine r_goto K 48 dX6_leanX_44 (by decide) ?_
            have hk0 : k = 3 := by omega
            subst hk0
            exact hr _ _ _ _ dX6_leanX_48 ⟨rfl, rfl⟩
          · have nh_5 : ¬ k = 3 := mt (nf_eq rfl rfl (by omega) (by omega)).mpr h_5
            refine r_iload_n K 0 dX6_leanX_38 rfl rfl ?_
            refine r_iconst K (v := 5) dX6_leanX_39 (by decide) ?_
            refine r_icmp_ne K 47 dX6_leanX_40 (by decide) (fun h_6 => ?_) (fun h_6 => ?_)
            · have nh_6 : ¬ k = 5 := mt (nf_eq rfl rfl (by omega) (by omega)).mpr h_6
              refine r_iconst K (v := 0) dX6_leanX_47 (by decide) ?_
              rcases (show k = 2 ∨ k = 6 by omega) with rfl | rfl
              · exact hr _ _ _ _ dX6_leanX_48 ⟨rfl, rfl⟩
              · exact hr _ _ _ _ dX6_leanX_48 ⟨rfl, rfl⟩
            · have nh_6 : k = 5 := (nf_eq rfl rfl (by omega) (by omega)).mp h_6
              refine r_iconst K (v := (-1)) dX6_leanX_43 (by decide) ?_
              refine r_goto K 48 dX6_leanX_44 (by decide) ?_
              have hk0 : k = 5 := by omega
              subst hk0
              exact hr _ _ _ _ dX6_leanX_48 ⟨rfl, rfl⟩
        · have nh_4 : k = 7 := (nf_eq rfl rfl (by omega) (by omega)).mp h_4
          refine r_iconst K (v := 1) dX6_leanX_29 (by decide) ?_
          refine r_goto K 48 dX6_leanX_30 (by decide) ?_
          have hk0 : k = 7 := by omega
          subst hk0
          exact hr _ _ _ _ dX6_leanX_48 ⟨rfl, rfl⟩
    · have nh_2 : k = 4 := (nf_eq rfl rfl (by omega) (by omega)).mp h_2
      refine r_bipush K (v := (-2)) dX6_leanX_13 (by decide) ?_
      refine r_goto K 48 dX6_leanX_15 (by decide) ?_
      have hk0 : k = 4 := by omega
      subst hk0
      exact hr _ _ _ _ dX6_leanX_48 ⟨rfl, rfl⟩
  · have nh_1 : k = 0 := (nf_eq rfl rfl (by omega) (by omega)).mp h_1
    refine r_iconst K (v := 2) dX6_leanX_4 (by decide) ?_
    refine r_goto K 48 dX6_leanX_5 (by decide) ?_
    have hk0 : k = 0 := by omega
    subst hk0
    exact hr _ _ _ _ dX6_leanX_48 ⟨rfl, rfl⟩
set_option maxHeartbeats 4000000 in
set_option maxRecDepth 100000 in
theorem cm_leanY (l : Launch) (g : rs_G) (t : Nat × Nat) (M : rs_M) (k : Nat) (hk : k < 8) : rs_Ci l g mk t yX6_leanY cX6_leanY 1 .int 1 [.int (nI k)] M (fun r M1 => r = rs_lY k ∧ M1 = M) := by
  refine rs_ofi (plainFor_of_name (by decide)) (Nat.le_of_ble_eq_true rfl) ?_
  intro Y K hr
  show Y M 0 [(0, .int (nI k))] []
  refine r_iload_n K 0 dX6_leanY_0 rfl rfl ?_
  refine r_bipush K (v := 6) dX6_leanY_1 (by decide) ?_
  refine r_iadd K dX6_leanY_3 ?_
  refine r_top_eq (nI (k + 6)) (nI_add _ 6) ?_
  refine r_bipush K (v := 8) dX6_leanY_4 (by decide) ?_
  refine r_irem K dX6_leanY_6 (by decide) ?_
  refine r_top_eq (nI ((k + 6) % 8)) (pk_rem (d := 8) (by omega) (by decide) (by decide)) ?_
  refine r_callSi K [.int (nI ((k + 6) % 8))] [] dX6_leanY_7 mf_X6_leanX qw_705 qw_706 (cm_leanX l g t M ((k + 6) % 8) (Nat.mod_lt _ (by decide))) rfl rfl (by decide) (Nat.le_of_ble_eq_true rfl) (fun r M1 hp => ?_)
  obtain ⟨hp, he⟩ := hp
  have he := he.symm
  subst he
  subst hp
  exact hr _ _ _ _ dX6_leanY_10 ⟨ab_leanXY k hk, rfl⟩
set_option maxHeartbeats 4000000 in
set_option maxRecDepth 100000 in
theorem cm_isBarred (l : Launch) (g : rs_G) (t : Nat × Nat) (M : rs_M) (br j k : Nat) (hbr : br ≤ 3) (hj : j < 8) (hk : k < 8) : rs_Ci l g mk t yX6_isBarred cX6_isBarred 4 .boolean 0 [.int (nI br), .int (nI j), .int (nI k)] M (fun r M1 => ab_b01 r (ab_barred br j k) ∧ M1 = M) := by
  have hap := ab_apart_lt j k
  refine rs_ofz (plainFor_of_name (by decide)) (Nat.le_of_ble_eq_true rfl) ?_
  intro Y K hr
  show Y M 0 [(0, .int (nI br)), (1, .int (nI j)), (2, .int (nI k))] []
  refine r_iload_n K 2 dX6_isBarred_0 rfl rfl ?_
  refine r_iload_n K 1 dX6_isBarred_1 rfl rfl ?_
  refine r_isub K dX6_isBarred_2 ?_
  refine r_bipush K (v := 8) dX6_isBarred_3 (by decide) ?_
  refine r_iadd K dX6_isBarred_5 ?_
  refine r_bipush K (v := 8) dX6_isBarred_6 (by decide) ?_
  refine r_irem K dX6_isBarred_8 (by decide) ?_
  refine r_top_eq (nI (ab_apart j k)) (ab_on hj hk) ?_
  refine r_istore_n K [(3, .int (nI (ab_apart j k))), (0, .int (nI br)), (1, .int (nI j)), (2, .int (nI k))] dX6_isBarred_9 rfl (by decide) rfl ?_
  refine r_iload_n K 1 dX6_isBarred_10 rfl rfl ?_
  refine r_if_le K 18 dX6_isBarred_11 (by decide) (fun h_1 => ?_) (fun h_1 => ?_)
  · have nh_1 : br ≤ 0 := (nf_le rfl rfl (by omega) (by omega)).mp h_1
    refine r_iload_n K 1 dX6_isBarred_18 rfl rfl ?_
    refine r_iconst K (v := 2) dX6_isBarred_19 (by decide) ?_
    refine r_icmp_ne K 28 dX6_isBarred_20 (by decide) (fun h_2 => ?_) (fun h_2 => ?_)
    · have nh_2 : ¬ br = 2 := mt (nf_eq rfl rfl (by omega) (by omega)).mpr h_2
      refine r_iload_n K 1 dX6_isBarred_28 rfl rfl ?_
      refine r_iconst K (v := 3) dX6_isBarred_29 (by decide) ?_
      refine r_icmp_ne K 48 dX6_isBarred_30 (by decide) (fun h_3 => ?_) (fun h_3 => ?_)
      · have nh_3 : ¬ br = 3 := mt (nf_eq rfl rfl (by omega) (by omega)).mpr h_3
        refine r_iconst K (v := 0) dX6_isBarred_48 (by decide) ?_
        exact hr _ _ _ _ dX6_isBarred_49 (Or.inl rfl) ⟨Or.inr ⟨rfl, by simp only [ab_barred]; omega⟩, rfl⟩
      · have nh_3 : br = 3 := (nf_eq rfl rfl (by omega) (by omega)).mp h_3
        refine r_iload_n K 0 dX6_isBarred_33 rfl rfl ?_
        refine r_iconst K (v := 1) dX6_isBarred_34 (by decide) ?_
        refine r_icmp_eq K 44 dX6_isBarred_35 (by decide) (fun h_4 => ?_) (fun h_4 => ?_)
        · have nh_4 : (ab_apart j k) = 1 := (nf_eq rfl rfl (by omega) (by omega)).mp h_4
          refine r_iconst K (v := 1) dX6_isBarred_44 (by decide) ?_
          refine r_goto K 49 dX6_isBarred_45 (by decide) ?_
          exact hr _ _ _ _ dX6_isBarred_49 (Or.inr rfl) ⟨Or.inl ⟨rfl, by simp only [ab_barred]; omega⟩, rfl⟩
        · have nh_4 : ¬ (ab_apart j k) = 1 := mt (nf_eq rfl rfl (by omega) (by omega)).mpr h_4
          refine r_iload_n K 0 dX6_isBarred_38 rfl rfl ?_
          refine r_bipush K (v := 7) dX6_isBarred_39 (by decide) ?_
          refine r_icmp_ne K 48 dX6_isBarred_41 (by decide) (fun h_5 => ?_) (fun h_5 => ?_)
          · have nh_5 : ¬ (ab_apart j k) = 7 := mt (nf_eq rfl rfl (by omega) (by omega)).mpr h_5
            refine r_iconst K (v := 0) dX6_isBarred_48 (by decide) ?_
            exact hr _ _ _ _ dX6_isBarred_49 (Or.inl rfl) ⟨Or.inr ⟨rfl, by simp only [ab_barred]; omega⟩, rfl⟩
          · have nh_5 : (ab_apart j k) = 7 := (nf_eq rfl rfl (by omega) (by omega)).mp h_5
            refine r_iconst K (v := 1) dX6_isBarred_44 (by decide) ?_
            refine r_goto K 49 dX6_isBarred_45 (by decide) ?_
            exact hr _ _ _ _ dX6_isBarred_49 (Or.inr rfl) ⟨Or.inl ⟨rfl, by simp only [ab_barred]; omega⟩, rfl⟩
    · have nh_2 : br = 2 := (nf_eq rfl rfl (by omega) (by omega)).mp h_2
      refine r_iload_n K 0 dX6_isBarred_23 rfl rfl ?_
      refine r_iconst K (v := 4) dX6_isBarred_24 (by decide) ?_
      refine r_icmp_eq K 44 dX6_isBarred_25 (by decide) (fun h_6 => ?_) (fun h_6 => ?_)
      · have nh_6 : (ab_apart j k) = 4 := (nf_eq rfl rfl (by omega) (by omega)).mp h_6
        refine r_iconst K (v := 1) dX6_isBarred_44 (by decide) ?_
        refine r_goto K 49 dX6_isBarred_45 (by decide) ?_
        exact hr _ _ _ _ dX6_isBarred_49 (Or.inr rfl) ⟨Or.inl ⟨rfl, by simp only [ab_barred]; omega⟩, rfl⟩
      · have nh_6 : ¬ (ab_apart j k) = 4 := mt (nf_eq rfl rfl (by omega) (by omega)).mpr h_6
        refine r_iload_n K 1 dX6_isBarred_28 rfl rfl ?_
        refine r_iconst K (v := 3) dX6_isBarred_29 (by decide) ?_
        refine r_icmp_ne K 48 dX6_isBarred_30 (by decide) (fun h_7 => ?_) (fun h_7 => ?_)
        · have nh_7 : ¬ br = 3 := mt (nf_eq rfl rfl (by omega) (by omega)).mpr h_7
          refine r_iconst K (v := 0) dX6_isBarred_48 (by decide) ?_
          exact hr _ _ _ _ dX6_isBarred_49 (Or.inl rfl) ⟨Or.inr ⟨rfl, by simp only [ab_barred]; omega⟩, rfl⟩
        · have nh_7 : br = 3 := (nf_eq rfl rfl (by omega) (by omega)).mp h_7
          refine r_iload_n K 0 dX6_isBarred_33 rfl rfl ?_
          refine r_iconst K (v := 1) dX6_isBarred_34 (by decide) ?_
          refine r_icmp_eq K 44 dX6_isBarred_35 (by decide) (fun h_8 => ?_) (fun h_8 => ?_)
          · have nh_8 : (ab_apart j k) = 1 := (nf_eq rfl rfl (by omega) (by omega)).mp h_8
            refine r_iconst K (v := 1) dX6_isBarred_44 (by decide) ?_
            refine r_goto K 49 dX6_isBarred_45 (by decide) ?_
            exact hr _ _ _ _ dX6_isBarred_49 (Or.inr rfl) ⟨Or.inl ⟨rfl, by simp only [ab_barred]; omega⟩, rfl⟩
          · have nh_8 : ¬ (ab_apart j k) = 1 := mt (nf_eq rfl rfl (by omega) (by omega)).mpr h_8
            refine r_iload_n K 0 dX6_isBarred_38 rfl rfl ?_
            refine r_bipush K (v := 7) dX6_isBarred_39 (by decide) ?_
            refine r_icmp_ne K 48 dX6_isBarred_41 (by decide) (fun h_9 => ?_) (fun h_9 => ?_)
            · have nh_9 : ¬ (ab_apart j k) = 7 := mt (nf_eq rfl rfl (by omega) (by omega)).mpr h_9
              refine r_iconst K (v := 0) dX6_isBarred_48 (by decide) ?_
              exact hr _ _ _ _ dX6_isBarred_49 (Or.inl rfl) ⟨Or.inr ⟨rfl, by simp only [ab_barred]; omega⟩, rfl⟩
            · have nh_9 : (ab_apart j k) = 7 := (nf_eq rfl rfl (by omega) (by omega)).mp h_9
              refine r_iconst K (v := 1) dX6_isBarred_44 (by decide) ?_
              refine r_goto K 49 dX6_isBarred_45 (by decide) ?_
              exact hr _ _ _ _ dX6_isBarred_49 (Or.inr rfl) ⟨Or.inl ⟨rfl, by simp only [ab_barred]; omega⟩, rfl⟩
  · have nh_1 : ¬ br ≤ 0 := mt (nf_le rfl rfl (by omega) (by omega)).mpr h_1
    refine r_iload_n K 0 dX6_isBarred_14 rfl rfl ?_
    refine r_if_eq K 44 dX6_isBarred_15 (by decide) (fun h_10 => ?_) (fun h_10 => ?_)
    · have nh_10 : (ab_apart j k) = 0 := (nf_eq rfl rfl (by omega) (by omega)).mp h_10
      refine r_iconst K (v := 1) dX6_isBarred_44 (by decide) ?_
      refine r_goto K 49 dX6_isBarred_45 (by decide) ?_
      exact hr _ _ _ _ dX6_isBarred_49 (Or.inr rfl) ⟨Or.inl ⟨rfl, by simp only [ab_barred]; omega⟩, rfl⟩
    · have nh_10 : ¬ (ab_apart j k) = 0 := mt (nf_eq rfl rfl (by omega) (by omega)).mpr h_10
      refine r_iload_n K 1 dX6_isBarred_18 rfl rfl ?_
      refine r_iconst K (v := 2) dX6_isBarred_19 (by decide) ?_
      refine r_icmp_ne K 28 dX6_isBarred_20 (by decide) (fun h_11 => ?_) (fun h_11 => ?_)
      · have nh_11 : ¬ br = 2 := mt (nf_eq rfl rfl (by omega) (by omega)).mpr h_11
        refine r_iload_n K 1 dX6_isBarred_28 rfl rfl ?_
        refine r_iconst K (v := 3) dX6_isBarred_29 (by decide) ?_
        refine r_icmp_ne K 48 dX6_isBarred_30 (by decide) (fun h_12 => ?_) (fun h_12 => ?_)
        · have nh_12 : ¬ br = 3 := mt (nf_eq rfl rfl (by omega) (by omega)).mpr h_12
          refine r_iconst K (v := 0) dX6_isBarred_48 (by decide) ?_
          exact hr _ _ _ _ dX6_isBarred_49 (Or.inl rfl) ⟨Or.inr ⟨rfl, by simp only [ab_barred]; omega⟩, rfl⟩
        · have nh_12 : br = 3 := (nf_eq rfl rfl (by omega) (by omega)).mp h_12
          refine r_iload_n K 0 dX6_isBarred_33 rfl rfl ?_
          refine r_iconst K (v := 1) dX6_isBarred_34 (by decide) ?_
          refine r_icmp_eq K 44 dX6_isBarred_35 (by decide) (fun h_13 => ?_) (fun h_13 => ?_)
          · have nh_13 : (ab_apart j k) = 1 := (nf_eq rfl rfl (by omega) (by omega)).mp h_13
            refine r_iconst K (v := 1) dX6_isBarred_44 (by decide) ?_
            refine r_goto K 49 dX6_isBarred_45 (by decide) ?_
            exact hr _ _ _ _ dX6_isBarred_49 (Or.inr rfl) ⟨Or.inl ⟨rfl, by simp only [ab_barred]; omega⟩, rfl⟩
          · have nh_13 : ¬ (ab_apart j k) = 1 := mt (nf_eq rfl rfl (by omega) (by omega)).mpr h_13
            refine r_iload_n K 0 dX6_isBarred_38 rfl rfl ?_
            refine r_bipush K (v := 7) dX6_isBarred_39 (by decide) ?_
            refine r_icmp_ne K 48 dX6_isBarred_41 (by decide) (fun h_14 => ?_) (fun h_14 => ?_)
            · have nh_14 : ¬ (ab_apart j k) = 7 := mt (nf_eq rfl rfl (by omega) (by omega)).mpr h_14
              refine r_iconst K (v := 0) dX6_isBarred_48 (by decide) ?_
              exact hr _ _ _ _ dX6_isBarred_49 (Or.inl rfl) ⟨Or.inr ⟨rfl, by simp only [ab_barred]; omega⟩, rfl⟩
            · have nh_14 : (ab_apart j k) = 7 := (nf_eq rfl rfl (by omega) (by omega)).mp h_14
              refine r_iconst K (v := 1) dX6_isBarred_44 (by decide) ?_
              refine r_goto K 49 dX6_isBarred_45 (by decide) ?_
              exact hr _ _ _ _ dX6_isBarred_49 (Or.inr rfl) ⟨Or.inl ⟨rfl, by simp only [ab_barred]; omega⟩, rfl⟩
      · have nh_11 : br = 2 := (nf_eq rfl rfl (by omega) (by omega)).mp h_11
        refine r_iload_n K 0 dX6_isBarred_23 rfl rfl ?_
        refine r_iconst K (v := 4) dX6_isBarred_24 (by decide) ?_
        refine r_icmp_eq K 44 dX6_isBarred_25 (by decide) (fun h_15 => ?_) (fun h_15 => ?_)
        · have nh_15 : (ab_apart j k) = 4 := (nf_eq rfl rfl (by omega) (by omega)).mp h_15
          refine r_iconst K (v := 1) dX6_isBarred_44 (by decide) ?_
          refine r_goto K 49 dX6_isBarred_45 (by decide) ?_
          exact hr _ _ _ _ dX6_isBarred_49 (Or.inr rfl) ⟨Or.inl ⟨rfl, by simp only [ab_barred]; omega⟩, rfl⟩
        · have nh_15 : ¬ (ab_apart j k) = 4 := mt (nf_eq rfl rfl (by omega) (by omega)).mpr h_15
          refine r_iload_n K 1 dX6_isBarred_28 rfl rfl ?_
          refine r_iconst K (v := 3) dX6_isBarred_29 (by decide) ?_
          refine r_icmp_ne K 48 dX6_isBarred_30 (by decide) (fun h_16 => ?_) (fun h_16 => ?_)
          · have nh_16 : ¬ br = 3 := mt (nf_eq rfl rfl (by omega) (by omega)).mpr h_16
            refine r_iconst K (v := 0) dX6_isBarred_48 (by decide) ?_
            exact hr _ _ _ _ dX6_isBarred_49 (Or.inl rfl) ⟨Or.inr ⟨rfl, by simp only [ab_barred]; omega⟩, rfl⟩
          · have nh_16 : br = 3 := (nf_eq rfl rfl (by omega) (by omega)).mp h_16
            refine r_iload_n K 0 dX6_isBarred_33 rfl rfl ?_
            refine r_iconst K (v := 1) dX6_isBarred_34 (by decide) ?_
            refine r_icmp_eq K 44 dX6_isBarred_35 (by decide) (fun h_17 => ?_) (fun h_17 => ?_)
            · have nh_17 : (ab_apart j k) = 1 := (nf_eq rfl rfl (by omega) (by omega)).mp h_17
              refine r_iconst K (v := 1) dX6_isBarred_44 (by decide) ?_
              refine r_goto K 49 dX6_isBarred_45 (by decide) ?_
              exact hr _ _ _ _ dX6_isBarred_49 (Or.inr rfl) ⟨Or.inl ⟨rfl, by simp only [ab_barred]; omega⟩, rfl⟩
            · have nh_17 : ¬ (ab_apart j k) = 1 := mt (nf_eq rfl rfl (by omega) (by omega)).mpr h_17
              refine r_iload_n K 0 dX6_isBarred_38 rfl rfl ?_
              refine r_bipush K (v := 7) dX6_isBarred_39 (by decide) ?_
              refine r_icmp_ne K 48 dX6_isBarred_41 (by decide) (fun h_18 => ?_) (fun h_18 => ?_)
              · have nh_18 : ¬ (ab_apart j k) = 7 := mt (nf_eq rfl rfl (by omega) (by omega)).mpr h_18
                refine r_iconst K (v := 0) dX6_isBarred_48 (by decide) ?_
                exact hr _ _ _ _ dX6_isBarred_49 (Or.inl rfl) ⟨Or.inr ⟨rfl, by simp only [ab_barred]; omega⟩, rfl⟩
              · have nh_18 : (ab_apart j k) = 7 := (nf_eq rfl rfl (by omega) (by omega)).mp h_18
                refine r_iconst K (v := 1) dX6_isBarred_44 (by decide) ?_
                refine r_goto K 49 dX6_isBarred_45 (by decide) ?_
                exact hr _ _ _ _ dX6_isBarred_49 (Or.inr rfl) ⟨Or.inl ⟨rfl, by simp only [ab_barred]; omega⟩, rfl⟩
set_option maxHeartbeats 4000000 in
set_option maxRecDepth 100000 in
theorem cm_lays (l : Launch) (g : rs_G) (t : Nat × Nat) (M : rs_M) (i : Nat) (hi : i < 17) (q : ab_P) (hq : m_g M i q) (k : Nat) (hk : k < 8) (h7 : M 7 (i + 1) = nI k) (tp : Int32) : rs_Cv l g mk t yX6_lays cX6_lays 3 2 [.ref (g.2.2 0), .int (nI (i + 1)), .int tp] M (fun M1 => m_g M1 (i + 1) (ab_step tp q k) ∧ m_fs M M1 (i + 1) ∧ M1 7 = M 7) := by
  refine rs_ofv (plainFor_of_name (by decide)) (Nat.le_of_ble_eq_true rfl) ?_
  intro Y K hr
  show Y M 0 [(0, .ref (g.2.2 0)), (1, .int (nI (i + 1))), (2, .int tp)] []
  refine r_aload_n K 0 dX6_lays_0 rfl rfl ?_
  refine r_getR K rfl rfl ff_6_slopeX qw_555 dX6_lays_1 ?_
  refine r_iload_n K 1 dX6_lays_4 rfl rfl ?_
  refine r_aload_n K 0 dX6_lays_5 rfl rfl ?_
  refine r_getR K rfl rfl ff_6_slopeX qw_555 dX6_lays_6 ?_
  refine r_iload_n K 1 dX6_lays_9 rfl rfl ?_
  refine r_iconst K (v := 1) dX6_lays_10 (by decide) ?_
  refine r_isub K dX6_lays_11 ?_
  refine r_iald K (j := i) rfl (nI_pred i) (by omega) (by decide) dX6_lays_12 ?_
  refine r_top_eq q.1 hq.1 ?_
  refine r_iload_n K 2 dX6_lays_13 rfl rfl ?_
  refine r_aload_n K 0 dX6_lays_14 rfl rfl ?_
  refine r_getR K rfl rfl ff_6_keys qw_554 dX6_lays_15 ?_
  refine r_iload_n K 1 dX6_lays_18 rfl rfl ?_
  refine r_iald K (j := i + 1) rfl rfl (by omega) (by decide) dX6_lays_19 ?_
  refine r_top_eq (nI k) h7 ?_
  refine r_callSi K [.int (nI k)] [.int tp, .int q.1, .int (nI (i + 1)), .ref (g.2.2 8)] dX6_lays_20 mf_X6_leanX qw_705 qw_706 (cm_leanX l g t M k hk) rfl rfl (by decide) (Nat.le_of_ble_eq_true rfl) (fun r M1 hp => ?_)
  obtain ⟨hp, he⟩ := hp
  have he := he.symm
  subst he
  subst hp
  refine r_imul K dX6_lays_23 ?_
  refine r_iadd K dX6_lays_24 ?_
  refine r_iast K (j := i + 1) rfl rfl (by omega) (by decide) dX6_lays_25 ?_
  refine r_aload_n K 0 dX6_lays_26 rfl rfl ?_
  refine r_getR K rfl rfl ff_6_slopeY qw_556 dX6_lays_27 ?_
  refine r_iload_n K 1 dX6_lays_30 rfl rfl ?_
  refine r_aload_n K 0 dX6_lays_31 rfl rfl ?_
  refine r_getR K rfl rfl ff_6_slopeY qw_556 dX6_lays_32 ?_
  refine r_iload_n K 1 dX6_lays_35 rfl rfl ?_
  refine r_iconst K (v := 1) dX6_lays_36 (by decide) ?_
  refine r_isub K dX6_lays_37 ?_
  refine r_iald K (j := i) rfl (nI_pred i) (by omega) (by decide) dX6_lays_38 ?_
  refine r_top_eq q.2.1 (by rw [rs_st_ne _ _ _ (by decide)]; exact hq.2.1) ?_
  refine r_iload_n K 2 dX6_lays_39 rfl rfl ?_
  refine r_aload_n K 0 dX6_lays_40 rfl rfl ?_
  refine r_getR K rfl rfl ff_6_keys qw_554 dX6_lays_41 ?_
  refine r_iload_n K 1 dX6_lays_44 rfl rfl ?_
  refine r_iald K (j := i + 1) rfl rfl (by omega) (by decide) dX6_lays_45 ?_
  refine r_top_eq (nI k) (by rw [rs_st_ne _ _ _ (by decide)]; exact h7) ?_
  refine r_callSi K [.int (nI k)] [.int tp, .int q.2.1, .int (nI (i + 1)), .ref (g.2.2 9)] dX6_lays_46 mf_X6_leanY qw_708 qw_709 (cm_leanY l g t (rs_st M 8 (i + 1) (q.1 + (tp * (rs_lX k)))) k hk) rfl rfl (by decide) (Nat.le_of_ble_eq_true rfl) (fun r M1 hp => ?_)
  obtain ⟨hp, he⟩ := hp
  have he := he.symm
  subst he
  subst hp
  refine r_imul K dX6_lays_49 ?_
  refine r_iadd K dX6_lays_50 ?_
  refine r_iast K (j := i + 1) rfl rfl (by omega) (by decide) dX6_lays_51 ?_
  refine r_aload_n K 0 dX6_lays_52 rfl rfl ?_
  refine r_getR K rfl rfl ff_6_placeX qw_557 dX6_lays_53 ?_
  refine r_iload_n K 1 dX6_lays_56 rfl rfl ?_
  refine r_aload_n K 0 dX6_lays_57 rfl rfl ?_
  refine r_getR K rfl rfl ff_6_placeX qw_557 dX6_lays_58 ?_
  refine r_iload_n K 1 dX6_lays_61 rfl rfl ?_
  refine r_iconst K (v := 1) dX6_lays_62 (by decide) ?_
  refine r_isub K dX6_lays_63 ?_
  refine r_iald K (j := i) rfl (nI_pred i) (by omega) (by decide) dX6_lays_64 ?_
  refine r_top_eq q.2.2.1 (by rw [rs_st_ne _ _ _ (by decide), rs_st_ne _ _ _ (by decide)]; exact hq.2.2.1) ?_
  refine r_aload_n K 0 dX6_lays_65 rfl rfl ?_
  refine r_getR K rfl rfl ff_6_slopeX qw_555 dX6_lays_66 ?_
  refine r_iload_n K 1 dX6_lays_69 rfl rfl ?_
  refine r_iald K (j := i + 1) rfl rfl (by omega) (by decide) dX6_lays_70 ?_
  refine r_top_eq (q.1 + tp * rs_lX k) (by rw [rs_st_ne _ _ _ (by decide), rs_st_eq]) ?_
  refine r_iadd K dX6_lays_71 ?_
  refine r_iast K (j := i + 1) rfl rfl (by omega) (by decide) dX6_lays_72 ?_
  refine r_aload_n K 0 dX6_lays_73 rfl rfl ?_
  refine r_getR K rfl rfl ff_6_placeY qw_558 dX6_lays_74 ?_
  refine r_iload_n K 1 dX6_lays_77 rfl rfl ?_
  refine r_aload_n K 0 dX6_lays_78 rfl rfl ?_
  refine r_getR K rfl rfl ff_6_placeY qw_558 dX6_lays_79 ?_
  refine r_iload_n K 1 dX6_lays_82 rfl rfl ?_
  refine r_iconst K (v := 1) dX6_lays_83 (by decide) ?_
  refine r_isub K dX6_lays_84 ?_
  refine r_iald K (j := i) rfl (nI_pred i) (by omega) (by decide) dX6_lays_85 ?_
  refine r_top_eq q.2.2.2 (by rw [rs_st_ne _ _ _ (by decide), rs_st_ne _ _ _ (by decide), rs_st_ne _ _ _ (by decide)]; exact hq.2.2.2) ?_
  refine r_aload_n K 0 dX6_lays_86 rfl rfl ?_
  refine r_getR K rfl rfl ff_6_slopeY qw_556 dX6_lays_87 ?_
  refine r_iload_n K 1 dX6_lays_90 rfl rfl ?_
  refine r_iald K (j := i + 1) rfl rfl (by omega) (by decide) dX6_lays_91 ?_
  refine r_top_eq (q.2.1 + tp * rs_lY k) (by rw [rs_st_ne _ _ _ (by decide), rs_st_eq]) ?_
  refine r_iadd K dX6_lays_92 ?_
  refine r_iast K (j := i + 1) rfl rfl (by omega) (by decide) dX6_lays_93 ?_
  refine hr _ _ _ dX6_lays_94 ⟨⟨?_, ?_, ?_, ?_⟩, m_fs_tr (m_fs_tr (m_fs_tr (m_fs_st (by decide) (by decide) (Nat.le_refl _)) (m_fs_st (by decide) (by decide) (Nat.le_refl _))) (m_fs_st (by decide) (by decide) (Nat.le_refl _))) (m_fs_st (by decide) (by decide) (Nat.le_refl _)), by rw [rs_st_ne _ _ _ (by decide), rs_st_ne _ _ _ (by decide), rs_st_ne _ _ _ (by decide), rs_st_ne _ _ _ (by decide)]⟩
  · rw [rs_st_ne _ _ _ (by decide), rs_st_ne _ _ _ (by decide), rs_st_ne _ _ _ (by decide), rs_st_eq]; rfl
  · rw [rs_st_ne _ _ _ (by decide), rs_st_ne _ _ _ (by decide), rs_st_eq]; rfl
  · rw [rs_st_ne _ _ _ (by decide), rs_st_eq]; rfl
  · rw [rs_st_eq]; rfl
/-- i rings are laid of the keys ks -/
def m_laid (M : rs_M) (tp : Int32) (ks : List Nat) (n : Nat) : Prop := ∀ i, i ≤ n → m_g M i (ab_geo tp (ks.take i)) ∧ (1 ≤ i → M 7 i = nI (ks.getD (i - 1) 0))
theorem m_laid_0 {M : rs_M} {tp : Int32} {ks : List Nat} (hz : m_z M) : m_laid M tp ks 0 := by
  intro i hi
  have e : i = 0 := by omega
  subst e
  exact ⟨hz, fun h => absurd h (by omega)⟩
theorem ab_take_s {ks : List Nat} {i : Nat} (h : i < ks.length) : ks.take (i + 1) = ks.take i ++ [ks.getD i 0] := by
  rw [List.take_add_one, List.getD, List.getElem?_eq_getElem h]; rfl
theorem m_laid_fs {M M1 : rs_M} {tp : Int32} {ks : List Nat} {n lo : Nat} (h : m_laid M tp ks n) (hf : m_fs M M1 lo) (hn : n < lo) : m_laid M1 tp ks n := fun i hi => ⟨m_g_fs (h i hi).1 hf (by omega), fun h1 => by rw [hf.2 7 i (by decide) (by decide) (by omega)]; exact (h i hi).2 h1⟩
theorem m_laid_s {M M1 M2 : rs_M} {tp : Int32} {ks : List Nat} {i : Nat} (h : m_laid M tp ks i) (hi : i < ks.length) (h1 : m_fs M M1 (i + 1)) (h7 : M1 7 (i + 1) = nI (ks.getD i 0)) (hg : m_g M2 (i + 1) (ab_step tp (ab_geo tp (ks.take i)) (ks.getD i 0))) (h2 : m_fs M1 M2 (i + 1)) (e7 : M2 7 = M1 7) : m_laid M2 tp ks (i + 1) := by
  intro j hj
  by_cases e : j = i + 1
  · subst e
    refine ⟨?_, fun _ => by rw [e7, h7]; rfl⟩
    rw [ab_take_s hi, ab_geo_app]
    exact hg
  · exact m_laid_fs (n := i) (lo := i + 1) h (m_fs_tr h1 h2) (by omega) j (by omega)
set_option maxHeartbeats 4000000 in
set_option maxRecDepth 100000 in
theorem cm_layRings (l : Launch) (g : rs_G) (t : Nat × Nat) (M : rs_M) (a : Nat) (ha : a = 1 ∨ a = 13) (L : ab_L) (hok : ab_ok L) (hrow : m_row (M a) L) (hz : m_z M) (tp : Int32) : rs_Cv l g mk t yX6_layRings cX6_layRings 4 3 [.ref (g.2.2 0), .ref (g.2.2 a), .int tp] M (fun M1 => m_laid M1 tp (ab_ks L) (ab_ks L).length ∧ m_fs M M1 1) := by
  have hn12 := hok.1
  have hma : mk[a]? = some (0, 53, []) := by rcases ha with rfl | rfl <;> rfl
  refine rs_ofv (plainFor_of_name (by decide)) (Nat.le_of_ble_eq_true rfl) ?_
  intro Y K hr
  show Y M 0 [(0, .ref (g.2.2 0)), (1, .ref (g.2.2 a)), (2, .int tp)] []
  refine r_iconst K (v := 1) dX6_layRings_0 (by decide) ?_
  refine r_istore_n K [(3, .int 1), (0, .ref (g.2.2 0)), (1, .ref (g.2.2 a)), (2, .int tp)] dX6_layRings_1 rfl (by decide) rfl ?_
  have lp : ∀ (f : Nat) (i : Nat) (Mi : rs_M), (13 - i < f) → (i ≤ (ab_ks L).length) → (m_fs M Mi 1 ∧ m_laid Mi tp (ab_ks L) i) → Y Mi 2 [(3, .int (nI (i + 1))), (0, .ref (g.2.2 0)), (1, .ref (g.2.2 a)), (2, .int tp)] [] := by
    intro f
    induction f with
    | zero =>
      intro i Mi hf
      exact absurd hf (Nat.not_lt_zero _)
    | succ f ih =>
      intro i Mi hf hi hI
      refine r_iload_n K 0 dX6_layRings_2 rfl rfl ?_
      refine r_aload_n K 2 dX6_layRings_3 rfl rfl ?_
      refine r_iconst K (v := 3) dX6_layRings_4 (by decide) ?_
      refine r_iald K (j := 3) hma rfl (by decide) (by decide) dX6_layRings_5 ?_
      refine r_top_eq (nI (ab_ks L).length) (by rw [hI.1.1 a (by omega)]; exact hrow.2.2.2.1) ?_
      refine r_icmp_gt K 32 dX6_layRings_6 (by decide) (fun h_1 => ?_) (fun h_1 => ?_)
      · have nh_1 : (ab_ks L).length < (i + 1) := (nf_lt rfl rfl (by omega) (by omega)).mp h_1
        have hin : i = (ab_ks L).length := by omega
        subst hin
        exact hr _ _ _ dX6_layRings_32 ⟨hI.2, hI.1⟩
      · have nh_1 : ¬ (ab_ks L).length < (i + 1) := mt (nf_lt rfl rfl (by omega) (by omega)).mpr h_1
        refine r_aload_n K 1 dX6_layRings_9 rfl rfl ?_
        refine r_getR K rfl rfl ff_6_keys qw_554 dX6_layRings_10 ?_
        refine r_iload_n K 0 dX6_layRings_13 rfl rfl ?_
        refine r_aload_n K 2 dX6_layRings_14 rfl rfl ?_
        refine r_iconst K (v := 4) dX6_layRings_15 (by decide) ?_
        refine r_iload_n K 0 dX6_layRings_16 rfl rfl ?_
        refine r_iadd K dX6_layRings_17 ?_
        refine r_iald K (j := 4 + (i + 1)) hma (nI_add 4 _) (by omega) (by decide) dX6_layRings_18 ?_
        refine r_top_eq (nI ((ab_ks L).getD i 0)) (by rw [hI.1.1 a (by omega), hrow.2.2.2.2.1 (i + 1) (by omega) (by omega)]; rfl) ?_
        refine r_iast K (j := i + 1) rfl rfl (by omega) (by decide) dX6_layRings_19 ?_
        refine r_aload_n K 1 dX6_layRings_20 rfl rfl ?_
        refine r_iload_n K 0 dX6_layRings_21 rfl rfl ?_
        refine r_iload_n K 3 dX6_layRings_22 rfl rfl ?_
        have hf1 : m_fs Mi (rs_st Mi 7 (i + 1) (nI ((ab_ks L).getD i 0))) (i + 1) := m_fs_st (by decide) (by decide) (Nat.le_refl _)
        refine r_callVv K [.int (nI (i + 1)), .int tp] [] dX6_layRings_23 mf_X6_lays rfl rfl qw_701 qw_703 qs_30 (cm_lays l g t (rs_st Mi 7 (i + 1) (nI ((ab_ks L).getD i 0))) i (by omega) _ (m_g_fs (hI.2 i (Nat.le_refl _)).1 hf1 (by omega)) ((ab_ks L).getD i 0) (ab_getD_lt hok.2.1 i) (by rw [rs_st_eq]) tp) rfl rfl (by decide) (Nat.le_of_ble_eq_true rfl) (fun M2 hp => ?_)
        obtain ⟨hp1, hp2, hp3⟩ := hp
        refine r_iinc_n K 0 [(3, .int (nI (i + 1 + 1))), (0, .ref (g.2.2 0)), (1, .ref (g.2.2 a)), (2, .int tp)] dX6_layRings_26 rfl (by decide) rfl ?_
        refine r_goto K 2 dX6_layRings_29 (by decide) ?_
        exact ih (i + 1) M2 (by omega) (by omega) ⟨m_fs_tr hI.1 (m_fs_mono (m_fs_tr hf1 hp2) (by omega)), m_laid_s hI.2 (by omega) hf1 (by rw [rs_st_eq]) hp1 hp2 hp3⟩
  exact lp 14 0 M (by omega) (by omega) ⟨m_fs_rf M 1, m_laid_0 hz⟩
set_option maxHeartbeats 4000000 in
set_option maxRecDepth 100000 in
theorem cm_costOf (l : Launch) (g : rs_G) (t : Nat × Nat) (M : rs_M) (L : ab_L) (hok : ab_ok L) (hrow : m_row (M 1) L) (i : Nat) (hi : i < 18) : rs_Ci l g mk t yX6_costOf cX6_costOf 4 .int 1 [.ref (g.2.2 0), .int (nI i)] M (fun r M1 => r = ab_cost L i (M 10 i) (M 11 i) ∧ M1 = M) := by
  have hw2 := hok.2.2.2.1
  refine rs_ofi (plainFor_of_name (by decide)) (Nat.le_of_ble_eq_true rfl) ?_
  intro Y K hr
  show Y M 0 [(0, .ref (g.2.2 0)), (1, .int (nI i))] []
  refine r_aload_n K 0 dX6_costOf_0 rfl rfl ?_
  refine r_getR K rfl rfl ff_6_placeX qw_557 dX6_costOf_1 ?_
  refine r_iload_n K 1 dX6_costOf_4 rfl rfl ?_
  refine r_iald K (j := i) rfl rfl (by omega) (by decide) dX6_costOf_5 ?_
  refine r_aload_n K 0 dX6_costOf_6 rfl rfl ?_
  refine r_getR K rfl rfl ff_6_now qw_545 dX6_costOf_7 ?_
  refine r_bipush K (v := 17) dX6_costOf_10 (by decide) ?_
  refine r_iload_n K 1 dX6_costOf_12 rfl rfl ?_
  refine r_iadd K dX6_costOf_13 ?_
  refine r_iald K (j := 17 + i) rfl (nI_add 17 i) (by omega) (by decide) dX6_costOf_14 ?_
  refine r_top_eq (ab_wx L i) (hrow.2.2.2.2.2 i hi).1 ?_
  refine r_isub K dX6_costOf_15 ?_
  refine r_callSi K [.int ((M 10 i) - (ab_wx L i))] [] dX6_costOf_16 mf_X6_far qw_715 qw_716 (cm_far l g t M ((M 10 i) - (ab_wx L i))) rfl rfl (by decide) (Nat.le_of_ble_eq_true rfl) (fun r M1 hp => ?_)
  obtain ⟨hp, he⟩ := hp
  have he := he.symm
  subst he
  subst hp
  refine r_istore_n K [(2, .int (ab_abs ((M 10 i) - (ab_wx L i)))), (0, .ref (g.2.2 0)), (1, .int (nI i))] dX6_costOf_19 rfl (by decide) rfl ?_
  refine r_aload_n K 1 dX6_costOf_20 rfl rfl ?_
  refine r_getR K rfl rfl ff_6_placeY qw_558 dX6_costOf_21 ?_
  refine r_iload_n K 2 dX6_costOf_24 rfl rfl ?_
  refine r_iald K (j := i) rfl rfl (by omega) (by decide) dX6_costOf_25 ?_
  refine r_aload_n K 1 dX6_costOf_26 rfl rfl ?_
  refine r_getR K rfl rfl ff_6_now qw_545 dX6_costOf_27 ?_
  refine r_bipush K (v := 35) dX6_costOf_30 (by decide) ?_
  refine r_iload_n K 2 dX6_costOf_32 rfl rfl ?_
  refine r_iadd K dX6_costOf_33 ?_
  refine r_iald K (j := 35 + i) rfl (nI_add 35 i) (by omega) (by decide) dX6_costOf_34 ?_
  refine r_top_eq (ab_wy L i) (hrow.2.2.2.2.2 i hi).2 ?_
  refine r_isub K dX6_costOf_35 ?_
  refine r_callSi K [.int ((M 11 i) - (ab_wy L i))] [] dX6_costOf_36 mf_X6_far qw_715 qw_716 (cm_far l g t M ((M 11 i) - (ab_wy L i))) rfl rfl (by decide) (Nat.le_of_ble_eq_true rfl) (fun r M1 hp => ?_)
  obtain ⟨hp, he⟩ := hp
  have he := he.symm
  subst he
  subst hp
  refine r_istore_n K [(3, .int (ab_abs ((M 11 i) - (ab_wy L i)))), (2, .int (ab_abs ((M 10 i) - (ab_wx L i)))), (0, .ref (g.2.2 0)), (1, .int (nI i))] dX6_costOf_39 rfl (by decide) rfl ?_
  refine r_aload_n K 2 dX6_costOf_40 rfl rfl ?_
  refine r_getR K rfl rfl ff_6_now qw_545 dX6_costOf_41 ?_
  refine r_iconst K (v := 1) dX6_costOf_44 (by decide) ?_
  refine r_iald K (j := 1) rfl rfl (by decide) (by decide) dX6_costOf_45 ?_
  refine r_top_eq (nI (ab_way L)) hrow.2.1 ?_
  refine r_if_ne K 55 dX6_costOf_46 (by decide) (fun h_1 => ?_) (fun h_1 => ?_)
  · have nh_1 : ¬ ab_way L = 0 := mt (nf_eq rfl rfl (by omega) (by omega)).mpr h_1
    refine r_aload_n K 2 dX6_costOf_55 rfl rfl ?_
    refine r_getR K rfl rfl ff_6_now qw_545 dX6_costOf_56 ?_
    refine r_iconst K (v := 1) dX6_costOf_59 (by decide) ?_
    refine r_iald K (j := 1) rfl rfl (by decide) (by decide) dX6_costOf_60 ?_
    refine r_top_eq (nI (ab_way L)) hrow.2.1 ?_
    refine r_iconst K (v := 1) dX6_costOf_61 (by decide) ?_
    refine r_icmp_ne K 78 dX6_costOf_62 (by decide) (fun h_2 => ?_) (fun h_2 => ?_)
    · have nh_2 : ¬ ab_way L = 1 := mt (nf_eq rfl rfl (by omega) (by omega)).mpr h_2
      refine r_iload_n K 1 dX6_costOf_78 rfl rfl ?_
      refine r_iload_n K 1 dX6_costOf_79 rfl rfl ?_
      refine r_imul K dX6_costOf_80 ?_
      refine r_iload_n K 0 dX6_costOf_81 rfl rfl ?_
      refine r_iload_n K 0 dX6_costOf_82 rfl rfl ?_
      refine r_imul K dX6_costOf_83 ?_
      refine r_iadd K dX6_costOf_84 ?_
      have hw : ab_way L = 2 := by omega
      exact hr _ _ _ _ dX6_costOf_85 ⟨by simp only [ab_cost, hw, ab_way_cost], rfl⟩
    · have nh_2 : ab_way L = 1 := (nf_eq rfl rfl (by omega) (by omega)).mp h_2
      refine r_iload_n K 1 dX6_costOf_65 rfl rfl ?_
      refine r_iload_n K 0 dX6_costOf_66 rfl rfl ?_
      refine r_icmp_le K 74 dX6_costOf_67 (by decide) (fun h_3 => ?_) (fun h_3 => ?_)
      · refine r_iload_n K 0 dX6_costOf_74 rfl rfl ?_
        refine r_goto K 85 dX6_costOf_75 (by decide) ?_
        have hw : ab_way L = 1 := by omega
        exact hr _ _ _ _ dX6_costOf_85 ⟨by simp only [ab_cost, hw, ab_way_cost]; exact (ab_max_eq2 h_3).symm, rfl⟩
      · refine r_iload_n K 1 dX6_costOf_70 rfl rfl ?_
        refine r_goto K 85 dX6_costOf_71 (by decide) ?_
        have hw : ab_way L = 1 := by omega
        exact hr _ _ _ _ dX6_costOf_85 ⟨by simp only [ab_cost, hw, ab_way_cost]; exact (ab_max_eq h_3).symm, rfl⟩
  · have nh_1 : ab_way L = 0 := (nf_eq rfl rfl (by omega) (by omega)).mp h_1
    refine r_iload_n K 1 dX6_costOf_49 rfl rfl ?_
    refine r_iload_n K 0 dX6_costOf_50 rfl rfl ?_
    refine r_iadd K dX6_costOf_51 ?_
    refine r_goto K 85 dX6_costOf_52 (by decide) ?_
    have hw : ab_way L = 0 := by omega
    exact hr _ _ _ _ dX6_costOf_85 ⟨by simp only [ab_cost, hw, ab_way_cost], rfl⟩
set_option maxHeartbeats 4000000 in
set_option maxRecDepth 100000 in
theorem cm_mayBe (l : Launch) (g : rs_G) (t : Nat × Nat) (M : rs_M) (a : Nat) (ha : a = 1 ∨ a = 13) (L : ab_L) (hok : ab_ok L) (hrow : m_row (M a) L) (tp : Int32) (ks : List Nat) (i : Nat) (hlen : ks.length = i) (hi : i < 17) (h8 : ∀ x ∈ ks, x < 8) (hg : m_g M i (ab_geo tp ks)) (hk7 : ∀ j, ks.getLast? = some j → M 7 i = nI j) (k : Nat) (hk : k < 8) : rs_Ci l g mk t yX6_mayBe cX6_mayBe 7 .boolean 3 [.ref (g.2.2 0), .ref (g.2.2 a), .int (nI (i + 1)), .int (nI k), .int tp] M (fun r M1 => ab_b01 r (ab_may tp L ks k) ∧ m_g M1 (i + 1) (ab_geo tp (ks ++ [k])) ∧ M1 7 (i + 1) = nI k ∧ m_fs M M1 (i + 1)) := by
  have hma : mk[a]? = some (0, 53, []) := by rcases ha with rfl | rfl <;> rfl
  refine rs_ofz (plainFor_of_name (by decide)) (Nat.le_of_ble_eq_true rfl) ?_
  intro Y K hr
  show Y M 0 [(0, .ref (g.2.2 0)), (1, .ref (g.2.2 a)), (2, .int (nI (i + 1))), (3, .int (nI k)), (4, .int tp)] []
  refine r_aload_n K 0 dX6_mayBe_0 rfl rfl ?_
  refine r_getR K rfl rfl ff_6_keys qw_554 dX6_mayBe_1 ?_
  refine r_iload_n K 2 dX6_mayBe_4 rfl rfl ?_
  refine r_iload_n K 3 dX6_mayBe_5 rfl rfl ?_
  refine r_iast K (j := i + 1) rfl rfl (by omega) (by decide) dX6_mayBe_6 ?_
  refine r_aload_n K 0 dX6_mayBe_7 rfl rfl ?_
  refine r_iload_n K 2 dX6_mayBe_8 rfl rfl ?_
  refine r_iload K 4 dX6_mayBe_9 rfl ?_
  have hf1 : m_fs M (rs_st M 7 (i + 1) (nI k)) (i + 1) := m_fs_st (by decide) (by decide) (Nat.le_refl _)
  refine r_callVv K [.int (nI (i + 1)), .int tp] [] dX6_mayBe_11 mf_X6_lays rfl rfl qw_701 qw_703 qs_30 (cm_lays l g t (rs_st M 7 (i + 1) (nI k)) i (by omega) _ (m_g_fs hg hf1 (by omega)) k hk (by rw [rs_st_eq]) tp) rfl rfl (by decide) (Nat.le_of_ble_eq_true rfl) (fun M2 hp => ?_)
  obtain ⟨hp1, hp2, hp3⟩ := hp
  have hf2 := m_fs_tr hf1 hp2
  have hrow2 : m_row (M2 a) L := by rw [hf2.1 a (by omega)]; exact hrow
  have ht20 := hok.2.2.2.2.1
  refine r_aload_n K 1 dX6_mayBe_14 rfl rfl ?_
  refine r_iconst K (v := 2) dX6_mayBe_15 (by decide) ?_
  refine r_iald K (j := 2) hma rfl (by decide) (by decide) dX6_mayBe_16 ?_
  refine r_top_eq (nI (ab_tail L)) hrow2.2.2.1 ?_
  refine r_istore K [(5, .int (nI (ab_tail L))), (0, .ref (g.2.2 0)), (1, .ref (g.2.2 a)), (2, .int (nI (i + 1))), (3, .int (nI k)), (4, .int tp)] dX6_mayBe_17 (by decide) rfl ?_
  refine r_iload K 0 dX6_mayBe_19 rfl ?_
  refine r_if_eq K 84 dX6_mayBe_21 (by decide) (fun h_1 => ?_) (fun h_1 => ?_)
  · have nh_1 : ab_tail L = 0 := (nf_eq rfl rfl (by omega) (by omega)).mp h_1
    refine r_iconst K (v := 1) dX6_mayBe_84 (by decide) ?_
    refine r_goto K 89 dX6_mayBe_85 (by decide) ?_
    refine r_istore K [(6, .int 1), (5, .int (nI (ab_tail L))), (0, .ref (g.2.2 0)), (1, .ref (g.2.2 a)), (2, .int (nI (i + 1))), (3, .int (nI k)), (4, .int tp)] dX6_mayBe_89 (by decide) rfl ?_
    refine r_iload K 0 dX6_mayBe_91 rfl ?_
    refine r_if_eq K 123 dX6_mayBe_93 (by decide) (fun h => absurd h (by decide)) (fun _ => ?_)
    refine r_iload_n K 4 dX6_mayBe_96 rfl rfl ?_
    refine r_iconst K (v := 1) dX6_mayBe_97 (by decide) ?_
    refine r_icmp_eq K 119 dX6_mayBe_98 (by decide) (fun h_2 => ?_) (fun h_2 => ?_)
    · have nh_2 : (i + 1) = 1 := (nf_eq rfl rfl (by omega) (by omega)).mp h_2
      refine r_iconst K (v := 1) dX6_mayBe_119 (by decide) ?_
      refine r_goto K 124 dX6_mayBe_120 (by decide) ?_
      have hP : m_g M2 (i + 1) (ab_geo tp (ks ++ [k])) ∧ M2 7 (i + 1) = nI k ∧ m_fs M M2 (i + 1) := ⟨by rw [ab_geo_app]; exact hp1, by rw [hp3, rs_st_eq], hf2⟩
      have hroom : ab_room L (ks.length + 1) (ab_step tp (ab_geo tp ks) k).1 (ab_step tp (ab_geo tp ks) k).2.1 := Or.inl (by omega)
      have hbar : ∀ z, ks.getLast? = some z → ¬ ab_barred (ab_bar L) z k := by
        intro z hz
        rw [List.length_eq_zero_iff.mp (show ks.length = 0 by omega)] at hz; cases hz
      exact hr _ _ _ _ dX6_mayBe_124 (Or.inr rfl) ⟨Or.inl ⟨rfl, hbar, hroom⟩, hP⟩
    · have nh_2 : ¬ (i + 1) = 1 := mt (nf_eq rfl rfl (by omega) (by omega)).mpr h_2
      obtain ⟨j, hj⟩ : ∃ j, ks.getLast? = some j := by
        cases q : ks.getLast? with
        | none => rw [List.getLast?_eq_none_iff] at q; rw [q] at hlen; simp at hlen; omega
        | some j => exact ⟨j, rfl⟩
      refine r_aload_n K 3 dX6_mayBe_101 rfl rfl ?_
      refine r_iconst K (v := 0) dX6_mayBe_102 (by decide) ?_
      refine r_iald K (j := 0) hma rfl (by decide) (by decide) dX6_mayBe_103 ?_
      refine r_top_eq (nI (ab_bar L)) hrow2.1 ?_
      refine r_aload_n K 2 dX6_mayBe_104 rfl rfl ?_
      refine r_getR K rfl rfl ff_6_keys qw_554 dX6_mayBe_105 ?_
      refine r_iload_n K 4 dX6_mayBe_108 rfl rfl ?_
      refine r_iconst K (v := 1) dX6_mayBe_109 (by decide) ?_
      refine r_isub K dX6_mayBe_110 ?_
      refine r_iald K (j := i) rfl (nI_pred i) (by omega) (by decide) dX6_mayBe_111 ?_
      refine r_top_eq (nI j) (by rw [hf2.2 7 i (by decide) (by decide) (by omega)]; exact hk7 j hj) ?_
      refine r_iload_n K 5 dX6_mayBe_112 rfl rfl ?_
      refine r_callSi K [.int (nI (ab_bar L)), .int (nI j), .int (nI k)] [] dX6_mayBe_113 mf_X6_isBarred qw_718 qw_719 (cm_isBarred l g t M2 (ab_bar L) j k hok.2.2.1 (h8 j (List.mem_of_getLast? hj)) hk) rfl rfl (by decide) (Nat.le_of_ble_eq_true rfl) (fun r M1 hp => ?_)
      obtain ⟨hp, he⟩ := hp
      have he := he.symm
      subst he
      rcases hp with ⟨rfl, hb_3⟩ | ⟨rfl, hb_3⟩
      · refine r_if_ne K 123 dX6_mayBe_116 (by decide) (fun _ => ?_) (fun h => absurd h (by decide))
        refine r_iconst K (v := 0) dX6_mayBe_123 (by decide) ?_
        have hP : m_g M2 (i + 1) (ab_geo tp (ks ++ [k])) ∧ M2 7 (i + 1) = nI k ∧ m_fs M M2 (i + 1) := ⟨by rw [ab_geo_app]; exact hp1, by rw [hp3, rs_st_eq], hf2⟩
        exact hr _ _ _ _ dX6_mayBe_124 (Or.inl rfl) ⟨Or.inr ⟨rfl, fun q => q.1 j hj hb_3⟩, hP⟩
      · refine r_if_ne K 123 dX6_mayBe_116 (by decide) (fun h => absurd h (by decide)) (fun _ => ?_)
        refine r_iconst K (v := 1) dX6_mayBe_119 (by decide) ?_
        refine r_goto K 124 dX6_mayBe_120 (by decide) ?_
        have hP : m_g M2 (i + 1) (ab_geo tp (ks ++ [k])) ∧ M2 7 (i + 1) = nI k ∧ m_fs M M2 (i + 1) := ⟨by rw [ab_geo_app]; exact hp1, by rw [hp3, rs_st_eq], hf2⟩
        have hroom : ab_room L (ks.length + 1) (ab_step tp (ab_geo tp ks) k).1 (ab_step tp (ab_geo tp ks) k).2.1 := Or.inl (by omega)
        have hbar : ∀ z, ks.getLast? = some z → ¬ ab_barred (ab_bar L) z k := by
          intro z hz
          rw [hj] at hz; cases hz; exact hb_3
        exact hr _ _ _ _ dX6_mayBe_124 (Or.inr rfl) ⟨Or.inl ⟨rfl, hbar, hroom⟩, hP⟩
  · have nh_1 : ¬ ab_tail L = 0 := mt (nf_eq rfl rfl (by omega) (by omega)).mpr h_1
    refine r_aload_n K 1 dX6_mayBe_24 rfl rfl ?_
    refine r_getR K rfl rfl ff_6_slopeX qw_555 dX6_mayBe_25 ?_
    refine r_iload_n K 3 dX6_mayBe_28 rfl rfl ?_
    refine r_iald K (j := i + 1) rfl rfl (by omega) (by decide) dX6_mayBe_29 ?_
    refine r_top_eq ((ab_step tp (ab_geo tp ks) k).1) hp1.1 ?_
    refine r_aload_n K 2 dX6_mayBe_30 rfl rfl ?_
    refine r_bipush K (v := 17) dX6_mayBe_31 (by decide) ?_
    refine r_iload_n K 3 dX6_mayBe_33 rfl rfl ?_
    refine r_iadd K dX6_mayBe_34 ?_
    refine r_iald K (j := 17 + (i + 1)) hma (nI_add 17 _) (by omega) (by decide) dX6_mayBe_35 ?_
    refine r_top_eq (ab_wx L (i + 1)) (hrow2.2.2.2.2.2 (i + 1) (by omega)).1 ?_
    refine r_isub K dX6_mayBe_36 ?_
    refine r_aload_n K 2 dX6_mayBe_37 rfl rfl ?_
    refine r_bipush K (v := 17) dX6_mayBe_38 (by decide) ?_
    refine r_iload_n K 3 dX6_mayBe_40 rfl rfl ?_
    refine r_iadd K dX6_mayBe_41 ?_
    refine r_iconst K (v := 1) dX6_mayBe_42 (by decide) ?_
    refine r_isub K dX6_mayBe_43 ?_
    refine r_iald K (j := 17 + i) hma (by rw [show (17 : Int32) = nI 17 from rfl, nI_add]; exact nI_pred _) (by omega) (by decide) dX6_mayBe_44 ?_
    refine r_top_eq (ab_wx L i) (hrow2.2.2.2.2.2 i (by omega)).1 ?_
    refine r_iadd K dX6_mayBe_45 ?_
    refine r_top_eq ((ab_step tp (ab_geo tp ks) k).1 - (ab_wx L (i + 1) - ab_wx L i)) ab_room_eq ?_
    refine r_callSi K [.int ((ab_step tp (ab_geo tp ks) k).1 - (ab_wx L (i + 1) - ab_wx L i))] [] dX6_mayBe_46 mf_X6_far qw_715 qw_716 (cm_far l g t M2 ((ab_step tp (ab_geo tp ks) k).1 - (ab_wx L (i + 1) - ab_wx L i))) rfl rfl (by decide) (Nat.le_of_ble_eq_true rfl) (fun r M1 hp => ?_)
    obtain ⟨hp, he⟩ := hp
    have he := he.symm
    subst he
    subst hp
    refine r_iload K 0 dX6_mayBe_49 rfl ?_
    refine r_icmp_gt K 88 dX6_mayBe_51 (by decide) (fun h_4 => ?_) (fun h_4 => ?_)
    · refine r_iconst K (v := 0) dX6_mayBe_88 (by decide) ?_
      refine r_istore K [(6, .int 0), (5, .int (nI (ab_tail L))), (0, .ref (g.2.2 0)), (1, .ref (g.2.2 a)), (2, .int (nI (i + 1))), (3, .int (nI k)), (4, .int tp)] dX6_mayBe_89 (by decide) rfl ?_
      refine r_iload K 0 dX6_mayBe_91 rfl ?_
      refine r_if_eq K 123 dX6_mayBe_93 (by decide) (fun _ => ?_) (fun h => absurd h (by decide))
      refine r_iconst K (v := 0) dX6_mayBe_123 (by decide) ?_
      have hP : m_g M2 (i + 1) (ab_geo tp (ks ++ [k])) ∧ M2 7 (i + 1) = nI k ∧ m_fs M M2 (i + 1) := ⟨by rw [ab_geo_app]; exact hp1, by rw [hp3, rs_st_eq], hf2⟩
      have hno : ¬ ab_room L (ks.length + 1) (ab_step tp (ab_geo tp ks) k).1 (ab_step tp (ab_geo tp ks) k).2.1 := by
        rw [hlen]
        exact fun q => q.elim (fun q => by omega) (fun q => absurd q.1 (Int32.not_le.mpr h_4))
      exact hr _ _ _ _ dX6_mayBe_124 (Or.inl rfl) ⟨Or.inr ⟨rfl, fun q => hno q.2⟩, hP⟩
    · refine r_aload_n K 1 dX6_mayBe_54 rfl rfl ?_
      refine r_getR K rfl rfl ff_6_slopeY qw_556 dX6_mayBe_55 ?_
      refine r_iload_n K 3 dX6_mayBe_58 rfl rfl ?_
      refine r_iald K (j := i + 1) rfl rfl (by omega) (by decide) dX6_mayBe_59 ?_
      refine r_top_eq ((ab_step tp (ab_geo tp ks) k).2.1) hp1.2.1 ?_
      refine r_aload_n K 2 dX6_mayBe_60 rfl rfl ?_
      refine r_bipush K (v := 35) dX6_mayBe_61 (by decide) ?_
      refine r_iload_n K 3 dX6_mayBe_63 rfl rfl ?_
      refine r_iadd K dX6_mayBe_64 ?_
      refine r_iald K (j := 35 + (i + 1)) hma (nI_add 35 _) (by omega) (by decide) dX6_mayBe_65 ?_
      refine r_top_eq (ab_wy L (i + 1)) (hrow2.2.2.2.2.2 (i + 1) (by omega)).2 ?_
      refine r_isub K dX6_mayBe_66 ?_
      refine r_aload_n K 2 dX6_mayBe_67 rfl rfl ?_
      refine r_bipush K (v := 35) dX6_mayBe_68 (by decide) ?_
      refine r_iload_n K 3 dX6_mayBe_70 rfl rfl ?_
      refine r_iadd K dX6_mayBe_71 ?_
      refine r_iconst K (v := 1) dX6_mayBe_72 (by decide) ?_
      refine r_isub K dX6_mayBe_73 ?_
      refine r_iald K (j := 35 + i) hma (by rw [show (35 : Int32) = nI 35 from rfl, nI_add]; exact nI_pred _) (by omega) (by decide) dX6_mayBe_74 ?_
      refine r_top_eq (ab_wy L i) (hrow2.2.2.2.2.2 i (by omega)).2 ?_
      refine r_iadd K dX6_mayBe_75 ?_
      refine r_top_eq ((ab_step tp (ab_geo tp ks) k).2.1 - (ab_wy L (i + 1) - ab_wy L i)) ab_room_eq ?_
      refine r_callSi K [.int ((ab_step tp (ab_geo tp ks) k).2.1 - (ab_wy L (i + 1) - ab_wy L i))] [] dX6_mayBe_76 mf_X6_far qw_715 qw_716 (cm_far l g t M2 ((ab_step tp (ab_geo tp ks) k).2.1 - (ab_wy L (i + 1) - ab_wy L i))) rfl rfl (by decide) (Nat.le_of_ble_eq_true rfl) (fun r M1 hp => ?_)
      obtain ⟨hp, he⟩ := hp
      have he := he.symm
      subst he
      subst hp
      refine r_iload K 0 dX6_mayBe_79 rfl ?_
      refine r_icmp_gt K 88 dX6_mayBe_81 (by decide) (fun h_5 => ?_) (fun h_5 => ?_)
      · refine r_iconst K (v := 0) dX6_mayBe_88 (by decide) ?_
        refine r_istore K [(6, .int 0), (5, .int (nI (ab_tail L))), (0, .ref (g.2.2 0)), (1, .ref (g.2.2 a)), (2, .int (nI (i + 1))), (3, .int (nI k)), (4, .int tp)] dX6_mayBe_89 (by decide) rfl ?_
        refine r_iload K 0 dX6_mayBe_91 rfl ?_
        refine r_if_eq K 123 dX6_mayBe_93 (by decide) (fun _ => ?_) (fun h => absurd h (by decide))
        refine r_iconst K (v := 0) dX6_mayBe_123 (by decide) ?_
        have hP : m_g M2 (i + 1) (ab_geo tp (ks ++ [k])) ∧ M2 7 (i + 1) = nI k ∧ m_fs M M2 (i + 1) := ⟨by rw [ab_geo_app]; exact hp1, by rw [hp3, rs_st_eq], hf2⟩
        have hno : ¬ ab_room L (ks.length + 1) (ab_step tp (ab_geo tp ks) k).1 (ab_step tp (ab_geo tp ks) k).2.1 := by
          rw [hlen]
          exact fun q => q.elim (fun q => by omega) (fun q => absurd q.2 (Int32.not_le.mpr h_5))
        exact hr _ _ _ _ dX6_mayBe_124 (Or.inl rfl) ⟨Or.inr ⟨rfl, fun q => hno q.2⟩, hP⟩
      · refine r_iconst K (v := 1) dX6_mayBe_84 (by decide) ?_
        refine r_goto K 89 dX6_mayBe_85 (by decide) ?_
        refine r_istore K [(6, .int 1), (5, .int (nI (ab_tail L))), (0, .ref (g.2.2 0)), (1, .ref (g.2.2 a)), (2, .int (nI (i + 1))), (3, .int (nI k)), (4, .int tp)] dX6_mayBe_89 (by decide) rfl ?_
        refine r_iload K 0 dX6_mayBe_91 rfl ?_
        refine r_if_eq K 123 dX6_mayBe_93 (by decide) (fun h => absurd h (by decide)) (fun _ => ?_)
        refine r_iload_n K 4 dX6_mayBe_96 rfl rfl ?_
        refine r_iconst K (v := 1) dX6_mayBe_97 (by decide) ?_
        refine r_icmp_eq K 119 dX6_mayBe_98 (by decide) (fun h_6 => ?_) (fun h_6 => ?_)
        · have nh_6 : (i + 1) = 1 := (nf_eq rfl rfl (by omega) (by omega)).mp h_6
          refine r_iconst K (v := 1) dX6_mayBe_119 (by decide) ?_
          refine r_goto K 124 dX6_mayBe_120 (by decide) ?_
          have hP : m_g M2 (i + 1) (ab_geo tp (ks ++ [k])) ∧ M2 7 (i + 1) = nI k ∧ m_fs M M2 (i + 1) := ⟨by rw [ab_geo_app]; exact hp1, by rw [hp3, rs_st_eq], hf2⟩
          have hroom : ab_room L (ks.length + 1) (ab_step tp (ab_geo tp ks) k).1 (ab_step tp (ab_geo tp ks) k).2.1 := Or.inr ⟨by rw [hlen]; exact Int32.not_lt.mp h_4, by rw [hlen]; exact Int32.not_lt.mp h_5⟩
          have hbar : ∀ z, ks.getLast? = some z → ¬ ab_barred (ab_bar L) z k := by
            intro z hz
            rw [List.length_eq_zero_iff.mp (show ks.length = 0 by omega)] at hz; cases hz
          exact hr _ _ _ _ dX6_mayBe_124 (Or.inr rfl) ⟨Or.inl ⟨rfl, hbar, hroom⟩, hP⟩
        · have nh_6 : ¬ (i + 1) = 1 := mt (nf_eq rfl rfl (by omega) (by omega)).mpr h_6
          obtain ⟨j, hj⟩ : ∃ j, ks.getLast? = some j := by
            cases q : ks.getLast? with
            | none => rw [List.getLast?_eq_none_iff] at q; rw [q] at hlen; simp at hlen; omega
            | some j => exact ⟨j, rfl⟩
          refine r_aload_n K 3 dX6_mayBe_101 rfl rfl ?_
          refine r_iconst K (v := 0) dX6_mayBe_102 (by decide) ?_
          refine r_iald K (j := 0) hma rfl (by decide) (by decide) dX6_mayBe_103 ?_
          refine r_top_eq (nI (ab_bar L)) hrow2.1 ?_
          refine r_aload_n K 2 dX6_mayBe_104 rfl rfl ?_
          refine r_getR K rfl rfl ff_6_keys qw_554 dX6_mayBe_105 ?_
          refine r_iload_n K 4 dX6_mayBe_108 rfl rfl ?_
          refine r_iconst K (v := 1) dX6_mayBe_109 (by decide) ?_
          refine r_isub K dX6_mayBe_110 ?_
          refine r_iald K (j := i) rfl (nI_pred i) (by omega) (by decide) dX6_mayBe_111 ?_
          refine r_top_eq (nI j) (by rw [hf2.2 7 i (by decide) (by decide) (by omega)]; exact hk7 j hj) ?_
          refine r_iload_n K 5 dX6_mayBe_112 rfl rfl ?_
          refine r_callSi K [.int (nI (ab_bar L)), .int (nI j), .int (nI k)] [] dX6_mayBe_113 mf_X6_isBarred qw_718 qw_719 (cm_isBarred l g t M2 (ab_bar L) j k hok.2.2.1 (h8 j (List.mem_of_getLast? hj)) hk) rfl rfl (by decide) (Nat.le_of_ble_eq_true rfl) (fun r M1 hp => ?_)
          obtain ⟨hp, he⟩ := hp
          have he := he.symm
          subst he
          rcases hp with ⟨rfl, hb_7⟩ | ⟨rfl, hb_7⟩
          · refine r_if_ne K 123 dX6_mayBe_116 (by decide) (fun _ => ?_) (fun h => absurd h (by decide))
            refine r_iconst K (v := 0) dX6_mayBe_123 (by decide) ?_
            have hP : m_g M2 (i + 1) (ab_geo tp (ks ++ [k])) ∧ M2 7 (i + 1) = nI k ∧ m_fs M M2 (i + 1) := ⟨by rw [ab_geo_app]; exact hp1, by rw [hp3, rs_st_eq], hf2⟩
            exact hr _ _ _ _ dX6_mayBe_124 (Or.inl rfl) ⟨Or.inr ⟨rfl, fun q => q.1 j hj hb_7⟩, hP⟩
          · refine r_if_ne K 123 dX6_mayBe_116 (by decide) (fun h => absurd h (by decide)) (fun _ => ?_)
            refine r_iconst K (v := 1) dX6_mayBe_119 (by decide) ?_
            refine r_goto K 124 dX6_mayBe_120 (by decide) ?_
            have hP : m_g M2 (i + 1) (ab_geo tp (ks ++ [k])) ∧ M2 7 (i + 1) = nI k ∧ m_fs M M2 (i + 1) := ⟨by rw [ab_geo_app]; exact hp1, by rw [hp3, rs_st_eq], hf2⟩
            have hroom : ab_room L (ks.length + 1) (ab_step tp (ab_geo tp ks) k).1 (ab_step tp (ab_geo tp ks) k).2.1 := Or.inr ⟨by rw [hlen]; exact Int32.not_lt.mp h_4, by rw [hlen]; exact Int32.not_lt.mp h_5⟩
            have hbar : ∀ z, ks.getLast? = some z → ¬ ab_barred (ab_bar L) z k := by
              intro z hz
              rw [hj] at hz; cases hz; exact hb_7
            exact hr _ _ _ _ dX6_mayBe_124 (Or.inr rfl) ⟨Or.inl ⟨rfl, hbar, hroom⟩, hP⟩
