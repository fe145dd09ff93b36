/-! the line again, with other keys -/
theorem m_set_take {ks : List Nat} {i k : Nat} : (ks.set i k).take i = ks.take i := by
  apply List.ext_getElem?
  intro j
  rcases Nat.lt_or_ge j i with h | h
  · rw [List.getElem?_take_of_lt h, List.getElem?_take_of_lt h, List.getElem?_set_ne (by omega)]
  · rw [List.getElem?_eq_none (by rw [List.length_take]; omega), List.getElem?_eq_none (by rw [List.length_take]; omega)]
theorem m_set_getD {ks : List Nat} {i j k : Nat} (hi : i < ks.length) : (ks.set i k).getD j 0 = if j = i then k else ks.getD j 0 := by
  by_cases e : j = i
  · subst e; rw [if_pos rfl, List.getD, List.getElem?_set_self hi]; rfl
  · rw [if_neg e, List.getD, List.getElem?_set_ne (Ne.symm e)]; rfl
theorem m_set_lt {ks : List Nat} {i k : Nat} (h : ∀ x ∈ ks, x < 8) (hk : k < 8) : ∀ x ∈ ks.set i k, x < 8 := by
  intro x hx
  rcases List.mem_or_eq_of_mem_set hx with q | q
  · exact h x q
  · rw [q]; exact hk
set_option maxHeartbeats 4000000 in
set_option maxRecDepth 100000 in
theorem cm_layAgain (l : Launch) (g : rs_G) (t : Nat × Nat) (M : rs_M) (A : ab_S) (hS : m_S M A) (ks : List Nat) (hlen : ks.length = (ab_ks A.1).length) (h8 : ∀ x ∈ ks, x < 8) (q : Nat) (hq : q ≤ (ab_ks A.1).length) (hg : m_g M q (ab_geo A.2.1 (ks.take q))) (h7 : ∀ i, q < i → i ≤ (ab_ks A.1).length → M 7 i = nI (ks.getD (i - 1) 0)) : rs_Cv l g mk t yX6_layAgain cX6_layAgain 3 3 [.ref (g.2.2 0), .int (nI (q + 1))] M (fun M1 => m_g M1 (ab_ks A.1).length (ab_geo A.2.1 ks) ∧ m_fs M M1 (q + 1) ∧ M1 7 = M 7) := by
  obtain ⟨hrow, hok, ht, h0, hun, hse, htx, him, hz⟩ := id hS
  have hn12 := hok.1
  refine rs_ofv (plainFor_of_name (by decide)) (Nat.le_of_ble_eq_true rfl) ?_
  intro Y K hr
  show Y M 0 [(0, .ref (g.2.2 0)), (1, .int (nI (q + 1)))] []
  refine r_iload_n K 1 dX6_layAgain_0 rfl rfl ?_
  refine r_istore_n K [(2, .int (nI (q + 1))), (0, .ref (g.2.2 0)), (1, .int (nI (q + 1)))] dX6_layAgain_1 rfl (by decide) rfl ?_
  have lp : ∀ (f : Nat) (i : Nat) (Mi : rs_M), (13 - i < f) → (q ≤ i) → (i ≤ (ab_ks A.1).length) → (m_g Mi i (ab_geo A.2.1 (ks.take i)) ∧ m_fs M Mi (q + 1) ∧ Mi 7 = M 7) → Y Mi 2 [(2, .int (nI (i + 1))), (0, .ref (g.2.2 0)), (1, .int (nI (q + 1)))] [] := by
    intro f
    induction f with
    | zero =>
      intro i Mi hf
      exact absurd hf (Nat.not_lt_zero _)
    | succ f ih =>
      intro i Mi hf hqi hi hI
      refine r_iload_n K 0 dX6_layAgain_2 rfl rfl ?_
      refine r_aload_n K 1 dX6_layAgain_3 rfl rfl ?_
      refine r_getR K rfl rfl ff_6_now qw_545 dX6_layAgain_4 ?_
      refine r_iconst K (v := 3) dX6_layAgain_7 (by decide) ?_
      refine r_iald K (j := 3) rfl rfl (by decide) (by decide) dX6_layAgain_8 ?_
      refine r_top_eq (nI (ab_ks A.1).length) (by rw [hI.2.1.1 1 (by decide)]; exact hrow.2.2.2.1) ?_
      refine r_icmp_gt K 27 dX6_layAgain_9 (by decide) (fun h_1 => ?_) (fun h_1 => ?_)
      · have nh_1 : (ab_ks A.1).length < (i + 1) := (nf_lt rfl rfl (by omega) (by omega)).mp h_1
        have hin : i = (ab_ks A.1).length := by omega
        have hg9 := hI.1
        rw [hin, ← hlen, List.take_length, hlen] at hg9
        exact hr _ _ _ dX6_layAgain_27 ⟨hg9, hI.2.1, hI.2.2⟩
      · have nh_1 : ¬ (ab_ks A.1).length < (i + 1) := mt (nf_lt rfl rfl (by omega) (by omega)).mpr h_1
        refine r_aload_n K 1 dX6_layAgain_12 rfl rfl ?_
        refine r_iload_n K 0 dX6_layAgain_13 rfl rfl ?_
        refine r_aload_n K 1 dX6_layAgain_14 rfl rfl ?_
        refine r_getI K rfl rfl ff_6_taper qw_544 dX6_layAgain_15 ?_
        refine r_top_eq A.2.1 (by rw [hI.2.1.1 0 (by decide)]; exact h0) ?_
        refine r_callVv K [.int (nI (i + 1)), .int A.2.1] [] dX6_layAgain_18 mf_X6_lays rfl rfl qw_701 qw_703 qs_30 (cm_lays l g t Mi i (by omega) (ab_geo A.2.1 (ks.take i)) hI.1 (ks.getD i 0) (ab_getD_lt h8 i) (by rw [hI.2.2]; exact h7 (i + 1) (by omega) (by omega)) A.2.1) rfl rfl (by decide) (Nat.le_of_ble_eq_true rfl) (fun Ml hp => ?_)
        obtain ⟨hl1, hl2, hl3⟩ := hp
        refine r_iinc_n K 0 [(2, .int (nI (i + 1 + 1))), (0, .ref (g.2.2 0)), (1, .int (nI (q + 1)))] dX6_layAgain_21 rfl (by decide) rfl ?_
        refine r_goto K 2 dX6_layAgain_24 (by decide) ?_
        exact ih (i + 1) Ml (by omega) (by omega) (by omega) ⟨by rw [ab_take_s (by omega), ab_geo_app]; exact hl1, m_fs_tr hI.2.1 (m_fs_mono hl2 (by omega)), hl3.trans hI.2.2⟩
  exact lp 14 q M (by omega) (by omega) (by omega) ⟨hg, m_fs_rf _ _, rfl⟩
set_option maxHeartbeats 4000000 in
set_option maxRecDepth 100000 in
theorem cm_unseen (l : Launch) (g : rs_G) (t : Nat × Nat) (M : rs_M) (A : ab_S) (hS : m_S M A) (i : Int32) : rs_Ci l g mk t yX6_unseen cX6_unseen 6 .int 4 [.ref (g.2.2 0), .int i] M (fun r M1 => m_R (ab_unseen A i, A) r M1) := by
  obtain ⟨hrow, hok, ht, h0, hun, hse, htx, him, hz⟩ := id hS
  have hn12 := hok.1
  have hs4 := hse.2.1
  have hg8 := ab_getD_lt hok.2.1
  refine rs_ofi (plainFor_of_name (by decide)) (Nat.le_of_ble_eq_true rfl) ?_
  intro Y K hr
  show Y M 0 [(0, .ref (g.2.2 0)), (1, .int i)] []
  refine r_iload_n K 1 dX6_unseen_0 rfl rfl ?_
  refine r_iconst K (v := 1) dX6_unseen_1 (by decide) ?_
  refine r_aload_n K 0 dX6_unseen_2 rfl rfl ?_
  refine r_getR K rfl rfl ff_6_now qw_545 dX6_unseen_3 ?_
  refine r_iconst K (v := 3) dX6_unseen_6 (by decide) ?_
  refine r_iald K (j := 3) rfl rfl (by decide) (by decide) dX6_unseen_7 ?_
  refine r_top_eq (nI (ab_ks A.1).length) hrow.2.2.2.1 ?_
  refine r_callSi K [.int i, .int 1, .int (nI (ab_ks A.1).length)] [] dX6_unseen_8 mf_X6_in qw_636 qw_637 (cm_in l g t M i 1 (nI (ab_ks A.1).length)) rfl rfl (by decide) (Nat.le_of_ble_eq_true rfl) (fun r M1 hp => ?_)
  obtain ⟨hp, he⟩ := hp
  have he := he.symm
  subst he
  rcases hp with ⟨rfl, hb_1⟩ | ⟨rfl, hb_1⟩
  · refine r_if_ne K 16 dX6_unseen_11 (by decide) (fun _ => ?_) (fun h => absurd h (by decide))
    obtain ⟨j, hj1, hj2, rfl⟩ := x_nat (a := 1) (b := (ab_ks A.1).length) hb_1 (by omega) (by omega)
    have jc : (nI j).toNatClampNeg = j := nI_clamp (by omega)
    have e0 : ab_unseen A (nI j) = _ := ab_if_pos hb_1
    rw [jc] at e0
    have hg9 := hg8 (j - 1)
    refine r_iconst K (v := 0) dX6_unseen_16 (by decide) ?_
    refine r_istore_n K [(2, .int 0), (0, .ref (g.2.2 0)), (1, .int (nI j))] dX6_unseen_17 rfl (by decide) rfl ?_
    refine r_iconst K (v := 0) dX6_unseen_18 (by decide) ?_
    refine r_istore_n K [(3, .int 0), (2, .int 0), (0, .ref (g.2.2 0)), (1, .int (nI j))] dX6_unseen_19 rfl (by decide) rfl ?_
    have lp : ∀ (f : Nat) (k : Nat) (Mi : rs_M), (8 - k < f) → (k ≤ 8) → (m_S Mi A) → Y Mi 20 [(3, .int (nI k)), (2, .int (ab_mask (ab_usP A.2.1 A.1 A.2.2.2.1 j) k)), (0, .ref (g.2.2 0)), (1, .int (nI j))] [] := by
      intro f
      induction f with
      | zero =>
        intro k Mi hf
        exact absurd hf (Nat.not_lt_zero _)
      | succ f ih =>
        intro k Mi hf hk hSi
        have ihO := ih
        refine r_iload_n K 0 dX6_unseen_20 rfl rfl ?_
        refine r_bipush K (v := 8) dX6_unseen_21 (by decide) ?_
        refine r_icmp_ge K 160 dX6_unseen_23 (by decide) (fun h_2 => ?_) (fun h_2 => ?_)
        · have nh_2 : 8 ≤ k := (nf_le rfl rfl (by omega) (by omega)).mp h_2
          refine r_iload_n K 1 dX6_unseen_160 rfl rfl ?_
          have hk8 : k = 8 := by omega
          subst hk8
          exact hr _ _ _ _ dX6_unseen_161 ⟨e0.symm, hSi⟩
        · have nh_2 : ¬ 8 ≤ k := mt (nf_le rfl rfl (by omega) (by omega)).mpr h_2
          obtain ⟨hrwi, -, -, h0i, -, hsi, -, -, hzi⟩ := id hSi
          refine r_aload_n K 2 dX6_unseen_26 rfl rfl ?_
          refine r_aload_n K 2 dX6_unseen_27 rfl rfl ?_
          refine r_getR K rfl rfl ff_6_now qw_545 dX6_unseen_28 ?_
          refine r_aload_n K 2 dX6_unseen_31 rfl rfl ?_
          refine r_getI K rfl rfl ff_6_taper qw_544 dX6_unseen_32 ?_
          refine r_top_eq A.2.1 h0i ?_
          refine r_callVv K [.ref (g.2.2 1), .int A.2.1] [] dX6_unseen_35 mf_X6_layRings rfl rfl qw_697 qw_699 qs_29 (cm_layRings l g t Mi 1 (Or.inl rfl) A.1 hok hrwi hzi A.2.1) rfl rfl (by decide) (Nat.le_of_ble_eq_true rfl) (fun Mr hp => ?_)
          obtain ⟨hp1, hp2⟩ := hp
          have hSr : m_S Mr A := m_S_k hSi (m_k_fs hp2)
          refine r_aload_n K 2 dX6_unseen_38 rfl rfl ?_
          refine r_getR K rfl rfl ff_6_keys qw_554 dX6_unseen_39 ?_
          refine r_iload_n K 3 dX6_unseen_42 rfl rfl ?_
          refine r_iald K (j := j) rfl rfl (by omega) (by decide) dX6_unseen_43 ?_
          refine r_top_eq (nI ((ab_ks A.1).getD (j - 1) 0)) ((hp1 j (by omega)).2 (by omega)) ?_
          refine r_iload_n K 0 dX6_unseen_44 rfl rfl ?_
          refine r_icmp_eq K 52 dX6_unseen_45 (by decide) (fun h_3 => ?_) (fun h_3 => ?_)
          · have nh_3 : (ab_ks A.1).getD (j - 1) 0 = k := (nf_eq rfl rfl (by omega) (by omega)).mp h_3
            refine r_iconst K (v := 0) dX6_unseen_52 (by decide) ?_
            refine r_istore K [(4, .int 0), (3, .int (nI k)), (2, .int (ab_mask (ab_usP A.2.1 A.1 A.2.2.2.1 j) k)), (0, .ref (g.2.2 0)), (1, .int (nI j))] dX6_unseen_53 (by decide) rfl ?_
            refine r_aload_n K 3 dX6_unseen_55 rfl rfl ?_
            refine r_getR K rfl rfl ff_6_keys qw_554 dX6_unseen_56 ?_
            refine r_iload_n K 4 dX6_unseen_59 rfl rfl ?_
            refine r_iload_n K 1 dX6_unseen_60 rfl rfl ?_
            refine r_iast K (j := j) rfl rfl (by omega) (by decide) dX6_unseen_61 ?_
            refine r_aload_n K 3 dX6_unseen_62 rfl rfl ?_
            refine r_iload_n K 4 dX6_unseen_63 rfl rfl ?_
            refine r_top_eq (nI (j - 1 + 1)) (by rw [show j - 1 + 1 = j by omega]) ?_
            have hSs : m_S (rs_st Mr 7 j (nI k)) A := m_S_k hSr ⟨fun c hc => rs_st_ne _ _ _ (by omega), fun q _ => by rw [rs_st_ne _ _ _ (by decide)], fun c c1 c2 => by rw [rs_st_ne _ _ _ (by omega)]⟩
            have hgs : m_g (rs_st Mr 7 j (nI k)) (j - 1) (ab_geo A.2.1 (((ab_ks A.1).set (j - 1) k).take (j - 1))) := by
              rw [m_set_take]
              have q := (hp1 (j - 1) (by omega)).1
              exact ⟨by rw [rs_st_ne _ _ _ (by decide)]; exact q.1, by rw [rs_st_ne _ _ _ (by decide)]; exact q.2.1, by rw [rs_st_ne _ _ _ (by decide)]; exact q.2.2.1, by rw [rs_st_ne _ _ _ (by decide)]; exact q.2.2.2⟩
            have hks7 : ∀ i, j - 1 < i → i ≤ (ab_ks A.1).length → (rs_st Mr 7 j (nI k)) 7 i = nI (((ab_ks A.1).set (j - 1) k).getD (i - 1) 0) := fun i i1 i2 => by
              rw [m_set_getD (by omega)]
              by_cases e : i = j
              · subst e; rw [rs_st_eq, if_pos rfl]
              · rw [rs_st_nk _ _ _ e, if_neg (by omega)]; exact (hp1 i i2).2 (by omega)
            refine r_callVv K [.int (nI (j - 1 + 1))] [] dX6_unseen_64 mf_X6_layAgain rfl rfl qw_797 qw_799 qs_37 (cm_layAgain l g t (rs_st Mr 7 j (nI k)) A hSs ((ab_ks A.1).set (j - 1) k) (by rw [List.length_set]) (m_set_lt hok.2.1 (by omega)) (j - 1) (by omega) hgs hks7) rfl rfl (by decide) (Nat.le_of_ble_eq_true rfl) (fun Mt hp => ?_)
            obtain ⟨ha1, ha2, ha3⟩ := hp
            have hSt : m_S Mt A := m_S_k hSs (m_k_fs (m_fs_mono ha2 (by omega)))
            have hst := hSt.2.2.2.2.2.1
            refine r_iconst K (v := 0) dX6_unseen_67 (by decide) ?_
            refine r_istore K [(5, .int 0), (4, .int 0), (3, .int (nI k)), (2, .int (ab_mask (ab_usP A.2.1 A.1 A.2.2.2.1 j) k)), (0, .ref (g.2.2 0)), (1, .int (nI j))] dX6_unseen_68 (by decide) rfl ?_
            have lq : ∀ (f : Nat) (s : Nat) (b : Int32), (4 - s < f) → (s ≤ A.2.2.2.1.length) → (ab_b01 b (k ≠ (ab_ks A.1).getD (j - 1) 0 ∧ ∀ q, q < s → (ab_geo A.2.1 ((ab_ks A.1).set (j - 1) k)).2.2.1 = (A.2.2.2.1.getD q (0, 0)).1 ∧ (ab_geo A.2.1 ((ab_ks A.1).set (j - 1) k)).2.2.2 = (A.2.2.2.1.getD q (0, 0)).2)) → Y Mt 70 [(5, .int (nI s)), (4, .int b), (3, .int (nI k)), (2, .int (ab_mask (ab_usP A.2.1 A.1 A.2.2.2.1 j) k)), (0, .ref (g.2.2 0)), (1, .int (nI j))] [] := by
              intro f
              induction f with
              | zero =>
                intro s b hf
                exact absurd hf (Nat.not_lt_zero _)
              | succ f ih =>
                intro s b hg hs hJ
                refine r_iload K 0 dX6_unseen_70 rfl ?_
                refine r_aload_n K 4 dX6_unseen_72 rfl rfl ?_
                refine r_getI K rfl rfl ff_6_seenMany qw_549 dX6_unseen_73 ?_
                refine r_top_eq (nI A.2.2.2.1.length) hst.1 ?_
                refine r_icmp_ge K 139 dX6_unseen_76 (by decide) (fun h_4 => ?_) (fun h_4 => ?_)
                · have nh_4 : A.2.2.2.1.length ≤ s := (nf_le rfl rfl (by omega) (by omega)).mp h_4
                  refine r_iload_n K 3 dX6_unseen_139 rfl rfl ?_
                  refine r_iload K 1 dX6_unseen_140 rfl ?_
                  refine r_if_eq K 151 dX6_unseen_142 (by decide) (fun h_5 => ?_) (fun h_5 => ?_)
                  · have hup : ¬ ab_usP A.2.1 A.1 A.2.2.2.1 j k := by
                      rcases hJ with ⟨e9, -⟩ | ⟨-, q⟩
                      · exact absurd (e9.symm.trans h_5) (by decide)
                      · exact fun z => q ⟨z.1, fun t ht => z.2 t (by omega)⟩
                    refine r_iconst K (v := 0) dX6_unseen_151 (by decide) ?_
                    refine r_ior K dX6_unseen_152 ?_
                    refine r_top_eq (ab_mask (ab_usP A.2.1 A.1 A.2.2.2.1 j) (k + 1)) (Int32.or_zero.trans (if_neg hup).symm) ?_
                    refine r_istore_n K [(2, .int (ab_mask (ab_usP A.2.1 A.1 A.2.2.2.1 j) (k + 1))), (5, .int (nI s)), (4, .int b), (3, .int (nI k)), (0, .ref (g.2.2 0)), (1, .int (nI j))] dX6_unseen_153 rfl (by decide) rfl ?_
                    refine r_iinc_n K 3 [(3, .int (nI (k + 1))), (2, .int (ab_mask (ab_usP A.2.1 A.1 A.2.2.2.1 j) (k + 1))), (5, .int (nI s)), (4, .int b), (0, .ref (g.2.2 0)), (1, .int (nI j))] dX6_unseen_154 rfl (by decide) rfl ?_
                    refine r_goto K 20 dX6_unseen_157 (by decide) ?_
                    refine r_sub K [0, 1, 4, 5] rfl ?_
                    exact ihO (k + 1) _ (by omega) (by omega) hSt
                  · have hup : ab_usP A.2.1 A.1 A.2.2.2.1 j k := by
                      rcases hJ with ⟨-, q1, q2⟩ | ⟨e9, -⟩
                      · exact ⟨q1, fun q hq => q2 q (by omega)⟩
                      · exact absurd e9 h_5
                    refine r_iconst K (v := 1) dX6_unseen_145 (by decide) ?_
                    refine r_iload_n K 2 dX6_unseen_146 rfl rfl ?_
                    refine r_ishl K dX6_unseen_147 ?_
                    refine r_goto K 152 dX6_unseen_148 (by decide) ?_
                    refine r_ior K dX6_unseen_152 ?_
                    refine r_top_eq (ab_mask (ab_usP A.2.1 A.1 A.2.2.2.1 j) (k + 1)) (if_pos hup).symm ?_
                    refine r_istore_n K [(2, .int (ab_mask (ab_usP A.2.1 A.1 A.2.2.2.1 j) (k + 1))), (5, .int (nI s)), (4, .int b), (3, .int (nI k)), (0, .ref (g.2.2 0)), (1, .int (nI j))] dX6_unseen_153 rfl (by decide) rfl ?_
                    refine r_iinc_n K 3 [(3, .int (nI (k + 1))), (2, .int (ab_mask (ab_usP A.2.1 A.1 A.2.2.2.1 j) (k + 1))), (5, .int (nI s)), (4, .int b), (0, .ref (g.2.2 0)), (1, .int (nI j))] dX6_unseen_154 rfl (by decide) rfl ?_
                    refine r_goto K 20 dX6_unseen_157 (by decide) ?_
                    refine r_sub K [0, 1, 4, 5] rfl ?_
                    exact ihO (k + 1) _ (by omega) (by omega) hSt
                · have nh_4 : ¬ A.2.2.2.1.length ≤ s := mt (nf_le rfl rfl (by omega) (by omega)).mpr h_4
                  refine r_iload K 1 dX6_unseen_79 rfl ?_
                  refine r_if_eq K 130 dX6_unseen_81 (by decide) (fun h_6 => ?_) (fun h_6 => ?_)
                  · refine r_iconst K (v := 0) dX6_unseen_130 (by decide) ?_
                    refine r_istore K [(4, .int 0), (5, .int (nI s)), (3, .int (nI k)), (2, .int (ab_mask (ab_usP A.2.1 A.1 A.2.2.2.1 j) k)), (0, .ref (g.2.2 0)), (1, .int (nI j))] dX6_unseen_131 (by decide) rfl ?_
                    refine r_iinc_n K 1 [(5, .int (nI (s + 1))), (4, .int 0), (3, .int (nI k)), (2, .int (ab_mask (ab_usP A.2.1 A.1 A.2.2.2.1 j) k)), (0, .ref (g.2.2 0)), (1, .int (nI j))] dX6_unseen_133 rfl (by decide) rfl ?_
                    refine r_goto K 70 dX6_unseen_136 (by decide) ?_
                    refine ih (s + 1) 0 (by omega) (by omega) (Or.inr ⟨rfl, ?_⟩)
                    rcases hJ with ⟨e9, -⟩ | ⟨-, q⟩
                    · exact absurd (e9.symm.trans h_6) (by decide)
                    · exact fun z => q ⟨z.1, fun t ht => z.2 t (by omega)⟩
                  · refine r_aload_n K 4 dX6_unseen_84 rfl rfl ?_
                    refine r_getR K rfl rfl ff_6_placeX qw_557 dX6_unseen_85 ?_
                    refine r_aload_n K 4 dX6_unseen_88 rfl rfl ?_
                    refine r_getR K rfl rfl ff_6_now qw_545 dX6_unseen_89 ?_
                    refine r_iconst K (v := 3) dX6_unseen_92 (by decide) ?_
                    refine r_iald K (j := 3) rfl rfl (by decide) (by decide) dX6_unseen_93 ?_
                    refine r_top_eq (nI (ab_ks A.1).length) hSt.1.2.2.2.1 ?_
                    refine r_iald K (j := (ab_ks A.1).length) rfl rfl (by omega) (by decide) dX6_unseen_94 ?_
                    refine r_top_eq ((ab_geo A.2.1 ((ab_ks A.1).set (j - 1) k)).2.2.1) ha1.2.2.1 ?_
                    refine r_aload_n K 4 dX6_unseen_95 rfl rfl ?_
                    refine r_getR K rfl rfl ff_6_seenX qw_550 dX6_unseen_96 ?_
                    refine r_iload K 0 dX6_unseen_99 rfl ?_
                    refine r_iald K (j := s) rfl rfl (by omega) (by decide) dX6_unseen_101 ?_
                    refine r_top_eq ((A.2.2.2.1.getD s (0, 0)).1) (hst.2.2 s (by omega)).1 ?_
                    refine r_icmp_ne K 130 dX6_unseen_102 (by decide) (fun h_7 => ?_) (fun h_7 => ?_)
                    · refine r_iconst K (v := 0) dX6_unseen_130 (by decide) ?_
                      refine r_istore K [(4, .int 0), (5, .int (nI s)), (3, .int (nI k)), (2, .int (ab_mask (ab_usP A.2.1 A.1 A.2.2.2.1 j) k)), (0, .ref (g.2.2 0)), (1, .int (nI j))] dX6_unseen_131 (by decide) rfl ?_
                      refine r_iinc_n K 1 [(5, .int (nI (s + 1))), (4, .int 0), (3, .int (nI k)), (2, .int (ab_mask (ab_usP A.2.1 A.1 A.2.2.2.1 j) k)), (0, .ref (g.2.2 0)), (1, .int (nI j))] dX6_unseen_133 rfl (by decide) rfl ?_
                      refine r_goto K 70 dX6_unseen_136 (by decide) ?_
                      refine ih (s + 1) 0 (by omega) (by omega) (Or.inr ⟨rfl, ?_⟩)
                      exact fun z => h_7 (z.2 s (by omega)).1
                    · refine r_aload_n K 4 dX6_unseen_105 rfl rfl ?_
                      refine r_getR K rfl rfl ff_6_placeY qw_558 dX6_unseen_106 ?_
                      refine r_aload_n K 4 dX6_unseen_109 rfl rfl ?_
                      refine r_getR K rfl rfl ff_6_now qw_545 dX6_unseen_110 ?_
                      refine r_iconst K (v := 3) dX6_unseen_113 (by decide) ?_
                      refine r_iald K (j := 3) rfl rfl (by decide) (by decide) dX6_unseen_114 ?_
                      refine r_top_eq (nI (ab_ks A.1).length) hSt.1.2.2.2.1 ?_
                      refine r_iald K (j := (ab_ks A.1).length) rfl rfl (by omega) (by decide) dX6_unseen_115 ?_
                      refine r_top_eq ((ab_geo A.2.1 ((ab_ks A.1).set (j - 1) k)).2.2.2) ha1.2.2.2 ?_
                      refine r_aload_n K 4 dX6_unseen_116 rfl rfl ?_
                      refine r_getR K rfl rfl ff_6_seenY qw_551 dX6_unseen_117 ?_
                      refine r_iload K 0 dX6_unseen_120 rfl ?_
                      refine r_iald K (j := s) rfl rfl (by omega) (by decide) dX6_unseen_122 ?_
                      refine r_top_eq ((A.2.2.2.1.getD s (0, 0)).2) (hst.2.2 s (by omega)).2 ?_
                      refine r_icmp_ne K 130 dX6_unseen_123 (by decide) (fun h_8 => ?_) (fun h_8 => ?_)
                      · refine r_iconst K (v := 0) dX6_unseen_130 (by decide) ?_
                        refine r_istore K [(4, .int 0), (5, .int (nI s)), (3, .int (nI k)), (2, .int (ab_mask (ab_usP A.2.1 A.1 A.2.2.2.1 j) k)), (0, .ref (g.2.2 0)), (1, .int (nI j))] dX6_unseen_131 (by decide) rfl ?_
                        refine r_iinc_n K 1 [(5, .int (nI (s + 1))), (4, .int 0), (3, .int (nI k)), (2, .int (ab_mask (ab_usP A.2.1 A.1 A.2.2.2.1 j) k)), (0, .ref (g.2.2 0)), (1, .int (nI j))] dX6_unseen_133 rfl (by decide) rfl ?_
                        refine r_goto K 70 dX6_unseen_136 (by decide) ?_
                        refine ih (s + 1) 0 (by omega) (by omega) (Or.inr ⟨rfl, ?_⟩)
                        exact fun z => h_8 (z.2 s (by omega)).2
                      · refine r_iconst K (v := 1) dX6_unseen_126 (by decide) ?_
                        refine r_goto K 131 dX6_unseen_127 (by decide) ?_
                        refine r_istore K [(4, .int 1), (5, .int (nI s)), (3, .int (nI k)), (2, .int (ab_mask (ab_usP A.2.1 A.1 A.2.2.2.1 j) k)), (0, .ref (g.2.2 0)), (1, .int (nI j))] dX6_unseen_131 (by decide) rfl ?_
                        refine r_iinc_n K 1 [(5, .int (nI (s + 1))), (4, .int 1), (3, .int (nI k)), (2, .int (ab_mask (ab_usP A.2.1 A.1 A.2.2.2.1 j) k)), (0, .ref (g.2.2 0)), (1, .int (nI j))] dX6_unseen_133 rfl (by decide) rfl ?_
                        refine r_goto K 70 dX6_unseen_136 (by decide) ?_
                        refine ih (s + 1) 1 (by omega) (by omega) (Or.inl ⟨rfl, ?_⟩)
                        rcases hJ with ⟨-, q1, q2⟩ | ⟨e9, -⟩
                        · refine ⟨q1, fun q hq => ?_⟩
                          by_cases e : q = s
                          · rw [e]; exact ⟨h_7, h_8⟩
                          · exact q2 q (by omega)
                        · exact absurd e9 h_6
            exact lq 5 0 0 (by omega) (by omega) (Or.inr ⟨rfl, fun z => z.1 nh_3.symm⟩)
          · have nh_3 : ¬ (ab_ks A.1).getD (j - 1) 0 = k := mt (nf_eq rfl rfl (by omega) (by omega)).mpr h_3
            refine r_iconst K (v := 1) dX6_unseen_48 (by decide) ?_
            refine r_goto K 53 dX6_unseen_49 (by decide) ?_
            refine r_istore K [(4, .int 1), (3, .int (nI k)), (2, .int (ab_mask (ab_usP A.2.1 A.1 A.2.2.2.1 j) k)), (0, .ref (g.2.2 0)), (1, .int (nI j))] dX6_unseen_53 (by decide) rfl ?_
            refine r_aload_n K 3 dX6_unseen_55 rfl rfl ?_
            refine r_getR K rfl rfl ff_6_keys qw_554 dX6_unseen_56 ?_
            refine r_iload_n K 4 dX6_unseen_59 rfl rfl ?_
            refine r_iload_n K 1 dX6_unseen_60 rfl rfl ?_
            refine r_iast K (j := j) rfl rfl (by omega) (by decide) dX6_unseen_61 ?_
            refine r_aload_n K 3 dX6_unseen_62 rfl rfl ?_
            refine r_iload_n K 4 dX6_unseen_63 rfl rfl ?_
            refine r_top_eq (nI (j - 1 + 1)) (by rw [show j - 1 + 1 = j by omega]) ?_
            have hSs : m_S (rs_st Mr 7 j (nI k)) A := m_S_k hSr ⟨fun c hc => rs_st_ne _ _ _ (by omega), fun q _ => by rw [rs_st_ne _ _ _ (by decide)], fun c c1 c2 => by rw [rs_st_ne _ _ _ (by omega)]⟩
            have hgs : m_g (rs_st Mr 7 j (nI k)) (j - 1) (ab_geo A.2.1 (((ab_ks A.1).set (j - 1) k).take (j - 1))) := by
              rw [m_set_take]
              have q := (hp1 (j - 1) (by omega)).1
              exact ⟨by rw [rs_st_ne _ _ _ (by decide)]; exact q.1, by rw [rs_st_ne _ _ _ (by decide)]; exact q.2.1, by rw [rs_st_ne _ _ _ (by decide)]; exact q.2.2.1, by rw [rs_st_ne _ _ _ (by decide)]; exact q.2.2.2⟩
            have hks7 : ∀ i, j - 1 < i → i ≤ (ab_ks A.1).length → (rs_st Mr 7 j (nI k)) 7 i = nI (((ab_ks A.1).set (j - 1) k).getD (i - 1) 0) := fun i i1 i2 => by
              rw [m_set_getD (by omega)]
              by_cases e : i = j
              · subst e; rw [rs_st_eq, if_pos rfl]
              · rw [rs_st_nk _ _ _ e, if_neg (by omega)]; exact (hp1 i i2).2 (by omega)
            refine r_callVv K [.int (nI (j - 1 + 1))] [] dX6_unseen_64 mf_X6_layAgain rfl rfl qw_797 qw_799 qs_37 (cm_layAgain l g t (rs_st Mr 7 j (nI k)) A hSs ((ab_ks A.1).set (j - 1) k) (by rw [List.length_set]) (m_set_lt hok.2.1 (by omega)) (j - 1) (by omega) hgs hks7) rfl rfl (by decide) (Nat.le_of_ble_eq_true rfl) (fun Mt hp => ?_)
            obtain ⟨ha1, ha2, ha3⟩ := hp
            have hSt : m_S Mt A := m_S_k hSs (m_k_fs (m_fs_mono ha2 (by omega)))
            have hst := hSt.2.2.2.2.2.1
            refine r_iconst K (v := 0) dX6_unseen_67 (by decide) ?_
            refine r_istore K [(5, .int 0), (4, .int 1), (3, .int (nI k)), (2, .int (ab_mask (ab_usP A.2.1 A.1 A.2.2.2.1 j) k)), (0, .ref (g.2.2 0)), (1, .int (nI j))] dX6_unseen_68 (by decide) rfl ?_
            have lq : ∀ (f : Nat) (s : Nat) (b : Int32), (4 - s < f) → (s ≤ A.2.2.2.1.length) → (ab_b01 b (k ≠ (ab_ks A.1).getD (j - 1) 0 ∧ ∀ q, q < s → (ab_geo A.2.1 ((ab_ks A.1).set (j - 1) k)).2.2.1 = (A.2.2.2.1.getD q (0, 0)).1 ∧ (ab_geo A.2.1 ((ab_ks A.1).set (j - 1) k)).2.2.2 = (A.2.2.2.1.getD q (0, 0)).2)) → Y Mt 70 [(5, .int (nI s)), (4, .int b), (3, .int (nI k)), (2, .int (ab_mask (ab_usP A.2.1 A.1 A.2.2.2.1 j) k)), (0, .ref (g.2.2 0)), (1, .int (nI j))] [] := by
              intro f
              induction f with
              | zero =>
                intro s b hf
                exact absurd hf (Nat.not_lt_zero _)
              | succ f ih =>
                intro s b hg hs hJ
                refine r_iload K 0 dX6_unseen_70 rfl ?_
                refine r_aload_n K 4 dX6_unseen_72 rfl rfl ?_
                refine r_getI K rfl rfl ff_6_seenMany qw_549 dX6_unseen_73 ?_
                refine r_top_eq (nI A.2.2.2.1.length) hst.1 ?_
                refine r_icmp_ge K 139 dX6_unseen_76 (by decide) (fun h_9 => ?_) (fun h_9 => ?_)
                · have nh_9 : A.2.2.2.1.length ≤ s := (nf_le rfl rfl (by omega) (by omega)).mp h_9
                  refine r_iload_n K 3 dX6_unseen_139 rfl rfl ?_
                  refine r_iload K 1 dX6_unseen_140 rfl ?_
                  refine r_if_eq K 151 dX6_unseen_142 (by decide) (fun h_10 => ?_) (fun h_10 => ?_)
                  · have hup : ¬ ab_usP A.2.1 A.1 A.2.2.2.1 j k := by
                      rcases hJ with ⟨e9, -⟩ | ⟨-, q⟩
                      · exact absurd (e9.symm.trans h_10) (by decide)
                      · exact fun z => q ⟨z.1, fun t ht => z.2 t (by omega)⟩
                    refine r_iconst K (v := 0) dX6_unseen_151 (by decide) ?_
                    refine r_ior K dX6_unseen_152 ?_
                    refine r_top_eq (ab_mask (ab_usP A.2.1 A.1 A.2.2.2.1 j) (k + 1)) (Int32.or_zero.trans (if_neg hup).symm) ?_
                    refine r_istore_n K [(2, .int (ab_mask (ab_usP A.2.1 A.1 A.2.2.2.1 j) (k + 1))), (5, .int (nI s)), (4, .int b), (3, .int (nI k)), (0, .ref (g.2.2 0)), (1, .int (nI j))] dX6_unseen_153 rfl (by decide) rfl ?_
                    refine r_iinc_n K 3 [(3, .int (nI (k + 1))), (2, .int (ab_mask (ab_usP A.2.1 A.1 A.2.2.2.1 j) (k + 1))), (5, .int (nI s)), (4, .int b), (0, .ref (g.2.2 0)), (1, .int (nI j))] dX6_unseen_154 rfl (by decide) rfl ?_
                    refine r_goto K 20 dX6_unseen_157 (by decide) ?_
                    refine r_sub K [0, 1, 4, 5] rfl ?_
                    exact ihO (k + 1) _ (by omega) (by omega) hSt
                  · have hup : ab_usP A.2.1 A.1 A.2.2.2.1 j k := by
                      rcases hJ with ⟨-, q1, q2⟩ | ⟨e9, -⟩
                      · exact ⟨q1, fun q hq => q2 q (by omega)⟩
                      · exact absurd e9 h_10
                    refine r_iconst K (v := 1) dX6_unseen_145 (by decide) ?_
                    refine r_iload_n K 2 dX6_unseen_146 rfl rfl ?_
                    refine r_ishl K dX6_unseen_147 ?_
                    refine r_goto K 152 dX6_unseen_148 (by decide) ?_
                    refine r_ior K dX6_unseen_152 ?_
                    refine r_top_eq (ab_mask (ab_usP A.2.1 A.1 A.2.2.2.1 j) (k + 1)) (if_pos hup).symm ?_
                    refine r_istore_n K [(2, .int (ab_mask (ab_usP A.2.1 A.1 A.2.2.2.1 j) (k + 1))), (5, .int (nI s)), (4, .int b), (3, .int (nI k)), (0, .ref (g.2.2 0)), (1, .int (nI j))] dX6_unseen_153 rfl (by decide) rfl ?_
                    refine r_iinc_n K 3 [(3, .int (nI (k + 1))), (2, .int (ab_mask (ab_usP A.2.1 A.1 A.2.2.2.1 j) (k + 1))), (5, .int (nI s)), (4, .int b), (0, .ref (g.2.2 0)), (1, .int (nI j))] dX6_unseen_154 rfl (by decide) rfl ?_
                    refine r_goto K 20 dX6_unseen_157 (by decide) ?_
                    refine r_sub K [0, 1, 4, 5] rfl ?_
                    exact ihO (k + 1) _ (by omega) (by omega) hSt
                · have nh_9 : ¬ A.2.2.2.1.length ≤ s := mt (nf_le rfl rfl (by omega) (by omega)).mpr h_9
                  refine r_iload K 1 dX6_unseen_79 rfl ?_
                  refine r_if_eq K 130 dX6_unseen_81 (by decide) (fun h_11 => ?_) (fun h_11 => ?_)
                  · refine r_iconst K (v := 0) dX6_unseen_130 (by decide) ?_
                    refine r_istore K [(4, .int 0), (5, .int (nI s)), (3, .int (nI k)), (2, .int (ab_mask (ab_usP A.2.1 A.1 A.2.2.2.1 j) k)), (0, .ref (g.2.2 0)), (1, .int (nI j))] dX6_unseen_131 (by decide) rfl ?_
                    refine r_iinc_n K 1 [(5, .int (nI (s + 1))), (4, .int 0), (3, .int (nI k)), (2, .int (ab_mask (ab_usP A.2.1 A.1 A.2.2.2.1 j) k)), (0, .ref (g.2.2 0)), (1, .int (nI j))] dX6_unseen_133 rfl (by decide) rfl ?_
                    refine r_goto K 70 dX6_unseen_136 (by decide) ?_
                    refine ih (s + 1) 0 (by omega) (by omega) (Or.inr ⟨rfl, ?_⟩)
                    rcases hJ with ⟨e9, -⟩ | ⟨-, q⟩
                    · exact absurd (e9.symm.trans h_11) (by decide)
                    · exact fun z => q ⟨z.1, fun t ht => z.2 t (by omega)⟩
                  · refine r_aload_n K 4 dX6_unseen_84 rfl rfl ?_
                    refine r_getR K rfl rfl ff_6_placeX qw_557 dX6_unseen_85 ?_
                    refine r_aload_n K 4 dX6_unseen_88 rfl rfl ?_
                    refine r_getR K rfl rfl ff_6_now qw_545 dX6_unseen_89 ?_
                    refine r_iconst K (v := 3) dX6_unseen_92 (by decide) ?_
                    refine r_iald K (j := 3) rfl rfl (by decide) (by decide) dX6_unseen_93 ?_
                    refine r_top_eq (nI (ab_ks A.1).length) hSt.1.2.2.2.1 ?_
                    refine r_iald K (j := (ab_ks A.1).length) rfl rfl (by omega) (by decide) dX6_unseen_94 ?_
                    refine r_top_eq ((ab_geo A.2.1 ((ab_ks A.1).set (j - 1) k)).2.2.1) ha1.2.2.1 ?_
                    refine r_aload_n K 4 dX6_unseen_95 rfl rfl ?_
                    refine r_getR K rfl rfl ff_6_seenX qw_550 dX6_unseen_96 ?_
                    refine r_iload K 0 dX6_unseen_99 rfl ?_
                    refine r_iald K (j := s) rfl rfl (by omega) (by decide) dX6_unseen_101 ?_
                    refine r_top_eq ((A.2.2.2.1.getD s (0, 0)).1) (hst.2.2 s (by omega)).1 ?_
                    refine r_icmp_ne K 130 dX6_unseen_102 (by decide) (fun h_12 => ?_) (fun h_12 => ?_)
                    · refine r_iconst K (v := 0) dX6_unseen_130 (by decide) ?_
                      refine r_istore K [(4, .int 0), (5, .int (nI s)), (3, .int (nI k)), (2, .int (ab_mask (ab_usP A.2.1 A.1 A.2.2.2.1 j) k)), (0, .ref (g.2.2 0)), (1, .int (nI j))] dX6_unseen_131 (by decide) rfl ?_
                      refine r_iinc_n K 1 [(5, .int (nI (s + 1))), (4, .int 0), (3, .int (nI k)), (2, .int (ab_mask (ab_usP A.2.1 A.1 A.2.2.2.1 j) k)), (0, .ref (g.2.2 0)), (1, .int (nI j))] dX6_unseen_133 rfl (by decide) rfl ?_
                      refine r_goto K 70 dX6_unseen_136 (by decide) ?_
                      refine ih (s + 1) 0 (by omega) (by omega) (Or.inr ⟨rfl, ?_⟩)
                      exact fun z => h_12 (z.2 s (by omega)).1
                    · refine r_aload_n K 4 dX6_unseen_105 rfl rfl ?_
                      refine r_getR K rfl rfl ff_6_placeY qw_558 dX6_unseen_106 ?_
                      refine r_aload_n K 4 dX6_unseen_109 rfl rfl ?_
                      refine r_getR K rfl rfl ff_6_now qw_545 dX6_unseen_110 ?_
                      refine r_iconst K (v := 3) dX6_unseen_113 (by decide) ?_
                      refine r_iald K (j := 3) rfl rfl (by decide) (by decide) dX6_unseen_114 ?_
                      refine r_top_eq (nI (ab_ks A.1).length) hSt.1.2.2.2.1 ?_
                      refine r_iald K (j := (ab_ks A.1).length) rfl rfl (by omega) (by decide) dX6_unseen_115 ?_
                      refine r_top_eq ((ab_geo A.2.1 ((ab_ks A.1).set (j - 1) k)).2.2.2) ha1.2.2.2 ?_
                      refine r_aload_n K 4 dX6_unseen_116 rfl rfl ?_
                      refine r_getR K rfl rfl ff_6_seenY qw_551 dX6_unseen_117 ?_
                      refine r_iload K 0 dX6_unseen_120 rfl ?_
                      refine r_iald K (j := s) rfl rfl (by omega) (by decide) dX6_unseen_122 ?_
                      refine r_top_eq ((A.2.2.2.1.getD s (0, 0)).2) (hst.2.2 s (by omega)).2 ?_
                      refine r_icmp_ne K 130 dX6_unseen_123 (by decide) (fun h_13 => ?_) (fun h_13 => ?_)
                      · refine r_iconst K (v := 0) dX6_unseen_130 (by decide) ?_
                        refine r_istore K [(4, .int 0), (5, .int (nI s)), (3, .int (nI k)), (2, .int (ab_mask (ab_usP A.2.1 A.1 A.2.2.2.1 j) k)), (0, .ref (g.2.2 0)), (1, .int (nI j))] dX6_unseen_131 (by decide) rfl ?_
                        refine r_iinc_n K 1 [(5, .int (nI (s + 1))), (4, .int 0), (3, .int (nI k)), (2, .int (ab_mask (ab_usP A.2.1 A.1 A.2.2.2.1 j) k)), (0, .ref (g.2.2 0)), (1, .int (nI j))] dX6_unseen_133 rfl (by decide) rfl ?_
                        refine r_goto K 70 dX6_unseen_136 (by decide) ?_
                        refine ih (s + 1) 0 (by omega) (by omega) (Or.inr ⟨rfl, ?_⟩)
                        exact fun z => h_13 (z.2 s (by omega)).2
                      · refine r_iconst K (v := 1) dX6_unseen_126 (by decide) ?_
                        refine r_goto K 131 dX6_unseen_127 (by decide) ?_
                        refine r_istore K [(4, .int 1), (5, .int (nI s)), (3, .int (nI k)), (2, .int (ab_mask (ab_usP A.2.1 A.1 A.2.2.2.1 j) k)), (0, .ref (g.2.2 0)), (1, .int (nI j))] dX6_unseen_131 (by decide) rfl ?_
                        refine r_iinc_n K 1 [(5, .int (nI (s + 1))), (4, .int 1), (3, .int (nI k)), (2, .int (ab_mask (ab_usP A.2.1 A.1 A.2.2.2.1 j) k)), (0, .ref (g.2.2 0)), (1, .int (nI j))] dX6_unseen_133 rfl (by decide) rfl ?_
                        refine r_goto K 70 dX6_unseen_136 (by decide) ?_
                        refine ih (s + 1) 1 (by omega) (by omega) (Or.inl ⟨rfl, ?_⟩)
                        rcases hJ with ⟨-, q1, q2⟩ | ⟨e9, -⟩
                        · refine ⟨q1, fun q hq => ?_⟩
                          by_cases e : q = s
                          · rw [e]; exact ⟨h_12, h_13⟩
                          · exact q2 q (by omega)
                        · exact absurd e9 h_11
            exact lq 5 0 1 (by omega) (by omega) (Or.inl ⟨rfl, fun z => nh_3 z.symm, fun q hq => absurd hq (Nat.not_lt_zero _)⟩)
    exact lp 9 0 M (by omega) (by omega) hS
  · refine r_if_ne K 16 dX6_unseen_11 (by decide) (fun h => absurd h (by decide)) (fun _ => ?_)
    refine r_iconst K (v := (-1)) dX6_unseen_14 (by decide) ?_
    exact hr _ _ _ _ dX6_unseen_15 ⟨by rw [ab_unseen, ab_if_neg hb_1], hS⟩
/-! odds: the last ring by the lowest bit -/
def ab_slr : List Nat → Nat → List Nat
  | [], _ => []
  | k :: r, m => (k + m / 2 ^ r.length % 2) % 8 :: ab_slr r m
def ab_wtr (x : Nat) : Nat → Nat → Nat
  | 0, _ => 1
  | s + 1, m => ab_wtr x s m * (if m / 2 ^ s % 2 = 1 then x else 10 - x)
def ab_termR (tp : Int32) (L : ab_L) (c : Int32) (x : Nat) (r p : List Nat) (m : Nat) : Nat := if ab_lcost tp L (p ++ ab_slr r m) ≤ c then ab_wtr x r.length m else 0
theorem x_bit_hi {s t m : Nat} (h : t < s) : (2 ^ s + m) / 2 ^ t % 2 = m / 2 ^ t % 2 := by
  have e : 2 ^ s = 2 ^ t * (2 * 2 ^ (s - t - 1)) := by
    rw [← Nat.mul_assoc, Nat.mul_comm (2 ^ t) 2, ← Nat.pow_succ', ← Nat.pow_add]
    congr 1
    omega
  rw [e, Nat.add_comm, Nat.add_mul_div_left _ _ (Nat.pow_pos (by decide)), Nat.add_mul_mod_self_left]
theorem ab_slr_hi (s m : Nat) : ∀ r : List Nat, r.length ≤ s → ab_slr r (2 ^ s + m) = ab_slr r m
  | [], _ => rfl
  | k :: r, h => by
    have h' : r.length + 1 ≤ s := h
    rw [ab_slr, ab_slr, x_bit_hi h', ab_slr_hi s m r (by omega)]
theorem ab_wtr_hi (x s m : Nat) : ∀ t, t ≤ s → ab_wtr x t (2 ^ s + m) = ab_wtr x t m
  | 0, _ => rfl
  | t + 1, h => by rw [ab_wtr, ab_wtr, x_bit_hi (by omega), ab_wtr_hi x s m t (by omega)]
theorem ab_sum_split (f : Nat → Nat) (a : Nat) : ∀ b, ab_sum f (a + b) = ab_sum f a + ab_sum (fun m => f (a + m)) b
  | 0 => rfl
  | b + 1 => by rw [← Nat.add_assoc, ab_sum, ab_sum_split f a b, ab_sum, Nat.add_assoc]
theorem ab_slr_len : ∀ (r : List Nat) (m : Nat), (ab_slr r m).length = r.length
  | [], _ => rfl
  | k :: r, m => by simp only [ab_slr, List.length_cons, ab_slr_len r]
theorem ab_slr_get : ∀ (r : List Nat) (m j : Nat), j < r.length → (ab_slr r m)[j]? = some ((r.getD j 0 + m / 2 ^ (r.length - 1 - j) % 2) % 8)
  | [], _, j, h => absurd h (Nat.not_lt_zero _)
  | k :: r, m, 0, _ => by simp [ab_slr]
  | k :: r, m, j + 1, h => by
    have h' : j < r.length := by simpa using h
    have := ab_slr_get r m j h'
    rw [ab_slr, List.getElem?_cons_succ, this, List.length_cons, show r.length + 1 - 1 - (j + 1) = r.length - 1 - j by omega]
    simp
theorem ab_slr_lt : ∀ (r : List Nat) (m : Nat), ∀ k ∈ ab_slr r m, k < 8
  | [], _, k, h => absurd h List.not_mem_nil
  | q :: r, m, k, h => by
    simp only [ab_slr] at h
    rcases List.mem_cons.mp h with e | e
    · rw [e]; exact Nat.mod_lt _ (by decide)
    · exact ab_slr_lt r _ k e
theorem ab_nearR_sum (tp : Int32) (L : ab_L) (c : Int32) (x : Nat) : ∀ (r p : List Nat), (∀ k ∈ r, k < 8) → ab_sum (ab_termR tp L c x r p) (2 ^ r.length) = ab_near tp L c x r p
  | [], p, _ => by
    simp only [List.length_nil, Nat.pow_zero, ab_sum, ab_termR, ab_near, ab_slr, List.append_nil, ab_wtr]
    simp
  | k :: r, p, h => by
    have h1 := ab_nearR_sum tp L c x r (p ++ [k]) (fun z hz => h z (List.mem_cons_of_mem _ hz))
    have h2 := ab_nearR_sum tp L c x r (p ++ [(k + 1) % 8]) (fun z hz => h z (List.mem_cons_of_mem _ hz))
    have hk : k < 8 := h k List.mem_cons_self
    rw [List.length_cons, Nat.pow_succ, Nat.mul_two, ab_sum_split]
    have e1 : ∀ m, m < 2 ^ r.length → ab_termR tp L c x (k :: r) p m = (10 - x) * ab_termR tp L c x r (p ++ [k]) m := by
      intro m hm
      have b0 : m / 2 ^ r.length = 0 := Nat.div_eq_of_lt hm
      have es : ab_slr (k :: r) m = k :: ab_slr r m := by
        rw [ab_slr, b0, show (k + 0 % 2) % 8 = k by omega]
      have ew : ab_wtr x (r.length + 1) m = (10 - x) * ab_wtr x r.length m := by
        rw [ab_wtr, b0, if_neg (by decide), Nat.mul_comm]
      simp only [ab_termR, es, List.length_cons, ew, List.append_assoc, List.singleton_append]
      split
      · rfl
      · simp
    have e2 : ∀ m, m < 2 ^ r.length → ab_termR tp L c x (k :: r) p (2 ^ r.length + m) = x * ab_termR tp L c x r (p ++ [(k + 1) % 8]) m := by
      intro m hm
      have b1 : (2 ^ r.length + m) / 2 ^ r.length = 1 := by
        rw [Nat.add_div_left _ (Nat.pow_pos (by decide)), Nat.div_eq_of_lt hm]
      have es : ab_slr (k :: r) (2 ^ r.length + m) = (k + 1) % 8 :: ab_slr r m := by
        rw [ab_slr, b1, ab_slr_hi _ m r (Nat.le_refl _)]
      have ew : ab_wtr x (r.length + 1) (2 ^ r.length + m) = x * ab_wtr x r.length m := by
        rw [ab_wtr, b1, if_pos (by decide), ab_wtr_hi x _ m _ (Nat.le_refl _), Nat.mul_comm]
      simp only [ab_termR, es, List.length_cons, ew, List.append_assoc, List.singleton_append]
      split
      · rfl
      · simp
    rw [ab_sum_congr _ e1, ab_sum_congr _ e2, ab_sum_mul, ab_sum_mul, h1, h2, ab_near]
theorem x_cmp0 {b : Nat} (hb : b < 2 ^ 63) : lg_cmp (lN b) 0 = 0 ↔ b = 0 := by
  have e : lN b = 0 ↔ b = 0 := pk_lEQ (b := 0) hb (by decide)
  rw [lg_cmp]
  by_cases h : lN b > 0
  · rw [if_pos h]
    refine ⟨fun q => absurd q (by decide), fun q => ?_⟩
    rw [e.mpr q] at h
    exact absurd h (by decide)
  · rw [if_neg h]
    by_cases h2 : lN b = 0
    · rw [if_pos h2]; exact ⟨fun _ => e.mp h2, fun _ => rfl⟩
    · rw [if_neg h2]; exact ⟨fun q => absurd q (by decide), fun q => absurd (e.mpr q) h2⟩
/-- the keys, k of the last slipped -/
def m_slk (M : rs_M) (ks : List Nat) (m k : Nat) : Prop := ∀ i, 1 ≤ i → i ≤ ks.length → M 7 i = nI (if ks.length - k < i then (ks.getD (i - 1) 0 + m / 2 ^ (ks.length - i) % 2) % 8 else ks.getD (i - 1) 0)
theorem m_slk_s {M : rs_M} {ks : List Nat} {m k v : Nat} (h : m_slk M ks m k) (hk : k < ks.length) (hv : v = (ks.getD (ks.length - k - 1) 0 + m / 2 ^ k % 2) % 8) : m_slk (rs_st M 7 (ks.length - k) (nI v)) ks m (k + 1) := by
  intro i i1 i2
  by_cases e : i = ks.length - k
  · rw [e, rs_st_eq, if_pos (by omega), show ks.length - (ks.length - k) = k by omega, hv]
  · rw [rs_st_nk _ _ _ e, h i i1 i2]
    by_cases q : ks.length - k < i
    · rw [if_pos q, if_pos (by omega)]
    · rw [if_neg q, if_neg (by omega)]
theorem m_slk_e {M : rs_M} {ks : List Nat} {m s : Nat} (h : m_slk M ks m s) (hs : s ≤ ks.length) : ∀ i, ks.length - s < i → i ≤ ks.length → M 7 i = nI ((ks.take (ks.length - s) ++ ab_slr (ks.drop (ks.length - s)) m).getD (i - 1) 0) := by
  intro i i1 i2
  have hl : (ks.take (ks.length - s)).length = ks.length - s := by rw [List.length_take]; omega
  have hd : (ks.drop (ks.length - s)).length = s := by rw [List.length_drop]; omega
  have e : (ks.drop (ks.length - s)).getD (i - 1 - (ks.length - s)) 0 = ks.getD (i - 1) 0 := by
    rw [List.getD, List.getD, List.getElem?_drop, show ks.length - s + (i - 1 - (ks.length - s)) = i - 1 by omega]
  rw [h i (by omega) i2, if_pos i1]
  have e9 : (ks.take (ks.length - s) ++ ab_slr (ks.drop (ks.length - s)) m)[i - 1]? = some ((ks.getD (i - 1) 0 + m / 2 ^ (ks.length - i) % 2) % 8) := by
    rw [List.getElem?_append_right (by omega), hl, ab_slr_get _ m _ (by omega), hd, e, show s - 1 - (i - 1 - (ks.length - s)) = ks.length - i by omega]
  rw [List.getD_eq_getElem?_getD (l := _ ++ _), e9]
  rfl
theorem ab_lcost_nil {tp : Int32} {L : ab_L} (hok : ab_ok L) : ab_lcost tp L [] = 0 := by
  have := ab_ringcost_0 (tp := tp) hok
  rw [ab_ringcost, List.take_zero] at this
  exact this
set_option maxHeartbeats 4000000 in
set_option maxRecDepth 100000 in
theorem cm_odds (l : Launch) (g : rs_G) (t : Nat × Nat) (M : rs_M) (A : ab_S) (hS : m_S M A) (x c w : Int32) : rs_Ci l g mk t yX6_odds cX6_odds 16 .int 4 [.ref (g.2.2 0), .int x, .int c, .int w] M (fun r M1 => m_R (ab_odds A x c w, A) r M1) := by
  obtain ⟨hrow, hok, ht, h0, hun, hse, htx, him, hz⟩ := id hS
  have hn12 := hok.1
  obtain ⟨s, hs⟩ : ∃ s, s = min (ab_ks A.1).length 8 := ⟨_, rfl⟩
  have hdl : ((ab_ks A.1).drop ((ab_ks A.1).length - s)).length = s := by rw [List.length_drop]; omega
  have hd8 : ∀ k ∈ ((ab_ks A.1).drop ((ab_ks A.1).length - s)), k < 8 := fun k hk => hok.2.1 k (List.mem_of_mem_drop hk)
  have h2s : 2 ^ s ≤ 256 := Nat.pow_le_pow_right (n := 2) (by decide) (show s ≤ 8 by omega)
  have hts : 10 ^ s ≤ 100000000 := Nat.pow_le_pow_right (n := 10) (by decide) (show s ≤ 8 by omega)
  have htp : 0 < 10 ^ s := Nat.pow_pos (by decide)
  have hg8 := ab_getD_lt hok.2.1
  refine rs_ofi (plainFor_of_name (by decide)) (Nat.le_of_ble_eq_true rfl) ?_
  intro Y K hr
  show Y M 0 [(0, .ref (g.2.2 0)), (1, .int x), (2, .int c), (3, .int w)] []
  refine r_iload_n K 1 dX6_odds_0 rfl rfl ?_
  refine r_iconst K (v := 0) dX6_odds_1 (by decide) ?_
  refine r_bipush K (v := 10) dX6_odds_2 (by decide) ?_
  refine r_callSi K [.int x, .int 0, .int 10] [] dX6_odds_4 mf_X6_in qw_636 qw_637 (cm_in l g t M x 0 10) rfl rfl (by decide) (Nat.le_of_ble_eq_true rfl) (fun r M1 hp => ?_)
  obtain ⟨hp, he⟩ := hp
  have he := he.symm
  subst he
  rcases hp with ⟨rfl, hb_1⟩ | ⟨rfl, hb_1⟩
  · refine r_if_eq K 30 dX6_odds_7 (by decide) (fun h => absurd h (by decide)) (fun _ => ?_)
    refine r_iload_n K 2 dX6_odds_10 rfl rfl ?_
    refine r_iconst K (v := 0) dX6_odds_11 (by decide) ?_
    refine r_sipush K (v := 9999) dX6_odds_12 (by decide) ?_
    refine r_callSi K [.int c, .int 0, .int 9999] [] dX6_odds_15 mf_X6_in qw_636 qw_637 (cm_in l g t M c 0 9999) rfl rfl (by decide) (Nat.le_of_ble_eq_true rfl) (fun r M1 hp => ?_)
    obtain ⟨hp, he⟩ := hp
    have he := he.symm
    subst he
    rcases hp with ⟨rfl, hb_2⟩ | ⟨rfl, hb_2⟩
    · refine r_if_eq K 30 dX6_odds_18 (by decide) (fun h => absurd h (by decide)) (fun _ => ?_)
      refine r_iload_n K 3 dX6_odds_21 rfl rfl ?_
      refine r_iconst K (v := 0) dX6_odds_22 (by decide) ?_
      refine r_iconst K (v := 1) dX6_odds_23 (by decide) ?_
      refine r_callSi K [.int w, .int 0, .int 1] [] dX6_odds_24 mf_X6_in qw_636 qw_637 (cm_in l g t M w 0 1) rfl rfl (by decide) (Nat.le_of_ble_eq_true rfl) (fun r M1 hp => ?_)
      obtain ⟨hp, he⟩ := hp
      have he := he.symm
      subst he
      rcases hp with ⟨rfl, hb_3⟩ | ⟨rfl, hb_3⟩
      · refine r_if_ne K 32 dX6_odds_27 (by decide) (fun _ => ?_) (fun h => absurd h (by decide))
        obtain ⟨x1, hj1, hj2, rfl⟩ := x_nat (a := 0) (b := 10) hb_1 (by omega) (by omega)
        have x1c : (nI x1).toNatClampNeg = x1 := nI_clamp (by omega)
        have e0 : ab_odds A (nI x1) c w = _ := ab_if_pos ⟨hb_1, hb_2, hb_3⟩
        rw [x1c] at e0
        have hc0 : 0 ≤ c := hb_2.1
        refine r_aload_n K 0 dX6_odds_32 rfl rfl ?_
        refine r_getR K rfl rfl ff_6_now qw_545 dX6_odds_33 ?_
        refine r_iconst K (v := 3) dX6_odds_36 (by decide) ?_
        refine r_iald K (j := 3) rfl rfl (by decide) (by decide) dX6_odds_37 ?_
        refine r_top_eq (nI (ab_ks A.1).length) hrow.2.2.2.1 ?_
        refine r_istore K [(4, .int (nI (ab_ks A.1).length)), (0, .ref (g.2.2 0)), (1, .int (nI x1)), (2, .int c), (3, .int w)] dX6_odds_38 (by decide) rfl ?_
        have hj : Y M 54 [(4, .int (nI (ab_ks A.1).length)), (0, .ref (g.2.2 0)), (1, .int (nI x1)), (2, .int c), (3, .int w)] [.int (nI s)] := by
          refine r_istore K [(5, .int (nI s)), (4, .int (nI (ab_ks A.1).length)), (0, .ref (g.2.2 0)), (1, .int (nI x1)), (2, .int c), (3, .int w)] dX6_odds_54 (by decide) rfl ?_
          refine r_lconst K (v := 1) dX6_odds_56 (by decide) ?_
          refine r_lstore K [(6, .long 1), (5, .int (nI s)), (4, .int (nI (ab_ks A.1).length)), (0, .ref (g.2.2 0)), (1, .int (nI x1)), (2, .int c), (3, .int w)] dX6_odds_57 (by decide) rfl ?_
          refine r_iconst K (v := 0) dX6_odds_59 (by decide) ?_
          refine r_istore K [(8, .int 0), (6, .long 1), (5, .int (nI s)), (4, .int (nI (ab_ks A.1).length)), (0, .ref (g.2.2 0)), (1, .int (nI x1)), (2, .int c), (3, .int w)] dX6_odds_60 (by decide) rfl ?_
          have lw : ∀ (f : Nat) (k : Nat), (8 - k < f) → (k ≤ s) → Y M 62 [(8, .int (nI k)), (6, .long (lN (10 ^ k))), (5, .int (nI s)), (4, .int (nI (ab_ks A.1).length)), (0, .ref (g.2.2 0)), (1, .int (nI x1)), (2, .int c), (3, .int w)] [] := by
            intro f
            induction f with
            | zero =>
              intro k hf
              exact absurd hf (Nat.not_lt_zero _)
            | succ f ih =>
              intro k hf hk
              refine r_iload K 0 dX6_odds_62 rfl ?_
              refine r_iload K 2 dX6_odds_64 rfl ?_
              refine r_icmp_ge K 83 dX6_odds_66 (by decide) (fun h_4 => ?_) (fun h_4 => ?_)
              · have nh_4 : s ≤ k := (nf_le rfl rfl (by omega) (by omega)).mp h_4
                have hks : k = s := by omega
                rw [hks]
                refine r_lconst K (v := 0) dX6_odds_83 (by decide) ?_
                refine r_lstore K [(8, .long 0), (6, .long (lN (10 ^ s))), (5, .int (nI s)), (4, .int (nI (ab_ks A.1).length)), (0, .ref (g.2.2 0)), (1, .int (nI x1)), (2, .int c), (3, .int w)] dX6_odds_84 (by decide) rfl ?_
                refine r_iconst K (v := 0) dX6_odds_86 (by decide) ?_
                refine r_istore K [(10, .int 0), (8, .long 0), (6, .long (lN (10 ^ s))), (5, .int (nI s)), (4, .int (nI (ab_ks A.1).length)), (0, .ref (g.2.2 0)), (1, .int (nI x1)), (2, .int c), (3, .int w)] dX6_odds_87 (by decide) rfl ?_
                have lp : ∀ (f : Nat) (m : Nat) (Mi : rs_M), (2 ^ s - m < f) → (m ≤ 2 ^ s) → (m_S Mi A) → Y Mi 89 [(10, .int (nI m)), (8, .long (lN (ab_sum (ab_termR A.2.1 A.1 c x1 ((ab_ks A.1).drop ((ab_ks A.1).length - s)) ((ab_ks A.1).take ((ab_ks A.1).length - s))) m))), (6, .long (lN (10 ^ s))), (5, .int (nI s)), (4, .int (nI (ab_ks A.1).length)), (0, .ref (g.2.2 0)), (1, .int (nI x1)), (2, .int c), (3, .int w)] [] := by
                  intro f
                  induction f with
                  | zero =>
                    intro m Mi hf
                    exact absurd hf (Nat.not_lt_zero _)
                  | succ f ih =>
                    intro m Mi hf hm hSi
                    have ihO := ih
                    refine r_iload K 0 dX6_odds_89 rfl ?_
                    refine r_iconst K (v := 1) dX6_odds_91 (by decide) ?_
                    refine r_iload K 3 dX6_odds_92 rfl ?_
                    refine r_ishl K dX6_odds_94 ?_
                    refine r_top_eq (nI (2 ^ s)) (ab_shl1 (by omega)) ?_
                    refine r_icmp_ge K 245 dX6_odds_95 (by decide) (fun h_5 => ?_) (fun h_5 => ?_)
                    · have nh_5 : (2 ^ s) ≤ m := (nf_le rfl rfl (by omega) (by omega)).mp h_5
                      have hms : m = 2 ^ s := by omega
                      have hne := ab_nearR_sum A.2.1 A.1 c x1 ((ab_ks A.1).drop ((ab_ks A.1).length - s)) ((ab_ks A.1).take ((ab_ks A.1).length - s)) hd8
                      rw [hdl, ← hms] at hne
                      have hnl := ab_near_le A.2.1 A.1 c (x := x1) (by omega) ((ab_ks A.1).drop ((ab_ks A.1).length - s)) ((ab_ks A.1).take ((ab_ks A.1).length - s))
                      rw [← hne, hdl] at hnl
                      refine r_lload K 1 dX6_odds_245 rfl ?_
                      refine r_lstore K [(10, .long (lN (ab_sum (ab_termR A.2.1 A.1 c x1 ((ab_ks A.1).drop ((ab_ks A.1).length - s)) ((ab_ks A.1).take ((ab_ks A.1).length - s))) m))), (8, .long (lN (ab_sum (ab_termR A.2.1 A.1 c x1 ((ab_ks A.1).drop ((ab_ks A.1).length - s)) ((ab_ks A.1).take ((ab_ks A.1).length - s))) m))), (6, .long (lN (10 ^ s))), (5, .int (nI s)), (4, .int (nI (ab_ks A.1).length)), (0, .ref (g.2.2 0)), (1, .int (nI x1)), (2, .int c), (3, .int w)] dX6_odds_247 (by decide) rfl ?_
                      refine r_lload K 2 dX6_odds_249 rfl ?_
                      refine r_lstore K [(12, .long (lN (10 ^ s))), (10, .long (lN (ab_sum (ab_termR A.2.1 A.1 c x1 ((ab_ks A.1).drop ((ab_ks A.1).length - s)) ((ab_ks A.1).take ((ab_ks A.1).length - s))) m))), (8, .long (lN (ab_sum (ab_termR A.2.1 A.1 c x1 ((ab_ks A.1).drop ((ab_ks A.1).length - s)) ((ab_ks A.1).take ((ab_ks A.1).length - s))) m))), (6, .long (lN (10 ^ s))), (5, .int (nI s)), (4, .int (nI (ab_ks A.1).length)), (0, .ref (g.2.2 0)), (1, .int (nI x1)), (2, .int c), (3, .int w)] dX6_odds_251 (by decide) rfl ?_
                      refine r_sub K [1, 0, 2, 3, 9] rfl ?_
                      have lz : ∀ (f : Nat) (a : Nat) (b : Nat), (b < f) → (a ≤ 100000000) → (b ≤ 100000000) → (Nat.gcd a b = Nat.gcd (ab_sum (ab_termR A.2.1 A.1 c x1 ((ab_ks A.1).drop ((ab_ks A.1).length - s)) ((ab_ks A.1).take ((ab_ks A.1).length - s))) m) (10 ^ s)) → Y Mi 253 [(10, .long (lN a)), (12, .long (lN b)), (8, .long (lN (ab_sum (ab_termR A.2.1 A.1 c x1 ((ab_ks A.1).drop ((ab_ks A.1).length - s)) ((ab_ks A.1).take ((ab_ks A.1).length - s))) m))), (6, .long (lN (10 ^ s))), (3, .int w)] [] := by
                        intro f
                        induction f with
                        | zero =>
                          intro a b hf
                          exact absurd hf (Nat.not_lt_zero _)
                        | succ f ih =>
                          intro a b hz1 ha hb hgcd
                          refine r_lload K 1 dX6_odds_253 rfl ?_
                          refine r_lconst K (v := 0) dX6_odds_255 (by decide) ?_
                          refine r_lcmp K dX6_odds_256 ?_
                          refine r_if_eq K 278 dX6_odds_257 (by decide) (fun h_6 => ?_) (fun h_6 => ?_)
                          · have hb0 : b = 0 := (x_cmp0 (by omega)).mp h_6
                            rw [hb0, Nat.gcd_zero_right] at hgcd
                            have hgp : 0 < a := by rw [hgcd]; exact Nat.gcd_pos_of_pos_right _ htp
                            have hN9 : ab_near A.2.1 A.1 c x1 ((ab_ks A.1).drop ((ab_ks A.1).length - 8)) ((ab_ks A.1).take ((ab_ks A.1).length - 8)) = ab_sum (ab_termR A.2.1 A.1 c x1 ((ab_ks A.1).drop ((ab_ks A.1).length - s)) ((ab_ks A.1).take ((ab_ks A.1).length - s))) m := by rw [hne, show (ab_ks A.1).length - s = (ab_ks A.1).length - 8 by omega]
                            rw [hN9, ← hs, Nat.gcd_comm, ← hgcd] at e0
                            refine r_iload_n K 4 dX6_odds_278 rfl rfl ?_
                            refine r_if_ne K 290 dX6_odds_279 (by decide) (fun h_7 => ?_) (fun h_7 => ?_)
                            · refine r_lload K 3 dX6_odds_290 rfl ?_
                              refine r_lload K 0 dX6_odds_292 rfl ?_
                              refine r_ldiv K dX6_odds_294 (fun q => absurd ((pk_lEQ (b := 0) (by omega) (by decide)).mp q) (by omega)) ?_
                              refine r_topl_eq (lN (10 ^ s / a)) (pk_lDiv (by omega) (by omega) (by omega)) ?_
                              refine r_l2i K dX6_odds_295 ?_
                              exact hr _ _ _ _ dX6_odds_296 ⟨by rw [lN_i, e0, if_neg h_7], hSi⟩
                            · refine r_lload K 2 dX6_odds_282 rfl ?_
                              refine r_lload K 0 dX6_odds_284 rfl ?_
                              refine r_ldiv K dX6_odds_286 (fun q => absurd ((pk_lEQ (b := 0) (by omega) (by decide)).mp q) (by omega)) ?_
                              refine r_topl_eq (lN (ab_sum (ab_termR A.2.1 A.1 c x1 ((ab_ks A.1).drop ((ab_ks A.1).length - s)) ((ab_ks A.1).take ((ab_ks A.1).length - s))) m / a)) (pk_lDiv (by omega) (by omega) (by omega)) ?_
                              refine r_goto K 295 dX6_odds_287 (by decide) ?_
                              refine r_l2i K dX6_odds_295 ?_
                              exact hr _ _ _ _ dX6_odds_296 ⟨by rw [lN_i, e0, if_pos h_7], hSi⟩
                          · have hb0 : ¬ b = 0 := mt (x_cmp0 (by omega)).mpr h_6
                            refine r_lload K 0 dX6_odds_260 rfl ?_
                            refine r_lload K 1 dX6_odds_262 rfl ?_
                            refine r_lrem K dX6_odds_264 (fun q => absurd ((pk_lEQ (b := 0) (by omega) (by decide)).mp q) (by omega)) ?_
                            refine r_topl_eq (lN (a % b)) (pk_lRem (by omega) (by omega) (by omega)) ?_
                            refine r_lstore K [(14, .long (lN (a % b))), (10, .long (lN a)), (12, .long (lN b)), (8, .long (lN (ab_sum (ab_termR A.2.1 A.1 c x1 ((ab_ks A.1).drop ((ab_ks A.1).length - s)) ((ab_ks A.1).take ((ab_ks A.1).length - s))) m))), (6, .long (lN (10 ^ s))), (3, .int w)] dX6_odds_265 (by decide) rfl ?_
                            refine r_lload K 2 dX6_odds_267 rfl ?_
                            refine r_lstore K [(10, .long (lN b)), (14, .long (lN (a % b))), (12, .long (lN b)), (8, .long (lN (ab_sum (ab_termR A.2.1 A.1 c x1 ((ab_ks A.1).drop ((ab_ks A.1).length - s)) ((ab_ks A.1).take ((ab_ks A.1).length - s))) m))), (6, .long (lN (10 ^ s))), (3, .int w)] dX6_odds_269 (by decide) rfl ?_
                            refine r_lload K 1 dX6_odds_271 rfl ?_
                            refine r_lstore K [(12, .long (lN (a % b))), (10, .long (lN b)), (14, .long (lN (a % b))), (8, .long (lN (ab_sum (ab_termR A.2.1 A.1 c x1 ((ab_ks A.1).drop ((ab_ks A.1).length - s)) ((ab_ks A.1).take ((ab_ks A.1).length - s))) m))), (6, .long (lN (10 ^ s))), (3, .int w)] dX6_odds_273 (by decide) rfl ?_
                            refine r_goto K 253 dX6_odds_275 (by decide) ?_
                            refine r_sub K [1, 0, 3, 4, 5] rfl ?_
                            have hml := Nat.mod_lt a (show 0 < b by omega)
                            exact ih b (a % b) (by omega) (by omega) (by omega) (by rw [← hgcd, Nat.gcd_comm a b, Nat.gcd_rec b a]; exact Nat.gcd_comm _ _)
                      exact lz (10 ^ s + 1) (ab_sum (ab_termR A.2.1 A.1 c x1 ((ab_ks A.1).drop ((ab_ks A.1).length - s)) ((ab_ks A.1).take ((ab_ks A.1).length - s))) m) (10 ^ s) (by omega) (by omega) (by omega) rfl
                    · have nh_5 : ¬ (2 ^ s) ≤ m := mt (nf_le rfl rfl (by omega) (by omega)).mpr h_5
                      obtain ⟨hrwi, -, -, h0i, -, -, -, -, hzi⟩ := id hSi
                      refine r_aload_n K 5 dX6_odds_98 rfl rfl ?_
                      refine r_aload_n K 5 dX6_odds_99 rfl rfl ?_
                      refine r_getR K rfl rfl ff_6_now qw_545 dX6_odds_100 ?_
                      refine r_aload_n K 5 dX6_odds_103 rfl rfl ?_
                      refine r_getI K rfl rfl ff_6_taper qw_544 dX6_odds_104 ?_
                      refine r_top_eq A.2.1 h0i ?_
                      refine r_callVv K [.ref (g.2.2 1), .int A.2.1] [] dX6_odds_107 mf_X6_layRings rfl rfl qw_697 qw_699 qs_29 (cm_layRings l g t Mi 1 (Or.inl rfl) A.1 hok hrwi hzi A.2.1) rfl rfl (by decide) (Nat.le_of_ble_eq_true rfl) (fun Mr hp => ?_)
                      obtain ⟨hp1, hp2⟩ := hp
                      refine r_lconst K (v := 1) dX6_odds_110 (by decide) ?_
                      refine r_lstore K [(11, .long 1), (10, .int (nI m)), (8, .long (lN (ab_sum (ab_termR A.2.1 A.1 c x1 ((ab_ks A.1).drop ((ab_ks A.1).length - s)) ((ab_ks A.1).take ((ab_ks A.1).length - s))) m))), (6, .long (lN (10 ^ s))), (5, .int (nI s)), (4, .int (nI (ab_ks A.1).length)), (0, .ref (g.2.2 0)), (1, .int (nI x1)), (2, .int c), (3, .int w)] dX6_odds_111 (by decide) rfl ?_
                      refine r_iconst K (v := 0) dX6_odds_113 (by decide) ?_
                      refine r_istore K [(13, .int 0), (11, .long 1), (10, .int (nI m)), (8, .long (lN (ab_sum (ab_termR A.2.1 A.1 c x1 ((ab_ks A.1).drop ((ab_ks A.1).length - s)) ((ab_ks A.1).take ((ab_ks A.1).length - s))) m))), (6, .long (lN (10 ^ s))), (5, .int (nI s)), (4, .int (nI (ab_ks A.1).length)), (0, .ref (g.2.2 0)), (1, .int (nI x1)), (2, .int c), (3, .int w)] dX6_odds_114 (by decide) rfl ?_
                      have lq : ∀ (f : Nat) (k : Nat) (Mj : rs_M), (8 - k < f) → (k ≤ s) → ((∀ c, c ≠ 7 → Mj c = Mr c) ∧ m_slk Mj (ab_ks A.1) m k) → Y Mj 116 [(13, .int (nI k)), (11, .long (lN (ab_wtr x1 k m))), (10, .int (nI m)), (8, .long (lN (ab_sum (ab_termR A.2.1 A.1 c x1 ((ab_ks A.1).drop ((ab_ks A.1).length - s)) ((ab_ks A.1).take ((ab_ks A.1).length - s))) m))), (6, .long (lN (10 ^ s))), (5, .int (nI s)), (4, .int (nI (ab_ks A.1).length)), (0, .ref (g.2.2 0)), (1, .int (nI x1)), (2, .int c), (3, .int w)] [] := by
                        intro f
                        induction f with
                        | zero =>
                          intro k Mj hf
                          exact absurd hf (Nat.not_lt_zero _)
                        | succ f ih =>
                          intro k Mj hg hk hJ
                          refine r_iload K 0 dX6_odds_116 rfl ?_
                          refine r_iload K 5 dX6_odds_118 rfl ?_
                          refine r_icmp_ge K 202 dX6_odds_120 (by decide) (fun h_8 => ?_) (fun h_8 => ?_)
                          · have nh_8 : s ≤ k := (nf_le rfl rfl (by omega) (by omega)).mp h_8
                            have hks2 : k = s := by omega
                            rw [hks2] at hJ ⊢
                            refine r_aload_n K 7 dX6_odds_202 rfl rfl ?_
                            refine r_iload K 6 dX6_odds_203 rfl ?_
                            refine r_iload K 5 dX6_odds_205 rfl ?_
                            refine r_isub K dX6_odds_207 ?_
                            refine r_top_eq (nI ((ab_ks A.1).length - s)) (pk_sub (by omega)) ?_
                            refine r_iconst K (v := 1) dX6_odds_208 (by decide) ?_
                            refine r_iadd K dX6_odds_209 ?_
                            refine r_top_eq (nI ((ab_ks A.1).length - s + 1)) (nI_1 _) ?_
                            have hSj : m_S Mj A := m_S_k hSi (m_k_tr (m_k_fs hp2) ⟨fun c hc => hJ.1 c (by omega), fun j _ => by rw [hJ.1 0 (by decide)], fun c c1 c2 => by rw [hJ.1 c (by omega)]⟩)
                            have hklen : (((ab_ks A.1).take ((ab_ks A.1).length - s)) ++ ab_slr ((ab_ks A.1).drop ((ab_ks A.1).length - s)) m).length = (ab_ks A.1).length := by rw [List.length_append, ab_slr_len, List.length_take, List.length_drop]; omega
                            have hk8 : ∀ z ∈ (((ab_ks A.1).take ((ab_ks A.1).length - s)) ++ ab_slr ((ab_ks A.1).drop ((ab_ks A.1).length - s)) m), z < 8 := fun z hz => (List.mem_append.mp hz).elim (fun q => hok.2.1 z (List.mem_of_mem_take q)) (fun q => ab_slr_lt _ m z q)
                            have hgj : m_g Mj ((ab_ks A.1).length - s) (ab_geo A.2.1 ((((ab_ks A.1).take ((ab_ks A.1).length - s)) ++ ab_slr ((ab_ks A.1).drop ((ab_ks A.1).length - s)) m).take ((ab_ks A.1).length - s))) := by
                              have e : (((ab_ks A.1).take ((ab_ks A.1).length - s)) ++ ab_slr ((ab_ks A.1).drop ((ab_ks A.1).length - s)) m).take ((ab_ks A.1).length - s) = ((ab_ks A.1).take ((ab_ks A.1).length - s)) := by rw [List.take_append_of_le_length (by rw [List.length_take]; omega), List.take_take, Nat.min_self]
                              rw [e]
                              have q := (hp1 ((ab_ks A.1).length - s) (by omega)).1
                              exact ⟨by rw [hJ.1 8 (by decide)]; exact q.1, by rw [hJ.1 9 (by decide)]; exact q.2.1, by rw [hJ.1 10 (by decide)]; exact q.2.2.1, by rw [hJ.1 11 (by decide)]; exact q.2.2.2⟩
                            refine r_callVv K [.int (nI ((ab_ks A.1).length - s + 1))] [] dX6_odds_210 mf_X6_layAgain rfl rfl qw_797 qw_799 qs_37 (cm_layAgain l g t Mj A hSj (((ab_ks A.1).take ((ab_ks A.1).length - s)) ++ ab_slr ((ab_ks A.1).drop ((ab_ks A.1).length - s)) m) hklen hk8 ((ab_ks A.1).length - s) (by omega) hgj (m_slk_e hJ.2 (by omega))) rfl rfl (by decide) (Nat.le_of_ble_eq_true rfl) (fun Mt hp => ?_)
                            obtain ⟨ha1, ha2, ha3⟩ := hp
                            have hSt : m_S Mt A := m_S_k hSj (m_k_fs (m_fs_mono ha2 (by omega)))
                            refine r_lload K 3 dX6_odds_213 rfl ?_
                            refine r_iload K 6 dX6_odds_215 rfl ?_
                            refine r_if_eq K 230 dX6_odds_217 (by decide) (fun h_9 => ?_) (fun h_9 => ?_)
                            · have nh_9 : (ab_ks A.1).length = 0 := (nf_eq rfl rfl (by omega) (by omega)).mp h_9
                              refine r_lload K 1 dX6_odds_230 rfl ?_
                              refine r_goto K 236 dX6_odds_232 (by decide) ?_
                              refine r_ladd K dX6_odds_236 ?_
                              refine r_topl_eq (lN (ab_sum (ab_termR A.2.1 A.1 c x1 ((ab_ks A.1).drop ((ab_ks A.1).length - s)) ((ab_ks A.1).take ((ab_ks A.1).length - s))) (m + 1))) (by have et : (ab_termR A.2.1 A.1 c x1 ((ab_ks A.1).drop ((ab_ks A.1).length - s)) ((ab_ks A.1).take ((ab_ks A.1).length - s))) m = ab_wtr x1 s m := (by rw [ab_termR, if_pos (by rw [show (((ab_ks A.1).take ((ab_ks A.1).length - s)) ++ ab_slr ((ab_ks A.1).drop ((ab_ks A.1).length - s)) m) = [] from List.length_eq_zero_iff.mp (by rw [hklen]; omega), ab_lcost_nil hok]; exact hc0), hdl]); rw [ab_sum, et]; exact lN_add _ _) ?_
                              refine r_lstore K [(8, .long (lN (ab_sum (ab_termR A.2.1 A.1 c x1 ((ab_ks A.1).drop ((ab_ks A.1).length - s)) ((ab_ks A.1).take ((ab_ks A.1).length - s))) (m + 1)))), (13, .int (nI s)), (11, .long (lN (ab_wtr x1 s m))), (10, .int (nI m)), (6, .long (lN (10 ^ s))), (5, .int (nI s)), (4, .int (nI (ab_ks A.1).length)), (0, .ref (g.2.2 0)), (1, .int (nI x1)), (2, .int c), (3, .int w)] dX6_odds_237 (by decide) rfl ?_
                              refine r_iinc_n K 3 [(10, .int (nI (m + 1))), (8, .long (lN (ab_sum (ab_termR A.2.1 A.1 c x1 ((ab_ks A.1).drop ((ab_ks A.1).length - s)) ((ab_ks A.1).take ((ab_ks A.1).length - s))) (m + 1)))), (13, .int (nI s)), (11, .long (lN (ab_wtr x1 s m))), (6, .long (lN (10 ^ s))), (5, .int (nI s)), (4, .int (nI (ab_ks A.1).length)), (0, .ref (g.2.2 0)), (1, .int (nI x1)), (2, .int c), (3, .int w)] dX6_odds_239 rfl (by decide) rfl ?_
                              refine r_goto K 89 dX6_odds_242 (by decide) ?_
                              refine r_sub K [0, 1, 4, 5, 6, 7, 8, 9, 10] rfl ?_
                              exact ihO (m + 1) Mt (by omega) (by omega) hSt
                            · have nh_9 : ¬ (ab_ks A.1).length = 0 := mt (nf_eq rfl rfl (by omega) (by omega)).mpr h_9
                              refine r_aload_n K 7 dX6_odds_220 rfl rfl ?_
                              refine r_iload K 6 dX6_odds_221 rfl ?_
                              refine r_callVi K [.int (nI (ab_ks A.1).length)] [.long (lN (ab_sum (ab_termR A.2.1 A.1 c x1 ((ab_ks A.1).drop ((ab_ks A.1).length - s)) ((ab_ks A.1).take ((ab_ks A.1).length - s))) m))] dX6_odds_223 mf_X6_costOf rfl rfl qw_737 qw_739 qs_35 (cm_costOf l g t Mt A.1 hok hSt.1 (ab_ks A.1).length (by omega)) rfl rfl (by decide) (Nat.le_of_ble_eq_true rfl) (fun r M9 hp9 => ?_)
                              obtain ⟨hp9, he⟩ := hp9
                              have he := he.symm
                              subst he
                              subst hp9
                              refine r_top_eq (ab_lcost A.2.1 A.1 (((ab_ks A.1).take ((ab_ks A.1).length - s)) ++ ab_slr ((ab_ks A.1).drop ((ab_ks A.1).length - s)) m)) (by rw [ha1.2.2.1, ha1.2.2.2, ab_lcost, hklen]) ?_
                              refine r_iload_n K 9 dX6_odds_226 rfl rfl ?_
                              refine r_icmp_gt K 235 dX6_odds_227 (by decide) (fun h_10 => ?_) (fun h_10 => ?_)
                              · refine r_lconst K (v := 0) dX6_odds_235 (by decide) ?_
                                refine r_ladd K dX6_odds_236 ?_
                                refine r_topl_eq (lN (ab_sum (ab_termR A.2.1 A.1 c x1 ((ab_ks A.1).drop ((ab_ks A.1).length - s)) ((ab_ks A.1).take ((ab_ks A.1).length - s))) (m + 1))) (by have et : (ab_termR A.2.1 A.1 c x1 ((ab_ks A.1).drop ((ab_ks A.1).length - s)) ((ab_ks A.1).take ((ab_ks A.1).length - s))) m = 0 := (if_neg (Int32.not_le.mpr h_10)); rw [ab_sum, et]; exact lN_add _ _) ?_
                                refine r_lstore K [(8, .long (lN (ab_sum (ab_termR A.2.1 A.1 c x1 ((ab_ks A.1).drop ((ab_ks A.1).length - s)) ((ab_ks A.1).take ((ab_ks A.1).length - s))) (m + 1)))), (13, .int (nI s)), (11, .long (lN (ab_wtr x1 s m))), (10, .int (nI m)), (6, .long (lN (10 ^ s))), (5, .int (nI s)), (4, .int (nI (ab_ks A.1).length)), (0, .ref (g.2.2 0)), (1, .int (nI x1)), (2, .int c), (3, .int w)] dX6_odds_237 (by decide) rfl ?_
                                refine r_iinc_n K 3 [(10, .int (nI (m + 1))), (8, .long (lN (ab_sum (ab_termR A.2.1 A.1 c x1 ((ab_ks A.1).drop ((ab_ks A.1).length - s)) ((ab_ks A.1).take ((ab_ks A.1).length - s))) (m + 1)))), (13, .int (nI s)), (11, .long (lN (ab_wtr x1 s m))), (6, .long (lN (10 ^ s))), (5, .int (nI s)), (4, .int (nI (ab_ks A.1).length)), (0, .ref (g.2.2 0)), (1, .int (nI x1)), (2, .int c), (3, .int w)] dX6_odds_239 rfl (by decide) rfl ?_
                                refine r_goto K 89 dX6_odds_242 (by decide) ?_
                                refine r_sub K [0, 1, 4, 5, 6, 7, 8, 9, 10] rfl ?_
                                exact ihO (m + 1) Mt (by omega) (by omega) hSt
                              · refine r_lload K 1 dX6_odds_230 rfl ?_
                                refine r_goto K 236 dX6_odds_232 (by decide) ?_
                                refine r_ladd K dX6_odds_236 ?_
                                refine r_topl_eq (lN (ab_sum (ab_termR A.2.1 A.1 c x1 ((ab_ks A.1).drop ((ab_ks A.1).length - s)) ((ab_ks A.1).take ((ab_ks A.1).length - s))) (m + 1))) (by have et : (ab_termR A.2.1 A.1 c x1 ((ab_ks A.1).drop ((ab_ks A.1).length - s)) ((ab_ks A.1).take ((ab_ks A.1).length - s))) m = ab_wtr x1 s m := (by rw [ab_termR, if_pos (Int32.not_lt.mp h_10), hdl]); rw [ab_sum, et]; exact lN_add _ _) ?_
                                refine r_lstore K [(8, .long (lN (ab_sum (ab_termR A.2.1 A.1 c x1 ((ab_ks A.1).drop ((ab_ks A.1).length - s)) ((ab_ks A.1).take ((ab_ks A.1).length - s))) (m + 1)))), (13, .int (nI s)), (11, .long (lN (ab_wtr x1 s m))), (10, .int (nI m)), (6, .long (lN (10 ^ s))), (5, .int (nI s)), (4, .int (nI (ab_ks A.1).length)), (0, .ref (g.2.2 0)), (1, .int (nI x1)), (2, .int c), (3, .int w)] dX6_odds_237 (by decide) rfl ?_
                                refine r_iinc_n K 3 [(10, .int (nI (m + 1))), (8, .long (lN (ab_sum (ab_termR A.2.1 A.1 c x1 ((ab_ks A.1).drop ((ab_ks A.1).length - s)) ((ab_ks A.1).take ((ab_ks A.1).length - s))) (m + 1)))), (13, .int (nI s)), (11, .long (lN (ab_wtr x1 s m))), (6, .long (lN (10 ^ s))), (5, .int (nI s)), (4, .int (nI (ab_ks A.1).length)), (0, .ref (g.2.2 0)), (1, .int (nI x1)), (2, .int c), (3, .int w)] dX6_odds_239 rfl (by decide) rfl ?_
                                refine r_goto K 89 dX6_odds_242 (by decide) ?_
                                refine r_sub K [0, 1, 4, 5, 6, 7, 8, 9, 10] rfl ?_
                                exact ihO (m + 1) Mt (by omega) (by omega) hSt
                          · have nh_8 : ¬ s ≤ k := mt (nf_le rfl rfl (by omega) (by omega)).mpr h_8
                            refine r_aload_n K 7 dX6_odds_123 rfl rfl ?_
                            refine r_getR K rfl rfl ff_6_keys qw_554 dX6_odds_124 ?_
                            refine r_iload K 6 dX6_odds_127 rfl ?_
                            refine r_iload K 0 dX6_odds_129 rfl ?_
                            refine r_isub K dX6_odds_131 ?_
                            refine r_top_eq (nI ((ab_ks A.1).length - k)) (pk_sub (by omega)) ?_
                            refine r_iload K 2 dX6_odds_132 rfl ?_
                            refine r_iload K 0 dX6_odds_134 rfl ?_
                            refine r_callSi K [.int (nI m), .int (nI k)] [.int (nI ((ab_ks A.1).length - k)), .ref (g.2.2 7)] dX6_odds_136 mf_X6_has qw_670 qw_671 (cm_has l g t Mj m k (by omega) (by omega)) rfl rfl (by decide) (Nat.le_of_ble_eq_true rfl) (fun r M1 hp => ?_)
                            obtain ⟨hp, he⟩ := hp
                            have he := he.symm
                            subst he
                            rcases hp with ⟨rfl, hb_11⟩ | ⟨rfl, hb_11⟩
                            · refine r_if_eq K 160 dX6_odds_139 (by decide) (fun h => absurd h (by decide)) (fun _ => ?_)
                              refine r_aload_n K 7 dX6_odds_142 rfl rfl ?_
                              refine r_getR K rfl rfl ff_6_keys qw_554 dX6_odds_143 ?_
                              refine r_iload K 6 dX6_odds_146 rfl ?_
                              refine r_iload K 0 dX6_odds_148 rfl ?_
                              refine r_isub K dX6_odds_150 ?_
                              refine r_top_eq (nI ((ab_ks A.1).length - k)) (pk_sub (by omega)) ?_
                              refine r_iald K (j := (ab_ks A.1).length - k) rfl rfl (by omega) (by decide) dX6_odds_151 ?_
                              refine r_top_eq (nI ((ab_ks A.1).getD ((ab_ks A.1).length - k - 1) 0)) (by rw [hJ.2 ((ab_ks A.1).length - k) (by omega) (by omega), if_neg (Nat.lt_irrefl _)]) ?_
                              refine r_iconst K (v := 1) dX6_odds_152 (by decide) ?_
                              refine r_iadd K dX6_odds_153 ?_
                              refine r_top_eq (nI (((ab_ks A.1).getD ((ab_ks A.1).length - k - 1) 0) + 1)) (nI_1 _) ?_
                              refine r_bipush K (v := 8) dX6_odds_154 (by decide) ?_
                              refine r_irem K dX6_odds_156 (by decide) ?_
                              refine r_top_eq (nI ((((ab_ks A.1).getD ((ab_ks A.1).length - k - 1) 0) + 1) % 8)) (pk_rem (d := 8) (by have := hg8 ((ab_ks A.1).length - k - 1); omega) (by decide) (by decide)) ?_
                              refine r_goto K 170 dX6_odds_157 (by decide) ?_
                              refine r_iast K (j := (ab_ks A.1).length - k) rfl rfl (by omega) (by decide) dX6_odds_170 ?_
                              refine r_lload K 1 dX6_odds_171 rfl ?_
                              refine r_iload K 2 dX6_odds_173 rfl ?_
                              refine r_iload K 0 dX6_odds_175 rfl ?_
                              refine r_callSi K [.int (nI m), .int (nI k)] [.long (lN (ab_wtr x1 k m))] dX6_odds_177 mf_X6_has qw_670 qw_671 (cm_has l g t (rs_st Mj 7 ((ab_ks A.1).length - k) (nI ((((ab_ks A.1).getD ((ab_ks A.1).length - k - 1) 0) + 1) % 8))) m k (by omega) (by omega)) rfl rfl (by decide) (Nat.le_of_ble_eq_true rfl) (fun r M1 hp => ?_)
                              obtain ⟨hp, he⟩ := hp
                              have he := he.symm
                              subst he
                              rcases hp with ⟨rfl, hb_12⟩ | ⟨rfl, hb_12⟩
                              rotate_left
                              · exact absurd hb_11 hb_12
                              refine r_if_eq K 188 dX6_odds_180 (by decide) (fun h => absurd h (by decide)) (fun _ => ?_)
                              refine r_iload_n K 8 dX6_odds_183 rfl rfl ?_
                              refine r_i2l K dX6_odds_184 ?_
                              refine r_topl_eq (lN x1) (nI_l (by omega)) ?_
                              refine r_goto K 193 dX6_odds_185 (by decide) ?_
                              refine r_lmul K dX6_odds_193 ?_
                              refine r_topl_eq (lN (ab_wtr x1 (k + 1) m)) (by rw [ab_wtr, if_pos hb_11]; exact lN_mul _ _) ?_
                              refine r_lstore K [(11, .long (lN (ab_wtr x1 (k + 1) m))), (13, .int (nI k)), (10, .int (nI m)), (8, .long (lN (ab_sum (ab_termR A.2.1 A.1 c x1 ((ab_ks A.1).drop ((ab_ks A.1).length - s)) ((ab_ks A.1).take ((ab_ks A.1).length - s))) m))), (6, .long (lN (10 ^ s))), (5, .int (nI s)), (4, .int (nI (ab_ks A.1).length)), (0, .ref (g.2.2 0)), (1, .int (nI x1)), (2, .int c), (3, .int w)] dX6_odds_194 (by decide) rfl ?_
                              refine r_iinc_n K 1 [(13, .int (nI (k + 1))), (11, .long (lN (ab_wtr x1 (k + 1) m))), (10, .int (nI m)), (8, .long (lN (ab_sum (ab_termR A.2.1 A.1 c x1 ((ab_ks A.1).drop ((ab_ks A.1).length - s)) ((ab_ks A.1).take ((ab_ks A.1).length - s))) m))), (6, .long (lN (10 ^ s))), (5, .int (nI s)), (4, .int (nI (ab_ks A.1).length)), (0, .ref (g.2.2 0)), (1, .int (nI x1)), (2, .int c), (3, .int w)] dX6_odds_196 rfl (by decide) rfl ?_
                              refine r_goto K 116 dX6_odds_199 (by decide) ?_
                              have h78 := hg8 ((ab_ks A.1).length - k - 1)
                              exact ih (k + 1) _ (by omega) (by omega) ⟨fun c hc => by rw [rs_st_ne _ _ _ hc]; exact hJ.1 c hc, m_slk_s hJ.2 (by omega) (by rw [hb_11])⟩
                            · refine r_if_eq K 160 dX6_odds_139 (by decide) (fun _ => ?_) (fun h => absurd h (by decide))
                              refine r_aload_n K 7 dX6_odds_160 rfl rfl ?_
                              refine r_getR K rfl rfl ff_6_keys qw_554 dX6_odds_161 ?_
                              refine r_iload K 6 dX6_odds_164 rfl ?_
                              refine r_iload K 0 dX6_odds_166 rfl ?_
                              refine r_isub K dX6_odds_168 ?_
                              refine r_top_eq (nI ((ab_ks A.1).length - k)) (pk_sub (by omega)) ?_
                              refine r_iald K (j := (ab_ks A.1).length - k) rfl rfl (by omega) (by decide) dX6_odds_169 ?_
                              refine r_top_eq (nI ((ab_ks A.1).getD ((ab_ks A.1).length - k - 1) 0)) (by rw [hJ.2 ((ab_ks A.1).length - k) (by omega) (by omega), if_neg (Nat.lt_irrefl _)]) ?_
                              refine r_iast K (j := (ab_ks A.1).length - k) rfl rfl (by omega) (by decide) dX6_odds_170 ?_
                              refine r_lload K 1 dX6_odds_171 rfl ?_
                              refine r_iload K 2 dX6_odds_173 rfl ?_
                              refine r_iload K 0 dX6_odds_175 rfl ?_
                              refine r_callSi K [.int (nI m), .int (nI k)] [.long (lN (ab_wtr x1 k m))] dX6_odds_177 mf_X6_has qw_670 qw_671 (cm_has l g t (rs_st Mj 7 ((ab_ks A.1).length - k) (nI ((ab_ks A.1).getD ((ab_ks A.1).length - k - 1) 0))) m k (by omega) (by omega)) rfl rfl (by decide) (Nat.le_of_ble_eq_true rfl) (fun r M1 hp => ?_)
                              obtain ⟨hp, he⟩ := hp
                              have he := he.symm
                              subst he
                              rcases hp with ⟨rfl, hb_13⟩ | ⟨rfl, hb_13⟩
                              · exact absurd hb_13 hb_11
                              refine r_if_eq K 188 dX6_odds_180 (by decide) (fun _ => ?_) (fun h => absurd h (by decide))
                              refine r_bipush K (v := 10) dX6_odds_188 (by decide) ?_
                              refine r_iload_n K 8 dX6_odds_190 rfl rfl ?_
                              refine r_isub K dX6_odds_191 ?_
                              refine r_top_eq (nI (10 - x1)) (pk_sub (a := 10) (by omega)) ?_
                              refine r_i2l K dX6_odds_192 ?_
                              refine r_topl_eq (lN (10 - x1)) (nI_l (by omega)) ?_
                              refine r_lmul K dX6_odds_193 ?_
                              refine r_topl_eq (lN (ab_wtr x1 (k + 1) m)) (by rw [ab_wtr, if_neg hb_11]; exact lN_mul _ _) ?_
                              refine r_lstore K [(11, .long (lN (ab_wtr x1 (k + 1) m))), (13, .int (nI k)), (10, .int (nI m)), (8, .long (lN (ab_sum (ab_termR A.2.1 A.1 c x1 ((ab_ks A.1).drop ((ab_ks A.1).length - s)) ((ab_ks A.1).take ((ab_ks A.1).length - s))) m))), (6, .long (lN (10 ^ s))), (5, .int (nI s)), (4, .int (nI (ab_ks A.1).length)), (0, .ref (g.2.2 0)), (1, .int (nI x1)), (2, .int c), (3, .int w)] dX6_odds_194 (by decide) rfl ?_
                              refine r_iinc_n K 1 [(13, .int (nI (k + 1))), (11, .long (lN (ab_wtr x1 (k + 1) m))), (10, .int (nI m)), (8, .long (lN (ab_sum (ab_termR A.2.1 A.1 c x1 ((ab_ks A.1).drop ((ab_ks A.1).length - s)) ((ab_ks A.1).take ((ab_ks A.1).length - s))) m))), (6, .long (lN (10 ^ s))), (5, .int (nI s)), (4, .int (nI (ab_ks A.1).length)), (0, .ref (g.2.2 0)), (1, .int (nI x1)), (2, .int c), (3, .int w)] dX6_odds_196 rfl (by decide) rfl ?_
                              refine r_goto K 116 dX6_odds_199 (by decide) ?_
                              have h78 := hg8 ((ab_ks A.1).length - k - 1)
                              exact ih (k + 1) _ (by omega) (by omega) ⟨fun c hc => by rw [rs_st_ne _ _ _ hc]; exact hJ.1 c hc, m_slk_s hJ.2 (by omega) (by omega)⟩
                      exact lq 9 0 Mr (by omega) (by omega) ⟨fun _ _ => rfl, fun i i1 i2 => by rw [if_neg (by omega)]; exact (hp1 i i2).2 i1⟩
                exact lp (2 ^ s + 1) 0 M (Nat.lt_succ_of_le (Nat.sub_le _ _)) (Nat.zero_le _) hS
              · have nh_4 : ¬ s ≤ k := mt (nf_le rfl rfl (by omega) (by omega)).mpr h_4
                refine r_lload K 1 dX6_odds_69 rfl ?_
                refine r_ldc2 K dX6_odds_71 qw_805 ?_
                refine r_lmul K dX6_odds_74 ?_
                refine r_topl_eq (lN (10 ^ (k + 1))) (lN_mul (10 ^ k) 10) ?_
                refine r_lstore K [(6, .long (lN (10 ^ (k + 1)))), (8, .int (nI k)), (5, .int (nI s)), (4, .int (nI (ab_ks A.1).length)), (0, .ref (g.2.2 0)), (1, .int (nI x1)), (2, .int c), (3, .int w)] dX6_odds_75 (by decide) rfl ?_
                refine r_iinc_n K 1 [(8, .int (nI (k + 1))), (6, .long (lN (10 ^ (k + 1)))), (5, .int (nI s)), (4, .int (nI (ab_ks A.1).length)), (0, .ref (g.2.2 0)), (1, .int (nI x1)), (2, .int c), (3, .int w)] dX6_odds_77 rfl (by decide) rfl ?_
                refine r_goto K 62 dX6_odds_80 (by decide) ?_
                exact ih (k + 1) (by omega) (by omega)
          exact lw 9 0 (by omega) (by omega)
        refine r_iload K 0 dX6_odds_40 rfl ?_
        refine r_bipush K (v := 8) dX6_odds_42 (by decide) ?_
        refine r_icmp_ge K 52 dX6_odds_44 (by decide) (fun h_14 => ?_) (fun h_14 => ?_)
        · have nh_14 : 8 ≤ (ab_ks A.1).length := (nf_le rfl rfl (by omega) (by omega)).mp h_14
          refine r_bipush K (v := 8) dX6_odds_52 (by decide) ?_
          refine r_top_eq (nI s) (by rw [hs, Nat.min_eq_right (by omega)]; rfl) ?_
          exact hj
        · have nh_14 : ¬ 8 ≤ (ab_ks A.1).length := mt (nf_le rfl rfl (by omega) (by omega)).mpr h_14
          refine r_iload K 0 dX6_odds_47 rfl ?_
          refine r_goto K 54 dX6_odds_49 (by decide) ?_
          refine r_top_eq (nI s) (by rw [hs, Nat.min_eq_left (by omega)]) ?_
          exact hj
      · refine r_if_ne K 32 dX6_odds_27 (by decide) (fun h => absurd h (by decide)) (fun _ => ?_)
        refine r_iconst K (v := (-1)) dX6_odds_30 (by decide) ?_
        exact hr _ _ _ _ dX6_odds_31 ⟨by rw [ab_odds, ab_if_neg (fun q => hb_3 q.2.2)], hS⟩
    · refine r_if_eq K 30 dX6_odds_18 (by decide) (fun _ => ?_) (fun h => absurd h (by decide))
      refine r_iconst K (v := (-1)) dX6_odds_30 (by decide) ?_
      exact hr _ _ _ _ dX6_odds_31 ⟨by rw [ab_odds, ab_if_neg (fun q => hb_2 q.2.1)], hS⟩
  · refine r_if_eq K 30 dX6_odds_7 (by decide) (fun _ => ?_) (fun h => absurd h (by decide))
    refine r_iconst K (v := (-1)) dX6_odds_30 (by decide) ?_
    exact hr _ _ _ _ dX6_odds_31 ⟨by rw [ab_odds, ab_if_neg (fun q => hb_1 q.1)], hS⟩
