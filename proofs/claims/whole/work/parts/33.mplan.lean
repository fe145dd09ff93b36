/-! plans by figures of eight -/
def ab_dg : Nat → Nat → List Nat
  | 0, _ => []
  | r + 1, c => (c / 8 ^ r % 8) :: ab_dg r c
theorem ab_dg_len : ∀ r c, (ab_dg r c).length = r
  | 0, _ => rfl
  | r + 1, c => by rw [ab_dg, List.length_cons, ab_dg_len r c]
theorem ab_dg_get : ∀ (r c k : Nat), k < r → (ab_dg r c)[k]? = some (c / 8 ^ (r - 1 - k) % 8)
  | 0, _, _, h => absurd h (Nat.not_lt_zero _)
  | r + 1, c, 0, _ => by rw [ab_dg, List.getElem?_cons_zero, show r + 1 - 1 - 0 = r by omega]
  | r + 1, c, k + 1, h => by rw [ab_dg, List.getElem?_cons_succ, ab_dg_get r c k (by omega), show r + 1 - 1 - (k + 1) = r - 1 - k by omega]
theorem ab_dg_lt : ∀ (r c : Nat), ∀ x ∈ ab_dg r c, x < 8
  | 0, _, x, h => absurd h List.not_mem_nil
  | r + 1, c, x, h => by
    rcases List.mem_cons.mp h with e | e
    · rw [e]; exact Nat.mod_lt _ (by decide)
    · exact ab_dg_lt r c x e
theorem ab_dg_mod (m j k : Nat) : ∀ s, s ≤ m → ab_dg s (k * 8 ^ m + j) = ab_dg s j
  | 0, _ => rfl
  | s + 1, h => by
    rw [ab_dg, ab_dg, ab_dg_mod m j k s (by omega)]
    congr 1
    have e : 8 ^ m = 8 ^ s * (8 * 8 ^ (m - s - 1)) := by
      rw [← Nat.mul_assoc, Nat.mul_comm (8 ^ s) 8, ← Nat.pow_succ', ← Nat.pow_add]
      congr 1
      omega
    rw [e, show k * (8 ^ s * (8 * 8 ^ (m - s - 1))) + j = j + 8 ^ s * (8 * (8 ^ (m - s - 1) * k)) by
      rw [Nat.add_comm]
      congr 1
      rw [Nat.mul_comm k, Nat.mul_assoc, Nat.mul_assoc], Nat.add_mul_div_left _ _ (Nat.pow_pos (by decide)), Nat.add_mul_mod_self_left]
noncomputable def ab_run (tp : Int32) (L : ab_L) (ks : List Nat) : List Nat → List Nat → Int32 → ab_A → ab_A
  | [], p, s, a => ab_note a s p
  | d :: ds, p, s, a => @ite ab_A (ab_may tp L (ks ++ p) d) (Classical.propDecidable _) (ab_run tp L ks ds (p ++ [d]) (s + ab_lcost tp L (ks ++ p ++ [d])) a) a
theorem ab_kfold_congr {F G : Nat → ab_A → ab_A} : ∀ (n : Nat) (a : ab_A), (∀ k a, k < n → F k a = G k a) → ab_kfold F n a = ab_kfold G n a
  | 0, _, _ => rfl
  | n + 1, a, h => by rw [ab_kfold, ab_kfold, ab_kfold_congr n a (fun k a hk => h k a (by omega)), h n _ (by omega)]
theorem ab_kfold_add {F : Nat → ab_A → ab_A} (m : Nat) : ∀ (n : Nat) (a : ab_A), ab_kfold F (m + n) a = ab_kfold (fun j a => F (m + j) a) n (ab_kfold F m a)
  | 0, _ => rfl
  | n + 1, a => by rw [← Nat.add_assoc, ab_kfold, ab_kfold_add m n a, ab_kfold]
theorem ab_kfold_mul {F : Nat → ab_A → ab_A} (n : Nat) : ∀ (m : Nat) (a : ab_A), ab_kfold F (m * n) a = ab_kfold (fun k a => ab_kfold (fun j a => F (k * n + j) a) n a) m a
  | 0, a => by rw [Nat.zero_mul]; rfl
  | m + 1, a => by rw [Nat.add_mul, Nat.one_mul, ab_kfold_add, ab_kfold_mul n m a]; rfl
theorem ab_srch_fold (tp : Int32) (L : ab_L) (ks : List Nat) : ∀ (r : Nat) (p : List Nat) (s : Int32) (a : ab_A), ab_srch tp L ks r p s a = ab_kfold (fun c a => ab_run tp L ks (ab_dg r c) p s a) (8 ^ r) a
  | 0, p, s, a => rfl
  | r + 1, p, s, a => by
    rw [Nat.pow_succ', ab_kfold_mul]
    rw [ab_srch]
    refine ab_kfold_congr 8 a (fun k a hk => ?_)
    have hb : 0 < 8 ^ r := Nat.pow_pos (by decide)
    have e : ∀ (b : ab_A), ab_kfold (fun j a => ab_run tp L ks (ab_dg (r + 1) (k * 8 ^ r + j)) p s a) (8 ^ r) b = ab_kfold (fun j a => @ite ab_A (ab_may tp L (ks ++ p) k) (Classical.propDecidable _) (ab_run tp L ks (ab_dg r j) (p ++ [k]) (s + ab_lcost tp L (ks ++ p ++ [k])) a) a) (8 ^ r) b := by
      intro b
      refine ab_kfold_congr _ b (fun j a hj => ?_)
      have e1 : (k * 8 ^ r + j) / 8 ^ r % 8 = k := by
        rw [Nat.mul_comm, Nat.mul_add_div hb, Nat.div_eq_of_lt hj]
        omega
      rw [ab_dg, e1, ab_dg_mod r j k r (Nat.le_refl _), ab_run]
    rw [e a]
    by_cases hm : ab_may tp L (ks ++ p) k
    · rw [if_pos hm, ab_srch_fold tp L ks r]
      exact ab_kfold_congr _ a (fun j a _ => (if_pos hm).symm)
    · rw [if_neg hm]
      refine (ab_kfold_same _ (fun j _ => ?_)).symm
      exact if_neg hm
theorem ab_plan_fold (tp : Int32) (L : ab_L) (h : Nat) : ab_plan tp L h = ab_kfold (fun c a => ab_run tp L (ab_ks L) (ab_dg h c) [] 0 a) (8 ^ h) (0, 0, []) := ab_srch_fold tp L _ h [] 0 _
theorem ab_note_new {a : ab_A} {s : Int32} {p : List Nat} (h : a.1 = 0 ∨ s < a.2.1) : ab_note a s p = (1, s, p) := by
  rw [ab_note, if_neg, if_pos h]
  rintro ⟨h1, h2⟩
  rcases h with h | h
  · omega
  · rw [h2] at h; exact Int32.lt_irrefl h
theorem ab_note_eq {a : ab_A} {s : Int32} {p : List Nat} (h0 : 0 < a.1) (h : s = a.2.1) : ab_note a s p = (a.1 + 1, a.2.1, a.2.2) := by rw [ab_note, if_pos ⟨h0, h⟩]
theorem ab_note_old {a : ab_A} {s : Int32} {p : List Nat} (h0 : ¬ a.1 = 0) (h1 : ¬ s < a.2.1) (h2 : ¬ s = a.2.1) : ab_note a s p = a := by
  rw [ab_note, if_neg (fun q => h2 q.2), if_neg (fun q => q.elim h0 h1)]
def m_pl (M : rs_M) (h : Nat) (a : ab_A) : Prop := M 0 26 = nI a.1 ∧ (0 < a.1 → M 0 28 = a.2.1 ∧ ∃ c, c < 8 ^ h ∧ M 0 27 = nI c ∧ a.2.2 = ab_dg h c)
theorem m_g_ne {M M1 : rs_M} {i : Nat} {q : ab_P} (e : ∀ c, c ≠ 0 → M1 c = M c) (h : m_g M i q) : m_g M1 i q := ⟨by rw [e 8 (by decide)]; exact h.1, by rw [e 9 (by decide)]; exact h.2.1, by rw [e 10 (by decide)]; exact h.2.2.1, by rw [e 11 (by decide)]; exact h.2.2.2⟩
theorem x_shl8 : ∀ h, h ≤ 5 → (1 : Int32) <<< ((3 * nI h) &&& 31) = nI (8 ^ h) := by decide
theorem x_sh3 : ∀ m, m ≤ 4 → ((nI (3 * m) &&& 31).toBitVec.smod 32).toNat = 3 * m := by decide
theorem x_shr3 {c m : Nat} (hc : c < 2 ^ 31) (hm : m ≤ 4) : nI c >>> (nI (3 * m) &&& 31) = nI (c / 8 ^ m) := by
  rw [pk_shrN hc _ (3 * m) (x_sh3 m hm), Nat.pow_mul]
set_option maxHeartbeats 4000000 in
set_option maxRecDepth 100000 in
theorem cm_keyOf (l : Launch) (g : rs_G) (t : Nat × Nat) (M : rs_M) (c h k : Nat) (hc : c < 2 ^ 31) (h5 : h ≤ 5) (hk : k < h) : rs_Ci l g mk t yX6_keyOf cX6_keyOf 3 .int 0 [.int (nI c), .int (nI h), .int (nI k)] M (fun r M1 => r = nI (c / 8 ^ (h - 1 - k) % 8) ∧ M1 = M) := by
  refine rs_ofi (plainFor_of_name (by decide)) (Nat.le_of_ble_eq_true rfl) ?_
  intro Y K hr
  show Y M 0 [(0, .int (nI c)), (1, .int (nI h)), (2, .int (nI k))] []
  refine r_iload_n K 0 dX6_keyOf_0 rfl rfl ?_
  refine r_iconst K (v := 3) dX6_keyOf_1 (by decide) ?_
  refine r_iload_n K 1 dX6_keyOf_2 rfl rfl ?_
  refine r_iconst K (v := 1) dX6_keyOf_3 (by decide) ?_
  refine r_isub K dX6_keyOf_4 ?_
  refine r_top_eq (nI (h - 1)) (pk_sub (b := 1) (by omega)) ?_
  refine r_iload_n K 2 dX6_keyOf_5 rfl rfl ?_
  refine r_isub K dX6_keyOf_6 ?_
  refine r_top_eq (nI (h - 1 - k)) (pk_sub (by omega)) ?_
  refine r_imul K dX6_keyOf_7 ?_
  refine r_top_eq (nI (3 * (h - 1 - k))) (pk_mul 3 _) ?_
  refine r_ishr K dX6_keyOf_8 ?_
  refine r_top_eq (nI (c / 8 ^ (h - 1 - k))) (x_shr3 hc (by omega)) ?_
  refine r_bipush K (v := 7) dX6_keyOf_9 (by decide) ?_
  refine r_iand K dX6_keyOf_11 ?_
  refine r_top_eq (nI (c / 8 ^ (h - 1 - k) % 8)) (pk_andN (Nat.lt_of_le_of_lt (Nat.div_le_self _ _) (by omega)) 3 (by decide)) ?_
  exact hr _ _ _ _ dX6_keyOf_12 ⟨rfl, rfl⟩
set_option maxHeartbeats 4000000 in
set_option maxRecDepth 100000 in
theorem cm_layPlan (l : Launch) (g : rs_G) (t : Nat × Nat) (M : rs_M) (A : ab_S) (hS : m_S M A) (h : Nat) (h1 : 1 ≤ h) (h5 : h ≤ 5) : rs_Cv l g mk t yX6_layPlan cX6_layPlan 7 4 [.ref (g.2.2 0), .int (nI h)] M (fun M1 => m_S M1 A ∧ m_pl M1 h (ab_plan A.2.1 A.1 h)) := by
  obtain ⟨hrow, hok, ht, h0, hun, hse, htx, him, hz⟩ := id hS
  have hn12 := hok.1
  obtain ⟨N, hN⟩ : ∃ N, N = 8 ^ h := ⟨_, rfl⟩
  have hNl : N ≤ 32768 := by rw [hN]; exact Nat.pow_le_pow_right (n := 8) (by decide) h5
  refine rs_ofv (plainFor_of_name (by decide)) (Nat.le_of_ble_eq_true rfl) ?_
  intro Y K hr
  show Y M 0 [(0, .ref (g.2.2 0)), (1, .int (nI h))] []
  refine r_aload_n K 0 dX6_layPlan_0 rfl rfl ?_
  refine r_iconst K (v := 0) dX6_layPlan_1 (by decide) ?_
  refine r_put K rfl rfl ff_6_planMany qw_570 rfl rfl dX6_layPlan_2 ?_
  have hS0 : m_S (rs_st M 0 26 0) A := m_S_k hS (m_k_st (by decide))
  obtain ⟨hrow0, -, -, h00, -, -, -, -, hz0⟩ := id hS0
  refine r_aload_n K 0 dX6_layPlan_5 rfl rfl ?_
  refine r_aload_n K 0 dX6_layPlan_6 rfl rfl ?_
  refine r_getR K rfl rfl ff_6_now qw_545 dX6_layPlan_7 ?_
  refine r_aload_n K 0 dX6_layPlan_10 rfl rfl ?_
  refine r_getI K rfl rfl ff_6_taper qw_544 dX6_layPlan_11 ?_
  refine r_top_eq A.2.1 h00 ?_
  refine r_callVv K [.ref (g.2.2 1), .int A.2.1] [] dX6_layPlan_14 mf_X6_layRings rfl rfl qw_697 qw_699 qs_29 (cm_layRings l g t (rs_st M 0 26 0) 1 (Or.inl rfl) A.1 hok hrow0 hz0 A.2.1) rfl rfl (by decide) (Nat.le_of_ble_eq_true rfl) (fun Mr hp => ?_)
  obtain ⟨hp1, hp2⟩ := hp
  have hSr : m_S Mr A := m_S_k hS0 (m_k_fs hp2)
  have hgr : m_g Mr (ab_ks A.1).length (ab_geo A.2.1 (ab_ks A.1)) := by have := (hp1 _ (Nat.le_refl _)).1; rwa [List.take_length] at this
  have hkr : ∀ j, (ab_ks A.1).getLast? = some j → Mr 7 (ab_ks A.1).length = nI j := fun j hj => m_last hp1 hj
  refine r_aload_n K 0 dX6_layPlan_17 rfl rfl ?_
  refine r_getR K rfl rfl ff_6_now qw_545 dX6_layPlan_18 ?_
  refine r_iconst K (v := 3) dX6_layPlan_21 (by decide) ?_
  refine r_iald K (j := 3) rfl rfl (by decide) (by decide) dX6_layPlan_22 ?_
  refine r_top_eq (nI (ab_ks A.1).length) hSr.1.2.2.2.1 ?_
  refine r_istore_n K [(2, .int (nI (ab_ks A.1).length)), (0, .ref (g.2.2 0)), (1, .int (nI h))] dX6_layPlan_23 rfl (by decide) rfl ?_
  refine r_iconst K (v := 0) dX6_layPlan_24 (by decide) ?_
  refine r_istore_n K [(3, .int 0), (2, .int (nI (ab_ks A.1).length)), (0, .ref (g.2.2 0)), (1, .int (nI h))] dX6_layPlan_25 rfl (by decide) rfl ?_
  have lp : ∀ (f : Nat) (c : Nat) (a : ab_A) (Mi : rs_M), (N - c < f) → (c ≤ N) → (m_S Mi A) → (m_g Mi (ab_ks A.1).length (ab_geo A.2.1 (ab_ks A.1))) → (∀ j, (ab_ks A.1).getLast? = some j → Mi 7 (ab_ks A.1).length = nI j) → (m_pl Mi h a) → (a.1 ≤ c) → (a = ab_kfold (fun c a => ab_run A.2.1 A.1 (ab_ks A.1) (ab_dg h c) [] 0 a) c (0, 0, [])) → Y Mi 26 [(3, .int (nI c)), (2, .int (nI (ab_ks A.1).length)), (0, .ref (g.2.2 0)), (1, .int (nI h))] [] := by
    intro f
    induction f with
    | zero =>
      intro c a Mi hf
      exact absurd hf (Nat.not_lt_zero _)
    | succ f ih =>
      intro c a Mi hf hc hSi hgi hki hpl hac ha
      have ihO := ih
      refine r_iload_n K 0 dX6_layPlan_26 rfl rfl ?_
      refine r_iconst K (v := 1) dX6_layPlan_27 (by decide) ?_
      refine r_iconst K (v := 3) dX6_layPlan_28 (by decide) ?_
      refine r_iload_n K 3 dX6_layPlan_29 rfl rfl ?_
      refine r_imul K dX6_layPlan_30 ?_
      refine r_ishl K dX6_layPlan_31 ?_
      refine r_top_eq (nI N) (by rw [hN]; exact x_shl8 h h5) ?_
      refine r_icmp_ge K 173 dX6_layPlan_32 (by decide) (fun h_1 => ?_) (fun h_1 => ?_)
      · have nh_1 : N ≤ c := (nf_le rfl rfl (by omega) (by omega)).mp h_1
        have hcN : c = N := by omega
        exact hr _ _ _ dX6_layPlan_173 ⟨hSi, by rw [ab_plan_fold, ← hN, ← hcN, ← ha]; exact hpl⟩
      · have nh_1 : ¬ N ≤ c := mt (nf_le rfl rfl (by omega) (by omega)).mpr h_1
        refine r_iconst K (v := 1) dX6_layPlan_35 (by decide) ?_
        refine r_istore K [(4, .int 1), (3, .int (nI c)), (2, .int (nI (ab_ks A.1).length)), (0, .ref (g.2.2 0)), (1, .int (nI h))] dX6_layPlan_36 (by decide) rfl ?_
        refine r_iconst K (v := 0) dX6_layPlan_38 (by decide) ?_
        refine r_istore K [(5, .int 0), (4, .int 1), (3, .int (nI c)), (2, .int (nI (ab_ks A.1).length)), (0, .ref (g.2.2 0)), (1, .int (nI h))] dX6_layPlan_39 (by decide) rfl ?_
        refine r_iconst K (v := 0) dX6_layPlan_41 (by decide) ?_
        refine r_istore K [(6, .int 0), (5, .int 0), (4, .int 1), (3, .int (nI c)), (2, .int (nI (ab_ks A.1).length)), (0, .ref (g.2.2 0)), (1, .int (nI h))] dX6_layPlan_42 (by decide) rfl ?_
        have lq : ∀ (f : Nat) (k : Nat) (b : Int32) (s : Int32) (Mj : rs_M), (h - k < f) → (k ≤ h) → ((b = 1 ∧ ∃ p ds, p.length = k ∧ p ++ ds = ab_dg h c ∧ (∀ a, ab_run A.2.1 A.1 (ab_ks A.1) (ab_dg h c) [] 0 a = ab_run A.2.1 A.1 (ab_ks A.1) ds p s a) ∧ m_g Mj ((ab_ks A.1).length + k) (ab_geo A.2.1 (ab_ks A.1 ++ p)) ∧ ∀ j, (ab_ks A.1 ++ p).getLast? = some j → Mj 7 ((ab_ks A.1).length + k) = nI j) ∨ (b = 0 ∧ ∀ a, ab_run A.2.1 A.1 (ab_ks A.1) (ab_dg h c) [] 0 a = a)) → (m_fs Mi Mj ((ab_ks A.1).length + 1)) → Y Mj 44 [(6, .int (nI k)), (5, .int s), (4, .int b), (3, .int (nI c)), (2, .int (nI (ab_ks A.1).length)), (0, .ref (g.2.2 0)), (1, .int (nI h))] [] := by
          intro f
          induction f with
          | zero =>
            intro k b s Mj hf
            exact absurd hf (Nat.not_lt_zero _)
          | succ f ih =>
            intro k b s Mj hg hk hJ hK
            refine r_iload K 0 dX6_layPlan_44 rfl ?_
            refine r_iload_n K 6 dX6_layPlan_46 rfl rfl ?_
            refine r_icmp_ge K 103 dX6_layPlan_47 (by decide) (fun h_2 => ?_) (fun h_2 => ?_)
            · have nh_2 : h ≤ k := (nf_le rfl rfl (by omega) (by omega)).mp h_2
              have hSj : m_S Mj A := m_S_k hSi (m_k_fs (m_fs_mono hK (by omega)))
              have hj0 : Mj 0 = Mi 0 := hK.1 0 (by decide)
              have hgJ : m_g Mj (ab_ks A.1).length (ab_geo A.2.1 (ab_ks A.1)) := m_g_fs hgi hK (by omega)
              have hkJ : ∀ j, (ab_ks A.1).getLast? = some j → Mj 7 (ab_ks A.1).length = nI j := fun j hj => by rw [hK.2 7 _ (by decide) (by decide) (by omega)]; exact hki j hj
              refine r_iload K 2 dX6_layPlan_103 rfl ?_
              refine r_if_eq K 143 dX6_layPlan_105 (by decide) (fun h_3 => ?_) (fun h_3 => ?_)
              · refine r_iload K 2 dX6_layPlan_143 rfl ?_
                refine r_if_eq K 167 dX6_layPlan_145 (by decide) (fun _ => ?_) (fun h9 => absurd h_3 h9)
                refine r_iinc_n K 3 [(3, .int (nI (c + 1))), (6, .int (nI k)), (5, .int s), (4, .int b), (2, .int (nI (ab_ks A.1).length)), (0, .ref (g.2.2 0)), (1, .int (nI h))] dX6_layPlan_167 rfl (by decide) rfl ?_
                refine r_goto K 26 dX6_layPlan_170 (by decide) ?_
                refine r_sub K [0, 4, 5, 6] rfl ?_
                have eE : ∀ c9, c9 ≠ 0 → Mj c9 = Mj c9 := fun c9 hc => rfl
                have hSE : m_S Mj A := m_S_k hSj (m_k_rf _)
                have hQ : ∀ a, ab_run A.2.1 A.1 (ab_ks A.1) (ab_dg h c) [] 0 a = a := by
                  rcases hJ with ⟨e9, -⟩ | ⟨-, hQ⟩
                  · exact absurd (e9.symm.trans h_3) (by decide)
                  · exact hQ
                have hfin : ab_run A.2.1 A.1 (ab_ks A.1) (ab_dg h c) [] 0 a = a := hQ a
                have haE : a = ab_kfold (fun c a => ab_run A.2.1 A.1 (ab_ks A.1) (ab_dg h c) [] 0 a) (c + 1) (0, 0, []) := by
                  show _ = ab_run A.2.1 A.1 (ab_ks A.1) (ab_dg h c) [] 0 (ab_kfold (fun c a => ab_run A.2.1 A.1 (ab_ks A.1) (ab_dg h c) [] 0 a) c (0, 0, []))
                  rw [← ha, hfin]
                exact ihO (c + 1) a _ (by omega) (by omega) hSE (m_g_ne eE hgJ) (fun j hj => by rw [eE 7 (by decide)]; exact hkJ j hj) (by rw [m_pl, hj0]; exact hpl) (by omega) haE
              · rcases hJ with ⟨rfl, p, ds, hpk, hpd, hrun, hgj, hkj⟩ | ⟨rfl, hQ⟩
                rotate_left
                · exact absurd rfl h_3
                have hds : ds = [] := List.length_eq_zero_iff.mp (by have q := congrArg List.length hpd; rw [ab_dg_len, List.length_append] at q; omega)
                subst hds
                have hpp : p = ab_dg h c := by rw [← hpd, List.append_nil]
                have hra := hrun a
                rw [ab_run] at hra
                refine r_aload_n K 5 dX6_layPlan_108 rfl rfl ?_
                refine r_getI K rfl rfl ff_6_planMany qw_570 dX6_layPlan_109 ?_
                refine r_top_eq (nI a.1) (by rw [hj0]; exact hpl.1) ?_
                refine r_if_eq K 124 dX6_layPlan_112 (by decide) (fun h_4 => ?_) (fun h_4 => ?_)
                · have nh_4 : a.1 = 0 := (nf_eq rfl rfl (by omega) (by omega)).mp h_4
                  refine r_aload_n K 5 dX6_layPlan_124 rfl rfl ?_
                  refine r_iconst K (v := 1) dX6_layPlan_125 (by decide) ?_
                  refine r_put K rfl rfl ff_6_planMany qw_570 rfl rfl dX6_layPlan_126 ?_
                  refine r_aload_n K 5 dX6_layPlan_129 rfl rfl ?_
                  refine r_iload_n K 3 dX6_layPlan_130 rfl rfl ?_
                  refine r_put K rfl rfl ff_6_planFirst qw_571 rfl rfl dX6_layPlan_131 ?_
                  refine r_aload_n K 5 dX6_layPlan_134 rfl rfl ?_
                  refine r_iload K 1 dX6_layPlan_135 rfl ?_
                  refine r_put K rfl rfl ff_6_planCost qw_572 rfl rfl dX6_layPlan_137 ?_
                  refine r_goto K 167 dX6_layPlan_140 (by decide) ?_
                  refine r_iinc_n K 3 [(3, .int (nI (c + 1))), (6, .int (nI k)), (5, .int s), (4, .int 1), (2, .int (nI (ab_ks A.1).length)), (0, .ref (g.2.2 0)), (1, .int (nI h))] dX6_layPlan_167 rfl (by decide) rfl ?_
                  refine r_goto K 26 dX6_layPlan_170 (by decide) ?_
                  refine r_sub K [0, 4, 5, 6] rfl ?_
                  have eE : ∀ c9, c9 ≠ 0 → (rs_st (rs_st (rs_st Mj 0 26 1) 0 27 (nI c)) 0 28 s) c9 = Mj c9 := fun c9 hc => by rw [rs_st_ne _ _ _ hc, rs_st_ne _ _ _ hc, rs_st_ne _ _ _ hc]
                  have hSE : m_S (rs_st (rs_st (rs_st Mj 0 26 1) 0 27 (nI c)) 0 28 s) A := m_S_k hSj (m_k_tr (m_k_tr (m_k_st (by decide)) (m_k_st (by decide))) (m_k_st (by decide)))
                  have hfin : ab_run A.2.1 A.1 (ab_ks A.1) (ab_dg h c) [] 0 a = ((1, s, ab_dg h c) : ab_A) := hra.trans ((ab_note_new (Or.inl (by omega))).trans (by rw [hpp]))
                  have haE : ((1, s, ab_dg h c) : ab_A) = ab_kfold (fun c a => ab_run A.2.1 A.1 (ab_ks A.1) (ab_dg h c) [] 0 a) (c + 1) (0, 0, []) := by
                    show _ = ab_run A.2.1 A.1 (ab_ks A.1) (ab_dg h c) [] 0 (ab_kfold (fun c a => ab_run A.2.1 A.1 (ab_ks A.1) (ab_dg h c) [] 0 a) c (0, 0, []))
                    rw [← ha, hfin]
                  exact ihO (c + 1) ((1, s, ab_dg h c) : ab_A) _ (by omega) (by omega) hSE (m_g_ne eE hgJ) (fun j hj => by rw [eE 7 (by decide)]; exact hkJ j hj) ⟨by simp [rs_st]; rfl, fun _ => ⟨by rw [rs_st_eq], c, by omega, by simp [rs_st], rfl⟩⟩ (by show 1 ≤ c + 1; omega) haE
                · have nh_4 : ¬ a.1 = 0 := mt (nf_eq rfl rfl (by omega) (by omega)).mpr h_4
                  refine r_iload K 1 dX6_layPlan_115 rfl ?_
                  refine r_aload_n K 5 dX6_layPlan_117 rfl rfl ?_
                  refine r_getI K rfl rfl ff_6_planCost qw_572 dX6_layPlan_118 ?_
                  refine r_top_eq a.2.1 (by rw [hj0]; exact (hpl.2 (by omega)).1) ?_
                  refine r_icmp_ge K 143 dX6_layPlan_121 (by decide) (fun h_5 => ?_) (fun h_5 => ?_)
                  · refine r_iload K 2 dX6_layPlan_143 rfl ?_
                    refine r_if_eq K 167 dX6_layPlan_145 (by decide) (fun h => absurd h (by decide)) (fun _ => ?_)
                    refine r_iload K 1 dX6_layPlan_148 rfl ?_
                    refine r_aload_n K 5 dX6_layPlan_150 rfl rfl ?_
                    refine r_getI K rfl rfl ff_6_planCost qw_572 dX6_layPlan_151 ?_
                    refine r_top_eq a.2.1 (by rw [hj0]; exact (hpl.2 (by omega)).1) ?_
                    refine r_icmp_ne K 167 dX6_layPlan_154 (by decide) (fun h_6 => ?_) (fun h_6 => ?_)
                    · refine r_iinc_n K 3 [(3, .int (nI (c + 1))), (6, .int (nI k)), (5, .int s), (4, .int 1), (2, .int (nI (ab_ks A.1).length)), (0, .ref (g.2.2 0)), (1, .int (nI h))] dX6_layPlan_167 rfl (by decide) rfl ?_
                      refine r_goto K 26 dX6_layPlan_170 (by decide) ?_
                      refine r_sub K [0, 4, 5, 6] rfl ?_
                      have eE : ∀ c9, c9 ≠ 0 → Mj c9 = Mj c9 := fun c9 hc => rfl
                      have hSE : m_S Mj A := m_S_k hSj (m_k_rf _)
                      have hfin : ab_run A.2.1 A.1 (ab_ks A.1) (ab_dg h c) [] 0 a = a := hra.trans (ab_note_old (by omega) (Int32.not_lt.mpr h_5) h_6)
                      have haE : a = ab_kfold (fun c a => ab_run A.2.1 A.1 (ab_ks A.1) (ab_dg h c) [] 0 a) (c + 1) (0, 0, []) := by
                        show _ = ab_run A.2.1 A.1 (ab_ks A.1) (ab_dg h c) [] 0 (ab_kfold (fun c a => ab_run A.2.1 A.1 (ab_ks A.1) (ab_dg h c) [] 0 a) c (0, 0, []))
                        rw [← ha, hfin]
                      exact ihO (c + 1) a _ (by omega) (by omega) hSE (m_g_ne eE hgJ) (fun j hj => by rw [eE 7 (by decide)]; exact hkJ j hj) (by rw [m_pl, hj0]; exact hpl) (by omega) haE
                    · refine r_aload_n K 5 dX6_layPlan_157 rfl rfl ?_
                      refine r_dup K dX6_layPlan_158 rfl ?_
                      refine r_getI K rfl rfl ff_6_planMany qw_570 dX6_layPlan_159 ?_
                      refine r_top_eq (nI a.1) (by rw [hj0]; exact hpl.1) ?_
                      refine r_iconst K (v := 1) dX6_layPlan_162 (by decide) ?_
                      refine r_iadd K dX6_layPlan_163 ?_
                      refine r_top_eq (nI (a.1 + 1)) (nI_1 _) ?_
                      refine r_put K rfl rfl ff_6_planMany qw_570 rfl rfl dX6_layPlan_164 ?_
                      refine r_iinc_n K 3 [(3, .int (nI (c + 1))), (6, .int (nI k)), (5, .int s), (4, .int 1), (2, .int (nI (ab_ks A.1).length)), (0, .ref (g.2.2 0)), (1, .int (nI h))] dX6_layPlan_167 rfl (by decide) rfl ?_
                      refine r_goto K 26 dX6_layPlan_170 (by decide) ?_
                      refine r_sub K [0, 4, 5, 6] rfl ?_
                      have eE : ∀ c9, c9 ≠ 0 → (rs_st Mj 0 26 (nI (a.1 + 1))) c9 = Mj c9 := fun c9 hc => by rw [rs_st_ne _ _ _ hc]
                      have hSE : m_S (rs_st Mj 0 26 (nI (a.1 + 1))) A := m_S_k hSj (m_k_st (by decide))
                      have hfin : ab_run A.2.1 A.1 (ab_ks A.1) (ab_dg h c) [] 0 a = ((a.1 + 1, a.2.1, a.2.2) : ab_A) := hra.trans (ab_note_eq (by omega) h_6)
                      have haE : ((a.1 + 1, a.2.1, a.2.2) : ab_A) = ab_kfold (fun c a => ab_run A.2.1 A.1 (ab_ks A.1) (ab_dg h c) [] 0 a) (c + 1) (0, 0, []) := by
                        show _ = ab_run A.2.1 A.1 (ab_ks A.1) (ab_dg h c) [] 0 (ab_kfold (fun c a => ab_run A.2.1 A.1 (ab_ks A.1) (ab_dg h c) [] 0 a) c (0, 0, []))
                        rw [← ha, hfin]
                      exact ihO (c + 1) ((a.1 + 1, a.2.1, a.2.2) : ab_A) _ (by omega) (by omega) hSE (m_g_ne eE hgJ) (fun j hj => by rw [eE 7 (by decide)]; exact hkJ j hj) ⟨by rw [rs_st_eq], fun _ => by rw [rs_st_nk _ _ _ (by decide), rs_st_nk _ _ _ (by decide), hj0]; exact hpl.2 (by omega)⟩ (by show a.1 + 1 ≤ c + 1; omega) haE
                  · refine r_aload_n K 5 dX6_layPlan_124 rfl rfl ?_
                    refine r_iconst K (v := 1) dX6_layPlan_125 (by decide) ?_
                    refine r_put K rfl rfl ff_6_planMany qw_570 rfl rfl dX6_layPlan_126 ?_
                    refine r_aload_n K 5 dX6_layPlan_129 rfl rfl ?_
                    refine r_iload_n K 3 dX6_layPlan_130 rfl rfl ?_
                    refine r_put K rfl rfl ff_6_planFirst qw_571 rfl rfl dX6_layPlan_131 ?_
                    refine r_aload_n K 5 dX6_layPlan_134 rfl rfl ?_
                    refine r_iload K 1 dX6_layPlan_135 rfl ?_
                    refine r_put K rfl rfl ff_6_planCost qw_572 rfl rfl dX6_layPlan_137 ?_
                    refine r_goto K 167 dX6_layPlan_140 (by decide) ?_
                    refine r_iinc_n K 3 [(3, .int (nI (c + 1))), (6, .int (nI k)), (5, .int s), (4, .int 1), (2, .int (nI (ab_ks A.1).length)), (0, .ref (g.2.2 0)), (1, .int (nI h))] dX6_layPlan_167 rfl (by decide) rfl ?_
                    refine r_goto K 26 dX6_layPlan_170 (by decide) ?_
                    refine r_sub K [0, 4, 5, 6] rfl ?_
                    have eE : ∀ c9, c9 ≠ 0 → (rs_st (rs_st (rs_st Mj 0 26 1) 0 27 (nI c)) 0 28 s) c9 = Mj c9 := fun c9 hc => by rw [rs_st_ne _ _ _ hc, rs_st_ne _ _ _ hc, rs_st_ne _ _ _ hc]
                    have hSE : m_S (rs_st (rs_st (rs_st Mj 0 26 1) 0 27 (nI c)) 0 28 s) A := m_S_k hSj (m_k_tr (m_k_tr (m_k_st (by decide)) (m_k_st (by decide))) (m_k_st (by decide)))
                    have hfin : ab_run A.2.1 A.1 (ab_ks A.1) (ab_dg h c) [] 0 a = ((1, s, ab_dg h c) : ab_A) := hra.trans ((ab_note_new (Or.inr (Int32.not_le.mp h_5))).trans (by rw [hpp]))
                    have haE : ((1, s, ab_dg h c) : ab_A) = ab_kfold (fun c a => ab_run A.2.1 A.1 (ab_ks A.1) (ab_dg h c) [] 0 a) (c + 1) (0, 0, []) := by
                      show _ = ab_run A.2.1 A.1 (ab_ks A.1) (ab_dg h c) [] 0 (ab_kfold (fun c a => ab_run A.2.1 A.1 (ab_ks A.1) (ab_dg h c) [] 0 a) c (0, 0, []))
                      rw [← ha, hfin]
                    exact ihO (c + 1) ((1, s, ab_dg h c) : ab_A) _ (by omega) (by omega) hSE (m_g_ne eE hgJ) (fun j hj => by rw [eE 7 (by decide)]; exact hkJ j hj) ⟨by simp [rs_st]; rfl, fun _ => ⟨by rw [rs_st_eq], c, by omega, by simp [rs_st], rfl⟩⟩ (by show 1 ≤ c + 1; omega) haE
            · have nh_2 : ¬ h ≤ k := mt (nf_le rfl rfl (by omega) (by omega)).mpr h_2
              refine r_iload K 2 dX6_layPlan_50 rfl ?_
              refine r_if_eq K 103 dX6_layPlan_52 (by decide) (fun h_7 => ?_) (fun h_7 => ?_)
              · have hSj : m_S Mj A := m_S_k hSi (m_k_fs (m_fs_mono hK (by omega)))
                have hj0 : Mj 0 = Mi 0 := hK.1 0 (by decide)
                have hgJ : m_g Mj (ab_ks A.1).length (ab_geo A.2.1 (ab_ks A.1)) := m_g_fs hgi hK (by omega)
                have hkJ : ∀ j, (ab_ks A.1).getLast? = some j → Mj 7 (ab_ks A.1).length = nI j := fun j hj => by rw [hK.2 7 _ (by decide) (by decide) (by omega)]; exact hki j hj
                refine r_iload K 2 dX6_layPlan_103 rfl ?_
                refine r_if_eq K 143 dX6_layPlan_105 (by decide) (fun _ => ?_) (fun h9 => absurd h_7 h9)
                refine r_iload K 2 dX6_layPlan_143 rfl ?_
                refine r_if_eq K 167 dX6_layPlan_145 (by decide) (fun _ => ?_) (fun h9 => absurd h_7 h9)
                refine r_iinc_n K 3 [(3, .int (nI (c + 1))), (6, .int (nI k)), (5, .int s), (4, .int b), (2, .int (nI (ab_ks A.1).length)), (0, .ref (g.2.2 0)), (1, .int (nI h))] dX6_layPlan_167 rfl (by decide) rfl ?_
                refine r_goto K 26 dX6_layPlan_170 (by decide) ?_
                refine r_sub K [0, 4, 5, 6] rfl ?_
                have eE : ∀ c9, c9 ≠ 0 → Mj c9 = Mj c9 := fun c9 hc => rfl
                have hSE : m_S Mj A := m_S_k hSj (m_k_rf _)
                have hQ : ∀ a, ab_run A.2.1 A.1 (ab_ks A.1) (ab_dg h c) [] 0 a = a := by
                  rcases hJ with ⟨e9, -⟩ | ⟨-, hQ⟩
                  · exact absurd (e9.symm.trans h_7) (by decide)
                  · exact hQ
                have hfin : ab_run A.2.1 A.1 (ab_ks A.1) (ab_dg h c) [] 0 a = a := hQ a
                have haE : a = ab_kfold (fun c a => ab_run A.2.1 A.1 (ab_ks A.1) (ab_dg h c) [] 0 a) (c + 1) (0, 0, []) := by
                  show _ = ab_run A.2.1 A.1 (ab_ks A.1) (ab_dg h c) [] 0 (ab_kfold (fun c a => ab_run A.2.1 A.1 (ab_ks A.1) (ab_dg h c) [] 0 a) c (0, 0, []))
                  rw [← ha, hfin]
                exact ihO (c + 1) a _ (by omega) (by omega) hSE (m_g_ne eE hgJ) (fun j hj => by rw [eE 7 (by decide)]; exact hkJ j hj) (by rw [m_pl, hj0]; exact hpl) (by omega) haE
              · rcases hJ with ⟨rfl, p, ds, hpk, hpd, hrun, hgj, hkj⟩ | ⟨rfl, hQ⟩
                rotate_left
                · exact absurd rfl h_7
                obtain ⟨d, es, rfl⟩ : ∃ d es, ds = d :: es := by
                  cases ds with
                  | nil => have q := congrArg List.length hpd; rw [ab_dg_len, List.append_nil] at q; omega
                  | cons d es => exact ⟨d, es, rfl⟩
                have hd : d = c / 8 ^ (h - 1 - k) % 8 := by
                  have q := ab_dg_get h c k (by omega)
                  rw [← hpd, List.getElem?_append_right (by omega), hpk, Nat.sub_self, List.getElem?_cons_zero] at q
                  exact Option.some.inj q
                have hd8 : d < 8 := by rw [hd]; exact Nat.mod_lt _ (by decide)
                have hpl8 : ∀ x ∈ ab_ks A.1 ++ p, x < 8 := fun x hx => (List.mem_append.mp hx).elim (fun q => hok.2.1 x q) (fun q => ab_dg_lt h c x (by rw [← hpd]; exact List.mem_append_left _ q))
                refine r_aload_n K 5 dX6_layPlan_55 rfl rfl ?_
                refine r_aload_n K 5 dX6_layPlan_56 rfl rfl ?_
                refine r_getR K rfl rfl ff_6_now qw_545 dX6_layPlan_57 ?_
                refine r_iload_n K 4 dX6_layPlan_60 rfl rfl ?_
                refine r_iconst K (v := 1) dX6_layPlan_61 (by decide) ?_
                refine r_iadd K dX6_layPlan_62 ?_
                refine r_top_eq (nI ((ab_ks A.1).length + 1)) (nI_1 _) ?_
                refine r_iload K 0 dX6_layPlan_63 rfl ?_
                refine r_iadd K dX6_layPlan_65 ?_
                refine r_top_eq (nI ((ab_ks A.1).length + k + 1)) (by rw [nI_add, show (ab_ks A.1).length + 1 + k = (ab_ks A.1).length + k + 1 by omega]) ?_
                refine r_iload_n K 3 dX6_layPlan_66 rfl rfl ?_
                refine r_iload_n K 6 dX6_layPlan_67 rfl rfl ?_
                refine r_iload K 0 dX6_layPlan_68 rfl ?_
                refine r_callSi K [.int (nI c), .int (nI h), .int (nI k)] [.int (nI ((ab_ks A.1).length + k + 1)), .ref (g.2.2 1), .ref (g.2.2 0)] dX6_layPlan_70 mf_X6_keyOf qw_749 qw_750 (cm_keyOf l g t Mj c h k (by omega) (by omega) (by omega)) rfl rfl (by decide) (Nat.le_of_ble_eq_true rfl) (fun r M1 hp => ?_)
                obtain ⟨hp, he⟩ := hp
                have he := he.symm
                subst he
                subst hp
                refine r_top_eq (nI d) (by rw [hd]) ?_
                refine r_aload_n K 5 dX6_layPlan_73 rfl rfl ?_
                refine r_getI K rfl rfl ff_6_taper qw_544 dX6_layPlan_74 ?_
                refine r_top_eq A.2.1 (by rw [hK.1 0 (by decide)]; exact hSi.2.2.2.1) ?_
                refine r_callVi K [.ref (g.2.2 1), .int (nI ((ab_ks A.1).length + k + 1)), .int (nI d), .int A.2.1] [] dX6_layPlan_77 mf_X6_mayBe rfl rfl qw_711 qw_713 qs_31 (cm_mayBe l g t Mj 1 (Or.inl rfl) A.1 hok (by rw [hK.1 1 (by decide)]; exact hSi.1) A.2.1 (ab_ks A.1 ++ p) ((ab_ks A.1).length + k) (by rw [List.length_append, hpk]) (by omega) hpl8 hgj hkj d hd8) rfl rfl (by decide) (Nat.le_of_ble_eq_true rfl) (fun r M1 hp => ?_)
                obtain ⟨hb, hg1, hg2, hg3⟩ := hp
                have hfs1 : m_fs Mi M1 ((ab_ks A.1).length + 1) := m_fs_tr hK (m_fs_mono hg3 (by omega))
                have hr1 : m_row (M1 1) A.1 := by rw [hfs1.1 1 (by decide)]; exact hSi.1
                rcases hb with ⟨rfl, hmay⟩ | ⟨rfl, hmay⟩
                · refine r_istore K [(4, .int 1), (6, .int (nI k)), (5, .int s), (3, .int (nI c)), (2, .int (nI (ab_ks A.1).length)), (0, .ref (g.2.2 0)), (1, .int (nI h))] dX6_layPlan_80 (by decide) rfl ?_
                  refine r_iload K 2 dX6_layPlan_82 rfl ?_
                  refine r_aload_n K 5 dX6_layPlan_84 rfl rfl ?_
                  refine r_iload_n K 4 dX6_layPlan_85 rfl rfl ?_
                  refine r_iconst K (v := 1) dX6_layPlan_86 (by decide) ?_
                  refine r_iadd K dX6_layPlan_87 ?_
                  refine r_top_eq (nI ((ab_ks A.1).length + 1)) (nI_1 _) ?_
                  refine r_iload K 1 dX6_layPlan_88 rfl ?_
                  refine r_iadd K dX6_layPlan_90 ?_
                  refine r_top_eq (nI ((ab_ks A.1).length + k + 1)) (by rw [nI_add, show (ab_ks A.1).length + 1 + k = (ab_ks A.1).length + k + 1 by omega]) ?_
                  refine r_callVi K [.int (nI ((ab_ks A.1).length + k + 1))] [.int s] dX6_layPlan_91 mf_X6_costOf rfl rfl qw_737 qw_739 qs_35 (cm_costOf l g t M1 A.1 hok hr1 ((ab_ks A.1).length + k + 1) (by omega)) rfl rfl (by decide) (Nat.le_of_ble_eq_true rfl) (fun r M9 hp9 => ?_)
                  obtain ⟨hp9, he⟩ := hp9
                  have he := he.symm
                  subst he
                  subst hp9
                  refine r_top_eq (ab_lcost A.2.1 A.1 (ab_ks A.1 ++ p ++ [d])) (by rw [hg1.2.2.1, hg1.2.2.2, ab_lcost, show (ab_ks A.1 ++ p ++ [d]).length = (ab_ks A.1).length + k + 1 by simp; omega]) ?_
                  refine r_iadd K dX6_layPlan_94 ?_
                  refine r_istore K [(5, .int (s + (ab_lcost A.2.1 A.1 (ab_ks A.1 ++ p ++ [d])))), (4, .int 1), (6, .int (nI k)), (3, .int (nI c)), (2, .int (nI (ab_ks A.1).length)), (0, .ref (g.2.2 0)), (1, .int (nI h))] dX6_layPlan_95 (by decide) rfl ?_
                  refine r_iinc_n K 2 [(6, .int (nI (k + 1))), (5, .int (s + (ab_lcost A.2.1 A.1 (ab_ks A.1 ++ p ++ [d])))), (4, .int 1), (3, .int (nI c)), (2, .int (nI (ab_ks A.1).length)), (0, .ref (g.2.2 0)), (1, .int (nI h))] dX6_layPlan_97 rfl (by decide) rfl ?_
                  refine r_goto K 44 dX6_layPlan_100 (by decide) ?_
                  refine ih (k + 1) 1 _ M1 (by omega) (by omega) (Or.inl ⟨rfl, p ++ [d], es, by rw [List.length_append, hpk]; rfl, by rw [List.append_assoc]; exact hpd, fun a => by rw [hrun a, ab_run, if_pos hmay], by rw [← List.append_assoc]; exact hg1, fun j hj => ?_⟩) hfs1
                  rw [← List.append_assoc, List.getLast?_concat] at hj
                  rw [← Option.some.inj hj]
                  exact hg2
                · refine r_istore K [(4, .int 0), (6, .int (nI k)), (5, .int s), (3, .int (nI c)), (2, .int (nI (ab_ks A.1).length)), (0, .ref (g.2.2 0)), (1, .int (nI h))] dX6_layPlan_80 (by decide) rfl ?_
                  refine r_iload K 2 dX6_layPlan_82 rfl ?_
                  refine r_aload_n K 5 dX6_layPlan_84 rfl rfl ?_
                  refine r_iload_n K 4 dX6_layPlan_85 rfl rfl ?_
                  refine r_iconst K (v := 1) dX6_layPlan_86 (by decide) ?_
                  refine r_iadd K dX6_layPlan_87 ?_
                  refine r_top_eq (nI ((ab_ks A.1).length + 1)) (nI_1 _) ?_
                  refine r_iload K 1 dX6_layPlan_88 rfl ?_
                  refine r_iadd K dX6_layPlan_90 ?_
                  refine r_top_eq (nI ((ab_ks A.1).length + k + 1)) (by rw [nI_add, show (ab_ks A.1).length + 1 + k = (ab_ks A.1).length + k + 1 by omega]) ?_
                  refine r_callVi K [.int (nI ((ab_ks A.1).length + k + 1))] [.int s] dX6_layPlan_91 mf_X6_costOf rfl rfl qw_737 qw_739 qs_35 (cm_costOf l g t M1 A.1 hok hr1 ((ab_ks A.1).length + k + 1) (by omega)) rfl rfl (by decide) (Nat.le_of_ble_eq_true rfl) (fun r M9 hp9 => ?_)
                  obtain ⟨hp9, he⟩ := hp9
                  have he := he.symm
                  subst he
                  subst hp9
                  refine r_top_eq (ab_lcost A.2.1 A.1 (ab_ks A.1 ++ p ++ [d])) (by rw [hg1.2.2.1, hg1.2.2.2, ab_lcost, show (ab_ks A.1 ++ p ++ [d]).length = (ab_ks A.1).length + k + 1 by simp; omega]) ?_
                  refine r_iadd K dX6_layPlan_94 ?_
                  refine r_istore K [(5, .int (s + (ab_lcost A.2.1 A.1 (ab_ks A.1 ++ p ++ [d])))), (4, .int 0), (6, .int (nI k)), (3, .int (nI c)), (2, .int (nI (ab_ks A.1).length)), (0, .ref (g.2.2 0)), (1, .int (nI h))] dX6_layPlan_95 (by decide) rfl ?_
                  refine r_iinc_n K 2 [(6, .int (nI (k + 1))), (5, .int (s + (ab_lcost A.2.1 A.1 (ab_ks A.1 ++ p ++ [d])))), (4, .int 0), (3, .int (nI c)), (2, .int (nI (ab_ks A.1).length)), (0, .ref (g.2.2 0)), (1, .int (nI h))] dX6_layPlan_97 rfl (by decide) rfl ?_
                  refine r_goto K 44 dX6_layPlan_100 (by decide) ?_
                  exact ih (k + 1) 0 _ M1 (by omega) (by omega) (Or.inr ⟨rfl, fun a => by rw [hrun a, ab_run, if_neg hmay]⟩) hfs1
        exact lq (h + 1) 0 1 0 Mi (by omega) (by omega) (Or.inl ⟨rfl, [], ab_dg h c, rfl, rfl, fun _ => rfl, by rw [List.append_nil]; exact hgi, by rw [List.append_nil]; exact hki⟩) (m_fs_rf _ _)
  exact lp (N + 1) 0 (0, 0, []) Mr (by omega) (by omega) hSr hgr hkr ⟨by rw [hp2.1 0 (by decide), rs_st_eq]; rfl, fun q => absurd q (Nat.lt_irrefl 0)⟩ (Nat.le_refl 0) rfl
theorem m_pl_key {M : rs_M} {h : Nat} {a : ab_A} (hp : m_pl M h a) (h0 : 0 < a.1) (h5 : h ≤ 5) : ∃ c, c < 32768 ∧ M 0 27 = nI c ∧ ∀ k, k < h → c / 8 ^ (h - 1 - k) % 8 = a.2.2.getD k 0 := by
  obtain ⟨-, c, c1, c2, c3⟩ := hp.2 h0
  have : 8 ^ h ≤ 32768 := Nat.pow_le_pow_right (n := 8) (by decide) h5
  refine ⟨c, by omega, c2, fun k hk => ?_⟩
  rw [c3, List.getD, ab_dg_get h c k hk]
  rfl
set_option maxHeartbeats 4000000 in
set_option maxRecDepth 100000 in
theorem cm_plan (l : Launch) (g : rs_G) (t : Nat × Nat) (M : rs_M) (A : ab_S) (hS : m_S M A) (h k : Int32) : rs_Ci l g mk t yX6_plan cX6_plan 3 .int 5 [.ref (g.2.2 0), .int h, .int k] M (fun r M1 => m_R (ab_planS A h k, A) r M1) := by
  obtain ⟨hrow, hok, ht, h0, hun, hse, htx, him, hz⟩ := id hS
  have hn12 := hok.1
  refine rs_ofi (plainFor_of_name (by decide)) (Nat.le_of_ble_eq_true rfl) ?_
  intro Y K hr
  show Y M 0 [(0, .ref (g.2.2 0)), (1, .int h), (2, .int k)] []
  refine r_iload_n K 1 dX6_plan_0 rfl rfl ?_
  refine r_iconst K (v := 1) dX6_plan_1 (by decide) ?_
  refine r_iconst K (v := 5) dX6_plan_2 (by decide) ?_
  refine r_callSi K [.int h, .int 1, .int 5] [] dX6_plan_3 mf_X6_in qw_636 qw_637 (cm_in l g t M h 1 5) rfl rfl (by decide) (Nat.le_of_ble_eq_true rfl) (fun r M1 hp => ?_)
  obtain ⟨hp, he⟩ := hp
  have he := he.symm
  subst he
  rcases hp with ⟨rfl, hb_1⟩ | ⟨rfl, hb_1⟩
  · refine r_if_eq K 15 dX6_plan_6 (by decide) (fun h => absurd h (by decide)) (fun _ => ?_)
    refine r_iload_n K 2 dX6_plan_9 rfl rfl ?_
    refine r_bipush K (v := (-2)) dX6_plan_10 (by decide) ?_
    refine r_icmp_ge K 17 dX6_plan_12 (by decide) (fun h_2 => ?_) (fun h_2 => ?_)
    · obtain ⟨j, hj1, hj2, rfl⟩ := x_nat (a := 1) (b := 5) hb_1 (by omega) (by omega)
      have jc : (nI j).toNatClampNeg = j := nI_clamp (by omega)
      have hpr := ab_plan_rows A.2.1 A.1 (h := j) (by omega)
      have e0 : ab_planS A (nI j) k = _ := ab_if_pos ⟨hb_1, h_2⟩
      rw [jc] at e0
      refine r_aload_n K 0 dX6_plan_17 rfl rfl ?_
      refine r_iload_n K 1 dX6_plan_18 rfl rfl ?_
      refine r_callVv K [.int (nI j)] [] dX6_plan_19 mf_X6_layPlan rfl rfl qw_745 qw_747 qs_36 (cm_layPlan l g t M A hS j (by omega) (by omega)) rfl rfl (by decide) (Nat.le_of_ble_eq_true rfl) (fun Mk hp => ?_)
      obtain ⟨hSk, hl2⟩ := hp
      refine r_aload_n K 0 dX6_plan_22 rfl rfl ?_
      refine r_getI K rfl rfl ff_6_planMany qw_570 dX6_plan_23 ?_
      refine r_top_eq (nI (ab_plan A.2.1 A.1 j).1) hl2.1 ?_
      refine r_if_eq K 34 dX6_plan_26 (by decide) (fun h_3 => ?_) (fun h_3 => ?_)
      · have nh_3 : (ab_plan A.2.1 A.1 j).1 = 0 := (nf_eq rfl rfl (by omega) (by omega)).mp h_3
        refine r_bipush K (v := (-9)) dX6_plan_34 (by decide) ?_
        exact hr _ _ _ _ dX6_plan_36 ⟨by rw [e0, ab_if_pos (Or.inr (by omega))], hSk⟩
      · have nh_3 : ¬ (ab_plan A.2.1 A.1 j).1 = 0 := mt (nf_eq rfl rfl (by omega) (by omega)).mpr h_3
        refine r_iload_n K 2 dX6_plan_29 rfl rfl ?_
        refine r_iload_n K 1 dX6_plan_30 rfl rfl ?_
        refine r_icmp_lt K 37 dX6_plan_31 (by decide) (fun h_4 => ?_) (fun h_4 => ?_)
        · refine r_iload_n K 2 dX6_plan_37 rfl rfl ?_
          refine r_iconst K (v := (-1)) dX6_plan_38 (by decide) ?_
          refine r_icmp_ne K 49 dX6_plan_39 (by decide) (fun h_5 => ?_) (fun h_5 => ?_)
          · refine r_iload_n K 2 dX6_plan_49 rfl rfl ?_
            refine r_bipush K (v := (-2)) dX6_plan_50 (by decide) ?_
            refine r_icmp_ne K 62 dX6_plan_52 (by decide) (fun h_6 => ?_) (fun h_6 => ?_)
            · obtain ⟨q, hq, rfl⟩ := x_knat (by omega) h_2 h_5 h_6 h_4
              have qc : (nI q).toNatClampNeg = q := nI_clamp (by omega)
              obtain ⟨cc, hc1, hc2, hc3⟩ := m_pl_key hl2 (by omega) (by omega)
              refine r_aload_n K 0 dX6_plan_62 rfl rfl ?_
              refine r_getI K rfl rfl ff_6_planFirst qw_571 dX6_plan_63 ?_
              refine r_top_eq (nI cc) hc2 ?_
              refine r_iload_n K 1 dX6_plan_66 rfl rfl ?_
              refine r_iload_n K 2 dX6_plan_67 rfl rfl ?_
              refine r_callSi K [.int (nI cc), .int (nI j), .int (nI q)] [] dX6_plan_68 mf_X6_keyOf qw_749 qw_750 (cm_keyOf l g t Mk cc j q (by omega) (by omega) (by omega)) rfl rfl (by decide) (Nat.le_of_ble_eq_true rfl) (fun r M1 hp => ?_)
              obtain ⟨hp, he⟩ := hp
              have he := he.symm
              subst he
              subst hp
              refine r_top_eq (nI ((ab_plan A.2.1 A.1 j).2.2.getD q 0)) (by rw [hc3 q (by omega)]) ?_
              exact hr _ _ _ _ dX6_plan_71 ⟨by rw [e0, ab_if_neg (fun z => z.elim (fun z => absurd z (Int32.not_le.mpr h_4)) (fun z => by omega)), ab_if_neg h_5, ab_if_neg h_6, qc], hSk⟩
            · refine r_aload_n K 0 dX6_plan_55 rfl rfl ?_
              refine r_getI K rfl rfl ff_6_planMany qw_570 dX6_plan_56 ?_
              refine r_top_eq (nI (ab_plan A.2.1 A.1 j).1) hl2.1 ?_
              refine r_goto K 71 dX6_plan_59 (by decide) ?_
              exact hr _ _ _ _ dX6_plan_71 ⟨by rw [e0, ab_if_neg (fun z => z.elim (fun z => absurd z (Int32.not_le.mpr h_4)) (fun z => by omega)), ab_if_neg h_5, ab_if_pos h_6], hSk⟩
          · refine r_aload_n K 0 dX6_plan_42 rfl rfl ?_
            refine r_getI K rfl rfl ff_6_planCost qw_572 dX6_plan_43 ?_
            refine r_top_eq ((ab_plan A.2.1 A.1 j).2.1) (hl2.2 (by omega)).1 ?_
            refine r_goto K 71 dX6_plan_46 (by decide) ?_
            exact hr _ _ _ _ dX6_plan_71 ⟨by rw [e0, ab_if_neg (fun z => z.elim (fun z => absurd z (Int32.not_le.mpr h_4)) (fun z => by omega)), ab_if_pos h_5], hSk⟩
        · refine r_bipush K (v := (-9)) dX6_plan_34 (by decide) ?_
          exact hr _ _ _ _ dX6_plan_36 ⟨by rw [e0, ab_if_pos (Or.inl (Int32.not_lt.mp h_4))], hSk⟩
    · refine r_iconst K (v := (-1)) dX6_plan_15 (by decide) ?_
      exact hr _ _ _ _ dX6_plan_16 ⟨by rw [ab_planS, ab_if_neg (fun q => h_2 q.2)], hS⟩
  · refine r_if_eq K 15 dX6_plan_6 (by decide) (fun _ => ?_) (fun h => absurd h (by decide))
    refine r_iconst K (v := (-1)) dX6_plan_15 (by decide) ?_
    exact hr _ _ _ _ dX6_plan_16 ⟨by rw [ab_planS, ab_if_neg (fun q => hb_1 q.1)], hS⟩
set_option maxHeartbeats 4000000 in
set_option maxRecDepth 100000 in
theorem cm_follows (l : Launch) (g : rs_G) (t : Nat × Nat) (M : rs_M) (A : ab_S) (hS : m_S M A) (h : Int32) : rs_Ci l g mk t yX6_follows cX6_follows 3 .int 5 [.ref (g.2.2 0), .int h] M (fun r M1 => m_R (ab_follows A h) r M1) := by
  obtain ⟨hrow, hok, ht, h0, hun, hse, htx, him, hz⟩ := id hS
  have hn12 := hok.1
  refine rs_ofi (plainFor_of_name (by decide)) (Nat.le_of_ble_eq_true rfl) ?_
  intro Y K hr
  show Y M 0 [(0, .ref (g.2.2 0)), (1, .int h)] []
  refine r_iload_n K 1 dX6_follows_0 rfl rfl ?_
  refine r_iconst K (v := 1) dX6_follows_1 (by decide) ?_
  refine r_iconst K (v := 5) dX6_follows_2 (by decide) ?_
  refine r_callSi K [.int h, .int 1, .int 5] [] dX6_follows_3 mf_X6_in qw_636 qw_637 (cm_in l g t M h 1 5) rfl rfl (by decide) (Nat.le_of_ble_eq_true rfl) (fun r M1 hp => ?_)
  obtain ⟨hp, he⟩ := hp
  have he := he.symm
  subst he
  rcases hp with ⟨rfl, hb_1⟩ | ⟨rfl, hb_1⟩
  · refine r_if_ne K 11 dX6_follows_6 (by decide) (fun _ => ?_) (fun h => absurd h (by decide))
    obtain ⟨j, hj1, hj2, rfl⟩ := x_nat (a := 1) (b := 5) hb_1 (by omega) (by omega)
    have jc : (nI j).toNatClampNeg = j := nI_clamp (by omega)
    have hpr := ab_plan_rows A.2.1 A.1 (h := j) (by omega)
    refine r_aload_n K 0 dX6_follows_11 rfl rfl ?_
    refine r_getR K rfl rfl ff_6_now qw_545 dX6_follows_12 ?_
    refine r_iconst K (v := 3) dX6_follows_15 (by decide) ?_
    refine r_iald K (j := 3) rfl rfl (by decide) (by decide) dX6_follows_16 ?_
    refine r_top_eq (nI (ab_ks A.1).length) hrow.2.2.2.1 ?_
    refine r_bipush K (v := 12) dX6_follows_17 (by decide) ?_
    refine r_icmp_ne K 25 dX6_follows_19 (by decide) (fun h_2 => ?_) (fun h_2 => ?_)
    · have nh_2 : ¬ (ab_ks A.1).length = 12 := mt (nf_eq rfl rfl (by omega) (by omega)).mpr h_2
      refine r_aload_n K 0 dX6_follows_25 rfl rfl ?_
      refine r_iload_n K 1 dX6_follows_26 rfl rfl ?_
      refine r_callVv K [.int (nI j)] [] dX6_follows_27 mf_X6_layPlan rfl rfl qw_745 qw_747 qs_36 (cm_layPlan l g t M A hS j (by omega) (by omega)) rfl rfl (by decide) (Nat.le_of_ble_eq_true rfl) (fun Mk hp => ?_)
      obtain ⟨hSk, hl2⟩ := hp
      refine r_aload_n K 0 dX6_follows_30 rfl rfl ?_
      refine r_getI K rfl rfl ff_6_planMany qw_570 dX6_follows_31 ?_
      refine r_top_eq (nI (ab_plan A.2.1 A.1 j).1) hl2.1 ?_
      refine r_if_ne K 40 dX6_follows_34 (by decide) (fun h_3 => ?_) (fun h_3 => ?_)
      · have nh_3 : ¬ (ab_plan A.2.1 A.1 j).1 = 0 := mt (nf_eq rfl rfl (by omega) (by omega)).mpr h_3
        obtain ⟨cc, hc1, hc2, hc3⟩ := m_pl_key hl2 (by omega) (by omega)
        refine r_aload_n K 0 dX6_follows_40 rfl rfl ?_
        refine r_getI K rfl rfl ff_6_planFirst qw_571 dX6_follows_41 ?_
        refine r_top_eq (nI cc) hc2 ?_
        refine r_iload_n K 1 dX6_follows_44 rfl rfl ?_
        refine r_iconst K (v := 0) dX6_follows_45 (by decide) ?_
        refine r_callSi K [.int (nI cc), .int (nI j), .int 0] [] dX6_follows_46 mf_X6_keyOf qw_749 qw_750 (cm_keyOf l g t Mk cc j 0 (by omega) (by omega) (by omega)) rfl rfl (by decide) (Nat.le_of_ble_eq_true rfl) (fun r M1 hp => ?_)
        obtain ⟨hp, he⟩ := hp
        have he := he.symm
        subst he
        subst hp
        refine r_top_eq (nI ((ab_plan A.2.1 A.1 j).2.2.getD 0 0)) (by rw [hc3 0 (by omega)]) ?_
        refine r_istore_n K [(2, .int (nI ((ab_plan A.2.1 A.1 j).2.2.getD 0 0))), (0, .ref (g.2.2 0)), (1, .int (nI j))] dX6_follows_49 rfl (by decide) rfl ?_
        refine r_aload_n K 1 dX6_follows_50 rfl rfl ?_
        refine r_iload_n K 0 dX6_follows_51 rfl rfl ?_
        refine r_callVv K [.int (nI ((ab_plan A.2.1 A.1 j).2.2.getD 0 0))] [] dX6_follows_52 mf_X6_laysKey rfl rfl qw_729 qw_731 qs_33 (cm_laysKey l g t Mk A hSk (by omega) ((ab_plan A.2.1 A.1 j).2.2.getD 0 0) (ab_plan_k (by omega) (by omega))) rfl rfl (by decide) (Nat.le_of_ble_eq_true rfl) (fun M1 hp => ?_)
        obtain ⟨hp1, hp2⟩ := hp
        refine r_iload_n K 0 dX6_follows_55 rfl rfl ?_
        have e : ab_follows A (nI j) = (nI ((ab_plan A.2.1 A.1 j).2.2.getD 0 0), ab_done A ((ab_plan A.2.1 A.1 j).2.2.getD 0 0)) := by rw [ab_follows, ab_if_pos hb_1, ab_if_pos (by omega), jc, ab_if_neg (by omega)]
        exact hr _ _ _ _ dX6_follows_56 (by rw [e]; exact ⟨rfl, hp1⟩)
      · have nh_3 : (ab_plan A.2.1 A.1 j).1 = 0 := (nf_eq rfl rfl (by omega) (by omega)).mp h_3
        refine r_bipush K (v := (-2)) dX6_follows_37 (by decide) ?_
        have e : ab_follows A (nI j) = (-2, A) := by rw [ab_follows, ab_if_pos hb_1, ab_if_pos (by omega), jc, ab_if_pos (by omega)]
        exact hr _ _ _ _ dX6_follows_39 (by rw [e]; exact ⟨rfl, hSk⟩)
    · have nh_2 : (ab_ks A.1).length = 12 := (nf_eq rfl rfl (by omega) (by omega)).mp h_2
      refine r_bipush K (v := (-3)) dX6_follows_22 (by decide) ?_
      have e : ab_follows A (nI j) = (-3, A) := by rw [ab_follows, ab_if_pos hb_1, ab_if_neg (by omega)]
      exact hr _ _ _ _ dX6_follows_24 (by rw [e]; exact ⟨rfl, hS⟩)
  · refine r_if_ne K 11 dX6_follows_6 (by decide) (fun h => absurd h (by decide)) (fun _ => ?_)
    refine r_iconst K (v := (-1)) dX6_follows_9 (by decide) ?_
    have e : ab_follows A h = (-1, A) := by rw [ab_follows, ab_if_neg hb_1]
    exact hr _ _ _ _ dX6_follows_10 (by rw [e]; exact ⟨rfl, hS⟩)
