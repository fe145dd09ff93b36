/-! images, counts, which key a ring had -/
abbrev ab_wI (A : ab_S) (i : Nat) (L : ab_L) : ab_S := (A.1, A.2.1, A.2.2.1, A.2.2.2.1, A.2.2.2.2.1, fun j => if j = i then some L else A.2.2.2.2.2 j)
noncomputable def ab_keep (A : ab_S) (i : Int32) : Int32 × ab_S := ab_if (0 ≤ i ∧ i ≤ 1) (nI (ab_ks A.1).length, ab_wI A i.toNatClampNeg A.1) (-1, A)
def ab_back1 (A : ab_S) (o : Option ab_L) : Int32 × ab_S := match o with
  | none => (-2, A)
  | some L => (nI (ab_ks L).length, ab_wL A L [])
noncomputable def ab_back (A : ab_S) (i : Int32) : Int32 × ab_S := ab_if (0 ≤ i ∧ i ≤ 1) (ab_back1 A (A.2.2.2.2.2 i.toNatClampNeg)) (-1, A)
noncomputable def ab_count (A : ab_S) (w : Int32) : Int32 := if w = 0 then nI (ab_ks A.1).length else if w = 1 then A.2.1 else if w = 2 then nI (ab_bar A.1) else if w = 3 then nI (ab_way A.1) else if w = 4 then nI (ab_tail A.1) else if w = 5 then ab_mask (ab_may A.2.1 A.1 (ab_ks A.1)) 8 else if w = 6 then ab_whole A.2.1 A.1 (ab_ks A.1).length else if w = 7 then nI A.2.2.2.1.length else if w = 8 then nI A.2.2.2.2.1.length else if w = 9 then nI A.2.2.1.length else -1
def ab_flag (o : Option ab_L) : Int32 := match o with
  | none => 0
  | some _ => 1
theorem x_im_get {M : rs_M} {tp : Int32} {im : Nat → Option ab_L} (h : x_im M tp im) {j : Nat} (hj : j < 2) : x_im1 M tp j (im j) := by
  rcases (show j = 0 ∨ j = 1 by omega) with rfl | rfl
  · exact h.1
  · exact h.2
theorem x_im1_flag {M : rs_M} {tp : Int32} {j : Nat} {o : Option ab_L} (h : x_im1 M tp j o) : M 36 j = ab_flag o := by
  cases o with
  | none => exact h
  | some L => exact h.1
theorem x_nar1 : vp_nar .boolean 1 = 1 := by decide
theorem x_nar0 : vp_nar .boolean 0 = 0 := by decide
theorem x_S_keep {M Mc : rs_M} {A : ab_S} (hS : x_S M A) {j : Nat} (hj : j < 2) (h1 : x_ln Mc (57 + 17 * j) A.2.1 A.1) (h2 : x_fr M Mc (57 + 17 * j) (57 + 17 * j + 17)) : x_S (rs_st Mc 36 j 1) (ab_wI A j A.1) := by
  obtain ⟨hL, hok, ht, hdr, him, htx, hun, hca, hse⟩ := hS
  have hn := hok.1
  have e : ∀ c, c < 57 → c ≠ 36 → (rs_st Mc 36 j 1) c = M c := fun c c1 c2 => by rw [rs_st_ne _ _ _ c2, h2 c (by omega)]
  refine ⟨?_, hok, ht, x_sp_same hdr (fun q _ => by rw [e 22 (by decide) (by decide)]), ?_, x_text_fr htx (e 37 (by decide) (by decide)) (e 38 (by decide) (by decide)), x_und_fr hun (fun c c1 c2 => e c (by omega) (by omega)), x_cache_fr hca (fun c c1 c2 => e c (by omega) (by omega)), x_seen_fr hse (e 0 (by decide) (by decide)) (e 55 (by decide) (by decide)) (e 56 (by decide) (by decide))⟩
  · exact x_ln_fr (lo := 36) (hi := 91) hn (x_ln_fr (lo := 57 + 17 * j) (hi := 57 + 17 * j + 17) hn hL h2 (by omega)) (x_fr_st (by decide) (by decide)) (by omega)
  · have key : ∀ i, i < 2 → x_im1 (rs_st Mc 36 j 1) A.2.1 i (if i = j then some A.1 else A.2.2.2.2.2 i) := by
      intro i hi
      by_cases ei : i = j
      · rw [if_pos ei]
        subst ei
        exact ⟨by rw [rs_st_eq], hok, x_ln_fr (lo := 36) (hi := 37) hn h1 (x_fr_st (by decide) (by decide)) (by omega)⟩
      · rw [if_neg ei]
        have hg := x_im_get him hi
        cases ho : A.2.2.2.2.2 i with
        | none =>
          rw [ho] at hg
          show (rs_st Mc 36 j 1) 36 i = 0
          rw [rs_st_nk _ _ _ ei, h2 36 (by omega)]
          exact hg
        | some L =>
          rw [ho] at hg
          obtain ⟨g1, g2, g3⟩ := hg
          refine ⟨by rw [rs_st_nk _ _ _ ei, h2 36 (by omega)]; exact g1, g2, ?_⟩
          exact x_ln_fr (lo := 36) (hi := 37) g2.1 (x_ln_fr g2.1 g3 h2 (by omega)) (x_fr_st (by decide) (by decide)) (by omega)
    exact ⟨key 0 (by decide), key 1 (by decide)⟩
/-! the line with another key -/
theorem ab_fold_shift (tp a a' : Int32) : ∀ (ks : List Nat) (q : ab_P) (b b' : Int32), ks.foldl (ab_step tp) (q.1 + a, q.2.1 + a', q.2.2.1 + b, q.2.2.2 + b') = ((ks.foldl (ab_step tp) q).1 + a, (ks.foldl (ab_step tp) q).2.1 + a', (ks.foldl (ab_step tp) q).2.2.1 + (b + nI ks.length * a), (ks.foldl (ab_step tp) q).2.2.2 + (b' + nI ks.length * a'))
  | [], q, b, b' => by
    simp only [List.foldl_nil, List.length_nil, nI_0, Int32.zero_mul, Int32.add_zero]
  | k :: ks, q, b, b' => by
    have ih := ab_fold_shift tp a a' ks (ab_step tp q k) (b + a) (b' + a')
    have e : ab_step tp (q.1 + a, q.2.1 + a', q.2.2.1 + b, q.2.2.2 + b') k = ((ab_step tp q k).1 + a, (ab_step tp q k).2.1 + a', (ab_step tp q k).2.2.1 + (b + a), (ab_step tp q k).2.2.2 + (b' + a')) := by
      simp only [ab_step]
      refine Prod.ext ?_ (Prod.ext ?_ (Prod.ext ?_ ?_)) <;> simp only <;> grind
    rw [List.foldl_cons, List.foldl_cons, e, ih, List.length_cons, ← nI_1]
    refine Prod.ext rfl (Prod.ext rfl (Prod.ext ?_ ?_)) <;> simp only <;> grind
theorem ab_split {ks : List Nat} {i : Nat} (hi : i < ks.length) (k : Nat) : ks.set i k = ks.take i ++ k :: ks.drop (i + 1) := by
  rw [List.set_eq_take_append_cons_drop, if_pos hi]
theorem ab_split0 {ks : List Nat} {i : Nat} (hi : i < ks.length) : ks = ks.take i ++ ks.getD i 0 :: ks.drop (i + 1) := by
  have h := ab_split hi (ks.getD i 0)
  rw [← h]
  apply List.ext_getElem?
  intro j
  by_cases e : j = i
  · subst e
    rw [List.getElem?_set_self hi, List.getD, List.getElem?_eq_getElem hi]
    rfl
  · rw [List.getElem?_set_ne (Ne.symm e)]
theorem ab_geo_set {tp : Int32} {ks : List Nat} {i : Nat} (hi : i < ks.length) (k : Nat) : (ab_geo tp (ks.set i k)).2.2.1 = (ab_geo tp ks).2.2.1 + tp * (nI ks.length - nI (i + 1) + 1) * (rs_lX k - rs_lX (ks.getD i 0)) ∧ (ab_geo tp (ks.set i k)).2.2.2 = (ab_geo tp ks).2.2.2 + tp * (nI ks.length - nI (i + 1) + 1) * (rs_lY k - rs_lY (ks.getD i 0)) := by
  have h1 : ab_geo tp (ks.set i k) = (ks.drop (i + 1)).foldl (ab_step tp) (ab_step tp (ab_geo tp (ks.take i)) k) := by
    rw [ab_split hi, ab_geo, List.foldl_append, List.foldl_cons]; rfl
  have h2 : ab_geo tp ks = (ks.drop (i + 1)).foldl (ab_step tp) (ab_step tp (ab_geo tp (ks.take i)) (ks.getD i 0)) := by
    conv => lhs; rw [ab_split0 hi]
    rw [ab_geo, List.foldl_append, List.foldl_cons]; rfl
  generalize ab_geo tp (ks.take i) = q at h1 h2
  have e : ab_step tp q k = ((ab_step tp q (ks.getD i 0)).1 + tp * (rs_lX k - rs_lX (ks.getD i 0)), (ab_step tp q (ks.getD i 0)).2.1 + tp * (rs_lY k - rs_lY (ks.getD i 0)), (ab_step tp q (ks.getD i 0)).2.2.1 + tp * (rs_lX k - rs_lX (ks.getD i 0)), (ab_step tp q (ks.getD i 0)).2.2.2 + tp * (rs_lY k - rs_lY (ks.getD i 0))) := by
    simp only [ab_step]
    refine Prod.ext ?_ (Prod.ext ?_ (Prod.ext ?_ ?_)) <;> simp only <;> grind
  have hl : nI ks.length - nI (i + 1) = nI (ks.drop (i + 1)).length := by
    rw [List.length_drop, pk_sub (by omega)]
  rw [h1, h2, e, ab_fold_shift, hl]
  constructor <;> simp only <;> grind
theorem ab_last_take {ks : List Nat} {q : Nat} (h1 : 1 ≤ q) (h2 : q ≤ ks.length) : ab_last (ks.take q) = nI (ks.getD (q - 1) 0) := by
  have : (ks.take q).getLast? = some (ks.getD (q - 1) 0) := by
    rw [List.getLast?_eq_getElem?, List.length_take, Nat.min_eq_left h2, List.getElem?_take_of_lt (by omega), List.getD, List.getElem?_eq_getElem (by omega)]
    rfl
  rw [ab_last, this]
theorem ab_getD_lt {ks : List Nat} (h : ∀ k ∈ ks, k < 8) (i : Nat) : ks.getD i 0 < 8 := by
  rw [List.getD]
  cases e : ks[i]? with
  | none => simp
  | some k => exact h k (List.mem_of_getElem? e)
def ab_usQ (tp : Int32) (L : ab_L) (sn : List (Int32 × Int32)) (q k : Nat) : Prop := ∀ s, s < sn.length → (ab_geo tp ((ab_ks L).set (q - 1) k)).2.2.1 = (sn.getD s (0, 0)).1 ∧ (ab_geo tp ((ab_ks L).set (q - 1) k)).2.2.2 = (sn.getD s (0, 0)).2
def ab_usP (tp : Int32) (L : ab_L) (sn : List (Int32 × Int32)) (q k : Nat) : Prop := k ≠ (ab_ks L).getD (q - 1) 0 ∧ ab_usQ tp L sn q k
noncomputable def ab_unseen (A : ab_S) (i : Int32) : Int32 := ab_if (1 ≤ i ∧ i ≤ nI (ab_ks A.1).length) (ab_mask (ab_usP A.2.1 A.1 A.2.2.2.1 i.toNatClampNeg) 8) (-1)
set_option maxHeartbeats 4000000 in
set_option maxRecDepth 100000 in
theorem c_keep (l : Launch) (g : rs_G) (t : Nat × Nat) (M : rs_M) (A : ab_S) (hS : x_S M A) (i : Int32) : rs_Ci l g xk t yX5_keep cX5_keep 2 .int 3 [.ref (g.2.2 0), .int i] M (fun r M1 => x_R (ab_keep A i) r M1) := by
  obtain ⟨hL, hok, ht, hdr, him, htx, hun, hca, hse⟩ := id hS
  have hn12 := hok.1
  refine rs_ofi (plainFor_of_name (by decide)) (Nat.le_of_ble_eq_true rfl) ?_
  intro Y K hr
  show Y M 0 [(0, .ref (g.2.2 0)), (1, .int i)] []
  refine r_iload_n K 1 dX5_keep_0 rfl rfl ?_
  refine r_iconst K (v := 0) dX5_keep_1 (by decide) ?_
  refine r_iconst K (v := 1) dX5_keep_2 (by decide) ?_
  refine r_callSi K [.int i, .int 0, .int 1] [] dX5_keep_3 mf_X5_isWithin qw_227 qw_228 (c_isWithin l g xk t M i 0 1) rfl rfl (by decide) (Nat.le_of_ble_eq_true rfl) (fun r M1 hp => ?_)
  obtain ⟨hp, he⟩ := hp
  have he := he.symm
  subst he
  rcases hp with ⟨rfl, hb_1⟩ | ⟨rfl, hb_1⟩
  · refine r_if_ne K 11 dX5_keep_6 (by decide) (fun _ => ?_) (fun h => absurd h (by decide))
    obtain ⟨j, hj1, hj2, rfl⟩ := x_nat (a := 0) (b := 1) hb_1 (by omega) (by omega)
    have jc : (nI j).toNatClampNeg = j := nI_clamp (by omega)
    refine r_aload_n K 0 dX5_keep_11 rfl rfl ?_
    refine r_getR K rfl rfl ff_5_images qw_191 dX5_keep_12 ?_
    refine r_iload_n K 1 dX5_keep_15 rfl rfl ?_
    refine r_aaldL K (j := j) rfl rfl (xI_e (by omega)) (by omega) (by decide) dX5_keep_16 ?_
    refine r_aload_n K 0 dX5_keep_17 rfl rfl ?_
    refine r_getR K rfl rfl ff_5_line qw_189 dX5_keep_18 ?_
    refine r_callVv K [.ref (g.2.2 1)] [] dX5_keep_21 mf_X1_copy (xL_0 (xL_im (by omega))) rfl qw_352 qw_353 qw_354 (c_Line_copy l g t M (57 + 17 * j) 1 (xL_im (by omega)) xL1 (by omega) A.2.1 A.1 hn12 hL) rfl rfl (by decide) (Nat.le_of_ble_eq_true rfl) (fun Mc hp => ?_)
    obtain ⟨hc1, hc2⟩ := hp
    refine r_aload_n K 0 dX5_keep_24 rfl rfl ?_
    refine r_getR K rfl rfl ff_5_kept qw_192 dX5_keep_25 ?_
    refine r_iload_n K 1 dX5_keep_28 rfl rfl ?_
    refine r_iconst K (v := 1) dX5_keep_29 (by decide) ?_
    refine r_zast K (j := j) rfl rfl (by omega) (by decide) dX5_keep_30 ?_
    refine r_aload_n K 0 dX5_keep_31 rfl rfl ?_
    refine r_getR K rfl rfl ff_5_line qw_189 dX5_keep_32 ?_
    refine r_getI K (xL_0 xL1) rfl ff_1_rings qw_71 dX5_keep_35 ?_
    refine r_top_eq (nI (ab_ks A.1).length) (by rw [rs_st_ne _ _ _ (by decide), hc2 1 (by omega)]; exact hL.1) ?_
    have e : ab_keep A (nI j) = (nI (ab_ks A.1).length, ab_wI A j A.1) := by rw [ab_keep, ab_if_pos hb_1, jc]
    exact hr _ _ _ _ dX5_keep_38 (by rw [e]; exact ⟨rfl, (by rw [x_nar1]; exact x_S_keep hS (by omega) hc1 hc2)⟩)
  · refine r_if_ne K 11 dX5_keep_6 (by decide) (fun h => absurd h (by decide)) (fun _ => ?_)
    refine r_iconst K (v := (-1)) dX5_keep_9 (by decide) ?_
    have e : ab_keep A i = (-1, A) := by rw [ab_keep, ab_if_neg hb_1]
    exact hr _ _ _ _ dX5_keep_10 (by rw [e]; exact ⟨rfl, hS⟩)
set_option maxHeartbeats 4000000 in
set_option maxRecDepth 100000 in
theorem c_back (l : Launch) (g : rs_G) (t : Nat × Nat) (M : rs_M) (A : ab_S) (hS : x_S M A) (i : Int32) : rs_Ci l g xk t yX5_back cX5_back 2 .int 3 [.ref (g.2.2 0), .int i] M (fun r M1 => x_R (ab_back A i) r M1) := by
  obtain ⟨hL, hok, ht, hdr, him, htx, hun, hca, hse⟩ := id hS
  have hn12 := hok.1
  refine rs_ofi (plainFor_of_name (by decide)) (Nat.le_of_ble_eq_true rfl) ?_
  intro Y K hr
  show Y M 0 [(0, .ref (g.2.2 0)), (1, .int i)] []
  refine r_iload_n K 1 dX5_back_0 rfl rfl ?_
  refine r_iconst K (v := 0) dX5_back_1 (by decide) ?_
  refine r_iconst K (v := 1) dX5_back_2 (by decide) ?_
  refine r_callSi K [.int i, .int 0, .int 1] [] dX5_back_3 mf_X5_isWithin qw_227 qw_228 (c_isWithin l g xk t M i 0 1) rfl rfl (by decide) (Nat.le_of_ble_eq_true rfl) (fun r M1 hp => ?_)
  obtain ⟨hp, he⟩ := hp
  have he := he.symm
  subst he
  rcases hp with ⟨rfl, hb_1⟩ | ⟨rfl, hb_1⟩
  · refine r_if_ne K 11 dX5_back_6 (by decide) (fun _ => ?_) (fun h => absurd h (by decide))
    obtain ⟨j, hj1, hj2, rfl⟩ := x_nat (a := 0) (b := 1) hb_1 (by omega) (by omega)
    have jc : (nI j).toNatClampNeg = j := nI_clamp (by omega)
    have him1 := x_im_get him (show j < 2 by omega)
    refine r_aload_n K 0 dX5_back_11 rfl rfl ?_
    refine r_getR K rfl rfl ff_5_kept qw_192 dX5_back_12 ?_
    refine r_iload_n K 1 dX5_back_15 rfl rfl ?_
    refine r_zald K (j := j) rfl rfl (by omega) (by decide) dX5_back_16 ?_
    refine r_top_eq (ab_flag (A.2.2.2.2.2 j)) (x_im1_flag him1) ?_
    refine r_if_ne K 23 dX5_back_17 (by decide) (fun h_2 => ?_) (fun h_2 => ?_)
    · obtain ⟨Li, hLi⟩ : ∃ Li, A.2.2.2.2.2 j = some Li := by
        cases q : A.2.2.2.2.2 j with
        | none => rw [q] at h_2; exact absurd rfl h_2
        | some Li => exact ⟨Li, rfl⟩
      have him2 := him1
      rw [hLi] at him2
      obtain ⟨hb1, hb2, hb3⟩ := him2
      refine r_aload_n K 0 dX5_back_23 rfl rfl ?_
      refine r_getR K rfl rfl ff_5_line qw_189 dX5_back_24 ?_
      refine r_aload_n K 0 dX5_back_27 rfl rfl ?_
      refine r_getR K rfl rfl ff_5_images qw_191 dX5_back_28 ?_
      refine r_iload_n K 1 dX5_back_31 rfl rfl ?_
      refine r_aaldL K (j := j) rfl rfl (xI_e (by omega)) (by omega) (by decide) dX5_back_32 ?_
      refine r_callVv K [.ref (g.2.2 (57 + 17 * j))] [] dX5_back_33 mf_X1_copy (xL_0 xL1) rfl qw_352 qw_353 qw_354 (c_Line_copy l g t M 1 (57 + 17 * j) xL1 (xL_im (by omega)) (by omega) A.2.1 Li hb2.1 hb3) rfl rfl (by decide) (Nat.le_of_ble_eq_true rfl) (fun Mc hp => ?_)
      obtain ⟨hc1, hc2⟩ := hp
      refine r_aload_n K 0 dX5_back_36 rfl rfl ?_
      refine r_callVv K [] [] dX5_back_37 mf_X5_lineChanged rfl rfl qw_356 qw_358 qs_11 (c_lineChanged l g t Mc) rfl rfl (by decide) (Nat.le_of_ble_eq_true rfl) (fun M1 hp => ?_)
      subst hp
      refine r_aload_n K 0 dX5_back_40 rfl rfl ?_
      refine r_getR K rfl rfl ff_5_deeds qw_194 dX5_back_41 ?_
      refine r_iconst K (v := 0) dX5_back_44 (by decide) ?_
      refine r_put K rfl rfl ff_0_size qw_147 rfl rfl dX5_back_45 ?_
      refine r_aload_n K 0 dX5_back_48 rfl rfl ?_
      refine r_getR K rfl rfl ff_5_line qw_189 dX5_back_49 ?_
      refine r_getI K (xL_0 xL1) rfl ff_1_rings qw_71 dX5_back_52 ?_
      refine r_top_eq (nI (ab_ks Li).length) (by rw [rs_st_ne _ _ _ (by decide), rs_st_ne _ _ _ (by decide)]; exact hc1.1) ?_
      have e : ab_back A (nI j) = (nI (ab_ks Li).length, ab_wL A Li []) := by rw [ab_back, ab_if_pos hb_1, jc, hLi, ab_back1]
      exact hr _ _ _ _ dX5_back_55 (by rw [e]; exact ⟨rfl, (x_S_line hS (fun c h1 h2 => by rw [rs_st_ne _ _ _ (by omega), rs_st_ne _ _ _ (by omega), hc2 c (by omega)]) (x_ln_fr hb2.1 hc1 (x_fr_tr (x_fr_st (lo := 40) (hi := 46) (by decide) (by decide)) (x_fr_st (by decide) (by decide))) (by omega)) hb2 (x_und_0 (by rw [rs_st_eq])) (x_cache_0 (by rw [rs_st_ne _ _ _ (by decide), rs_st_eq])))⟩)
    · refine r_bipush K (v := (-2)) dX5_back_20 (by decide) ?_
      have hno : A.2.2.2.2.2 j = none := by
        cases q : A.2.2.2.2.2 j with
        | none => rfl
        | some Li => rw [q] at h_2; exact absurd h_2 (by simp [ab_flag])
      have e : ab_back A (nI j) = (-2, A) := by rw [ab_back, ab_if_pos hb_1, jc, hno, ab_back1]
      exact hr _ _ _ _ dX5_back_22 (by rw [e]; exact ⟨rfl, hS⟩)
  · refine r_if_ne K 11 dX5_back_6 (by decide) (fun h => absurd h (by decide)) (fun _ => ?_)
    refine r_iconst K (v := (-1)) dX5_back_9 (by decide) ?_
    have e : ab_back A i = (-1, A) := by rw [ab_back, ab_if_neg hb_1]
    exact hr _ _ _ _ dX5_back_10 (by rw [e]; exact ⟨rfl, hS⟩)
set_option maxHeartbeats 4000000 in
set_option maxRecDepth 100000 in
theorem c_count (l : Launch) (g : rs_G) (t : Nat × Nat) (M : rs_M) (A : ab_S) (hS : x_S M A) (w : Int32) : rs_Ci l g xk t yX5_count cX5_count 2 .int 4 [.ref (g.2.2 0), .int w] M (fun r M1 => x_R (ab_count A w, A) r M1) := by
  obtain ⟨hL, hok, ht, hdr, him, htx, hun, hca, hse⟩ := id hS
  have hn12 := hok.1
  obtain ⟨ds, hds, hdl, hch⟩ := hun
  refine rs_ofi (plainFor_of_name (by decide)) (Nat.le_of_ble_eq_true rfl) ?_
  intro Y K hr
  show Y M 0 [(0, .ref (g.2.2 0)), (1, .int w)] []
  refine r_iload_n K 1 dX5_count_0 rfl rfl ?_
  refine r_table K [(0, 56), (1, 64), (2, 72), (3, 80), (4, 88), (5, 96), (6, 104), (7, 112), (8, 117), (9, 125)] 133 dX5_count_1 (by decide) (by decide) (by decide) ?_
  simp only [rs_swp]
  refine ⟨fun h_1_0 => ?_, fun h_1_0 => ⟨fun h_1_1 => ?_, fun h_1_1 => ⟨fun h_1_2 => ?_, fun h_1_2 => ⟨fun h_1_3 => ?_, fun h_1_3 => ⟨fun h_1_4 => ?_, fun h_1_4 => ⟨fun h_1_5 => ?_, fun h_1_5 => ⟨fun h_1_6 => ?_, fun h_1_6 => ⟨fun h_1_7 => ?_, fun h_1_7 => ⟨fun h_1_8 => ?_, fun h_1_8 => ⟨fun h_1_9 => ?_, fun h_1_9 => ?_⟩⟩⟩⟩⟩⟩⟩⟩⟩⟩
  · refine r_aload_n K 0 dX5_count_56 rfl rfl ?_
    refine r_getR K rfl rfl ff_5_line qw_189 dX5_count_57 ?_
    refine r_getI K (xL_0 xL1) rfl ff_1_rings qw_71 dX5_count_60 ?_
    refine r_top_eq (nI (ab_ks A.1).length) hL.1 ?_
    exact hr _ _ _ _ dX5_count_63 ⟨by rw [ab_count, if_pos h_1_0], hS⟩
  · refine r_aload_n K 0 dX5_count_64 rfl rfl ?_
    refine r_getR K rfl rfl ff_5_line qw_189 dX5_count_65 ?_
    refine r_getI K (xL_0 xL1) rfl ff_1_taper qw_75 dX5_count_68 ?_
    refine r_top_eq A.2.1 hL.2.2.1 ?_
    exact hr _ _ _ _ dX5_count_71 ⟨by rw [ab_count, if_neg h_1_0, if_pos h_1_1], hS⟩
  · refine r_aload_n K 0 dX5_count_72 rfl rfl ?_
    refine r_getR K rfl rfl ff_5_line qw_189 dX5_count_73 ?_
    refine r_getI K (xL_0 xL1) rfl ff_1_bar qw_77 dX5_count_76 ?_
    refine r_top_eq (nI (ab_bar A.1)) hL.2.2.2.1 ?_
    exact hr _ _ _ _ dX5_count_79 ⟨by rw [ab_count, if_neg h_1_0, if_neg h_1_1, if_pos h_1_2], hS⟩
  · refine r_aload_n K 0 dX5_count_80 rfl rfl ?_
    refine r_getR K rfl rfl ff_5_line qw_189 dX5_count_81 ?_
    refine r_getI K (xL_0 xL1) rfl ff_1_way qw_79 dX5_count_84 ?_
    refine r_top_eq (nI (ab_way A.1)) hL.2.2.2.2.1 ?_
    exact hr _ _ _ _ dX5_count_87 ⟨by rw [ab_count, if_neg h_1_0, if_neg h_1_1, if_neg h_1_2, if_pos h_1_3], hS⟩
  · refine r_aload_n K 0 dX5_count_88 rfl rfl ?_
    refine r_getR K rfl rfl ff_5_line qw_189 dX5_count_89 ?_
    refine r_getI K (xL_0 xL1) rfl ff_1_tail qw_81 dX5_count_92 ?_
    refine r_top_eq (nI (ab_tail A.1)) hL.2.2.2.2.2.1 ?_
    exact hr _ _ _ _ dX5_count_95 ⟨by rw [ab_count, if_neg h_1_0, if_neg h_1_1, if_neg h_1_2, if_neg h_1_3, if_pos h_1_4], hS⟩
  · refine r_aload_n K 0 dX5_count_96 rfl rfl ?_
    refine r_getR K rfl rfl ff_5_line qw_189 dX5_count_97 ?_
    refine r_callVi K [] [] dX5_count_100 mf_X1_nextKeys (xL_0 xL1) rfl qw_526 qw_527 qw_528 (c_nextKeys l g t M 1 xL1 A.2.1 A.1 hok hL) rfl rfl (by decide) (Nat.le_of_ble_eq_true rfl) (fun r M1 hp => ?_)
    obtain ⟨hp, he⟩ := hp
    have he := he.symm
    subst he
    subst hp
    exact hr _ _ _ _ dX5_count_103 ⟨by rw [ab_count, if_neg h_1_0, if_neg h_1_1, if_neg h_1_2, if_neg h_1_3, if_neg h_1_4, if_pos h_1_5], hS⟩
  · refine r_aload_n K 0 dX5_count_104 rfl rfl ?_
    refine r_getR K rfl rfl ff_5_line qw_189 dX5_count_105 ?_
    refine r_callVi K [] [] dX5_count_108 mf_X1_wholeCost (xL_0 xL1) rfl qw_531 qw_532 qw_533 (c_wholeCost l g t M 1 xL1 A.2.1 A.1 hok hL) rfl rfl (by decide) (Nat.le_of_ble_eq_true rfl) (fun r M1 hp => ?_)
    obtain ⟨hp, he⟩ := hp
    have he := he.symm
    subst he
    subst hp
    exact hr _ _ _ _ dX5_count_111 ⟨by rw [ab_count, if_neg h_1_0, if_neg h_1_1, if_neg h_1_2, if_neg h_1_3, if_neg h_1_4, if_neg h_1_5, if_pos h_1_6], hS⟩
  · refine r_aload_n K 0 dX5_count_112 rfl rfl ?_
    refine r_getI K rfl rfl ff_5_seen qw_199 dX5_count_113 ?_
    refine r_top_eq (nI A.2.2.2.1.length) hse.1 ?_
    exact hr _ _ _ _ dX5_count_116 ⟨by rw [ab_count, if_neg h_1_0, if_neg h_1_1, if_neg h_1_2, if_neg h_1_3, if_neg h_1_4, if_neg h_1_5, if_neg h_1_6, if_pos h_1_7], hS⟩
  · refine r_aload_n K 0 dX5_count_117 rfl rfl ?_
    refine r_getR K rfl rfl ff_5_script qw_193 dX5_count_118 ?_
    refine r_getI K rfl rfl ff_2_length qw_108 dX5_count_121 ?_
    refine r_top_eq (nI A.2.2.2.2.1.length) htx.1 ?_
    exact hr _ _ _ _ dX5_count_124 ⟨by rw [ab_count, if_neg h_1_0, if_neg h_1_1, if_neg h_1_2, if_neg h_1_3, if_neg h_1_4, if_neg h_1_5, if_neg h_1_6, if_neg h_1_7, if_pos h_1_8], hS⟩
  · refine r_aload_n K 0 dX5_count_125 rfl rfl ?_
    refine r_getR K rfl rfl ff_5_deeds qw_194 dX5_count_126 ?_
    refine r_getI K rfl rfl ff_0_size qw_147 dX5_count_129 ?_
    refine r_top_eq (nI A.2.2.1.length) (by rw [← ab_chain_len _ _ _ hch, List.length_reverse]; exact hds.1) ?_
    exact hr _ _ _ _ dX5_count_132 ⟨by rw [ab_count, if_neg h_1_0, if_neg h_1_1, if_neg h_1_2, if_neg h_1_3, if_neg h_1_4, if_neg h_1_5, if_neg h_1_6, if_neg h_1_7, if_neg h_1_8, if_pos h_1_9], hS⟩
  · refine r_iconst K (v := (-1)) dX5_count_133 (by decide) ?_
    exact hr _ _ _ _ dX5_count_134 ⟨by rw [ab_count, if_neg h_1_0, if_neg h_1_1, if_neg h_1_2, if_neg h_1_3, if_neg h_1_4, if_neg h_1_5, if_neg h_1_6, if_neg h_1_7, if_neg h_1_8, if_neg h_1_9], hS⟩
set_option maxHeartbeats 4000000 in
set_option maxRecDepth 100000 in
theorem c_explains (l : Launch) (g : rs_G) (t : Nat × Nat) (M : rs_M) (A : ab_S) (hS : x_S M A) (q : Nat) (h1 : 1 ≤ q) (h2 : q ≤ (ab_ks A.1).length) (k : Nat) (hk : k < 8) : rs_Ci l g xk t yX5_explainsAllSeen cX5_explainsAllSeen 9 .boolean 2 [.ref (g.2.2 0), .int (nI q), .int (nI k)] M (fun r M1 => ab_b01 r (ab_usQ A.2.1 A.1 A.2.2.2.1 q k) ∧ M1 = M) := by
  obtain ⟨hL, hok, ht, hdr, him, htx, hun, hca, hse⟩ := id hS
  have hn12 := hok.1
  have hs4 := hse.2.1
  have hsl := x_ln_last hL
  have hown8 := ab_getD_lt hok.2.1 (q - 1)
  have hgs := ab_geo_set (tp := A.2.1) (ks := ab_ks A.1) (i := q - 1) (by omega) k
  rw [show q - 1 + 1 = q by omega] at hgs
  refine rs_ofz (plainFor_of_name (by decide)) (Nat.le_of_ble_eq_true rfl) ?_
  intro Y K hr
  show Y M 0 [(0, .ref (g.2.2 0)), (1, .int (nI q)), (2, .int (nI k))] []
  refine r_aload_n K 0 dX5_explainsAllSeen_0 rfl rfl ?_
  refine r_getR K rfl rfl ff_5_line qw_189 dX5_explainsAllSeen_1 ?_
  refine r_callVr K [] [] dX5_explainsAllSeen_4 mf_X1_last (xL_0 xL1) rfl qw_365 qw_306 qw_307 (c_Line_last l g t M 1 xL1 (ab_ks A.1).length hok.1 hL.1) rfl rfl (by decide) (Nat.le_of_ble_eq_true rfl) (fun r M1 hp => ?_)
  obtain ⟨hp, he⟩ := hp
  have he := he.symm
  subst he
  subst hp
  refine r_astore_n K [(3, .ref (g.2.2 (1 + 4 + (ab_ks A.1).length))), (0, .ref (g.2.2 0)), (1, .int (nI q)), (2, .int (nI k))] dX5_explainsAllSeen_7 rfl (by decide) rfl ?_
  refine r_aload_n K 1 dX5_explainsAllSeen_8 rfl rfl ?_
  refine r_getR K rfl rfl ff_5_line qw_189 dX5_explainsAllSeen_9 ?_
  refine r_getR K (xL_0 xL1) rfl ff_1_spots qw_64 dX5_explainsAllSeen_12 ?_
  refine r_iload_n K 2 dX5_explainsAllSeen_15 rfl rfl ?_
  refine r_aaldS K (j := q) (xL_1 xL1) rfl (xL_e (by omega)) (by omega) (by decide) dX5_explainsAllSeen_16 ?_
  refine r_getI K (xL_s xL1 (by omega)) rfl ff_4_key qw_36 dX5_explainsAllSeen_17 ?_
  refine r_top_eq (nI ((ab_ks A.1).getD (q - 1) 0)) (by rw [(hL.2.1 q h2).2.1]; exact ab_last_take h1 h2) ?_
  refine r_istore K [(4, .int (nI ((ab_ks A.1).getD (q - 1) 0))), (3, .ref (g.2.2 (1 + 4 + (ab_ks A.1).length))), (0, .ref (g.2.2 0)), (1, .int (nI q)), (2, .int (nI k))] dX5_explainsAllSeen_20 (by decide) rfl ?_
  refine r_aload_n K 2 dX5_explainsAllSeen_22 rfl rfl ?_
  refine r_getR K rfl rfl ff_5_line qw_189 dX5_explainsAllSeen_23 ?_
  refine r_getI K (xL_0 xL1) rfl ff_1_taper qw_75 dX5_explainsAllSeen_26 ?_
  refine r_top_eq A.2.1 hL.2.2.1 ?_
  refine r_aload_n K 2 dX5_explainsAllSeen_29 rfl rfl ?_
  refine r_getR K rfl rfl ff_5_line qw_189 dX5_explainsAllSeen_30 ?_
  refine r_getI K (xL_0 xL1) rfl ff_1_rings qw_71 dX5_explainsAllSeen_33 ?_
  refine r_top_eq (nI (ab_ks A.1).length) hL.1 ?_
  refine r_iload_n K 3 dX5_explainsAllSeen_36 rfl rfl ?_
  refine r_isub K dX5_explainsAllSeen_37 ?_
  refine r_iconst K (v := 1) dX5_explainsAllSeen_38 (by decide) ?_
  refine r_iadd K dX5_explainsAllSeen_39 ?_
  refine r_imul K dX5_explainsAllSeen_40 ?_
  refine r_istore K [(5, .int (A.2.1 * (((nI (ab_ks A.1).length) - (nI q)) + 1))), (4, .int (nI ((ab_ks A.1).getD (q - 1) 0))), (3, .ref (g.2.2 (1 + 4 + (ab_ks A.1).length))), (0, .ref (g.2.2 0)), (1, .int (nI q)), (2, .int (nI k))] dX5_explainsAllSeen_41 (by decide) rfl ?_
  refine r_aload_n K 2 dX5_explainsAllSeen_43 rfl rfl ?_
  refine r_getI K (xL_s xL1 (by omega)) rfl ff_4_placeX qw_44 dX5_explainsAllSeen_44 ?_
  refine r_top_eq ((ab_geo A.2.1 (ab_ks A.1)).2.2.1) hsl.2.2.2.2.1 ?_
  refine r_iload K 0 dX5_explainsAllSeen_47 rfl ?_
  refine r_iload_n K 5 dX5_explainsAllSeen_49 rfl rfl ?_
  refine r_callSi K [.int (nI k)] [.int (A.2.1 * (((nI (ab_ks A.1).length) - (nI q)) + 1)), .int ((ab_geo A.2.1 (ab_ks A.1)).2.2.1)] dX5_explainsAllSeen_50 mf_X5_leanX qw_487 qw_325 (c_leanX l g xk t M k hk) rfl rfl (by decide) (Nat.le_of_ble_eq_true rfl) (fun r M1 hp => ?_)
  obtain ⟨hp, he⟩ := hp
  have he := he.symm
  subst he
  subst hp
  refine r_iload K 1 dX5_explainsAllSeen_53 rfl ?_
  refine r_callSi K [.int (nI ((ab_ks A.1).getD (q - 1) 0))] [.int (rs_lX k), .int (A.2.1 * (((nI (ab_ks A.1).length) - (nI q)) + 1)), .int ((ab_geo A.2.1 (ab_ks A.1)).2.2.1)] dX5_explainsAllSeen_55 mf_X5_leanX qw_487 qw_325 (c_leanX l g xk t M ((ab_ks A.1).getD (q - 1) 0) hown8) rfl rfl (by decide) (Nat.le_of_ble_eq_true rfl) (fun r M1 hp => ?_)
  obtain ⟨hp, he⟩ := hp
  have he := he.symm
  subst he
  subst hp
  refine r_isub K dX5_explainsAllSeen_58 ?_
  refine r_imul K dX5_explainsAllSeen_59 ?_
  refine r_iadd K dX5_explainsAllSeen_60 ?_
  refine r_top_eq ((ab_geo A.2.1 ((ab_ks A.1).set (q - 1) k)).2.2.1) hgs.1.symm ?_
  refine r_istore K [(6, .int ((ab_geo A.2.1 ((ab_ks A.1).set (q - 1) k)).2.2.1)), (5, .int (A.2.1 * (((nI (ab_ks A.1).length) - (nI q)) + 1))), (4, .int (nI ((ab_ks A.1).getD (q - 1) 0))), (3, .ref (g.2.2 (1 + 4 + (ab_ks A.1).length))), (0, .ref (g.2.2 0)), (1, .int (nI q)), (2, .int (nI k))] dX5_explainsAllSeen_61 (by decide) rfl ?_
  refine r_aload_n K 3 dX5_explainsAllSeen_63 rfl rfl ?_
  refine r_getI K (xL_s xL1 (by omega)) rfl ff_4_placeY qw_47 dX5_explainsAllSeen_64 ?_
  refine r_top_eq ((ab_geo A.2.1 (ab_ks A.1)).2.2.2) hsl.2.2.2.2.2 ?_
  refine r_iload K 1 dX5_explainsAllSeen_67 rfl ?_
  refine r_iload_n K 6 dX5_explainsAllSeen_69 rfl rfl ?_
  refine r_callSi K [.int (nI k)] [.int (A.2.1 * (((nI (ab_ks A.1).length) - (nI q)) + 1)), .int ((ab_geo A.2.1 (ab_ks A.1)).2.2.2)] dX5_explainsAllSeen_70 mf_X5_leanY qw_488 qw_333 (c_leanY l g xk t M k hk) rfl rfl (by decide) (Nat.le_of_ble_eq_true rfl) (fun r M1 hp => ?_)
  obtain ⟨hp, he⟩ := hp
  have he := he.symm
  subst he
  subst hp
  refine r_iload K 2 dX5_explainsAllSeen_73 rfl ?_
  refine r_callSi K [.int (nI ((ab_ks A.1).getD (q - 1) 0))] [.int (rs_lY k), .int (A.2.1 * (((nI (ab_ks A.1).length) - (nI q)) + 1)), .int ((ab_geo A.2.1 (ab_ks A.1)).2.2.2)] dX5_explainsAllSeen_75 mf_X5_leanY qw_488 qw_333 (c_leanY l g xk t M ((ab_ks A.1).getD (q - 1) 0) hown8) rfl rfl (by decide) (Nat.le_of_ble_eq_true rfl) (fun r M1 hp => ?_)
  obtain ⟨hp, he⟩ := hp
  have he := he.symm
  subst he
  subst hp
  refine r_isub K dX5_explainsAllSeen_78 ?_
  refine r_imul K dX5_explainsAllSeen_79 ?_
  refine r_iadd K dX5_explainsAllSeen_80 ?_
  refine r_top_eq ((ab_geo A.2.1 ((ab_ks A.1).set (q - 1) k)).2.2.2) hgs.2.symm ?_
  refine r_istore K [(7, .int ((ab_geo A.2.1 ((ab_ks A.1).set (q - 1) k)).2.2.2)), (6, .int ((ab_geo A.2.1 ((ab_ks A.1).set (q - 1) k)).2.2.1)), (5, .int (A.2.1 * (((nI (ab_ks A.1).length) - (nI q)) + 1))), (4, .int (nI ((ab_ks A.1).getD (q - 1) 0))), (3, .ref (g.2.2 (1 + 4 + (ab_ks A.1).length))), (0, .ref (g.2.2 0)), (1, .int (nI q)), (2, .int (nI k))] dX5_explainsAllSeen_81 (by decide) rfl ?_
  refine r_iconst K (v := 0) dX5_explainsAllSeen_83 (by decide) ?_
  refine r_istore K [(8, .int 0), (7, .int ((ab_geo A.2.1 ((ab_ks A.1).set (q - 1) k)).2.2.2)), (6, .int ((ab_geo A.2.1 ((ab_ks A.1).set (q - 1) k)).2.2.1)), (5, .int (A.2.1 * (((nI (ab_ks A.1).length) - (nI q)) + 1))), (4, .int (nI ((ab_ks A.1).getD (q - 1) 0))), (3, .ref (g.2.2 (1 + 4 + (ab_ks A.1).length))), (0, .ref (g.2.2 0)), (1, .int (nI q)), (2, .int (nI k))] dX5_explainsAllSeen_84 (by decide) rfl ?_
  have lp : ∀ (f : Nat) (s0 : Nat), (4 - s0 < f) → (s0 ≤ A.2.2.2.1.length) → (∀ i, i < s0 → (ab_geo A.2.1 ((ab_ks A.1).set (q - 1) k)).2.2.1 = (A.2.2.2.1.getD i (0, 0)).1 ∧ (ab_geo A.2.1 ((ab_ks A.1).set (q - 1) k)).2.2.2 = (A.2.2.2.1.getD i (0, 0)).2) → Y M 86 [(8, .int (nI s0)), (7, .int ((ab_geo A.2.1 ((ab_ks A.1).set (q - 1) k)).2.2.2)), (6, .int ((ab_geo A.2.1 ((ab_ks A.1).set (q - 1) k)).2.2.1)), (5, .int (A.2.1 * (nI (ab_ks A.1).length - nI q + 1))), (4, .int (nI ((ab_ks A.1).getD (q - 1) 0))), (3, .ref (g.2.2 (1 + 4 + (ab_ks A.1).length))), (0, .ref (g.2.2 0)), (1, .int (nI q)), (2, .int (nI k))] [] := by
    intro f
    induction f with
    | zero =>
      intro s0 hf
      exact absurd hf (Nat.not_lt_zero _)
    | succ f ih =>
      intro s0 hf hi hI
      refine r_iload K 0 dX5_explainsAllSeen_86 rfl ?_
      refine r_aload_n K 6 dX5_explainsAllSeen_88 rfl rfl ?_
      refine r_getI K rfl rfl ff_5_seen qw_199 dX5_explainsAllSeen_89 ?_
      refine r_top_eq (nI A.2.2.2.1.length) hse.1 ?_
      refine r_icmp_ge K 133 dX5_explainsAllSeen_92 (by decide) (fun h_1 => ?_) (fun h_1 => ?_)
      · have nh_1 : A.2.2.2.1.length ≤ s0 := (nf_le rfl rfl (by omega) (by omega)).mp h_1
        refine r_iconst K (v := 1) dX5_explainsAllSeen_133 (by decide) ?_
        exact hr _ _ _ _ dX5_explainsAllSeen_134 (Or.inr rfl) ⟨Or.inl ⟨rfl, fun i hi2 => hI i (by omega)⟩, rfl⟩
      · have nh_1 : ¬ A.2.2.2.1.length ≤ s0 := mt (nf_le rfl rfl (by omega) (by omega)).mpr h_1
        refine r_iload K 0 dX5_explainsAllSeen_95 rfl ?_
        refine r_iconst K (v := 4) dX5_explainsAllSeen_97 (by decide) ?_
        refine r_icmp_ge K 133 dX5_explainsAllSeen_98 (by decide) (fun h_2 => ?_) (fun h_2 => ?_)
        · have nh_2 : 4 ≤ s0 := (nf_le rfl rfl (by omega) (by omega)).mp h_2
          refine r_iconst K (v := 1) dX5_explainsAllSeen_133 (by decide) ?_
          exact hr _ _ _ _ dX5_explainsAllSeen_134 (Or.inr rfl) ⟨Or.inl ⟨rfl, fun i hi2 => hI i (by omega)⟩, rfl⟩
        · have nh_2 : ¬ 4 ≤ s0 := mt (nf_le rfl rfl (by omega) (by omega)).mpr h_2
          refine r_aload_n K 6 dX5_explainsAllSeen_101 rfl rfl ?_
          refine r_getR K rfl rfl ff_5_seenX qw_197 dX5_explainsAllSeen_102 ?_
          refine r_iload K 0 dX5_explainsAllSeen_105 rfl ?_
          refine r_iald K (j := s0) rfl rfl (by omega) (by decide) dX5_explainsAllSeen_107 ?_
          refine r_top_eq ((A.2.2.2.1.getD s0 (0, 0)).1) (hse.2.2 s0 (by omega)).1 ?_
          refine r_iload K 2 dX5_explainsAllSeen_108 rfl ?_
          refine r_icmp_ne K 125 dX5_explainsAllSeen_110 (by decide) (fun h_3 => ?_) (fun h_3 => ?_)
          · refine r_iconst K (v := 0) dX5_explainsAllSeen_125 (by decide) ?_
            exact hr _ _ _ _ dX5_explainsAllSeen_126 (Or.inl rfl) ⟨Or.inr ⟨rfl, fun q => h_3 ((q s0 (by omega)).1.symm)⟩, rfl⟩
          · refine r_aload_n K 6 dX5_explainsAllSeen_113 rfl rfl ?_
            refine r_getR K rfl rfl ff_5_seenY qw_198 dX5_explainsAllSeen_114 ?_
            refine r_iload K 0 dX5_explainsAllSeen_117 rfl ?_
            refine r_iald K (j := s0) rfl rfl (by omega) (by decide) dX5_explainsAllSeen_119 ?_
            refine r_top_eq ((A.2.2.2.1.getD s0 (0, 0)).2) (hse.2.2 s0 (by omega)).2 ?_
            refine r_iload K 1 dX5_explainsAllSeen_120 rfl ?_
            refine r_icmp_eq K 127 dX5_explainsAllSeen_122 (by decide) (fun h_4 => ?_) (fun h_4 => ?_)
            · refine r_iinc_n K 0 [(8, .int (nI (s0 + 1))), (7, .int ((ab_geo A.2.1 ((ab_ks A.1).set (q - 1) k)).2.2.2)), (6, .int ((ab_geo A.2.1 ((ab_ks A.1).set (q - 1) k)).2.2.1)), (5, .int (A.2.1 * (nI (ab_ks A.1).length - nI q + 1))), (4, .int (nI ((ab_ks A.1).getD (q - 1) 0))), (3, .ref (g.2.2 (1 + 4 + (ab_ks A.1).length))), (0, .ref (g.2.2 0)), (1, .int (nI q)), (2, .int (nI k))] dX5_explainsAllSeen_127 rfl (by decide) rfl ?_
              refine r_goto K 86 dX5_explainsAllSeen_130 (by decide) ?_
              exact ih (s0 + 1) (by omega) (by omega) (fun i hi2 => by
                by_cases e : i = s0
                · subst e; exact ⟨(h_3).symm, (h_4).symm⟩
                · exact hI i (by omega))
            · refine r_iconst K (v := 0) dX5_explainsAllSeen_125 (by decide) ?_
              exact hr _ _ _ _ dX5_explainsAllSeen_126 (Or.inl rfl) ⟨Or.inr ⟨rfl, fun q => h_4 ((q s0 (by omega)).2.symm)⟩, rfl⟩
  exact lp 5 0 (by omega) (by omega) (fun i hi => absurd hi (Nat.not_lt_zero _))
set_option maxHeartbeats 4000000 in
set_option maxRecDepth 100000 in
theorem c_unseen (l : Launch) (g : rs_G) (t : Nat × Nat) (M : rs_M) (A : ab_S) (hS : x_S M A) (i : Int32) : rs_Ci l g xk t yX5_unseen cX5_unseen 4 .int 3 [.ref (g.2.2 0), .int i] M (fun r M1 => x_R (ab_unseen A i, A) r M1) := by
  obtain ⟨hL, hok, ht, hdr, him, htx, hun, hca, hse⟩ := id hS
  have hn12 := hok.1
  refine rs_ofi (plainFor_of_name (by decide)) (Nat.le_of_ble_eq_true rfl) ?_
  intro Y K hr
  show Y M 0 [(0, .ref (g.2.2 0)), (1, .int i)] []
  refine r_iload_n K 1 dX5_unseen_0 rfl rfl ?_
  refine r_iconst K (v := 1) dX5_unseen_1 (by decide) ?_
  refine r_aload_n K 0 dX5_unseen_2 rfl rfl ?_
  refine r_getR K rfl rfl ff_5_line qw_189 dX5_unseen_3 ?_
  refine r_getI K (xL_0 xL1) rfl ff_1_rings qw_71 dX5_unseen_6 ?_
  refine r_top_eq (nI (ab_ks A.1).length) hL.1 ?_
  refine r_callSi K [.int i, .int 1, .int (nI (ab_ks A.1).length)] [] dX5_unseen_9 mf_X5_isWithin qw_227 qw_228 (c_isWithin l g xk t M i 1 (nI (ab_ks A.1).length)) rfl rfl (by decide) (Nat.le_of_ble_eq_true rfl) (fun r M1 hp => ?_)
  obtain ⟨hp, he⟩ := hp
  have he := he.symm
  subst he
  rcases hp with ⟨rfl, hb_1⟩ | ⟨rfl, hb_1⟩
  · refine r_if_ne K 17 dX5_unseen_12 (by decide) (fun _ => ?_) (fun h => absurd h (by decide))
    obtain ⟨q, hj1, hj2, rfl⟩ := x_nat (a := 1) (b := (ab_ks A.1).length) hb_1 (by omega) (by omega)
    have qc : (nI q).toNatClampNeg = q := nI_clamp (by omega)
    have hown8 := ab_getD_lt hok.2.1 (q - 1)
    have e0 : ab_unseen A (nI q) = _ := ab_if_pos hb_1
    rw [qc] at e0
    refine r_iconst K (v := 0) dX5_unseen_17 (by decide) ?_
    refine r_istore_n K [(2, .int 0), (0, .ref (g.2.2 0)), (1, .int (nI q))] dX5_unseen_18 rfl (by decide) rfl ?_
    refine r_iconst K (v := 0) dX5_unseen_19 (by decide) ?_
    refine r_istore_n K [(3, .int 0), (2, .int 0), (0, .ref (g.2.2 0)), (1, .int (nI q))] dX5_unseen_20 rfl (by decide) rfl ?_
    have lp : ∀ (f : Nat) (k : Nat), (8 - k < f) → (k ≤ 8) → Y M 21 [(3, .int (nI k)), (2, .int (ab_mask (ab_usP A.2.1 A.1 A.2.2.2.1 q) k)), (0, .ref (g.2.2 0)), (1, .int (nI q))] [] := by
      intro f
      induction f with
      | zero =>
        intro k hf
        exact absurd hf (Nat.not_lt_zero _)
      | succ f ih =>
        intro k hf hi
        refine r_iload_n K 0 dX5_unseen_21 rfl rfl ?_
        refine r_bipush K (v := 8) dX5_unseen_22 (by decide) ?_
        refine r_icmp_ge K 64 dX5_unseen_24 (by decide) (fun h_2 => ?_) (fun h_2 => ?_)
        · have nh_2 : 8 ≤ k := (nf_le rfl rfl (by omega) (by omega)).mp h_2
          refine r_iload_n K 1 dX5_unseen_64 rfl rfl ?_
          have hk8 : k = 8 := by omega
          subst hk8
          exact hr _ _ _ _ dX5_unseen_65 ⟨by rw [e0], hS⟩
        · have nh_2 : ¬ 8 ≤ k := mt (nf_le rfl rfl (by omega) (by omega)).mpr h_2
          refine r_iload_n K 0 dX5_unseen_27 rfl rfl ?_
          refine r_aload_n K 2 dX5_unseen_28 rfl rfl ?_
          refine r_getR K rfl rfl ff_5_line qw_189 dX5_unseen_29 ?_
          refine r_getR K (xL_0 xL1) rfl ff_1_spots qw_64 dX5_unseen_32 ?_
          refine r_iload_n K 3 dX5_unseen_35 rfl rfl ?_
          refine r_aaldS K (j := q) (xL_1 xL1) rfl (xL_e (by omega)) (by omega) (by decide) dX5_unseen_36 ?_
          refine r_getI K (xL_s xL1 (by omega)) rfl ff_4_key qw_36 dX5_unseen_37 ?_
          refine r_top_eq (nI ((ab_ks A.1).getD (q - 1) 0)) (by rw [(hL.2.1 q hj2).2.1]; exact ab_last_take hj1 hj2) ?_
          refine r_icmp_eq K 58 dX5_unseen_40 (by decide) (fun h_3 => ?_) (fun h_3 => ?_)
          · have nh_3 : k = ((ab_ks A.1).getD (q - 1) 0) := (nf_eq rfl rfl (by omega) (by omega)).mp h_3
            refine r_iinc_n K 0 [(3, .int (nI (k + 1))), (2, .int (ab_mask (ab_usP A.2.1 A.1 A.2.2.2.1 q) k)), (0, .ref (g.2.2 0)), (1, .int (nI q))] dX5_unseen_58 rfl (by decide) rfl ?_
            refine r_goto K 21 dX5_unseen_61 (by decide) ?_
            have e : ab_mask (ab_usP A.2.1 A.1 A.2.2.2.1 q) (k + 1) = _ := if_neg (fun z => z.1 nh_3)
            have q9 := ih (k + 1) (by omega) (by omega)
            rw [e] at q9
            exact q9
          · have nh_3 : ¬ k = ((ab_ks A.1).getD (q - 1) 0) := mt (nf_eq rfl rfl (by omega) (by omega)).mpr h_3
            refine r_aload_n K 2 dX5_unseen_43 rfl rfl ?_
            refine r_iload_n K 3 dX5_unseen_44 rfl rfl ?_
            refine r_iload_n K 0 dX5_unseen_45 rfl rfl ?_
            refine r_callVi K [.int (nI q), .int (nI k)] [] dX5_unseen_46 mf_X5_explainsAllSeen rfl rfl qw_483 qw_485 qs_15 (c_explains l g t M A hS q hj1 hj2 k (by omega)) rfl rfl (by decide) (Nat.le_of_ble_eq_true rfl) (fun r M1 hp => ?_)
            obtain ⟨hp, he⟩ := hp
            have he := he.symm
            subst he
            rcases hp with ⟨rfl, hb_4⟩ | ⟨rfl, hb_4⟩
            · refine r_if_eq K 58 dX5_unseen_49 (by decide) (fun h => absurd h (by decide)) (fun _ => ?_)
              refine r_iload_n K 1 dX5_unseen_52 rfl rfl ?_
              refine r_iconst K (v := 1) dX5_unseen_53 (by decide) ?_
              refine r_iload_n K 0 dX5_unseen_54 rfl rfl ?_
              refine r_ishl K dX5_unseen_55 ?_
              refine r_ior K dX5_unseen_56 ?_
              refine r_istore_n K [(2, .int ((ab_mask (ab_usP A.2.1 A.1 A.2.2.2.1 q) k) ||| (1 <<< ((nI k) &&& 31)))), (3, .int (nI k)), (0, .ref (g.2.2 0)), (1, .int (nI q))] dX5_unseen_57 rfl (by decide) rfl ?_
              refine r_iinc_n K 1 [(3, .int (nI (k + 1))), (2, .int ((ab_mask (ab_usP A.2.1 A.1 A.2.2.2.1 q) k) ||| (1 <<< ((nI k) &&& 31)))), (0, .ref (g.2.2 0)), (1, .int (nI q))] dX5_unseen_58 rfl (by decide) rfl ?_
              refine r_goto K 21 dX5_unseen_61 (by decide) ?_
              have e : ab_mask (ab_usP A.2.1 A.1 A.2.2.2.1 q) (k + 1) = _ := if_pos ⟨nh_3, hb_4⟩
              have q9 := ih (k + 1) (by omega) (by omega)
              rw [e] at q9
              exact q9
            · refine r_if_eq K 58 dX5_unseen_49 (by decide) (fun _ => ?_) (fun h => absurd h (by decide))
              refine r_iinc_n K 0 [(3, .int (nI (k + 1))), (2, .int (ab_mask (ab_usP A.2.1 A.1 A.2.2.2.1 q) k)), (0, .ref (g.2.2 0)), (1, .int (nI q))] dX5_unseen_58 rfl (by decide) rfl ?_
              refine r_goto K 21 dX5_unseen_61 (by decide) ?_
              have e : ab_mask (ab_usP A.2.1 A.1 A.2.2.2.1 q) (k + 1) = _ := if_neg (fun z => hb_4 z.2)
              have q9 := ih (k + 1) (by omega) (by omega)
              rw [e] at q9
              exact q9
    exact lp 9 0 (by omega) (by omega)
  · refine r_if_ne K 17 dX5_unseen_12 (by decide) (fun h => absurd h (by decide)) (fun _ => ?_)
    refine r_iconst K (v := (-1)) dX5_unseen_15 (by decide) ?_
    exact hr _ _ _ _ dX5_unseen_16 ⟨by rw [ab_unseen, ab_if_neg hb_1], hS⟩
