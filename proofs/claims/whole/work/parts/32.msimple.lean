/-! the reference's simple calls -/
theorem m_S_line {M M1 : rs_M} {A : ab_S} (h : m_S M A) (e : ∀ c, c ≠ 0 → c ≠ 1 → c ≠ 2 → M1 c = M c) (e0 : ∀ j, j = 0 ∨ j = 5 ∨ j = 15 → M1 0 j = M 0 j) {L : ab_L} {us : List ab_L} (hr : m_row (M1 1) L) (hok : ab_ok L) (hu : m_und M1 us) : m_S M1 (ab_wL A L us) := by
  obtain ⟨h1, h2, h3, h4, h5, h6, h7, h8, h9⟩ := h
  exact ⟨hr, hok, h3, by rw [e0 0 (by omega)]; exact h4, hu, m_seen_fr h6 (e0 5 (by omega)) (e 3 (by decide) (by decide) (by decide)) (e 4 (by decide) (by decide) (by decide)), m_text_fr h7 (e0 15 (by omega)) (e 12 (by decide) (by decide) (by decide)), m_im_fr h8 (e 5 (by decide) (by decide) (by decide)) (e 6 (by decide) (by decide) (by decide)), m_z_fr h9 (fun c c1 c2 => by rw [e c (by omega) (by omega) (by omega)])⟩
theorem m_S_seen {M M1 : rs_M} {A : ab_S} (h : m_S M A) (e : ∀ c, c ≠ 0 → c ≠ 3 → c ≠ 4 → M1 c = M c) (e0 : ∀ j, j = 0 ∨ j = 2 ∨ j = 3 ∨ j = 15 → M1 0 j = M 0 j) {sn : List (Int32 × Int32)} (hs : m_seen M1 sn) : m_S M1 (ab_wN A sn) := by
  obtain ⟨h1, h2, h3, h4, h5, h6, h7, h8, h9⟩ := h
  exact ⟨by rw [e 1 (by decide) (by decide) (by decide)]; exact h1, h2, h3, by rw [e0 0 (by omega)]; exact h4, m_und_fr h5 (e 2 (by decide) (by decide) (by decide)) (e0 2 (by omega)) (e0 3 (by omega)), hs, m_text_fr h7 (e0 15 (by omega)) (e 12 (by decide) (by decide) (by decide)), m_im_fr h8 (e 5 (by decide) (by decide) (by decide)) (e 6 (by decide) (by decide) (by decide)), m_z_fr h9 (fun c c1 c2 => by rw [e c (by omega) (by omega) (by omega)])⟩
theorem m_S_text {M M1 : rs_M} {A : ab_S} (h : m_S M A) (e : ∀ c, c ≠ 0 → c ≠ 12 → M1 c = M c) (e0 : ∀ j, j = 0 ∨ j = 2 ∨ j = 3 ∨ j = 5 → M1 0 j = M 0 j) {tx : List Int32} (hs : m_text M1 tx) : m_S M1 (ab_wT A tx) := by
  obtain ⟨h1, h2, h3, h4, h5, h6, h7, h8, h9⟩ := h
  exact ⟨by rw [e 1 (by decide) (by decide)]; exact h1, h2, h3, by rw [e0 0 (by omega)]; exact h4, m_und_fr h5 (e 2 (by decide) (by decide)) (e0 2 (by omega)) (e0 3 (by omega)), m_seen_fr h6 (e0 5 (by omega)) (e 3 (by decide) (by decide)) (e 4 (by decide) (by decide)), hs, m_im_fr h8 (e 5 (by decide) (by decide)) (e 6 (by decide) (by decide)), m_z_fr h9 (fun c c1 c2 => by rw [e c (by omega) (by omega)])⟩
theorem m_seen_push {M : rs_M} {sn : List (Int32 × Int32)} (h : m_seen M sn) (x y : Int32) (h4 : sn.length < 4) : m_seen (rs_st (rs_st (rs_st M 3 sn.length x) 4 sn.length y) 0 5 (nI (sn.length + 1))) (sn ++ [(x, y)]) := by
  obtain ⟨h1, h2, h3⟩ := h
  refine ⟨by rw [rs_st_eq]; simp, by simp; omega, fun i hi => ?_⟩
  rw [rs_st_ne _ _ _ (show 3 ≠ 0 by decide), rs_st_ne _ _ _ (show 3 ≠ 4 by decide), rs_st_row, rs_st_ne _ _ _ (show 4 ≠ 0 by decide), rs_st_row, rs_st_ne _ _ _ (show 4 ≠ 3 by decide)]
  simp only [upd]
  by_cases e : i = sn.length
  · subst e; simp
  · have hlt : i < sn.length := by simp at hi; omega
    rw [if_neg e, if_neg e]
    have := h3 i hlt
    simpa [List.getElem?_append_left hlt] using this
theorem m_text_push {M : rs_M} {tx : List Int32} (h : m_text M tx) {x : Int32} (hx : 0 ≤ x ∧ x ≤ 255) (h4 : tx.length < 120) : m_text (rs_st (rs_st M 12 tx.length x) 0 15 (nI (tx.length + 1))) (tx ++ [x]) := by
  obtain ⟨h1, h2, h3⟩ := h
  refine ⟨by rw [rs_st_eq]; simp, by simp; omega, fun i hi => ?_⟩
  rw [rs_st_ne _ _ _ (show 12 ≠ 0 by decide), rs_st_row]
  simp only [upd]
  by_cases e : i = tx.length
  · subst e
    have e1 : (tx ++ [x]).getD tx.length 0 = x := by simp
    rw [e1, if_pos rfl]
    obtain ⟨g1, g2⟩ := hx
    rw [Int32.le_iff_toInt_le] at g1 g2
    have z1 : (0 : Int32).toInt = 0 := by decide
    have z2 : (255 : Int32).toInt = 255 := by decide
    exact ⟨rfl, by omega, by omega⟩
  · have hlt : i < tx.length := by simp at hi; omega
    rw [if_neg e]
    have := h3 i hlt
    have e1 : (tx ++ [x]).getD i 0 = tx.getD i 0 := by simp [List.getElem?_append_left hlt]
    rw [e1]
    exact this
theorem m_und_pop {M M1 : rs_M} {a : Nat} {u : ab_L} {us : List ab_L} (ha : a < 12) (hl : (u :: us).length ≤ 12) (h5 : ∀ i v, (u :: us)[i]? = some v → ab_ok v ∧ m_row (fun k => M 2 (53 * ((a + 11 - i) % 12) + k)) v) (e2 : M1 2 = M 2) (e3 : M1 0 3 = nI ((a + 11) % 12)) (e0 : M1 0 2 = nI us.length) : m_und M1 us := by
  have hl2 : us.length ≤ 11 := by simpa using hl
  refine ⟨(a + 11) % 12, Nat.mod_lt _ (by decide), e3, e0, by omega, fun i v hi => ?_⟩
  have hlt : i < us.length := (List.getElem?_eq_some_iff.mp hi).1
  have := h5 (i + 1) v (by rw [List.getElem?_cons_succ]; exact hi)
  rw [e2, show ((a + 11) % 12 + 11 - i) % 12 = (a + 11 - (i + 1)) % 12 by omega]
  exact this
theorem m_im1_fr2 {M M1 : rs_M} {i : Nat} {o : Option ab_L} (h : m_im1 M i o) (e5 : M1 5 i = M 5 i) (e6 : ∀ k, k < 53 → M1 6 (53 * i + k) = M 6 (53 * i + k)) : m_im1 M1 i o := by
  cases o with
  | none => show M1 5 i = 0; rw [e5]; exact h
  | some L => exact ⟨by rw [e5]; exact h.1, h.2.1, m_row_same h.2.1.1 h.2.2 (fun k hk => e6 k hk)⟩
theorem m_im_get {M : rs_M} {im : Nat → Option ab_L} (h : m_im M im) {j : Nat} (hj : j < 2) : m_im1 M j (im j) := by
  rcases (show j = 0 ∨ j = 1 by omega) with rfl | rfl
  · exact h.1
  · exact h.2
theorem m_im1_flag {M : rs_M} {j : Nat} {o : Option ab_L} (h : m_im1 M j o) : M 5 j = ab_flag o := by
  cases o with
  | none => exact h
  | some L => exact h.1
theorem m_S_keep {M M1 : rs_M} {A : ab_S} (hS : m_S M A) {j : Nat} (hj : j < 2) (e : ∀ c, c ≠ 5 → c ≠ 6 → M1 c = M c) (e5 : M1 5 = upd (M 5) j 1) (e6 : ∀ q, q < 53 → M1 6 (53 * j + q) = M 1 q) (e7 : ∀ q, (q < 53 * j ∨ 53 * j + 53 ≤ q) → M1 6 q = M 6 q) : m_S M1 (ab_wI A j A.1) := by
  obtain ⟨h1, h2, h3, h4, h5, h6, h7, h8, h9⟩ := hS
  refine ⟨by rw [e 1 (by decide) (by decide)]; exact h1, h2, h3, by rw [e 0 (by decide) (by decide)]; exact h4, m_und_fr h5 (e 2 (by decide) (by decide)) (by rw [e 0 (by decide) (by decide)]) (by rw [e 0 (by decide) (by decide)]), m_seen_fr h6 (by rw [e 0 (by decide) (by decide)]) (e 3 (by decide) (by decide)) (e 4 (by decide) (by decide)), m_text_fr h7 (by rw [e 0 (by decide) (by decide)]) (e 12 (by decide) (by decide)), ?_, m_z_fr h9 (fun c c1 c2 => by rw [e c (by omega) (by omega)])⟩
  have key : ∀ i, i < 2 → m_im1 M1 i (if i = j then some A.1 else A.2.2.2.2.2 i) := by
    intro i hi
    by_cases ei : i = j
    · rw [if_pos ei]
      subst ei
      exact ⟨by rw [e5]; simp [upd], h2, m_row_same h2.1 h1 (fun k hk => e6 k hk)⟩
    · rw [if_neg ei]
      exact m_im1_fr2 (m_im_get h8 hi) (by rw [e5]; simp [upd, ei]) (fun k hk => e7 _ (by omega))
  exact ⟨key 0 (by decide), key 1 (by decide)⟩
theorem x_five {w : Int32} (h : 0 ≤ w ∧ w ≤ 5) (h0 : ¬ w = 0) (h1 : ¬ w = 1) (h2 : ¬ w = 2) (h3 : ¬ w = 3) (h4 : ¬ w = 4) : w = 5 := by
  obtain ⟨j, j1, j2, rfl⟩ := x_nat (a := 0) (b := 5) h (by decide) (by decide)
  rcases (show j = 0 ∨ j = 1 ∨ j = 2 ∨ j = 3 ∨ j = 4 ∨ j = 5 by omega) with rfl | rfl | rfl | rfl | rfl | rfl
  · exact absurd rfl h0
  · exact absurd rfl h1
  · exact absurd rfl h2
  · exact absurd rfl h3
  · exact absurd rfl h4
  · rfl
theorem ab_rget_no {tp : Int32} {L : ab_L} {i : Nat} {w : Int32} (h : ¬ (0 ≤ w ∧ w ≤ 5)) : ab_rget tp L i w = -1000000 := by
  have n : ∀ v : Int32, 0 ≤ v → v ≤ 5 → ¬ w = v := fun v v1 v2 q => h (by rw [q]; exact ⟨v1, v2⟩)
  rw [ab_rget, if_neg (n 0 (by decide) (by decide)), if_neg (n 1 (by decide) (by decide)), if_neg (n 2 (by decide) (by decide)), if_neg (n 3 (by decide) (by decide)), if_neg (n 4 (by decide) (by decide)), if_neg (n 5 (by decide) (by decide))]
theorem ab_ringcost_0 {tp : Int32} {L : ab_L} (hok : ab_ok L) : ab_ringcost tp L 0 = 0 := by
  obtain ⟨-, -, -, -, -, -, w1, w2⟩ := hok
  have z : ab_abs (0 - 0 : Int32) = 0 := by decide
  have e : ab_ringcost tp L 0 = ab_way_cost (ab_way L) 0 0 := by
    rw [ab_ringcost, ab_cost, List.take_zero, ab_geo_nil, w1, w2]
    show ab_way_cost (ab_way L) (ab_abs (0 - 0)) (ab_abs (0 - 0)) = _
    rw [z]
  rw [e]
  generalize ab_way L = q
  match q with
  | 0 => rfl
  | 1 => rfl
  | 2 => rfl
  | n + 3 => rfl
theorem m_laid_cost {M : rs_M} {tp : Int32} {L : ab_L} (h : m_laid M tp (ab_ks L) (ab_ks L).length) {i : Nat} (hi : i ≤ (ab_ks L).length) : ab_cost L i (M 10 i) (M 11 i) = ab_ringcost tp L i := by
  rw [(h i hi).1.2.2.1, (h i hi).1.2.2.2]; rfl
set_option maxHeartbeats 4000000 in
set_option maxRecDepth 100000 in
theorem cm_type (l : Launch) (g : rs_G) (t : Nat × Nat) (M : rs_M) (A : ab_S) (hS : m_S M A) (c : Int32) : rs_Ci l g mk t yX6_type cX6_type 2 .int 1 [.ref (g.2.2 0), .int c] M (fun r M1 => m_R (ab_type A c) r M1) := by
  obtain ⟨hrow, hok, ht, h0, hun, hse, htx, him, hz⟩ := id hS
  have hn12 := hok.1
  have htl := htx.2.1
  refine rs_ofi (plainFor_of_name (by decide)) (Nat.le_of_ble_eq_true rfl) ?_
  intro Y K hr
  show Y M 0 [(0, .ref (g.2.2 0)), (1, .int c)] []
  refine r_iload_n K 1 dX6_type_0 rfl rfl ?_
  refine r_iconst K (v := 0) dX6_type_1 (by decide) ?_
  refine r_sipush K (v := 255) dX6_type_2 (by decide) ?_
  refine r_callSi K [.int c, .int 0, .int 255] [] dX6_type_5 mf_X6_in qw_636 qw_637 (cm_in l g t M c 0 255) rfl rfl (by decide) (Nat.le_of_ble_eq_true rfl) (fun r M1 hp => ?_)
  obtain ⟨hp, he⟩ := hp
  have he := he.symm
  subst he
  rcases hp with ⟨rfl, hb_1⟩ | ⟨rfl, hb_1⟩
  · refine r_if_ne K 13 dX6_type_8 (by decide) (fun _ => ?_) (fun h => absurd h (by decide))
    refine r_aload_n K 0 dX6_type_13 rfl rfl ?_
    refine r_getI K rfl rfl ff_6_letterMany qw_559 dX6_type_14 ?_
    refine r_top_eq (nI A.2.2.2.2.1.length) (by first | exact htx.1 | (simp [rs_st]; exact htx.1)) ?_
    refine r_bipush K (v := 120) dX6_type_17 (by decide) ?_
    refine r_icmp_ne K 25 dX6_type_19 (by decide) (fun h_2 => ?_) (fun h_2 => ?_)
    · have nh_2 : ¬ A.2.2.2.2.1.length = 120 := mt (nf_eq rfl rfl (by omega) (by omega)).mpr h_2
      refine r_aload_n K 0 dX6_type_25 rfl rfl ?_
      refine r_getR K rfl rfl ff_6_text qw_560 dX6_type_26 ?_
      refine r_aload_n K 0 dX6_type_29 rfl rfl ?_
      refine r_getI K rfl rfl ff_6_letterMany qw_559 dX6_type_30 ?_
      refine r_top_eq (nI A.2.2.2.2.1.length) (by first | exact htx.1 | (simp [rs_st]; exact htx.1)) ?_
      refine r_iload_n K 1 dX6_type_33 rfl rfl ?_
      refine r_iast K (j := A.2.2.2.2.1.length) rfl rfl (by omega) (by decide) dX6_type_34 ?_
      refine r_aload_n K 0 dX6_type_35 rfl rfl ?_
      refine r_dup K dX6_type_36 rfl ?_
      refine r_getI K rfl rfl ff_6_letterMany qw_559 dX6_type_37 ?_
      refine r_top_eq (nI A.2.2.2.2.1.length) (by first | exact htx.1 | (simp [rs_st]; exact htx.1)) ?_
      refine r_iconst K (v := 1) dX6_type_40 (by decide) ?_
      refine r_iadd K dX6_type_41 ?_
      refine r_top_eq (nI (A.2.2.2.2.1.length + 1)) (nI_1 _) ?_
      refine r_put K rfl rfl ff_6_letterMany qw_559 rfl rfl dX6_type_42 ?_
      refine r_aload_n K 0 dX6_type_45 rfl rfl ?_
      refine r_getI K rfl rfl ff_6_letterMany qw_559 dX6_type_46 ?_
      refine r_top_eq (nI (A.2.2.2.2.1.length + 1)) (by rw [rs_st_eq]) ?_
      have e : ab_type A c = (nI (A.2.2.2.2.1.length + 1), ab_wT A (A.2.2.2.2.1 ++ [c])) := by rw [ab_type, ab_if_pos hb_1, ab_if_pos (by omega)]
      exact hr _ _ _ _ dX6_type_49 (by rw [e]; exact ⟨rfl, (m_S_text hS (fun c c1 c2 => by rw [rs_st_ne _ _ _ c1, rs_st_ne _ _ _ c2]) (fun j hj => by rw [rs_st_nk _ _ _ (by omega), rs_st_ne _ _ _ (by decide)]) (m_text_push htx hb_1 (by omega)))⟩)
    · have nh_2 : A.2.2.2.2.1.length = 120 := (nf_eq rfl rfl (by omega) (by omega)).mp h_2
      refine r_bipush K (v := (-3)) dX6_type_22 (by decide) ?_
      have e : ab_type A c = (-3, A) := by rw [ab_type, ab_if_pos hb_1, ab_if_neg (by omega)]
      exact hr _ _ _ _ dX6_type_24 (by rw [e]; exact ⟨rfl, hS⟩)
  · refine r_if_ne K 13 dX6_type_8 (by decide) (fun h => absurd h (by decide)) (fun _ => ?_)
    refine r_iconst K (v := (-1)) dX6_type_11 (by decide) ?_
    have e : ab_type A c = (-1, A) := by rw [ab_type, ab_if_neg hb_1]
    exact hr _ _ _ _ dX6_type_12 (by rw [e]; exact ⟨rfl, hS⟩)
set_option maxHeartbeats 4000000 in
set_option maxRecDepth 100000 in
theorem cm_clear (l : Launch) (g : rs_G) (t : Nat × Nat) (M : rs_M) (A : ab_S) (hS : m_S M A) : rs_Ci l g mk t yX6_clear cX6_clear 2 .int 0 [.ref (g.2.2 0)] M (fun r M1 => m_R (ab_clear A) r M1) := by
  obtain ⟨hrow, hok, ht, h0, hun, hse, htx, him, hz⟩ := id hS
  have hn12 := hok.1
  refine rs_ofi (plainFor_of_name (by decide)) (Nat.le_of_ble_eq_true rfl) ?_
  intro Y K hr
  show Y M 0 [(0, .ref (g.2.2 0))] []
  refine r_aload_n K 0 dX6_clear_0 rfl rfl ?_
  refine r_getI K rfl rfl ff_6_letterMany qw_559 dX6_clear_1 ?_
  refine r_top_eq (nI A.2.2.2.2.1.length) htx.1 ?_
  refine r_istore_n K [(1, .int (nI A.2.2.2.2.1.length)), (0, .ref (g.2.2 0))] dX6_clear_4 rfl (by decide) rfl ?_
  refine r_aload_n K 1 dX6_clear_5 rfl rfl ?_
  refine r_iconst K (v := 0) dX6_clear_6 (by decide) ?_
  refine r_put K rfl rfl ff_6_letterMany qw_559 rfl rfl dX6_clear_7 ?_
  refine r_iload_n K 0 dX6_clear_10 rfl rfl ?_
  exact hr _ _ _ _ dX6_clear_11 ⟨rfl, m_S_text (M1 := rs_st M 0 15 0) hS (fun c c1 c2 => rs_st_ne _ _ _ c1) (fun j hj => rs_st_nk _ _ _ (by omega)) ⟨by rw [rs_st_eq]; rfl, by simp, fun i hi => absurd hi (Nat.not_lt_zero _)⟩⟩
set_option maxHeartbeats 4000000 in
set_option maxRecDepth 100000 in
theorem cm_sees (l : Launch) (g : rs_G) (t : Nat × Nat) (M : rs_M) (A : ab_S) (hS : m_S M A) (x y : Int32) : rs_Ci l g mk t yX6_sees cX6_sees 3 .int 1 [.ref (g.2.2 0), .int x, .int y] M (fun r M1 => m_R (ab_sees A x y) r M1) := by
  obtain ⟨hrow, hok, ht, h0, hun, hse, htx, him, hz⟩ := id hS
  have hn12 := hok.1
  have hs4 := hse.2.1
  refine rs_ofi (plainFor_of_name (by decide)) (Nat.le_of_ble_eq_true rfl) ?_
  intro Y K hr
  show Y M 0 [(0, .ref (g.2.2 0)), (1, .int x), (2, .int y)] []
  refine r_iload_n K 1 dX6_sees_0 rfl rfl ?_
  refine r_sipush K (v := (-9999)) dX6_sees_1 (by decide) ?_
  refine r_sipush K (v := 9999) dX6_sees_4 (by decide) ?_
  refine r_callSi K [.int x, .int (-9999), .int 9999] [] dX6_sees_7 mf_X6_in qw_636 qw_637 (cm_in l g t M x (-9999) 9999) rfl rfl (by decide) (Nat.le_of_ble_eq_true rfl) (fun r M1 hp => ?_)
  obtain ⟨hp, he⟩ := hp
  have he := he.symm
  subst he
  rcases hp with ⟨rfl, hb_1⟩ | ⟨rfl, hb_1⟩
  · refine r_if_eq K 26 dX6_sees_10 (by decide) (fun h => absurd h (by decide)) (fun _ => ?_)
    refine r_iload_n K 2 dX6_sees_13 rfl rfl ?_
    refine r_sipush K (v := (-9999)) dX6_sees_14 (by decide) ?_
    refine r_sipush K (v := 9999) dX6_sees_17 (by decide) ?_
    refine r_callSi K [.int y, .int (-9999), .int 9999] [] dX6_sees_20 mf_X6_in qw_636 qw_637 (cm_in l g t M y (-9999) 9999) rfl rfl (by decide) (Nat.le_of_ble_eq_true rfl) (fun r M1 hp => ?_)
    obtain ⟨hp, he⟩ := hp
    have he := he.symm
    subst he
    rcases hp with ⟨rfl, hb_2⟩ | ⟨rfl, hb_2⟩
    · refine r_if_ne K 28 dX6_sees_23 (by decide) (fun _ => ?_) (fun h => absurd h (by decide))
      refine r_aload_n K 0 dX6_sees_28 rfl rfl ?_
      refine r_getI K rfl rfl ff_6_seenMany qw_549 dX6_sees_29 ?_
      refine r_top_eq (nI A.2.2.2.1.length) (by first | exact hse.1 | (simp [rs_st]; exact hse.1)) ?_
      refine r_iconst K (v := 4) dX6_sees_32 (by decide) ?_
      refine r_icmp_ne K 39 dX6_sees_33 (by decide) (fun h_3 => ?_) (fun h_3 => ?_)
      · have nh_3 : ¬ A.2.2.2.1.length = 4 := mt (nf_eq rfl rfl (by omega) (by omega)).mpr h_3
        refine r_aload_n K 0 dX6_sees_39 rfl rfl ?_
        refine r_getR K rfl rfl ff_6_seenX qw_550 dX6_sees_40 ?_
        refine r_aload_n K 0 dX6_sees_43 rfl rfl ?_
        refine r_getI K rfl rfl ff_6_seenMany qw_549 dX6_sees_44 ?_
        refine r_top_eq (nI A.2.2.2.1.length) (by first | exact hse.1 | (simp [rs_st]; exact hse.1)) ?_
        refine r_iload_n K 1 dX6_sees_47 rfl rfl ?_
        refine r_iast K (j := A.2.2.2.1.length) rfl rfl (by omega) (by decide) dX6_sees_48 ?_
        refine r_aload_n K 0 dX6_sees_49 rfl rfl ?_
        refine r_getR K rfl rfl ff_6_seenY qw_551 dX6_sees_50 ?_
        refine r_aload_n K 0 dX6_sees_53 rfl rfl ?_
        refine r_getI K rfl rfl ff_6_seenMany qw_549 dX6_sees_54 ?_
        refine r_top_eq (nI A.2.2.2.1.length) (by first | exact hse.1 | (simp [rs_st]; exact hse.1)) ?_
        refine r_iload_n K 2 dX6_sees_57 rfl rfl ?_
        refine r_iast K (j := A.2.2.2.1.length) rfl rfl (by omega) (by decide) dX6_sees_58 ?_
        refine r_aload_n K 0 dX6_sees_59 rfl rfl ?_
        refine r_dup K dX6_sees_60 rfl ?_
        refine r_getI K rfl rfl ff_6_seenMany qw_549 dX6_sees_61 ?_
        refine r_top_eq (nI A.2.2.2.1.length) (by first | exact hse.1 | (simp [rs_st]; exact hse.1)) ?_
        refine r_iconst K (v := 1) dX6_sees_64 (by decide) ?_
        refine r_iadd K dX6_sees_65 ?_
        refine r_top_eq (nI (A.2.2.2.1.length + 1)) (nI_1 _) ?_
        refine r_put K rfl rfl ff_6_seenMany qw_549 rfl rfl dX6_sees_66 ?_
        refine r_aload_n K 0 dX6_sees_69 rfl rfl ?_
        refine r_getI K rfl rfl ff_6_seenMany qw_549 dX6_sees_70 ?_
        refine r_top_eq (nI (A.2.2.2.1.length + 1)) (by rw [rs_st_eq]) ?_
        have e : ab_sees A x y = (nI (A.2.2.2.1.length + 1), ab_wN A (A.2.2.2.1 ++ [(x, y)])) := by rw [ab_sees, ab_if_pos ⟨hb_1, hb_2⟩, ab_if_pos (by omega)]
        exact hr _ _ _ _ dX6_sees_73 (by rw [e]; exact ⟨rfl, (m_S_seen hS (fun c c1 c2 c3 => by rw [rs_st_ne _ _ _ c1, rs_st_ne _ _ _ c3, rs_st_ne _ _ _ c2]) (fun j hj => by rw [rs_st_nk _ _ _ (by omega), rs_st_ne _ _ _ (by decide), rs_st_ne _ _ _ (by decide)]) (m_seen_push hse x y (by omega)))⟩)
      · have nh_3 : A.2.2.2.1.length = 4 := (nf_eq rfl rfl (by omega) (by omega)).mp h_3
        refine r_bipush K (v := (-3)) dX6_sees_36 (by decide) ?_
        have e : ab_sees A x y = (-3, A) := by rw [ab_sees, ab_if_pos ⟨hb_1, hb_2⟩, ab_if_neg (by omega)]
        exact hr _ _ _ _ dX6_sees_38 (by rw [e]; exact ⟨rfl, hS⟩)
    · refine r_if_ne K 28 dX6_sees_23 (by decide) (fun h => absurd h (by decide)) (fun _ => ?_)
      refine r_iconst K (v := (-1)) dX6_sees_26 (by decide) ?_
      have e : ab_sees A x y = (-1, A) := by rw [ab_sees, ab_if_neg (fun q => hb_2 q.2)]
      exact hr _ _ _ _ dX6_sees_27 (by rw [e]; exact ⟨rfl, hS⟩)
  · refine r_if_eq K 26 dX6_sees_10 (by decide) (fun _ => ?_) (fun h => absurd h (by decide))
    refine r_iconst K (v := (-1)) dX6_sees_26 (by decide) ?_
    have e : ab_sees A x y = (-1, A) := by rw [ab_sees, ab_if_neg (fun q => hb_1 q.1)]
    exact hr _ _ _ _ dX6_sees_27 (by rw [e]; exact ⟨rfl, hS⟩)
set_option maxHeartbeats 4000000 in
set_option maxRecDepth 100000 in
theorem cm_forget (l : Launch) (g : rs_G) (t : Nat × Nat) (M : rs_M) (A : ab_S) (hS : m_S M A) : rs_Ci l g mk t yX6_forget cX6_forget 2 .int 0 [.ref (g.2.2 0)] M (fun r M1 => m_R (ab_forget A) r M1) := by
  obtain ⟨hrow, hok, ht, h0, hun, hse, htx, him, hz⟩ := id hS
  have hn12 := hok.1
  refine rs_ofi (plainFor_of_name (by decide)) (Nat.le_of_ble_eq_true rfl) ?_
  intro Y K hr
  show Y M 0 [(0, .ref (g.2.2 0))] []
  refine r_aload_n K 0 dX6_forget_0 rfl rfl ?_
  refine r_getI K rfl rfl ff_6_seenMany qw_549 dX6_forget_1 ?_
  refine r_top_eq (nI A.2.2.2.1.length) hse.1 ?_
  refine r_istore_n K [(1, .int (nI A.2.2.2.1.length)), (0, .ref (g.2.2 0))] dX6_forget_4 rfl (by decide) rfl ?_
  refine r_aload_n K 1 dX6_forget_5 rfl rfl ?_
  refine r_iconst K (v := 0) dX6_forget_6 (by decide) ?_
  refine r_put K rfl rfl ff_6_seenMany qw_549 rfl rfl dX6_forget_7 ?_
  refine r_iload_n K 0 dX6_forget_10 rfl rfl ?_
  exact hr _ _ _ _ dX6_forget_11 ⟨rfl, m_S_seen (M1 := rs_st M 0 5 0) hS (fun c c1 c2 c3 => rs_st_ne _ _ _ c1) (fun j hj => rs_st_nk _ _ _ (by omega)) ⟨by rw [rs_st_eq]; rfl, by simp, fun i hi => absurd hi (Nat.not_lt_zero _)⟩⟩
set_option maxHeartbeats 4000000 in
set_option maxRecDepth 100000 in
theorem cm_wishes (l : Launch) (g : rs_G) (t : Nat × Nat) (M : rs_M) (A : ab_S) (hS : m_S M A) (p x y : Int32) : rs_Ci l g mk t yX6_wishes cX6_wishes 4 .int 1 [.ref (g.2.2 0), .int p, .int x, .int y] M (fun r M1 => m_R (ab_wishes A p x y) r M1) := by
  obtain ⟨hrow, hok, ht, h0, hun, hse, htx, him, hz⟩ := id hS
  have hn12 := hok.1
  refine rs_ofi (plainFor_of_name (by decide)) (Nat.le_of_ble_eq_true rfl) ?_
  intro Y K hr
  show Y M 0 [(0, .ref (g.2.2 0)), (1, .int p), (2, .int x), (3, .int y)] []
  refine r_iload_n K 1 dX6_wishes_0 rfl rfl ?_
  refine r_iconst K (v := 1) dX6_wishes_1 (by decide) ?_
  refine r_bipush K (v := 17) dX6_wishes_2 (by decide) ?_
  refine r_callSi K [.int p, .int 1, .int 17] [] dX6_wishes_4 mf_X6_in qw_636 qw_637 (cm_in l g t M p 1 17) rfl rfl (by decide) (Nat.le_of_ble_eq_true rfl) (fun r M1 hp => ?_)
  obtain ⟨hp, he⟩ := hp
  have he := he.symm
  subst he
  rcases hp with ⟨rfl, hb_1⟩ | ⟨rfl, hb_1⟩
  · refine r_if_eq K 32 dX6_wishes_7 (by decide) (fun h => absurd h (by decide)) (fun _ => ?_)
    refine r_iload_n K 2 dX6_wishes_10 rfl rfl ?_
    refine r_bipush K (v := (-99)) dX6_wishes_11 (by decide) ?_
    refine r_bipush K (v := 99) dX6_wishes_13 (by decide) ?_
    refine r_callSi K [.int x, .int (-99), .int 99] [] dX6_wishes_15 mf_X6_in qw_636 qw_637 (cm_in l g t M x (-99) 99) rfl rfl (by decide) (Nat.le_of_ble_eq_true rfl) (fun r M1 hp => ?_)
    obtain ⟨hp, he⟩ := hp
    have he := he.symm
    subst he
    rcases hp with ⟨rfl, hb_2⟩ | ⟨rfl, hb_2⟩
    · refine r_if_eq K 32 dX6_wishes_18 (by decide) (fun h => absurd h (by decide)) (fun _ => ?_)
      refine r_iload_n K 3 dX6_wishes_21 rfl rfl ?_
      refine r_bipush K (v := (-99)) dX6_wishes_22 (by decide) ?_
      refine r_bipush K (v := 99) dX6_wishes_24 (by decide) ?_
      refine r_callSi K [.int y, .int (-99), .int 99] [] dX6_wishes_26 mf_X6_in qw_636 qw_637 (cm_in l g t M y (-99) 99) rfl rfl (by decide) (Nat.le_of_ble_eq_true rfl) (fun r M1 hp => ?_)
      obtain ⟨hp, he⟩ := hp
      have he := he.symm
      subst he
      rcases hp with ⟨rfl, hb_3⟩ | ⟨rfl, hb_3⟩
      · refine r_if_ne K 34 dX6_wishes_29 (by decide) (fun _ => ?_) (fun h => absurd h (by decide))
        obtain ⟨j, hj1, hj2, rfl⟩ := x_nat (a := 1) (b := 17) hb_1 (by omega) (by omega)
        have jc : (nI j).toNatClampNeg = j := nI_clamp (by omega)
        refine r_aload_n K 0 dX6_wishes_34 rfl rfl ?_
        refine r_getR K rfl rfl ff_6_now qw_545 dX6_wishes_35 ?_
        refine r_bipush K (v := 17) dX6_wishes_38 (by decide) ?_
        refine r_iload_n K 1 dX6_wishes_40 rfl rfl ?_
        refine r_iadd K dX6_wishes_41 ?_
        refine r_iald K (j := 17 + j) rfl (nI_add 17 j) (by omega) (by decide) dX6_wishes_42 ?_
        refine r_top_eq (ab_wx A.1 j) (hrow.2.2.2.2.2 j (by omega)).1 ?_
        refine r_iload_n K 2 dX6_wishes_43 rfl rfl ?_
        refine r_icmp_ne K 63 dX6_wishes_44 (by decide) (fun h_4 => ?_) (fun h_4 => ?_)
        · refine r_aload_n K 0 dX6_wishes_63 rfl rfl ?_
          refine r_callVv K [] [] dX6_wishes_64 mf_X6_remember rfl rfl qw_733 qw_735 qs_34 (cm_remember l g t M A.1 hok hrow A.2.2.1 hun) rfl rfl (by decide) (Nat.le_of_ble_eq_true rfl) (fun Mr hp => ?_)
          obtain ⟨hp1, hp2, hp3⟩ := hp
          refine r_aload_n K 0 dX6_wishes_67 rfl rfl ?_
          refine r_getR K rfl rfl ff_6_now qw_545 dX6_wishes_68 ?_
          refine r_bipush K (v := 17) dX6_wishes_71 (by decide) ?_
          refine r_iload_n K 1 dX6_wishes_73 rfl rfl ?_
          refine r_iadd K dX6_wishes_74 ?_
          refine r_iload_n K 2 dX6_wishes_75 rfl rfl ?_
          refine r_iast K (j := 17 + j) rfl (nI_add 17 j) (by omega) (by decide) dX6_wishes_76 ?_
          refine r_aload_n K 0 dX6_wishes_77 rfl rfl ?_
          refine r_getR K rfl rfl ff_6_now qw_545 dX6_wishes_78 ?_
          refine r_bipush K (v := 35) dX6_wishes_81 (by decide) ?_
          refine r_iload_n K 1 dX6_wishes_83 rfl rfl ?_
          refine r_iadd K dX6_wishes_84 ?_
          refine r_iload_n K 3 dX6_wishes_85 rfl rfl ?_
          refine r_iast K (j := 35 + j) rfl (nI_add 35 j) (by omega) (by decide) dX6_wishes_86 ?_
          refine r_iconst K (v := 1) dX6_wishes_87 (by decide) ?_
          have hok2 : ab_ok (ab_setwish A.1 j x y) := ab_ok_wish hok (by omega) (x_99 hb_2) (x_99 hb_3)
          have ec : ∀ c, c ≠ 1 → (rs_st (rs_st Mr 1 (17 + j) x) 1 (35 + j) y) c = Mr c := fun c hc => by rw [rs_st_ne _ _ _ hc, rs_st_ne _ _ _ hc]
          have e : ab_wishes A (nI j) x y = (1, ab_wL A (ab_setwish A.1 j x y) ((A.1 :: A.2.2.1).take 12)) := by rw [ab_wishes, ab_if_pos ⟨hb_1, hb_2, hb_3⟩, jc, ab_if_neg (fun q => h_4 q.1)]
          exact hr _ _ _ _ dX6_wishes_88 (by rw [e]; exact ⟨rfl, (m_S_line (M1 := (rs_st (rs_st Mr 1 (17 + j) x) 1 (35 + j) y)) hS (fun c h1 h2 h3 => by rw [ec c h2, hp2 c h1 h3]) (fun q hq => by rw [ec 0 (by decide), hp3 q (by omega) (by omega)]) (by rw [rs_st_row, rs_st_row, hp2 1 (by decide) (by decide)]; exact m_row_wish hrow hn12 (by omega) x y) hok2 (m_und_fr hp1 (ec 2 (by decide)) (by rw [ec 0 (by decide)]) (by rw [ec 0 (by decide)])))⟩)
        · refine r_aload_n K 0 dX6_wishes_47 rfl rfl ?_
          refine r_getR K rfl rfl ff_6_now qw_545 dX6_wishes_48 ?_
          refine r_bipush K (v := 35) dX6_wishes_51 (by decide) ?_
          refine r_iload_n K 1 dX6_wishes_53 rfl rfl ?_
          refine r_iadd K dX6_wishes_54 ?_
          refine r_iald K (j := 35 + j) rfl (nI_add 35 j) (by omega) (by decide) dX6_wishes_55 ?_
          refine r_top_eq (ab_wy A.1 j) (hrow.2.2.2.2.2 j (by omega)).2 ?_
          refine r_iload_n K 3 dX6_wishes_56 rfl rfl ?_
          refine r_icmp_ne K 63 dX6_wishes_57 (by decide) (fun h_5 => ?_) (fun h_5 => ?_)
          · refine r_aload_n K 0 dX6_wishes_63 rfl rfl ?_
            refine r_callVv K [] [] dX6_wishes_64 mf_X6_remember rfl rfl qw_733 qw_735 qs_34 (cm_remember l g t M A.1 hok hrow A.2.2.1 hun) rfl rfl (by decide) (Nat.le_of_ble_eq_true rfl) (fun Mr hp => ?_)
            obtain ⟨hp1, hp2, hp3⟩ := hp
            refine r_aload_n K 0 dX6_wishes_67 rfl rfl ?_
            refine r_getR K rfl rfl ff_6_now qw_545 dX6_wishes_68 ?_
            refine r_bipush K (v := 17) dX6_wishes_71 (by decide) ?_
            refine r_iload_n K 1 dX6_wishes_73 rfl rfl ?_
            refine r_iadd K dX6_wishes_74 ?_
            refine r_iload_n K 2 dX6_wishes_75 rfl rfl ?_
            refine r_iast K (j := 17 + j) rfl (nI_add 17 j) (by omega) (by decide) dX6_wishes_76 ?_
            refine r_aload_n K 0 dX6_wishes_77 rfl rfl ?_
            refine r_getR K rfl rfl ff_6_now qw_545 dX6_wishes_78 ?_
            refine r_bipush K (v := 35) dX6_wishes_81 (by decide) ?_
            refine r_iload_n K 1 dX6_wishes_83 rfl rfl ?_
            refine r_iadd K dX6_wishes_84 ?_
            refine r_iload_n K 3 dX6_wishes_85 rfl rfl ?_
            refine r_iast K (j := 35 + j) rfl (nI_add 35 j) (by omega) (by decide) dX6_wishes_86 ?_
            refine r_iconst K (v := 1) dX6_wishes_87 (by decide) ?_
            have hok2 : ab_ok (ab_setwish A.1 j x y) := ab_ok_wish hok (by omega) (x_99 hb_2) (x_99 hb_3)
            have ec : ∀ c, c ≠ 1 → (rs_st (rs_st Mr 1 (17 + j) x) 1 (35 + j) y) c = Mr c := fun c hc => by rw [rs_st_ne _ _ _ hc, rs_st_ne _ _ _ hc]
            have e : ab_wishes A (nI j) x y = (1, ab_wL A (ab_setwish A.1 j x y) ((A.1 :: A.2.2.1).take 12)) := by rw [ab_wishes, ab_if_pos ⟨hb_1, hb_2, hb_3⟩, jc, ab_if_neg (fun q => h_5 q.2)]
            exact hr _ _ _ _ dX6_wishes_88 (by rw [e]; exact ⟨rfl, (m_S_line (M1 := (rs_st (rs_st Mr 1 (17 + j) x) 1 (35 + j) y)) hS (fun c h1 h2 h3 => by rw [ec c h2, hp2 c h1 h3]) (fun q hq => by rw [ec 0 (by decide), hp3 q (by omega) (by omega)]) (by rw [rs_st_row, rs_st_row, hp2 1 (by decide) (by decide)]; exact m_row_wish hrow hn12 (by omega) x y) hok2 (m_und_fr hp1 (ec 2 (by decide)) (by rw [ec 0 (by decide)]) (by rw [ec 0 (by decide)])))⟩)
          · refine r_bipush K (v := (-2)) dX6_wishes_60 (by decide) ?_
            have e : ab_wishes A (nI j) x y = (-2, A) := by rw [ab_wishes, ab_if_pos ⟨hb_1, hb_2, hb_3⟩, jc, ab_if_pos ⟨h_4, h_5⟩]
            exact hr _ _ _ _ dX6_wishes_62 (by rw [e]; exact ⟨rfl, hS⟩)
      · refine r_if_ne K 34 dX6_wishes_29 (by decide) (fun h => absurd h (by decide)) (fun _ => ?_)
        refine r_iconst K (v := (-1)) dX6_wishes_32 (by decide) ?_
        have e : ab_wishes A p x y = (-1, A) := by rw [ab_wishes, ab_if_neg (fun q => hb_3 q.2.2)]
        exact hr _ _ _ _ dX6_wishes_33 (by rw [e]; exact ⟨rfl, hS⟩)
    · refine r_if_eq K 32 dX6_wishes_18 (by decide) (fun _ => ?_) (fun h => absurd h (by decide))
      refine r_iconst K (v := (-1)) dX6_wishes_32 (by decide) ?_
      have e : ab_wishes A p x y = (-1, A) := by rw [ab_wishes, ab_if_neg (fun q => hb_2 q.2.1)]
      exact hr _ _ _ _ dX6_wishes_33 (by rw [e]; exact ⟨rfl, hS⟩)
  · refine r_if_eq K 32 dX6_wishes_7 (by decide) (fun _ => ?_) (fun h => absurd h (by decide))
    refine r_iconst K (v := (-1)) dX6_wishes_32 (by decide) ?_
    have e : ab_wishes A p x y = (-1, A) := by rw [ab_wishes, ab_if_neg (fun q => hb_1 q.1)]
    exact hr _ _ _ _ dX6_wishes_33 (by rw [e]; exact ⟨rfl, hS⟩)
theorem x_two {w : Int32} (h : 0 ≤ w ∧ w ≤ 2) (h0 : ¬ w = 0) (h1 : ¬ w = 1) : w = 2 := by
  obtain ⟨j, j1, j2, rfl⟩ := x_nat (a := 0) (b := 2) h (by decide) (by decide)
  rcases (show j = 0 ∨ j = 1 ∨ j = 2 by omega) with rfl | rfl | rfl
  · exact absurd rfl h0
  · exact absurd rfl h1
  · rfl
theorem x_no3 {w v : Int32} (h : ¬ (0 ≤ w ∧ w ≤ 2)) (q : 0 ≤ v ∧ ((w = 0 ∧ v ≤ 3) ∨ (w = 1 ∧ v ≤ 2) ∨ (w = 2 ∧ v ≤ 20))) : False := by
  rcases q.2 with ⟨rfl, -⟩ | ⟨rfl, -⟩ | ⟨rfl, -⟩
  · exact h (by decide)
  · exact h (by decide)
  · exact h (by decide)
theorem x_nb0 {w v : Int32} (e : w = 0) (h : ¬ (0 ≤ v ∧ v ≤ 3)) (q : 0 ≤ v ∧ ((w = 0 ∧ v ≤ 3) ∨ (w = 1 ∧ v ≤ 2) ∨ (w = 2 ∧ v ≤ 20))) : False := by
  subst e
  rcases q.2 with ⟨-, g⟩ | ⟨g, -⟩ | ⟨g, -⟩
  · exact h ⟨q.1, g⟩
  · exact absurd g (by decide)
  · exact absurd g (by decide)
theorem x_nb1 {w v : Int32} (e : w = 1) (h : ¬ (0 ≤ v ∧ v ≤ 2)) (q : 0 ≤ v ∧ ((w = 0 ∧ v ≤ 3) ∨ (w = 1 ∧ v ≤ 2) ∨ (w = 2 ∧ v ≤ 20))) : False := by
  subst e
  rcases q.2 with ⟨g, -⟩ | ⟨-, g⟩ | ⟨g, -⟩
  · exact absurd g (by decide)
  · exact h ⟨q.1, g⟩
  · exact absurd g (by decide)
theorem x_nb2 {w v : Int32} (e0 : ¬ w = 0) (e1 : ¬ w = 1) (h : ¬ (0 ≤ v ∧ v ≤ 20)) (q : 0 ≤ v ∧ ((w = 0 ∧ v ≤ 3) ∨ (w = 1 ∧ v ≤ 2) ∨ (w = 2 ∧ v ≤ 20))) : False := by
  rcases q.2 with ⟨g, -⟩ | ⟨g, -⟩ | ⟨-, g⟩
  · exact e0 g
  · exact e1 g
  · exact h ⟨q.1, g⟩
theorem m_row_rd {f : Nat → Int32} {L : ab_L} (h : m_row f L) {i : Nat} (hi : i ≤ 2) : f i = nI (ab_rule L i) := by
  obtain ⟨h0, h1, h2, -⟩ := h
  rcases (show i = 0 ∨ i = 1 ∨ i = 2 by omega) with rfl | rfl | rfl
  · exact h0
  · exact h1
  · exact h2
set_option maxHeartbeats 4000000 in
set_option maxRecDepth 100000 in
theorem cm_rules (l : Launch) (g : rs_G) (t : Nat × Nat) (M : rs_M) (A : ab_S) (hS : m_S M A) (w v : Int32) : rs_Ci l g mk t yX6_rules cX6_rules 4 .int 1 [.ref (g.2.2 0), .int w, .int v] M (fun r M1 => m_R (ab_rules A w v) r M1) := by
  obtain ⟨hrow, hok, ht, h0, hun, hse, htx, him, hz⟩ := id hS
  have hn12 := hok.1
  refine rs_ofi (plainFor_of_name (by decide)) (Nat.le_of_ble_eq_true rfl) ?_
  intro Y K hr
  show Y M 0 [(0, .ref (g.2.2 0)), (1, .int w), (2, .int v)] []
  refine r_iload_n K 1 dX6_rules_0 rfl rfl ?_
  refine r_iconst K (v := 0) dX6_rules_1 (by decide) ?_
  refine r_iconst K (v := 2) dX6_rules_2 (by decide) ?_
  refine r_callSi K [.int w, .int 0, .int 2] [] dX6_rules_3 mf_X6_in qw_636 qw_637 (cm_in l g t M w 0 2) rfl rfl (by decide) (Nat.le_of_ble_eq_true rfl) (fun r M1 hp => ?_)
  obtain ⟨hp, he⟩ := hp
  have he := he.symm
  subst he
  rcases hp with ⟨rfl, hb_1⟩ | ⟨rfl, hb_1⟩
  · refine r_if_eq K 36 dX6_rules_6 (by decide) (fun h => absurd h (by decide)) (fun _ => ?_)
    refine r_iload_n K 2 dX6_rules_9 rfl rfl ?_
    refine r_iconst K (v := 0) dX6_rules_10 (by decide) ?_
    refine r_iload_n K 1 dX6_rules_11 rfl rfl ?_
    refine r_if_ne K 19 dX6_rules_12 (by decide) (fun h_2 => ?_) (fun h_2 => ?_)
    · refine r_iload_n K 1 dX6_rules_19 rfl rfl ?_
      refine r_iconst K (v := 1) dX6_rules_20 (by decide) ?_
      refine r_icmp_ne K 28 dX6_rules_21 (by decide) (fun h_3 => ?_) (fun h_3 => ?_)
      · refine r_bipush K (v := 20) dX6_rules_28 (by decide) ?_
        refine r_callSi K [.int v, .int 0, .int 20] [] dX6_rules_30 mf_X6_in qw_636 qw_637 (cm_in l g t M v 0 20) rfl rfl (by decide) (Nat.le_of_ble_eq_true rfl) (fun r M1 hp => ?_)
        obtain ⟨hp, he⟩ := hp
        have he := he.symm
        subst he
        rcases hp with ⟨rfl, hb_4⟩ | ⟨rfl, hb_4⟩
        · refine r_if_ne K 38 dX6_rules_33 (by decide) (fun _ => ?_) (fun h => absurd h (by decide))
          have hcc : 0 ≤ v ∧ ((w = 0 ∧ v ≤ 3) ∨ (w = 1 ∧ v ≤ 2) ∨ (w = 2 ∧ v ≤ 20)) := ⟨hb_4.1, Or.inr (Or.inr ⟨x_two hb_1 h_2 h_3, hb_4.2⟩)⟩
          obtain ⟨i, j, ei, ej, hij⟩ := x_rnat hcc
          obtain ⟨hi2, hj20⟩ := ab_rlim_le hij
          subst ei
          subst ej
          have ic : (nI i).toNatClampNeg = i := nI_clamp (by omega)
          have jc : (nI j).toNatClampNeg = j := nI_clamp (by omega)
          have hrl := ab_rule_lt hok i
          refine r_aload_n K 0 dX6_rules_38 rfl rfl ?_
          refine r_getR K rfl rfl ff_6_now qw_545 dX6_rules_39 ?_
          refine r_iload_n K 1 dX6_rules_42 rfl rfl ?_
          refine r_iald K (j := i) rfl rfl (by omega) (by decide) dX6_rules_43 ?_
          refine r_top_eq (nI (ab_rule A.1 i)) (m_row_rd hrow hi2) ?_
          refine r_istore_n K [(3, .int (nI (ab_rule A.1 i))), (0, .ref (g.2.2 0)), (1, .int (nI i)), (2, .int (nI j))] dX6_rules_44 rfl (by decide) rfl ?_
          refine r_iload_n K 0 dX6_rules_45 rfl rfl ?_
          refine r_iload_n K 3 dX6_rules_46 rfl rfl ?_
          refine r_icmp_ne K 53 dX6_rules_47 (by decide) (fun h_5 => ?_) (fun h_5 => ?_)
          · refine r_aload_n K 1 dX6_rules_53 rfl rfl ?_
            refine r_callVv K [] [] dX6_rules_54 mf_X6_remember rfl rfl qw_733 qw_735 qs_34 (cm_remember l g t M A.1 hok hrow A.2.2.1 hun) rfl rfl (by decide) (Nat.le_of_ble_eq_true rfl) (fun Mr hp => ?_)
            obtain ⟨hp1, hp2, hp3⟩ := hp
            refine r_aload_n K 1 dX6_rules_57 rfl rfl ?_
            refine r_getR K rfl rfl ff_6_now qw_545 dX6_rules_58 ?_
            refine r_iload_n K 2 dX6_rules_61 rfl rfl ?_
            refine r_iload_n K 3 dX6_rules_62 rfl rfl ?_
            refine r_iast K (j := i) rfl rfl (by omega) (by decide) dX6_rules_63 ?_
            refine r_iload_n K 0 dX6_rules_64 rfl rfl ?_
            have hok2 : ab_ok (ab_setrule A.1 i j) := ab_ok_rule hok hij
            have ec : ∀ c, c ≠ 1 → (rs_st Mr 1 i (nI j)) c = Mr c := fun c hc => by rw [rs_st_ne _ _ _ hc]
            have e : ab_rules A (nI i) (nI j) = (nI (ab_rule A.1 i), ab_wL A (ab_setrule A.1 i j) ((A.1 :: A.2.2.1).take 12)) := by rw [ab_rules, ab_if_pos hcc, ic, jc, ab_if_neg h_5]
            exact hr _ _ _ _ dX6_rules_65 (by rw [e]; exact ⟨rfl, (m_S_line (M1 := (rs_st Mr 1 i (nI j))) hS (fun c h1 h2 h3 => by rw [ec c h2, hp2 c h1 h3]) (fun q hq => by rw [ec 0 (by decide), hp3 q (by omega) (by omega)]) (by rw [rs_st_row, hp2 1 (by decide) (by decide)]; exact m_row_rule hrow hi2 j) hok2 (m_und_fr hp1 (ec 2 (by decide)) (by rw [ec 0 (by decide)]) (by rw [ec 0 (by decide)])))⟩)
          · refine r_bipush K (v := (-2)) dX6_rules_50 (by decide) ?_
            have e : ab_rules A (nI i) (nI j) = (-2, A) := by rw [ab_rules, ab_if_pos hcc, ic, jc, ab_if_pos h_5]
            exact hr _ _ _ _ dX6_rules_52 (by rw [e]; exact ⟨rfl, hS⟩)
        · refine r_if_ne K 38 dX6_rules_33 (by decide) (fun h => absurd h (by decide)) (fun _ => ?_)
          refine r_iconst K (v := (-1)) dX6_rules_36 (by decide) ?_
          have e : ab_rules A w v = (-1, A) := by rw [ab_rules, ab_if_neg (fun q => x_nb2 h_2 h_3 hb_4 q)]
          exact hr _ _ _ _ dX6_rules_37 (by rw [e]; exact ⟨rfl, hS⟩)
      · refine r_iconst K (v := 2) dX6_rules_24 (by decide) ?_
        refine r_goto K 30 dX6_rules_25 (by decide) ?_
        refine r_callSi K [.int v, .int 0, .int 2] [] dX6_rules_30 mf_X6_in qw_636 qw_637 (cm_in l g t M v 0 2) rfl rfl (by decide) (Nat.le_of_ble_eq_true rfl) (fun r M1 hp => ?_)
        obtain ⟨hp, he⟩ := hp
        have he := he.symm
        subst he
        rcases hp with ⟨rfl, hb_6⟩ | ⟨rfl, hb_6⟩
        · refine r_if_ne K 38 dX6_rules_33 (by decide) (fun _ => ?_) (fun h => absurd h (by decide))
          have hcc : 0 ≤ v ∧ ((w = 0 ∧ v ≤ 3) ∨ (w = 1 ∧ v ≤ 2) ∨ (w = 2 ∧ v ≤ 20)) := ⟨hb_6.1, Or.inr (Or.inl ⟨h_3, hb_6.2⟩)⟩
          obtain ⟨i, j, ei, ej, hij⟩ := x_rnat hcc
          obtain ⟨hi2, hj20⟩ := ab_rlim_le hij
          subst ei
          subst ej
          have ic : (nI i).toNatClampNeg = i := nI_clamp (by omega)
          have jc : (nI j).toNatClampNeg = j := nI_clamp (by omega)
          have hrl := ab_rule_lt hok i
          refine r_aload_n K 0 dX6_rules_38 rfl rfl ?_
          refine r_getR K rfl rfl ff_6_now qw_545 dX6_rules_39 ?_
          refine r_iload_n K 1 dX6_rules_42 rfl rfl ?_
          refine r_iald K (j := i) rfl rfl (by omega) (by decide) dX6_rules_43 ?_
          refine r_top_eq (nI (ab_rule A.1 i)) (m_row_rd hrow hi2) ?_
          refine r_istore_n K [(3, .int (nI (ab_rule A.1 i))), (0, .ref (g.2.2 0)), (1, .int (nI i)), (2, .int (nI j))] dX6_rules_44 rfl (by decide) rfl ?_
          refine r_iload_n K 0 dX6_rules_45 rfl rfl ?_
          refine r_iload_n K 3 dX6_rules_46 rfl rfl ?_
          refine r_icmp_ne K 53 dX6_rules_47 (by decide) (fun h_7 => ?_) (fun h_7 => ?_)
          · refine r_aload_n K 1 dX6_rules_53 rfl rfl ?_
            refine r_callVv K [] [] dX6_rules_54 mf_X6_remember rfl rfl qw_733 qw_735 qs_34 (cm_remember l g t M A.1 hok hrow A.2.2.1 hun) rfl rfl (by decide) (Nat.le_of_ble_eq_true rfl) (fun Mr hp => ?_)
            obtain ⟨hp1, hp2, hp3⟩ := hp
            refine r_aload_n K 1 dX6_rules_57 rfl rfl ?_
            refine r_getR K rfl rfl ff_6_now qw_545 dX6_rules_58 ?_
            refine r_iload_n K 2 dX6_rules_61 rfl rfl ?_
            refine r_iload_n K 3 dX6_rules_62 rfl rfl ?_
            refine r_iast K (j := i) rfl rfl (by omega) (by decide) dX6_rules_63 ?_
            refine r_iload_n K 0 dX6_rules_64 rfl rfl ?_
            have hok2 : ab_ok (ab_setrule A.1 i j) := ab_ok_rule hok hij
            have ec : ∀ c, c ≠ 1 → (rs_st Mr 1 i (nI j)) c = Mr c := fun c hc => by rw [rs_st_ne _ _ _ hc]
            have e : ab_rules A (nI i) (nI j) = (nI (ab_rule A.1 i), ab_wL A (ab_setrule A.1 i j) ((A.1 :: A.2.2.1).take 12)) := by rw [ab_rules, ab_if_pos hcc, ic, jc, ab_if_neg h_7]
            exact hr _ _ _ _ dX6_rules_65 (by rw [e]; exact ⟨rfl, (m_S_line (M1 := (rs_st Mr 1 i (nI j))) hS (fun c h1 h2 h3 => by rw [ec c h2, hp2 c h1 h3]) (fun q hq => by rw [ec 0 (by decide), hp3 q (by omega) (by omega)]) (by rw [rs_st_row, hp2 1 (by decide) (by decide)]; exact m_row_rule hrow hi2 j) hok2 (m_und_fr hp1 (ec 2 (by decide)) (by rw [ec 0 (by decide)]) (by rw [ec 0 (by decide)])))⟩)
          · refine r_bipush K (v := (-2)) dX6_rules_50 (by decide) ?_
            have e : ab_rules A (nI i) (nI j) = (-2, A) := by rw [ab_rules, ab_if_pos hcc, ic, jc, ab_if_pos h_7]
            exact hr _ _ _ _ dX6_rules_52 (by rw [e]; exact ⟨rfl, hS⟩)
        · refine r_if_ne K 38 dX6_rules_33 (by decide) (fun h => absurd h (by decide)) (fun _ => ?_)
          refine r_iconst K (v := (-1)) dX6_rules_36 (by decide) ?_
          have e : ab_rules A w v = (-1, A) := by rw [ab_rules, ab_if_neg (fun q => x_nb1 h_3 hb_6 q)]
          exact hr _ _ _ _ dX6_rules_37 (by rw [e]; exact ⟨rfl, hS⟩)
    · refine r_iconst K (v := 3) dX6_rules_15 (by decide) ?_
      refine r_goto K 30 dX6_rules_16 (by decide) ?_
      refine r_callSi K [.int v, .int 0, .int 3] [] dX6_rules_30 mf_X6_in qw_636 qw_637 (cm_in l g t M v 0 3) rfl rfl (by decide) (Nat.le_of_ble_eq_true rfl) (fun r M1 hp => ?_)
      obtain ⟨hp, he⟩ := hp
      have he := he.symm
      subst he
      rcases hp with ⟨rfl, hb_8⟩ | ⟨rfl, hb_8⟩
      · refine r_if_ne K 38 dX6_rules_33 (by decide) (fun _ => ?_) (fun h => absurd h (by decide))
        have hcc : 0 ≤ v ∧ ((w = 0 ∧ v ≤ 3) ∨ (w = 1 ∧ v ≤ 2) ∨ (w = 2 ∧ v ≤ 20)) := ⟨hb_8.1, Or.inl ⟨h_2, hb_8.2⟩⟩
        obtain ⟨i, j, ei, ej, hij⟩ := x_rnat hcc
        obtain ⟨hi2, hj20⟩ := ab_rlim_le hij
        subst ei
        subst ej
        have ic : (nI i).toNatClampNeg = i := nI_clamp (by omega)
        have jc : (nI j).toNatClampNeg = j := nI_clamp (by omega)
        have hrl := ab_rule_lt hok i
        refine r_aload_n K 0 dX6_rules_38 rfl rfl ?_
        refine r_getR K rfl rfl ff_6_now qw_545 dX6_rules_39 ?_
        refine r_iload_n K 1 dX6_rules_42 rfl rfl ?_
        refine r_iald K (j := i) rfl rfl (by omega) (by decide) dX6_rules_43 ?_
        refine r_top_eq (nI (ab_rule A.1 i)) (m_row_rd hrow hi2) ?_
        refine r_istore_n K [(3, .int (nI (ab_rule A.1 i))), (0, .ref (g.2.2 0)), (1, .int (nI i)), (2, .int (nI j))] dX6_rules_44 rfl (by decide) rfl ?_
        refine r_iload_n K 0 dX6_rules_45 rfl rfl ?_
        refine r_iload_n K 3 dX6_rules_46 rfl rfl ?_
        refine r_icmp_ne K 53 dX6_rules_47 (by decide) (fun h_9 => ?_) (fun h_9 => ?_)
        · refine r_aload_n K 1 dX6_rules_53 rfl rfl ?_
          refine r_callVv K [] [] dX6_rules_54 mf_X6_remember rfl rfl qw_733 qw_735 qs_34 (cm_remember l g t M A.1 hok hrow A.2.2.1 hun) rfl rfl (by decide) (Nat.le_of_ble_eq_true rfl) (fun Mr hp => ?_)
          obtain ⟨hp1, hp2, hp3⟩ := hp
          refine r_aload_n K 1 dX6_rules_57 rfl rfl ?_
          refine r_getR K rfl rfl ff_6_now qw_545 dX6_rules_58 ?_
          refine r_iload_n K 2 dX6_rules_61 rfl rfl ?_
          refine r_iload_n K 3 dX6_rules_62 rfl rfl ?_
          refine r_iast K (j := i) rfl rfl (by omega) (by decide) dX6_rules_63 ?_
          refine r_iload_n K 0 dX6_rules_64 rfl rfl ?_
          have hok2 : ab_ok (ab_setrule A.1 i j) := ab_ok_rule hok hij
          have ec : ∀ c, c ≠ 1 → (rs_st Mr 1 i (nI j)) c = Mr c := fun c hc => by rw [rs_st_ne _ _ _ hc]
          have e : ab_rules A (nI i) (nI j) = (nI (ab_rule A.1 i), ab_wL A (ab_setrule A.1 i j) ((A.1 :: A.2.2.1).take 12)) := by rw [ab_rules, ab_if_pos hcc, ic, jc, ab_if_neg h_9]
          exact hr _ _ _ _ dX6_rules_65 (by rw [e]; exact ⟨rfl, (m_S_line (M1 := (rs_st Mr 1 i (nI j))) hS (fun c h1 h2 h3 => by rw [ec c h2, hp2 c h1 h3]) (fun q hq => by rw [ec 0 (by decide), hp3 q (by omega) (by omega)]) (by rw [rs_st_row, hp2 1 (by decide) (by decide)]; exact m_row_rule hrow hi2 j) hok2 (m_und_fr hp1 (ec 2 (by decide)) (by rw [ec 0 (by decide)]) (by rw [ec 0 (by decide)])))⟩)
        · refine r_bipush K (v := (-2)) dX6_rules_50 (by decide) ?_
          have e : ab_rules A (nI i) (nI j) = (-2, A) := by rw [ab_rules, ab_if_pos hcc, ic, jc, ab_if_pos h_9]
          exact hr _ _ _ _ dX6_rules_52 (by rw [e]; exact ⟨rfl, hS⟩)
      · refine r_if_ne K 38 dX6_rules_33 (by decide) (fun h => absurd h (by decide)) (fun _ => ?_)
        refine r_iconst K (v := (-1)) dX6_rules_36 (by decide) ?_
        have e : ab_rules A w v = (-1, A) := by rw [ab_rules, ab_if_neg (fun q => x_nb0 h_2 hb_8 q)]
        exact hr _ _ _ _ dX6_rules_37 (by rw [e]; exact ⟨rfl, hS⟩)
  · refine r_if_eq K 36 dX6_rules_6 (by decide) (fun _ => ?_) (fun h => absurd h (by decide))
    refine r_iconst K (v := (-1)) dX6_rules_36 (by decide) ?_
    have e : ab_rules A w v = (-1, A) := by rw [ab_rules, ab_if_neg (fun q => x_no3 hb_1 q)]
    exact hr _ _ _ _ dX6_rules_37 (by rw [e]; exact ⟨rfl, hS⟩)
set_option maxHeartbeats 4000000 in
set_option maxRecDepth 100000 in
theorem cm_undo (l : Launch) (g : rs_G) (t : Nat × Nat) (M : rs_M) (A : ab_S) (hS : m_S M A) : rs_Ci l g mk t yX6_undo cX6_undo 2 .int 0 [.ref (g.2.2 0)] M (fun r M1 => m_R (ab_undoS A) r M1) := by
  obtain ⟨hrow, hok, ht, h0, hun, hse, htx, him, hz⟩ := id hS
  have hn12 := hok.1
  obtain ⟨a, ha1, ha2, ha3, ha4, ha5⟩ := hun
  refine rs_ofi (plainFor_of_name (by decide)) (Nat.le_of_ble_eq_true rfl) ?_
  intro Y K hr
  show Y M 0 [(0, .ref (g.2.2 0))] []
  refine r_aload_n K 0 dX6_undo_0 rfl rfl ?_
  refine r_getI K rfl rfl ff_6_undoMany qw_546 dX6_undo_1 ?_
  refine r_top_eq (nI A.2.2.1.length) ha3 ?_
  refine r_if_ne K 10 dX6_undo_4 (by decide) (fun h_1 => ?_) (fun h_1 => ?_)
  · have nh_1 : ¬ A.2.2.1.length = 0 := mt (nf_eq rfl rfl (by omega) (by omega)).mpr h_1
    obtain ⟨u, us, hus⟩ : ∃ u us, A.2.2.1 = u :: us := by
      cases hq : A.2.2.1 with
      | nil => rw [hq] at nh_1; exact absurd rfl nh_1
      | cons u us => exact ⟨u, us, rfl⟩
    rw [hus] at ha3 ha4 ha5
    have hul : us.length ≤ 11 := by simpa using ha4
    refine r_aload_n K 0 dX6_undo_10 rfl rfl ?_
    refine r_aload_n K 0 dX6_undo_11 rfl rfl ?_
    refine r_getI K rfl rfl ff_6_undoAt qw_547 dX6_undo_12 ?_
    refine r_top_eq (nI a) ha2 ?_
    refine r_bipush K (v := 12) dX6_undo_15 (by decide) ?_
    refine r_iadd K dX6_undo_17 ?_
    refine r_top_eq (nI (a + 12)) (nI_add a 12) ?_
    refine r_iconst K (v := 1) dX6_undo_18 (by decide) ?_
    refine r_isub K dX6_undo_19 ?_
    refine r_top_eq (nI (a + 11)) (nI_pred (a + 11)) ?_
    refine r_bipush K (v := 12) dX6_undo_20 (by decide) ?_
    refine r_irem K dX6_undo_22 (by decide) ?_
    refine r_top_eq (nI ((a + 11) % 12)) (pk_rem (d := 12) (by omega) (by decide) (by decide)) ?_
    refine r_put K rfl rfl ff_6_undoAt qw_547 rfl rfl dX6_undo_23 ?_
    refine r_aload_n K 0 dX6_undo_26 rfl rfl ?_
    refine r_dup K dX6_undo_27 rfl ?_
    refine r_getI K rfl rfl ff_6_undoMany qw_546 dX6_undo_28 ?_
    refine r_top_eq (nI (us.length + 1)) (by rw [rs_st_nk _ _ _ (by decide)]; exact ha3) ?_
    refine r_iconst K (v := 1) dX6_undo_31 (by decide) ?_
    refine r_isub K dX6_undo_32 ?_
    refine r_top_eq (nI us.length) (nI_pred _) ?_
    refine r_put K rfl rfl ff_6_undoMany qw_546 rfl rfl dX6_undo_33 ?_
    refine r_iconst K (v := 0) dX6_undo_36 (by decide) ?_
    refine r_istore_n K [(1, .int 0), (0, .ref (g.2.2 0))] dX6_undo_37 rfl (by decide) rfl ?_
    have lp : ∀ (f : Nat) (k : Nat) (Mi : rs_M), (53 - k < f) → (k ≤ 53) → ((∀ c, c ≠ 1 → Mi c = (rs_st (rs_st M 0 3 (nI ((a + 11) % 12))) 0 2 (nI us.length)) c) ∧ ∀ q, q < k → Mi 1 q = M 2 (53 * ((a + 11) % 12) + q)) → Y Mi 38 [(1, .int (nI k)), (0, .ref (g.2.2 0))] [] := by
      intro f
      induction f with
      | zero =>
        intro k Mi hf
        exact absurd hf (Nat.not_lt_zero _)
      | succ f ih =>
        intro k Mi hf hk hI
        refine r_iload_n K 0 dX6_undo_38 rfl rfl ?_
        refine r_bipush K (v := 53) dX6_undo_39 (by decide) ?_
        refine r_icmp_ge K 70 dX6_undo_41 (by decide) (fun h_2 => ?_) (fun h_2 => ?_)
        · have nh_2 : 53 ≤ k := (nf_le rfl rfl (by omega) (by omega)).mp h_2
          refine r_aload_n K 1 dX6_undo_70 rfl rfl ?_
          refine r_getI K rfl rfl ff_6_undoMany qw_546 dX6_undo_71 ?_
          refine r_top_eq (nI us.length) (by rw [hI.1 0 (by decide), rs_st_eq]) ?_
          have hk53 : k = 53 := by omega
          subst hk53
          have e : ab_undoS A = (nI us.length, ab_wL A u us) := by simp only [ab_undoS, hus]
          have hu0 := ha5 0 u rfl
          exact hr _ _ _ _ dX6_undo_74 (by rw [e]; exact ⟨rfl, m_S_line hS (fun c h1 h2 h3 => by rw [hI.1 c h2, rs_st_ne _ _ _ h1, rs_st_ne _ _ _ h1]) (fun q hq => by rw [hI.1 0 (by decide), rs_st_nk _ _ _ (by omega), rs_st_nk _ _ _ (by omega)]) (m_row_same hu0.1.1 hu0.2 (fun q hq => hI.2 q hq)) hu0.1 (m_und_pop ha1 ha4 ha5 (by rw [hI.1 2 (by decide), rs_st_ne _ _ _ (by decide), rs_st_ne _ _ _ (by decide)]) (by rw [hI.1 0 (by decide), rs_st_nk _ _ _ (by decide), rs_st_eq]) (by rw [hI.1 0 (by decide), rs_st_eq]))⟩)
        · have nh_2 : ¬ 53 ≤ k := mt (nf_le rfl rfl (by omega) (by omega)).mpr h_2
          refine r_aload_n K 1 dX6_undo_44 rfl rfl ?_
          refine r_getR K rfl rfl ff_6_now qw_545 dX6_undo_45 ?_
          refine r_iload_n K 0 dX6_undo_48 rfl rfl ?_
          refine r_aload_n K 1 dX6_undo_49 rfl rfl ?_
          refine r_getR K rfl rfl ff_6_undos qw_548 dX6_undo_50 ?_
          refine r_bipush K (v := 53) dX6_undo_53 (by decide) ?_
          refine r_aload_n K 1 dX6_undo_55 rfl rfl ?_
          refine r_getI K rfl rfl ff_6_undoAt qw_547 dX6_undo_56 ?_
          refine r_top_eq (nI ((a + 11) % 12)) (by rw [hI.1 0 (by decide), rs_st_nk _ _ _ (by decide), rs_st_eq]) ?_
          refine r_imul K dX6_undo_59 ?_
          refine r_top_eq (nI (53 * ((a + 11) % 12))) (pk_mul 53 _) ?_
          refine r_iload_n K 0 dX6_undo_60 rfl rfl ?_
          refine r_iadd K dX6_undo_61 ?_
          refine r_top_eq (nI (53 * ((a + 11) % 12) + k)) (nI_add _ _) ?_
          refine r_iald K (j := 53 * ((a + 11) % 12) + k) rfl rfl (by omega) (by decide) dX6_undo_62 ?_
          refine r_top_eq (M 2 (53 * ((a + 11) % 12) + k)) (by rw [hI.1 2 (by decide), rs_st_ne _ _ _ (by decide), rs_st_ne _ _ _ (by decide)]) ?_
          refine r_iast K (j := k) rfl rfl (by omega) (by decide) dX6_undo_63 ?_
          refine r_iinc_n K 0 [(1, .int (nI (k + 1))), (0, .ref (g.2.2 0))] dX6_undo_64 rfl (by decide) rfl ?_
          refine r_goto K 38 dX6_undo_67 (by decide) ?_
          exact ih (k + 1) _ (by omega) (by omega) ⟨fun c hc => by rw [rs_st_ne _ _ _ hc]; exact hI.1 c hc, fun q hq => by
            by_cases e : q = k
            · subst e; rw [rs_st_eq]
            · rw [rs_st_nk _ _ _ (by omega)]; exact hI.2 q (by omega)⟩
    exact lp 54 0 _ (by omega) (by omega) ⟨fun _ _ => rfl, fun q hq => absurd hq (Nat.not_lt_zero _)⟩
  · have nh_1 : A.2.2.1.length = 0 := (nf_eq rfl rfl (by omega) (by omega)).mp h_1
    refine r_bipush K (v := (-2)) dX6_undo_7 (by decide) ?_
    have hus : A.2.2.1 = [] := List.length_eq_zero_iff.mp (by omega)
    have e : ab_undoS A = (-2, A) := by simp only [ab_undoS, hus]
    exact hr _ _ _ _ dX6_undo_9 (by rw [e]; exact ⟨rfl, hS⟩)
set_option maxHeartbeats 4000000 in
set_option maxRecDepth 100000 in
theorem cm_ring (l : Launch) (g : rs_G) (t : Nat × Nat) (M : rs_M) (A : ab_S) (hS : m_S M A) (i w : Int32) : rs_Ci l g mk t yX6_ring cX6_ring 3 .int 4 [.ref (g.2.2 0), .int i, .int w] M (fun r M1 => m_R (ab_ring A i w, A) r M1) := by
  obtain ⟨hrow, hok, ht, h0, hun, hse, htx, him, hz⟩ := id hS
  have hn12 := hok.1
  refine rs_ofi (plainFor_of_name (by decide)) (Nat.le_of_ble_eq_true rfl) ?_
  intro Y K hr
  show Y M 0 [(0, .ref (g.2.2 0)), (1, .int i), (2, .int w)] []
  refine r_iload_n K 1 dX6_ring_0 rfl rfl ?_
  refine r_iconst K (v := 0) dX6_ring_1 (by decide) ?_
  refine r_aload_n K 0 dX6_ring_2 rfl rfl ?_
  refine r_getR K rfl rfl ff_6_now qw_545 dX6_ring_3 ?_
  refine r_iconst K (v := 3) dX6_ring_6 (by decide) ?_
  refine r_iald K (j := 3) rfl rfl (by decide) (by decide) dX6_ring_7 ?_
  refine r_top_eq (nI (ab_ks A.1).length) hrow.2.2.2.1 ?_
  refine r_callSi K [.int i, .int 0, .int (nI (ab_ks A.1).length)] [] dX6_ring_8 mf_X6_in qw_636 qw_637 (cm_in l g t M i 0 (nI (ab_ks A.1).length)) rfl rfl (by decide) (Nat.le_of_ble_eq_true rfl) (fun r M1 hp => ?_)
  obtain ⟨hp, he⟩ := hp
  have he := he.symm
  subst he
  rcases hp with ⟨rfl, hb_1⟩ | ⟨rfl, hb_1⟩
  · refine r_if_eq K 23 dX6_ring_11 (by decide) (fun h => absurd h (by decide)) (fun _ => ?_)
    refine r_iload_n K 2 dX6_ring_14 rfl rfl ?_
    refine r_iconst K (v := 0) dX6_ring_15 (by decide) ?_
    refine r_iconst K (v := 5) dX6_ring_16 (by decide) ?_
    refine r_callSi K [.int w, .int 0, .int 5] [] dX6_ring_17 mf_X6_in qw_636 qw_637 (cm_in l g t M w 0 5) rfl rfl (by decide) (Nat.le_of_ble_eq_true rfl) (fun r M1 hp => ?_)
    obtain ⟨hp, he⟩ := hp
    have he := he.symm
    subst he
    rcases hp with ⟨rfl, hb_2⟩ | ⟨rfl, hb_2⟩
    · refine r_if_ne K 26 dX6_ring_20 (by decide) (fun _ => ?_) (fun h => absurd h (by decide))
      obtain ⟨j, hj1, hj2, rfl⟩ := x_nat (a := 0) (b := (ab_ks A.1).length) hb_1 (by omega) (by omega)
      have jc : (nI j).toNatClampNeg = j := nI_clamp (by omega)
      have e0 : ab_ring A (nI j) w = ab_rget A.2.1 A.1 j w := by rw [ab_ring, ab_if_pos hb_1, jc]
      refine r_aload_n K 0 dX6_ring_26 rfl rfl ?_
      refine r_aload_n K 0 dX6_ring_27 rfl rfl ?_
      refine r_getR K rfl rfl ff_6_now qw_545 dX6_ring_28 ?_
      refine r_aload_n K 0 dX6_ring_31 rfl rfl ?_
      refine r_getI K rfl rfl ff_6_taper qw_544 dX6_ring_32 ?_
      refine r_top_eq A.2.1 h0 ?_
      refine r_callVv K [.ref (g.2.2 1), .int A.2.1] [] dX6_ring_35 mf_X6_layRings rfl rfl qw_697 qw_699 qs_29 (cm_layRings l g t M 1 (Or.inl rfl) A.1 hok hrow hz A.2.1) rfl rfl (by decide) (Nat.le_of_ble_eq_true rfl) (fun Mr hp => ?_)
      obtain ⟨hp1, hp2⟩ := hp
      have hSr : m_S Mr A := m_S_k hS (m_k_fs hp2)
      have hrr := hSr.1
      refine r_iload_n K 2 dX6_ring_38 rfl rfl ?_
      refine r_table K [(0, 72), (1, 88), (2, 95), (3, 102), (4, 109)] 116 dX6_ring_39 (by decide) (by decide) (by decide) ?_
      simp only [rs_swp]
      refine ⟨fun h_3_0 => ?_, fun h_3_0 => ⟨fun h_3_1 => ?_, fun h_3_1 => ⟨fun h_3_2 => ?_, fun h_3_2 => ⟨fun h_3_3 => ?_, fun h_3_3 => ⟨fun h_3_4 => ?_, fun h_3_4 => ?_⟩⟩⟩⟩⟩
      · refine r_iload_n K 1 dX6_ring_72 rfl rfl ?_
        refine r_if_ne K 81 dX6_ring_73 (by decide) (fun h_4 => ?_) (fun h_4 => ?_)
        · have nh_4 : ¬ j = 0 := mt (nf_eq rfl rfl (by omega) (by omega)).mpr h_4
          refine r_aload_n K 0 dX6_ring_81 rfl rfl ?_
          refine r_getR K rfl rfl ff_6_keys qw_554 dX6_ring_82 ?_
          refine r_iload_n K 1 dX6_ring_85 rfl rfl ?_
          refine r_iald K (j := j) rfl rfl (by omega) (by decide) dX6_ring_86 ?_
          refine r_top_eq (nI ((ab_ks A.1).getD (j - 1) 0)) ((hp1 j hj2).2 (by omega)) ?_
          exact hr _ _ _ _ dX6_ring_87 ⟨by rw [e0, ab_rget, if_pos h_3_0, ab_last_take (by omega) hj2], hSr⟩
        · have nh_4 : j = 0 := (nf_eq rfl rfl (by omega) (by omega)).mp h_4
          refine r_bipush K (v := (-9)) dX6_ring_76 (by decide) ?_
          refine r_goto K 87 dX6_ring_78 (by decide) ?_
          have hj0 : j = 0 := by omega
          exact hr _ _ _ _ dX6_ring_87 ⟨by rw [e0, ab_rget, if_pos h_3_0, hj0]; rfl, hSr⟩
      · refine r_aload_n K 0 dX6_ring_88 rfl rfl ?_
        refine r_getR K rfl rfl ff_6_slopeX qw_555 dX6_ring_89 ?_
        refine r_iload_n K 1 dX6_ring_92 rfl rfl ?_
        refine r_iald K (j := j) rfl rfl (by omega) (by decide) dX6_ring_93 ?_
        refine r_top_eq ((ab_geo A.2.1 ((ab_ks A.1).take j)).1) (hp1 j hj2).1.1 ?_
        exact hr _ _ _ _ dX6_ring_94 ⟨by rw [e0, ab_rget, if_neg h_3_0, if_pos h_3_1], hSr⟩
      · refine r_aload_n K 0 dX6_ring_95 rfl rfl ?_
        refine r_getR K rfl rfl ff_6_slopeY qw_556 dX6_ring_96 ?_
        refine r_iload_n K 1 dX6_ring_99 rfl rfl ?_
        refine r_iald K (j := j) rfl rfl (by omega) (by decide) dX6_ring_100 ?_
        refine r_top_eq ((ab_geo A.2.1 ((ab_ks A.1).take j)).2.1) (hp1 j hj2).1.2.1 ?_
        exact hr _ _ _ _ dX6_ring_101 ⟨by rw [e0, ab_rget, if_neg h_3_0, if_neg h_3_1, if_pos h_3_2], hSr⟩
      · refine r_aload_n K 0 dX6_ring_102 rfl rfl ?_
        refine r_getR K rfl rfl ff_6_placeX qw_557 dX6_ring_103 ?_
        refine r_iload_n K 1 dX6_ring_106 rfl rfl ?_
        refine r_iald K (j := j) rfl rfl (by omega) (by decide) dX6_ring_107 ?_
        refine r_top_eq ((ab_geo A.2.1 ((ab_ks A.1).take j)).2.2.1) (hp1 j hj2).1.2.2.1 ?_
        exact hr _ _ _ _ dX6_ring_108 ⟨by rw [e0, ab_rget, if_neg h_3_0, if_neg h_3_1, if_neg h_3_2, if_pos h_3_3], hSr⟩
      · refine r_aload_n K 0 dX6_ring_109 rfl rfl ?_
        refine r_getR K rfl rfl ff_6_placeY qw_558 dX6_ring_110 ?_
        refine r_iload_n K 1 dX6_ring_113 rfl rfl ?_
        refine r_iald K (j := j) rfl rfl (by omega) (by decide) dX6_ring_114 ?_
        refine r_top_eq ((ab_geo A.2.1 ((ab_ks A.1).take j)).2.2.2) (hp1 j hj2).1.2.2.2 ?_
        exact hr _ _ _ _ dX6_ring_115 ⟨by rw [e0, ab_rget, if_neg h_3_0, if_neg h_3_1, if_neg h_3_2, if_neg h_3_3, if_pos h_3_4], hSr⟩
      · refine r_iload_n K 1 dX6_ring_116 rfl rfl ?_
        refine r_if_ne K 124 dX6_ring_117 (by decide) (fun h_5 => ?_) (fun h_5 => ?_)
        · have nh_5 : ¬ j = 0 := mt (nf_eq rfl rfl (by omega) (by omega)).mpr h_5
          refine r_aload_n K 0 dX6_ring_124 rfl rfl ?_
          refine r_iload_n K 1 dX6_ring_125 rfl rfl ?_
          refine r_callVi K [.int (nI j)] [] dX6_ring_126 mf_X6_costOf rfl rfl qw_737 qw_739 qs_35 (cm_costOf l g t Mr A.1 hok hrr j (by omega)) rfl rfl (by decide) (Nat.le_of_ble_eq_true rfl) (fun r M1 hp => ?_)
          obtain ⟨hp, he⟩ := hp
          have he := he.symm
          subst he
          subst hp
          refine r_top_eq (ab_ringcost A.2.1 A.1 j) (m_laid_cost hp1 hj2) ?_
          have hw5 := x_five hb_2 h_3_0 h_3_1 h_3_2 h_3_3 h_3_4
          exact hr _ _ _ _ dX6_ring_129 ⟨by rw [e0, ab_rget, if_neg h_3_0, if_neg h_3_1, if_neg h_3_2, if_neg h_3_3, if_neg h_3_4, if_pos hw5], hSr⟩
        · have nh_5 : j = 0 := (nf_eq rfl rfl (by omega) (by omega)).mp h_5
          refine r_iconst K (v := 0) dX6_ring_120 (by decide) ?_
          refine r_goto K 129 dX6_ring_121 (by decide) ?_
          have hw5 := x_five hb_2 h_3_0 h_3_1 h_3_2 h_3_3 h_3_4
          have hj0 : j = 0 := by omega
          exact hr _ _ _ _ dX6_ring_129 ⟨by rw [e0, ab_rget, if_neg h_3_0, if_neg h_3_1, if_neg h_3_2, if_neg h_3_3, if_neg h_3_4, if_pos hw5, hj0, ab_ringcost_0 hok], hSr⟩
    · refine r_if_ne K 26 dX6_ring_20 (by decide) (fun h => absurd h (by decide)) (fun _ => ?_)
      refine r_ldc K dX6_ring_23 qw_768 ?_
      exact hr _ _ _ _ dX6_ring_25 ⟨by rw [ab_ring, ab_if_pos hb_1, ab_rget_no hb_2], hS⟩
  · refine r_if_eq K 23 dX6_ring_11 (by decide) (fun _ => ?_) (fun h => absurd h (by decide))
    refine r_ldc K dX6_ring_23 qw_768 ?_
    exact hr _ _ _ _ dX6_ring_25 ⟨by rw [ab_ring, ab_if_neg hb_1], hS⟩
set_option maxHeartbeats 4000000 in
set_option maxRecDepth 100000 in
theorem cm_wish (l : Launch) (g : rs_G) (t : Nat × Nat) (M : rs_M) (A : ab_S) (hS : m_S M A) (p w : Int32) : rs_Ci l g mk t yX6_wish cX6_wish 3 .int 1 [.ref (g.2.2 0), .int p, .int w] M (fun r M1 => m_R (ab_wish A p w, A) r M1) := by
  obtain ⟨hrow, hok, ht, h0, hun, hse, htx, him, hz⟩ := id hS
  have hn12 := hok.1
  refine rs_ofi (plainFor_of_name (by decide)) (Nat.le_of_ble_eq_true rfl) ?_
  intro Y K hr
  show Y M 0 [(0, .ref (g.2.2 0)), (1, .int p), (2, .int w)] []
  refine r_iload_n K 1 dX6_wish_0 rfl rfl ?_
  refine r_iconst K (v := 0) dX6_wish_1 (by decide) ?_
  refine r_bipush K (v := 17) dX6_wish_2 (by decide) ?_
  refine r_callSi K [.int p, .int 0, .int 17] [] dX6_wish_4 mf_X6_in qw_636 qw_637 (cm_in l g t M p 0 17) rfl rfl (by decide) (Nat.le_of_ble_eq_true rfl) (fun r M1 hp => ?_)
  obtain ⟨hp, he⟩ := hp
  have he := he.symm
  subst he
  rcases hp with ⟨rfl, hb_1⟩ | ⟨rfl, hb_1⟩
  · refine r_if_eq K 40 dX6_wish_7 (by decide) (fun h => absurd h (by decide)) (fun _ => ?_)
    refine r_iload_n K 2 dX6_wish_10 rfl rfl ?_
    refine r_iconst K (v := 0) dX6_wish_11 (by decide) ?_
    refine r_iconst K (v := 1) dX6_wish_12 (by decide) ?_
    refine r_callSi K [.int w, .int 0, .int 1] [] dX6_wish_13 mf_X6_in qw_636 qw_637 (cm_in l g t M w 0 1) rfl rfl (by decide) (Nat.le_of_ble_eq_true rfl) (fun r M1 hp => ?_)
    obtain ⟨hp, he⟩ := hp
    have he := he.symm
    subst he
    rcases hp with ⟨rfl, hb_2⟩ | ⟨rfl, hb_2⟩
    · refine r_if_eq K 40 dX6_wish_16 (by decide) (fun h => absurd h (by decide)) (fun _ => ?_)
      obtain ⟨j, hj1, hj2, rfl⟩ := x_nat (a := 0) (b := 17) hb_1 (by omega) (by omega)
      have jc : (nI j).toNatClampNeg = j := nI_clamp (by omega)
      have e0 : ab_wish A (nI j) w = ab_if (w = 0) (ab_wx A.1 j) (ab_wy A.1 j) := by rw [ab_wish, ab_if_pos ⟨hb_1, hb_2⟩, jc]
      refine r_aload_n K 0 dX6_wish_19 rfl rfl ?_
      refine r_getR K rfl rfl ff_6_now qw_545 dX6_wish_20 ?_
      refine r_iload_n K 2 dX6_wish_23 rfl rfl ?_
      refine r_if_ne K 32 dX6_wish_24 (by decide) (fun h_3 => ?_) (fun h_3 => ?_)
      · refine r_bipush K (v := 35) dX6_wish_32 (by decide) ?_
        refine r_iload_n K 1 dX6_wish_34 rfl rfl ?_
        refine r_iadd K dX6_wish_35 ?_
        refine r_iald K (j := 35 + j) rfl (nI_add 35 j) (by omega) (by decide) dX6_wish_36 ?_
        refine r_top_eq (ab_wy A.1 j) (hrow.2.2.2.2.2 j (by omega)).2 ?_
        refine r_goto K 42 dX6_wish_37 (by decide) ?_
        exact hr _ _ _ _ dX6_wish_42 ⟨by rw [e0, ab_if_neg h_3], hS⟩
      · refine r_bipush K (v := 17) dX6_wish_27 (by decide) ?_
        refine r_goto K 34 dX6_wish_29 (by decide) ?_
        refine r_iload_n K 1 dX6_wish_34 rfl rfl ?_
        refine r_iadd K dX6_wish_35 ?_
        refine r_iald K (j := 17 + j) rfl (nI_add 17 j) (by omega) (by decide) dX6_wish_36 ?_
        refine r_top_eq (ab_wx A.1 j) (hrow.2.2.2.2.2 j (by omega)).1 ?_
        refine r_goto K 42 dX6_wish_37 (by decide) ?_
        exact hr _ _ _ _ dX6_wish_42 ⟨by rw [e0, ab_if_pos h_3], hS⟩
    · refine r_if_eq K 40 dX6_wish_16 (by decide) (fun _ => ?_) (fun h => absurd h (by decide))
      refine r_ldc K dX6_wish_40 qw_768 ?_
      exact hr _ _ _ _ dX6_wish_42 ⟨by rw [ab_wish, ab_if_neg (fun q => hb_2 q.2)], hS⟩
  · refine r_if_eq K 40 dX6_wish_7 (by decide) (fun _ => ?_) (fun h => absurd h (by decide))
    refine r_ldc K dX6_wish_40 qw_768 ?_
    exact hr _ _ _ _ dX6_wish_42 ⟨by rw [ab_wish, ab_if_neg (fun q => hb_1 q.1)], hS⟩
set_option maxHeartbeats 4000000 in
set_option maxRecDepth 100000 in
theorem cm_worst (l : Launch) (g : rs_G) (t : Nat × Nat) (M : rs_M) (A : ab_S) (hS : m_S M A) (k : Int32) : rs_Ci l g mk t yX6_worst cX6_worst 5 .int 4 [.ref (g.2.2 0), .int k] M (fun r M1 => m_R (ab_worst A k, A) r M1) := by
  obtain ⟨hrow, hok, ht, h0, hun, hse, htx, him, hz⟩ := id hS
  have hn12 := hok.1
  refine rs_ofi (plainFor_of_name (by decide)) (Nat.le_of_ble_eq_true rfl) ?_
  intro Y K hr
  show Y M 0 [(0, .ref (g.2.2 0)), (1, .int k)] []
  refine r_iload_n K 1 dX6_worst_0 rfl rfl ?_
  refine r_if_ge K 6 dX6_worst_1 (by decide) (fun h_1 => ?_) (fun h_1 => ?_)
  · refine r_aload_n K 0 dX6_worst_6 rfl rfl ?_
    refine r_aload_n K 0 dX6_worst_7 rfl rfl ?_
    refine r_getR K rfl rfl ff_6_now qw_545 dX6_worst_8 ?_
    refine r_aload_n K 0 dX6_worst_11 rfl rfl ?_
    refine r_getI K rfl rfl ff_6_taper qw_544 dX6_worst_12 ?_
    refine r_top_eq A.2.1 h0 ?_
    refine r_callVv K [.ref (g.2.2 1), .int A.2.1] [] dX6_worst_15 mf_X6_layRings rfl rfl qw_697 qw_699 qs_29 (cm_layRings l g t M 1 (Or.inl rfl) A.1 hok hrow hz A.2.1) rfl rfl (by decide) (Nat.le_of_ble_eq_true rfl) (fun Mr hp => ?_)
    obtain ⟨hp1, hp2⟩ := hp
    have hSr : m_S Mr A := m_S_k hS (m_k_fs hp2)
    have hrr := hSr.1
    refine r_iconst K (v := 1) dX6_worst_18 (by decide) ?_
    refine r_istore_n K [(2, .int 1), (0, .ref (g.2.2 0)), (1, .int k)] dX6_worst_19 rfl (by decide) rfl ?_
    have lp : ∀ (f : Nat) (i : Nat), (13 - i < f) → (1 ≤ i) → (i ≤ (ab_ks A.1).length + 1) → (ab_wsrch (ab_ringcost A.2.1 A.1) (ab_ks A.1).length k (ab_ks A.1).length 1 = ab_wsrch (ab_ringcost A.2.1 A.1) (ab_ks A.1).length k ((ab_ks A.1).length + 1 - i) i) → Y Mr 20 [(2, .int (nI i)), (0, .ref (g.2.2 0)), (1, .int k)] [] := by
      intro f
      induction f with
      | zero =>
        intro i hf
        exact absurd hf (Nat.not_lt_zero _)
      | succ f ih =>
        intro i hf hi1 hi hI
        have ihO := ih
        refine r_iload_n K 0 dX6_worst_20 rfl rfl ?_
        refine r_aload_n K 1 dX6_worst_21 rfl rfl ?_
        refine r_getR K rfl rfl ff_6_now qw_545 dX6_worst_22 ?_
        refine r_iconst K (v := 3) dX6_worst_25 (by decide) ?_
        refine r_iald K (j := 3) rfl rfl (by decide) (by decide) dX6_worst_26 ?_
        refine r_top_eq (nI (ab_ks A.1).length) hrr.2.2.2.1 ?_
        refine r_icmp_gt K 107 dX6_worst_27 (by decide) (fun h_2 => ?_) (fun h_2 => ?_)
        · have nh_2 : (ab_ks A.1).length < i := (nf_lt rfl rfl (by omega) (by omega)).mp h_2
          refine r_bipush K (v := (-9)) dX6_worst_107 (by decide) ?_
          exact hr _ _ _ _ dX6_worst_109 ⟨by rw [ab_worst, ab_if_neg (Int32.not_lt.mpr h_1), hI, show (ab_ks A.1).length + 1 - i = 0 by omega, ab_wsrch], hSr⟩
        · have nh_2 : ¬ (ab_ks A.1).length < i := mt (nf_lt rfl rfl (by omega) (by omega)).mpr h_2
          refine r_iconst K (v := 0) dX6_worst_30 (by decide) ?_
          refine r_istore_n K [(3, .int 0), (2, .int (nI i)), (0, .ref (g.2.2 0)), (1, .int k)] dX6_worst_31 rfl (by decide) rfl ?_
          refine r_iconst K (v := 1) dX6_worst_32 (by decide) ?_
          refine r_istore K [(4, .int 1), (3, .int 0), (2, .int (nI i)), (0, .ref (g.2.2 0)), (1, .int k)] dX6_worst_33 (by decide) rfl ?_
          have lq : ∀ (f : Nat) (j : Nat), (13 - j < f) → (j ≤ (ab_ks A.1).length) → Y Mr 35 [(4, .int (nI (j + 1))), (3, .int (nI (ab_ahead (ab_ringcost A.2.1 A.1) i j))), (2, .int (nI i)), (0, .ref (g.2.2 0)), (1, .int k)] [] := by
            intro f
            induction f with
            | zero =>
              intro j hf
              exact absurd hf (Nat.not_lt_zero _)
            | succ f ih =>
              intro j hg hj
              refine r_iload K 0 dX6_worst_35 rfl ?_
              refine r_aload_n K 3 dX6_worst_37 rfl rfl ?_
              refine r_getR K rfl rfl ff_6_now qw_545 dX6_worst_38 ?_
              refine r_iconst K (v := 3) dX6_worst_41 (by decide) ?_
              refine r_iald K (j := 3) rfl rfl (by decide) (by decide) dX6_worst_42 ?_
              refine r_top_eq (nI (ab_ks A.1).length) hrr.2.2.2.1 ?_
              refine r_icmp_gt K 94 dX6_worst_43 (by decide) (fun h_3 => ?_) (fun h_3 => ?_)
              · have nh_3 : (ab_ks A.1).length < (j + 1) := (nf_lt rfl rfl (by omega) (by omega)).mp h_3
                have hjn : j = (ab_ks A.1).length := by omega
                refine r_iload_n K 1 dX6_worst_94 rfl rfl ?_
                refine r_iload_n K 4 dX6_worst_95 rfl rfl ?_
                refine r_icmp_ne K 101 dX6_worst_96 (by decide) (fun h_4 => ?_) (fun h_4 => ?_)
                · refine r_iinc_n K 2 [(2, .int (nI (i + 1))), (4, .int (nI (j + 1))), (3, .int (nI (ab_ahead (ab_ringcost A.2.1 A.1) i j))), (0, .ref (g.2.2 0)), (1, .int k)] dX6_worst_101 rfl (by decide) rfl ?_
                  refine r_goto K 20 dX6_worst_104 (by decide) ?_
                  refine r_sub K [0, 3, 4] rfl ?_
                  exact ihO (i + 1) (by omega) (by omega) (by omega) (by rw [hI, show (ab_ks A.1).length + 1 - i = ((ab_ks A.1).length + 1 - (i + 1)) + 1 by omega, ab_wsrch, if_neg (by rw [← hjn]; exact h_4)])
                · refine r_iload_n K 2 dX6_worst_99 rfl rfl ?_
                  exact hr _ _ _ _ dX6_worst_100 ⟨by rw [ab_worst, ab_if_neg (Int32.not_lt.mpr h_1), hI, show (ab_ks A.1).length + 1 - i = ((ab_ks A.1).length + 1 - (i + 1)) + 1 by omega, ab_wsrch, if_pos (by rw [← hjn]; exact h_4)], hSr⟩
              · have nh_3 : ¬ (ab_ks A.1).length < (j + 1) := mt (nf_lt rfl rfl (by omega) (by omega)).mpr h_3
                refine r_iload_n K 1 dX6_worst_46 rfl rfl ?_
                refine r_aload_n K 3 dX6_worst_47 rfl rfl ?_
                refine r_iload K 0 dX6_worst_48 rfl ?_
                refine r_callVi K [.int (nI (j + 1))] [.int (nI (ab_ahead (ab_ringcost A.2.1 A.1) i j))] dX6_worst_50 mf_X6_costOf rfl rfl qw_737 qw_739 qs_35 (cm_costOf l g t Mr A.1 hok hrr (j + 1) (by omega)) rfl rfl (by decide) (Nat.le_of_ble_eq_true rfl) (fun r M1 hp => ?_)
                obtain ⟨hp, he⟩ := hp
                have he := he.symm
                subst he
                subst hp
                refine r_top_eq (ab_ringcost A.2.1 A.1 (j + 1)) (m_laid_cost hp1 (by omega)) ?_
                refine r_aload_n K 3 dX6_worst_53 rfl rfl ?_
                refine r_iload_n K 2 dX6_worst_54 rfl rfl ?_
                refine r_callVi K [.int (nI i)] [.int (ab_ringcost A.2.1 A.1 (j + 1)), .int (nI (ab_ahead (ab_ringcost A.2.1 A.1) i j))] dX6_worst_55 mf_X6_costOf rfl rfl qw_737 qw_739 qs_35 (cm_costOf l g t Mr A.1 hok hrr i (by omega)) rfl rfl (by decide) (Nat.le_of_ble_eq_true rfl) (fun r M1 hp => ?_)
                obtain ⟨hp, he⟩ := hp
                have he := he.symm
                subst he
                subst hp
                refine r_top_eq (ab_ringcost A.2.1 A.1 i) (m_laid_cost hp1 (by omega)) ?_
                refine r_icmp_gt K 81 dX6_worst_58 (by decide) (fun h_5 => ?_) (fun h_5 => ?_)
                · refine r_iconst K (v := 1) dX6_worst_81 (by decide) ?_
                  refine r_goto K 86 dX6_worst_82 (by decide) ?_
                  refine r_iadd K dX6_worst_86 ?_
                  refine r_top_eq (nI (ab_ahead (ab_ringcost A.2.1 A.1) i j + 1)) (nI_1 _) ?_
                  refine r_istore_n K [(3, .int (nI (ab_ahead (ab_ringcost A.2.1 A.1) i j + 1))), (4, .int (nI (j + 1))), (2, .int (nI i)), (0, .ref (g.2.2 0)), (1, .int k)] dX6_worst_87 rfl (by decide) rfl ?_
                  refine r_iinc_n K 1 [(4, .int (nI (j + 1 + 1))), (3, .int (nI (ab_ahead (ab_ringcost A.2.1 A.1) i j + 1))), (2, .int (nI i)), (0, .ref (g.2.2 0)), (1, .int k)] dX6_worst_88 rfl (by decide) rfl ?_
                  refine r_goto K 35 dX6_worst_91 (by decide) ?_
                  have e : ab_ahead (ab_ringcost A.2.1 A.1) i (j + 1) = ab_ahead (ab_ringcost A.2.1 A.1) i j + _ := congrArg (fun z => ab_ahead (ab_ringcost A.2.1 A.1) i j + z) (if_pos (Or.inl h_5))
                  have q := ih (j + 1) (by omega) (by omega)
                  rw [e] at q
                  exact q
                · refine r_aload_n K 3 dX6_worst_61 rfl rfl ?_
                  refine r_iload K 0 dX6_worst_62 rfl ?_
                  refine r_callVi K [.int (nI (j + 1))] [.int (nI (ab_ahead (ab_ringcost A.2.1 A.1) i j))] dX6_worst_64 mf_X6_costOf rfl rfl qw_737 qw_739 qs_35 (cm_costOf l g t Mr A.1 hok hrr (j + 1) (by omega)) rfl rfl (by decide) (Nat.le_of_ble_eq_true rfl) (fun r M1 hp => ?_)
                  obtain ⟨hp, he⟩ := hp
                  have he := he.symm
                  subst he
                  subst hp
                  refine r_top_eq (ab_ringcost A.2.1 A.1 (j + 1)) (m_laid_cost hp1 (by omega)) ?_
                  refine r_aload_n K 3 dX6_worst_67 rfl rfl ?_
                  refine r_iload_n K 2 dX6_worst_68 rfl rfl ?_
                  refine r_callVi K [.int (nI i)] [.int (ab_ringcost A.2.1 A.1 (j + 1)), .int (nI (ab_ahead (ab_ringcost A.2.1 A.1) i j))] dX6_worst_69 mf_X6_costOf rfl rfl qw_737 qw_739 qs_35 (cm_costOf l g t Mr A.1 hok hrr i (by omega)) rfl rfl (by decide) (Nat.le_of_ble_eq_true rfl) (fun r M1 hp => ?_)
                  obtain ⟨hp, he⟩ := hp
                  have he := he.symm
                  subst he
                  subst hp
                  refine r_top_eq (ab_ringcost A.2.1 A.1 i) (m_laid_cost hp1 (by omega)) ?_
                  refine r_icmp_ne K 85 dX6_worst_72 (by decide) (fun h_6 => ?_) (fun h_6 => ?_)
                  · refine r_iconst K (v := 0) dX6_worst_85 (by decide) ?_
                    refine r_iadd K dX6_worst_86 ?_
                    refine r_top_eq (nI (ab_ahead (ab_ringcost A.2.1 A.1) i j)) (Int32.add_zero _) ?_
                    refine r_istore_n K [(3, .int (nI (ab_ahead (ab_ringcost A.2.1 A.1) i j))), (4, .int (nI (j + 1))), (2, .int (nI i)), (0, .ref (g.2.2 0)), (1, .int k)] dX6_worst_87 rfl (by decide) rfl ?_
                    refine r_iinc_n K 1 [(4, .int (nI (j + 1 + 1))), (3, .int (nI (ab_ahead (ab_ringcost A.2.1 A.1) i j))), (2, .int (nI i)), (0, .ref (g.2.2 0)), (1, .int k)] dX6_worst_88 rfl (by decide) rfl ?_
                    refine r_goto K 35 dX6_worst_91 (by decide) ?_
                    have e : ab_ahead (ab_ringcost A.2.1 A.1) i (j + 1) = ab_ahead (ab_ringcost A.2.1 A.1) i j + _ := congrArg (fun z => ab_ahead (ab_ringcost A.2.1 A.1) i j + z) (if_neg (fun q => q.elim (fun q => h_5 q) (fun q => h_6 q.1)))
                    have q := ih (j + 1) (by omega) (by omega)
                    rw [e] at q
                    exact q
                  · refine r_iload K 0 dX6_worst_75 rfl ?_
                    refine r_iload_n K 2 dX6_worst_77 rfl rfl ?_
                    refine r_icmp_ge K 85 dX6_worst_78 (by decide) (fun h_7 => ?_) (fun h_7 => ?_)
                    · have nh_7 : i ≤ (j + 1) := (nf_le rfl rfl (by omega) (by omega)).mp h_7
                      refine r_iconst K (v := 0) dX6_worst_85 (by decide) ?_
                      refine r_iadd K dX6_worst_86 ?_
                      refine r_top_eq (nI (ab_ahead (ab_ringcost A.2.1 A.1) i j)) (Int32.add_zero _) ?_
                      refine r_istore_n K [(3, .int (nI (ab_ahead (ab_ringcost A.2.1 A.1) i j))), (4, .int (nI (j + 1))), (2, .int (nI i)), (0, .ref (g.2.2 0)), (1, .int k)] dX6_worst_87 rfl (by decide) rfl ?_
                      refine r_iinc_n K 1 [(4, .int (nI (j + 1 + 1))), (3, .int (nI (ab_ahead (ab_ringcost A.2.1 A.1) i j))), (2, .int (nI i)), (0, .ref (g.2.2 0)), (1, .int k)] dX6_worst_88 rfl (by decide) rfl ?_
                      refine r_goto K 35 dX6_worst_91 (by decide) ?_
                      have e : ab_ahead (ab_ringcost A.2.1 A.1) i (j + 1) = ab_ahead (ab_ringcost A.2.1 A.1) i j + _ := congrArg (fun z => ab_ahead (ab_ringcost A.2.1 A.1) i j + z) (if_neg (fun q => q.elim (fun q => h_5 q) (fun q => by omega)))
                      have q := ih (j + 1) (by omega) (by omega)
                      rw [e] at q
                      exact q
                    · have nh_7 : ¬ i ≤ (j + 1) := mt (nf_le rfl rfl (by omega) (by omega)).mpr h_7
                      refine r_iconst K (v := 1) dX6_worst_81 (by decide) ?_
                      refine r_goto K 86 dX6_worst_82 (by decide) ?_
                      refine r_iadd K dX6_worst_86 ?_
                      refine r_top_eq (nI (ab_ahead (ab_ringcost A.2.1 A.1) i j + 1)) (nI_1 _) ?_
                      refine r_istore_n K [(3, .int (nI (ab_ahead (ab_ringcost A.2.1 A.1) i j + 1))), (4, .int (nI (j + 1))), (2, .int (nI i)), (0, .ref (g.2.2 0)), (1, .int k)] dX6_worst_87 rfl (by decide) rfl ?_
                      refine r_iinc_n K 1 [(4, .int (nI (j + 1 + 1))), (3, .int (nI (ab_ahead (ab_ringcost A.2.1 A.1) i j + 1))), (2, .int (nI i)), (0, .ref (g.2.2 0)), (1, .int k)] dX6_worst_88 rfl (by decide) rfl ?_
                      refine r_goto K 35 dX6_worst_91 (by decide) ?_
                      have e : ab_ahead (ab_ringcost A.2.1 A.1) i (j + 1) = ab_ahead (ab_ringcost A.2.1 A.1) i j + _ := congrArg (fun z => ab_ahead (ab_ringcost A.2.1 A.1) i j + z) (if_pos (Or.inr ⟨h_6, by omega⟩))
                      have q := ih (j + 1) (by omega) (by omega)
                      rw [e] at q
                      exact q
          exact lq 14 0 (by omega) (by omega)
    exact lp 14 1 (by omega) (by omega) (by omega) (by rw [show (ab_ks A.1).length + 1 - 1 = (ab_ks A.1).length by omega])
  · refine r_iconst K (v := (-1)) dX6_worst_4 (by decide) ?_
    exact hr _ _ _ _ dX6_worst_5 ⟨by rw [ab_worst, ab_if_pos (Int32.not_le.mp h_1)], hS⟩
set_option maxHeartbeats 4000000 in
set_option maxRecDepth 100000 in
theorem cm_keepS (l : Launch) (g : rs_G) (t : Nat × Nat) (M : rs_M) (A : ab_S) (hS : m_S M A) (i : Int32) : rs_Ci l g mk t yX6_keep cX6_keep 3 .int 1 [.ref (g.2.2 0), .int i] M (fun r M1 => m_R (ab_keep A i) r M1) := by
  obtain ⟨hrow, hok, ht, h0, hun, hse, htx, him, hz⟩ := id hS
  have hn12 := hok.1
  refine rs_ofi (plainFor_of_name (by decide)) (Nat.le_of_ble_eq_true rfl) ?_
  intro Y K hr
  show Y M 0 [(0, .ref (g.2.2 0)), (1, .int i)] []
  refine r_iload_n K 1 dX6_keep_0 rfl rfl ?_
  refine r_iconst K (v := 0) dX6_keep_1 (by decide) ?_
  refine r_iconst K (v := 1) dX6_keep_2 (by decide) ?_
  refine r_callSi K [.int i, .int 0, .int 1] [] dX6_keep_3 mf_X6_in qw_636 qw_637 (cm_in l g t M i 0 1) rfl rfl (by decide) (Nat.le_of_ble_eq_true rfl) (fun r M1 hp => ?_)
  obtain ⟨hp, he⟩ := hp
  have he := he.symm
  subst he
  rcases hp with ⟨rfl, hb_1⟩ | ⟨rfl, hb_1⟩
  · refine r_if_ne K 11 dX6_keep_6 (by decide) (fun _ => ?_) (fun h => absurd h (by decide))
    have h_0f := hb_1
    obtain ⟨j, hj1, hj2, rfl⟩ := x_nat (a := 0) (b := 1) h_0f (by omega) (by omega)
    have jc : (nI j).toNatClampNeg = j := nI_clamp (by omega)
    refine r_aload_n K 0 dX6_keep_11 rfl rfl ?_
    refine r_getR K rfl rfl ff_6_isKept qw_552 dX6_keep_12 ?_
    refine r_iload_n K 1 dX6_keep_15 rfl rfl ?_
    refine r_iconst K (v := 1) dX6_keep_16 (by decide) ?_
    refine r_zast K (j := j) rfl rfl (by omega) (by decide) dX6_keep_17 ?_
    refine r_iconst K (v := 0) dX6_keep_18 (by decide) ?_
    refine r_istore_n K [(2, .int 0), (0, .ref (g.2.2 0)), (1, .int (nI j))] dX6_keep_19 rfl (by decide) rfl ?_
    have lp : ∀ (f : Nat) (k : Nat) (Mi : rs_M), (53 - k < f) → (k ≤ 53) → ((∀ c, c ≠ 5 → c ≠ 6 → Mi c = M c) ∧ Mi 5 = upd (M 5) j 1 ∧ (∀ q, q < k → Mi 6 (53 * j + q) = M 1 q) ∧ ∀ q, (q < 53 * j ∨ 53 * j + 53 ≤ q) → Mi 6 q = M 6 q) → Y Mi 20 [(2, .int (nI k)), (0, .ref (g.2.2 0)), (1, .int (nI j))] [] := by
      intro f
      induction f with
      | zero =>
        intro k Mi hf
        exact absurd hf (Nat.not_lt_zero _)
      | succ f ih =>
        intro k Mi hf hk hI
        refine r_iload_n K 0 dX6_keep_20 rfl rfl ?_
        refine r_bipush K (v := 53) dX6_keep_21 (by decide) ?_
        refine r_icmp_ge K 49 dX6_keep_23 (by decide) (fun h_2 => ?_) (fun h_2 => ?_)
        · have nh_2 : 53 ≤ k := (nf_le rfl rfl (by omega) (by omega)).mp h_2
          refine r_aload_n K 1 dX6_keep_49 rfl rfl ?_
          refine r_getR K rfl rfl ff_6_now qw_545 dX6_keep_50 ?_
          refine r_iconst K (v := 3) dX6_keep_53 (by decide) ?_
          refine r_iald K (j := 3) rfl rfl (by decide) (by decide) dX6_keep_54 ?_
          refine r_top_eq (nI (ab_ks A.1).length) (by rw [hI.1 1 (by decide) (by decide)]; exact hrow.2.2.2.1) ?_
          have hk53 : k = 53 := by omega
          subst hk53
          have e : ab_keep A (nI j) = (nI (ab_ks A.1).length, ab_wI A j A.1) := by rw [ab_keep, ab_if_pos h_0f, jc]
          exact hr _ _ _ _ dX6_keep_55 (by rw [e]; exact ⟨rfl, (m_S_keep hS (by omega) hI.1 hI.2.1 hI.2.2.1 hI.2.2.2)⟩)
        · have nh_2 : ¬ 53 ≤ k := mt (nf_le rfl rfl (by omega) (by omega)).mpr h_2
          refine r_aload_n K 1 dX6_keep_26 rfl rfl ?_
          refine r_getR K rfl rfl ff_6_kept qw_553 dX6_keep_27 ?_
          refine r_bipush K (v := 53) dX6_keep_30 (by decide) ?_
          refine r_iload_n K 2 dX6_keep_32 rfl rfl ?_
          refine r_imul K dX6_keep_33 ?_
          refine r_top_eq (nI (53 * j)) (pk_mul 53 _) ?_
          refine r_iload_n K 0 dX6_keep_34 rfl rfl ?_
          refine r_iadd K dX6_keep_35 ?_
          refine r_top_eq (nI (53 * j + k)) (nI_add _ _) ?_
          refine r_aload_n K 1 dX6_keep_36 rfl rfl ?_
          refine r_getR K rfl rfl ff_6_now qw_545 dX6_keep_37 ?_
          refine r_iload_n K 0 dX6_keep_40 rfl rfl ?_
          refine r_iald K (j := k) rfl rfl (by omega) (by decide) dX6_keep_41 ?_
          refine r_top_eq (M 1 k) (by rw [hI.1 1 (by decide) (by decide)]) ?_
          refine r_iast K (j := 53 * j + k) rfl rfl (by omega) (by decide) dX6_keep_42 ?_
          refine r_iinc_n K 0 [(2, .int (nI (k + 1))), (0, .ref (g.2.2 0)), (1, .int (nI j))] dX6_keep_43 rfl (by decide) rfl ?_
          refine r_goto K 20 dX6_keep_46 (by decide) ?_
          exact ih (k + 1) _ (by omega) (by omega) ⟨fun c c1 c2 => by rw [rs_st_ne _ _ _ c2]; exact hI.1 c c1 c2, by rw [rs_st_ne _ _ _ (by decide)]; exact hI.2.1, fun q hq => by
            by_cases e : q = k
            · subst e; rw [rs_st_eq]
            · rw [rs_st_nk _ _ _ (by omega)]; exact hI.2.2.1 q (by omega), fun q hq => by rw [rs_st_nk _ _ _ (by omega)]; exact hI.2.2.2 q hq⟩
    exact lp 54 0 _ (by omega) (by omega) ⟨fun c c1 c2 => rs_st_ne _ _ _ c1, by rw [rs_st_row, x_nar1], fun q hq => absurd hq (Nat.not_lt_zero _), fun q hq => by rw [rs_st_ne _ _ _ (by decide)]⟩
  · refine r_if_ne K 11 dX6_keep_6 (by decide) (fun h => absurd h (by decide)) (fun _ => ?_)
    refine r_iconst K (v := (-1)) dX6_keep_9 (by decide) ?_
    have e : ab_keep A i = (-1, A) := by rw [ab_keep, ab_if_neg hb_1]
    exact hr _ _ _ _ dX6_keep_10 (by rw [e]; exact ⟨rfl, hS⟩)
theorem m_und_0 {M : rs_M} {a : Nat} (ha : a < 12) (h3 : M 0 3 = nI a) (h2 : M 0 2 = 0) : m_und M [] := ⟨a, ha, h3, h2, by simp, fun i u hi => by simp at hi⟩
set_option maxHeartbeats 4000000 in
set_option maxRecDepth 100000 in
theorem cm_back (l : Launch) (g : rs_G) (t : Nat × Nat) (M : rs_M) (A : ab_S) (hS : m_S M A) (i : Int32) : rs_Ci l g mk t yX6_back cX6_back 3 .int 1 [.ref (g.2.2 0), .int i] M (fun r M1 => m_R (ab_back A i) r M1) := by
  obtain ⟨hrow, hok, ht, h0, hun, hse, htx, him, hz⟩ := id hS
  have hn12 := hok.1
  obtain ⟨a, ha1, ha2, ha3, ha4, ha5⟩ := id hun
  refine rs_ofi (plainFor_of_name (by decide)) (Nat.le_of_ble_eq_true rfl) ?_
  intro Y K hr
  show Y M 0 [(0, .ref (g.2.2 0)), (1, .int i)] []
  refine r_iload_n K 1 dX6_back_0 rfl rfl ?_
  refine r_iconst K (v := 0) dX6_back_1 (by decide) ?_
  refine r_iconst K (v := 1) dX6_back_2 (by decide) ?_
  refine r_callSi K [.int i, .int 0, .int 1] [] dX6_back_3 mf_X6_in qw_636 qw_637 (cm_in l g t M i 0 1) rfl rfl (by decide) (Nat.le_of_ble_eq_true rfl) (fun r M1 hp => ?_)
  obtain ⟨hp, he⟩ := hp
  have he := he.symm
  subst he
  rcases hp with ⟨rfl, hb_1⟩ | ⟨rfl, hb_1⟩
  · refine r_if_ne K 11 dX6_back_6 (by decide) (fun _ => ?_) (fun h => absurd h (by decide))
    have h_0f := hb_1
    obtain ⟨j, hj1, hj2, rfl⟩ := x_nat (a := 0) (b := 1) h_0f (by omega) (by omega)
    have jc : (nI j).toNatClampNeg = j := nI_clamp (by omega)
    refine r_aload_n K 0 dX6_back_11 rfl rfl ?_
    refine r_getR K rfl rfl ff_6_isKept qw_552 dX6_back_12 ?_
    refine r_iload_n K 1 dX6_back_15 rfl rfl ?_
    refine r_zald K (j := j) rfl rfl (by omega) (by decide) dX6_back_16 ?_
    refine r_top_eq (ab_flag (A.2.2.2.2.2 j)) (m_im1_flag (m_im_get him (by omega))) ?_
    refine r_if_ne K 23 dX6_back_17 (by decide) (fun h_2 => ?_) (fun h_2 => ?_)
    · obtain ⟨Li, hLi⟩ : ∃ Li, A.2.2.2.2.2 j = some Li := by
        cases q : A.2.2.2.2.2 j with
        | none => rw [q] at h_2; exact absurd rfl h_2
        | some Li => exact ⟨Li, rfl⟩
      have hg := m_im_get him (j := j) (by omega)
      rw [hLi] at hg
      obtain ⟨-, hb2, hb3⟩ := hg
      refine r_iconst K (v := 0) dX6_back_23 (by decide) ?_
      refine r_istore_n K [(2, .int 0), (0, .ref (g.2.2 0)), (1, .int (nI j))] dX6_back_24 rfl (by decide) rfl ?_
      have lp : ∀ (f : Nat) (k : Nat) (Mi : rs_M), (53 - k < f) → (k ≤ 53) → ((∀ c, c ≠ 1 → Mi c = M c) ∧ ∀ q, q < k → Mi 1 q = M 6 (53 * j + q)) → Y Mi 25 [(2, .int (nI k)), (0, .ref (g.2.2 0)), (1, .int (nI j))] [] := by
        intro f
        induction f with
        | zero =>
          intro k Mi hf
          exact absurd hf (Nat.not_lt_zero _)
        | succ f ih =>
          intro k Mi hf hk hI
          refine r_iload_n K 0 dX6_back_25 rfl rfl ?_
          refine r_bipush K (v := 53) dX6_back_26 (by decide) ?_
          refine r_icmp_ge K 54 dX6_back_28 (by decide) (fun h_3 => ?_) (fun h_3 => ?_)
          · have nh_3 : 53 ≤ k := (nf_le rfl rfl (by omega) (by omega)).mp h_3
            have hk53 : k = 53 := by omega
            subst hk53
            have hrL : m_row (Mi 1) Li := m_row_same hb2.1 hb3 (fun q hq => hI.2 q hq)
            refine r_aload_n K 1 dX6_back_54 rfl rfl ?_
            refine r_iconst K (v := 0) dX6_back_55 (by decide) ?_
            refine r_put K rfl rfl ff_6_undoMany qw_546 rfl rfl dX6_back_56 ?_
            refine r_aload_n K 1 dX6_back_59 rfl rfl ?_
            refine r_getR K rfl rfl ff_6_now qw_545 dX6_back_60 ?_
            refine r_iconst K (v := 3) dX6_back_63 (by decide) ?_
            refine r_iald K (j := 3) rfl rfl (by decide) (by decide) dX6_back_64 ?_
            refine r_top_eq (nI (ab_ks Li).length) (by rw [rs_st_ne _ _ _ (by decide)]; exact hrL.2.2.2.1) ?_
            have e : ab_back A (nI j) = (nI (ab_ks Li).length, ab_wL A Li []) := by rw [ab_back, ab_if_pos h_0f, jc, hLi, ab_back1]
            exact hr _ _ _ _ dX6_back_65 (by rw [e]; exact ⟨rfl, (m_S_line hS (fun c h1 h2 h3 => by rw [rs_st_ne _ _ _ h1, hI.1 c h2]) (fun q hq => by rw [rs_st_nk _ _ _ (by omega), hI.1 0 (by decide)]) (by rw [rs_st_ne _ _ _ (by decide)]; exact hrL) hb2 (m_und_0 (a := a) ha1 (by rw [rs_st_nk _ _ _ (by decide), hI.1 0 (by decide)]; exact ha2) (by rw [rs_st_eq])))⟩)
          · have nh_3 : ¬ 53 ≤ k := mt (nf_le rfl rfl (by omega) (by omega)).mpr h_3
            refine r_aload_n K 1 dX6_back_31 rfl rfl ?_
            refine r_getR K rfl rfl ff_6_now qw_545 dX6_back_32 ?_
            refine r_iload_n K 0 dX6_back_35 rfl rfl ?_
            refine r_aload_n K 1 dX6_back_36 rfl rfl ?_
            refine r_getR K rfl rfl ff_6_kept qw_553 dX6_back_37 ?_
            refine r_bipush K (v := 53) dX6_back_40 (by decide) ?_
            refine r_iload_n K 2 dX6_back_42 rfl rfl ?_
            refine r_imul K dX6_back_43 ?_
            refine r_top_eq (nI (53 * j)) (pk_mul 53 _) ?_
            refine r_iload_n K 0 dX6_back_44 rfl rfl ?_
            refine r_iadd K dX6_back_45 ?_
            refine r_top_eq (nI (53 * j + k)) (nI_add _ _) ?_
            refine r_iald K (j := 53 * j + k) rfl rfl (by omega) (by decide) dX6_back_46 ?_
            refine r_top_eq (M 6 (53 * j + k)) (by rw [hI.1 6 (by decide)]) ?_
            refine r_iast K (j := k) rfl rfl (by omega) (by decide) dX6_back_47 ?_
            refine r_iinc_n K 0 [(2, .int (nI (k + 1))), (0, .ref (g.2.2 0)), (1, .int (nI j))] dX6_back_48 rfl (by decide) rfl ?_
            refine r_goto K 25 dX6_back_51 (by decide) ?_
            exact ih (k + 1) _ (by omega) (by omega) ⟨fun c hc => by rw [rs_st_ne _ _ _ hc]; exact hI.1 c hc, fun q hq => by
              by_cases e : q = k
              · subst e; rw [rs_st_eq]
              · rw [rs_st_nk _ _ _ (by omega)]; exact hI.2 q (by omega)⟩
      exact lp 54 0 _ (by omega) (by omega) ⟨fun _ _ => rfl, fun q hq => absurd hq (Nat.not_lt_zero _)⟩
    · refine r_bipush K (v := (-2)) dX6_back_20 (by decide) ?_
      have hno : A.2.2.2.2.2 j = none := by
        cases q : A.2.2.2.2.2 j with
        | none => rfl
        | some Li => rw [q] at h_2; exact absurd (show (1 : Int32) = 0 from h_2) (by decide)
      have e : ab_back A (nI j) = (-2, A) := by rw [ab_back, ab_if_pos h_0f, jc, hno, ab_back1]
      exact hr _ _ _ _ dX6_back_22 (by rw [e]; exact ⟨rfl, hS⟩)
  · refine r_if_ne K 11 dX6_back_6 (by decide) (fun h => absurd h (by decide)) (fun _ => ?_)
    refine r_iconst K (v := (-1)) dX6_back_9 (by decide) ?_
    have e : ab_back A i = (-1, A) := by rw [ab_back, ab_if_neg hb_1]
    exact hr _ _ _ _ dX6_back_10 (by rw [e]; exact ⟨rfl, hS⟩)
set_option maxHeartbeats 4000000 in
set_option maxRecDepth 100000 in
theorem cm_nextKeys (l : Launch) (g : rs_G) (t : Nat × Nat) (M : rs_M) (A : ab_S) (hS : m_S M A) : rs_Ci l g mk t yX6_nextKeys cX6_nextKeys 3 .int 5 [.ref (g.2.2 0)] M (fun r M1 => r = ab_mask (ab_may A.2.1 A.1 (ab_ks A.1)) 8 ∧ m_S M1 A) := by
  refine rs_ofi (plainFor_of_name (by decide)) (Nat.le_of_ble_eq_true rfl) ?_
  intro Y K hr
  show Y M 0 [(0, .ref (g.2.2 0))] []
  refine r_iconst K (v := 0) dX6_nextKeys_0 (by decide) ?_
  refine r_istore_n K [(1, .int 0), (0, .ref (g.2.2 0))] dX6_nextKeys_1 rfl (by decide) rfl ?_
  refine r_iconst K (v := 0) dX6_nextKeys_2 (by decide) ?_
  refine r_istore_n K [(2, .int 0), (1, .int 0), (0, .ref (g.2.2 0))] dX6_nextKeys_3 rfl (by decide) rfl ?_
  have lp : ∀ (f : Nat) (k : Nat) (Mi : rs_M), (8 - k < f) → (k ≤ 8) → (m_S Mi A) → Y Mi 4 [(2, .int (nI k)), (1, .int (ab_mask (ab_may A.2.1 A.1 (ab_ks A.1)) k)), (0, .ref (g.2.2 0))] [] := by
    intro f
    induction f with
    | zero =>
      intro k Mi hf
      exact absurd hf (Nat.not_lt_zero _)
    | succ f ih =>
      intro k Mi hf hk hSi
      refine r_iload_n K 0 dX6_nextKeys_4 rfl rfl ?_
      refine r_bipush K (v := 8) dX6_nextKeys_5 (by decide) ?_
      refine r_icmp_ge K 34 dX6_nextKeys_7 (by decide) (fun h_1 => ?_) (fun h_1 => ?_)
      · have nh_1 : 8 ≤ k := (nf_le rfl rfl (by omega) (by omega)).mp h_1
        refine r_iload_n K 1 dX6_nextKeys_34 rfl rfl ?_
        have hk8 : k = 8 := by omega
        subst hk8
        exact hr _ _ _ _ dX6_nextKeys_35 ⟨rfl, hSi⟩
      · have nh_1 : ¬ 8 ≤ k := mt (nf_le rfl rfl (by omega) (by omega)).mpr h_1
        refine r_iload_n K 1 dX6_nextKeys_10 rfl rfl ?_
        refine r_aload_n K 2 dX6_nextKeys_11 rfl rfl ?_
        refine r_iload_n K 0 dX6_nextKeys_12 rfl rfl ?_
        refine r_callVi K [.int (nI k)] [.int (ab_mask (ab_may A.2.1 A.1 (ab_ks A.1)) k)] dX6_nextKeys_13 mf_X6_mayBeNext rfl rfl qw_725 qw_727 qs_32 (cm_mayBeNext l g t Mi A hSi k (by omega)) rfl rfl (by decide) (Nat.le_of_ble_eq_true rfl) (fun r Mm hp => ?_)
        obtain ⟨hb, hg1, hkk⟩ := hp
        have hSm := m_S_k hSi hkk
        rcases hb with ⟨rfl, hmay⟩ | ⟨rfl, hmay⟩
        · refine r_if_eq K 25 dX6_nextKeys_16 (by decide) (fun h => absurd h (by decide)) (fun _ => ?_)
          refine r_iconst K (v := 1) dX6_nextKeys_19 (by decide) ?_
          refine r_iload_n K 0 dX6_nextKeys_20 rfl rfl ?_
          refine r_ishl K dX6_nextKeys_21 ?_
          refine r_goto K 26 dX6_nextKeys_22 (by decide) ?_
          refine r_ior K dX6_nextKeys_26 ?_
          refine r_top_eq (ab_mask (ab_may A.2.1 A.1 (ab_ks A.1)) (k + 1)) (if_pos hmay).symm ?_
          refine r_istore_n K [(1, .int (ab_mask (ab_may A.2.1 A.1 (ab_ks A.1)) (k + 1))), (2, .int (nI k)), (0, .ref (g.2.2 0))] dX6_nextKeys_27 rfl (by decide) rfl ?_
          refine r_iinc_n K 1 [(2, .int (nI (k + 1))), (1, .int (ab_mask (ab_may A.2.1 A.1 (ab_ks A.1)) (k + 1))), (0, .ref (g.2.2 0))] dX6_nextKeys_28 rfl (by decide) rfl ?_
          refine r_goto K 4 dX6_nextKeys_31 (by decide) ?_
          exact ih (k + 1) _ (by omega) (by omega) hSm
        · refine r_if_eq K 25 dX6_nextKeys_16 (by decide) (fun _ => ?_) (fun h => absurd h (by decide))
          refine r_iconst K (v := 0) dX6_nextKeys_25 (by decide) ?_
          refine r_ior K dX6_nextKeys_26 ?_
          refine r_top_eq (ab_mask (ab_may A.2.1 A.1 (ab_ks A.1)) (k + 1)) (Int32.or_zero.trans (if_neg hmay).symm) ?_
          refine r_istore_n K [(1, .int (ab_mask (ab_may A.2.1 A.1 (ab_ks A.1)) (k + 1))), (2, .int (nI k)), (0, .ref (g.2.2 0))] dX6_nextKeys_27 rfl (by decide) rfl ?_
          refine r_iinc_n K 1 [(2, .int (nI (k + 1))), (1, .int (ab_mask (ab_may A.2.1 A.1 (ab_ks A.1)) (k + 1))), (0, .ref (g.2.2 0))] dX6_nextKeys_28 rfl (by decide) rfl ?_
          refine r_goto K 4 dX6_nextKeys_31 (by decide) ?_
          exact ih (k + 1) _ (by omega) (by omega) hSm
  exact lp 9 0 M (by omega) (by omega) hS
set_option maxHeartbeats 4000000 in
set_option maxRecDepth 100000 in
theorem cm_allCosts (l : Launch) (g : rs_G) (t : Nat × Nat) (M : rs_M) (A : ab_S) (hS : m_S M A) : rs_Ci l g mk t yX6_allCosts cX6_allCosts 3 .int 4 [.ref (g.2.2 0)] M (fun r M1 => r = ab_whole A.2.1 A.1 (ab_ks A.1).length ∧ m_S M1 A) := by
  obtain ⟨hrow, hok, ht, h0, hun, hse, htx, him, hz⟩ := id hS
  have hn12 := hok.1
  refine rs_ofi (plainFor_of_name (by decide)) (Nat.le_of_ble_eq_true rfl) ?_
  intro Y K hr
  show Y M 0 [(0, .ref (g.2.2 0))] []
  refine r_aload_n K 0 dX6_allCosts_0 rfl rfl ?_
  refine r_aload_n K 0 dX6_allCosts_1 rfl rfl ?_
  refine r_getR K rfl rfl ff_6_now qw_545 dX6_allCosts_2 ?_
  refine r_aload_n K 0 dX6_allCosts_5 rfl rfl ?_
  refine r_getI K rfl rfl ff_6_taper qw_544 dX6_allCosts_6 ?_
  refine r_top_eq A.2.1 h0 ?_
  refine r_callVv K [.ref (g.2.2 1), .int A.2.1] [] dX6_allCosts_9 mf_X6_layRings rfl rfl qw_697 qw_699 qs_29 (cm_layRings l g t M 1 (Or.inl rfl) A.1 hok hrow hz A.2.1) rfl rfl (by decide) (Nat.le_of_ble_eq_true rfl) (fun Mr hp => ?_)
  obtain ⟨hp1, hp2⟩ := hp
  have hSr : m_S Mr A := m_S_k hS (m_k_fs hp2)
  have hrr := hSr.1
  refine r_iconst K (v := 0) dX6_allCosts_12 (by decide) ?_
  refine r_istore_n K [(1, .int 0), (0, .ref (g.2.2 0))] dX6_allCosts_13 rfl (by decide) rfl ?_
  refine r_iconst K (v := 1) dX6_allCosts_14 (by decide) ?_
  refine r_istore_n K [(2, .int 1), (1, .int 0), (0, .ref (g.2.2 0))] dX6_allCosts_15 rfl (by decide) rfl ?_
  have lp : ∀ (f : Nat) (i : Nat), (13 - i < f) → (i ≤ (ab_ks A.1).length) → Y Mr 16 [(2, .int (nI (i + 1))), (1, .int (ab_whole A.2.1 A.1 i)), (0, .ref (g.2.2 0))] [] := by
    intro f
    induction f with
    | zero =>
      intro i hf
      exact absurd hf (Nat.not_lt_zero _)
    | succ f ih =>
      intro i hf hi
      refine r_iload_n K 0 dX6_allCosts_16 rfl rfl ?_
      refine r_aload_n K 2 dX6_allCosts_17 rfl rfl ?_
      refine r_getR K rfl rfl ff_6_now qw_545 dX6_allCosts_18 ?_
      refine r_iconst K (v := 3) dX6_allCosts_21 (by decide) ?_
      refine r_iald K (j := 3) rfl rfl (by decide) (by decide) dX6_allCosts_22 ?_
      refine r_top_eq (nI (ab_ks A.1).length) hrr.2.2.2.1 ?_
      refine r_icmp_gt K 40 dX6_allCosts_23 (by decide) (fun h_1 => ?_) (fun h_1 => ?_)
      · have nh_1 : (ab_ks A.1).length < (i + 1) := (nf_lt rfl rfl (by omega) (by omega)).mp h_1
        refine r_iload_n K 1 dX6_allCosts_40 rfl rfl ?_
        have hin : i = (ab_ks A.1).length := by omega
        subst hin
        exact hr _ _ _ _ dX6_allCosts_41 ⟨rfl, hSr⟩
      · have nh_1 : ¬ (ab_ks A.1).length < (i + 1) := mt (nf_lt rfl rfl (by omega) (by omega)).mpr h_1
        refine r_iload_n K 1 dX6_allCosts_26 rfl rfl ?_
        refine r_aload_n K 2 dX6_allCosts_27 rfl rfl ?_
        refine r_iload_n K 0 dX6_allCosts_28 rfl rfl ?_
        refine r_callVi K [.int (nI (i + 1))] [.int (ab_whole A.2.1 A.1 i)] dX6_allCosts_29 mf_X6_costOf rfl rfl qw_737 qw_739 qs_35 (cm_costOf l g t Mr A.1 hok hrr (i + 1) (by omega)) rfl rfl (by decide) (Nat.le_of_ble_eq_true rfl) (fun r M1 hp => ?_)
        obtain ⟨hp, he⟩ := hp
        have he := he.symm
        subst he
        subst hp
        refine r_top_eq (ab_ringcost A.2.1 A.1 (i + 1)) (m_laid_cost hp1 (by omega)) ?_
        refine r_iadd K dX6_allCosts_32 ?_
        refine r_istore_n K [(1, .int ((ab_whole A.2.1 A.1 i) + (ab_ringcost A.2.1 A.1 (i + 1)))), (2, .int (nI (i + 1))), (0, .ref (g.2.2 0))] dX6_allCosts_33 rfl (by decide) rfl ?_
        refine r_iinc_n K 1 [(2, .int (nI (i + 1 + 1))), (1, .int ((ab_whole A.2.1 A.1 i) + (ab_ringcost A.2.1 A.1 (i + 1)))), (0, .ref (g.2.2 0))] dX6_allCosts_34 rfl (by decide) rfl ?_
        refine r_goto K 16 dX6_allCosts_37 (by decide) ?_
        exact ih (i + 1) (by omega) (by omega)
  exact lp 14 0 (by omega) (by omega)
set_option maxHeartbeats 4000000 in
set_option maxRecDepth 100000 in
theorem cm_count (l : Launch) (g : rs_G) (t : Nat × Nat) (M : rs_M) (A : ab_S) (hS : m_S M A) (w : Int32) : rs_Ci l g mk t yX6_count cX6_count 2 .int 6 [.ref (g.2.2 0), .int w] M (fun r M1 => m_R (ab_count A w, A) r M1) := by
  obtain ⟨hrow, hok, ht, h0, hun, hse, htx, him, hz⟩ := id hS
  have hn12 := hok.1
  obtain ⟨a, ha1, ha2, ha3, ha4, ha5⟩ := id hun
  refine rs_ofi (plainFor_of_name (by decide)) (Nat.le_of_ble_eq_true rfl) ?_
  intro Y K hr
  show Y M 0 [(0, .ref (g.2.2 0)), (1, .int w)] []
  refine r_iload_n K 1 dX6_count_0 rfl rfl ?_
  refine r_table K [(0, 56), (1, 63), (2, 68), (3, 75), (4, 82), (5, 89), (6, 94), (7, 99), (8, 104), (9, 109)] 114 dX6_count_1 (by decide) (by decide) (by decide) ?_
  simp only [rs_swp]
  refine ⟨fun h_1_0 => ?_, fun h_1_0 => ⟨fun h_1_1 => ?_, fun h_1_1 => ⟨fun h_1_2 => ?_, fun h_1_2 => ⟨fun h_1_3 => ?_, fun h_1_3 => ⟨fun h_1_4 => ?_, fun h_1_4 => ⟨fun h_1_5 => ?_, fun h_1_5 => ⟨fun h_1_6 => ?_, fun h_1_6 => ⟨fun h_1_7 => ?_, fun h_1_7 => ⟨fun h_1_8 => ?_, fun h_1_8 => ⟨fun h_1_9 => ?_, fun h_1_9 => ?_⟩⟩⟩⟩⟩⟩⟩⟩⟩⟩
  · refine r_aload_n K 0 dX6_count_56 rfl rfl ?_
    refine r_getR K rfl rfl ff_6_now qw_545 dX6_count_57 ?_
    refine r_iconst K (v := 3) dX6_count_60 (by decide) ?_
    refine r_iald K (j := 3) rfl rfl (by decide) (by decide) dX6_count_61 ?_
    refine r_top_eq (nI (ab_ks A.1).length) hrow.2.2.2.1 ?_
    exact hr _ _ _ _ dX6_count_62 ⟨by rw [ab_count, if_pos h_1_0], hS⟩
  · refine r_aload_n K 0 dX6_count_63 rfl rfl ?_
    refine r_getI K rfl rfl ff_6_taper qw_544 dX6_count_64 ?_
    refine r_top_eq A.2.1 h0 ?_
    exact hr _ _ _ _ dX6_count_67 ⟨by rw [ab_count, if_neg h_1_0, if_pos h_1_1], hS⟩
  · refine r_aload_n K 0 dX6_count_68 rfl rfl ?_
    refine r_getR K rfl rfl ff_6_now qw_545 dX6_count_69 ?_
    refine r_iconst K (v := 0) dX6_count_72 (by decide) ?_
    refine r_iald K (j := 0) rfl rfl (by decide) (by decide) dX6_count_73 ?_
    refine r_top_eq (nI (ab_bar A.1)) hrow.1 ?_
    exact hr _ _ _ _ dX6_count_74 ⟨by rw [ab_count, if_neg h_1_0, if_neg h_1_1, if_pos h_1_2], hS⟩
  · refine r_aload_n K 0 dX6_count_75 rfl rfl ?_
    refine r_getR K rfl rfl ff_6_now qw_545 dX6_count_76 ?_
    refine r_iconst K (v := 1) dX6_count_79 (by decide) ?_
    refine r_iald K (j := 1) rfl rfl (by decide) (by decide) dX6_count_80 ?_
    refine r_top_eq (nI (ab_way A.1)) hrow.2.1 ?_
    exact hr _ _ _ _ dX6_count_81 ⟨by rw [ab_count, if_neg h_1_0, if_neg h_1_1, if_neg h_1_2, if_pos h_1_3], hS⟩
  · refine r_aload_n K 0 dX6_count_82 rfl rfl ?_
    refine r_getR K rfl rfl ff_6_now qw_545 dX6_count_83 ?_
    refine r_iconst K (v := 2) dX6_count_86 (by decide) ?_
    refine r_iald K (j := 2) rfl rfl (by decide) (by decide) dX6_count_87 ?_
    refine r_top_eq (nI (ab_tail A.1)) hrow.2.2.1 ?_
    exact hr _ _ _ _ dX6_count_88 ⟨by rw [ab_count, if_neg h_1_0, if_neg h_1_1, if_neg h_1_2, if_neg h_1_3, if_pos h_1_4], hS⟩
  · refine r_aload_n K 0 dX6_count_89 rfl rfl ?_
    refine r_callVi K [] [] dX6_count_90 mf_X6_nextKeys rfl rfl qw_818 qw_820 qs_38 (cm_nextKeys l g t M A hS) rfl rfl (by decide) (Nat.le_of_ble_eq_true rfl) (fun r M2 hp => ?_)
    obtain ⟨rfl, hS2⟩ := hp
    exact hr _ _ _ _ dX6_count_93 ⟨by rw [ab_count, if_neg h_1_0, if_neg h_1_1, if_neg h_1_2, if_neg h_1_3, if_neg h_1_4, if_pos h_1_5], hS2⟩
  · refine r_aload_n K 0 dX6_count_94 rfl rfl ?_
    refine r_callVi K [] [] dX6_count_95 mf_X6_allCosts rfl rfl qw_822 qw_824 qs_39 (cm_allCosts l g t M A hS) rfl rfl (by decide) (Nat.le_of_ble_eq_true rfl) (fun r M2 hp => ?_)
    obtain ⟨rfl, hS2⟩ := hp
    exact hr _ _ _ _ dX6_count_98 ⟨by rw [ab_count, if_neg h_1_0, if_neg h_1_1, if_neg h_1_2, if_neg h_1_3, if_neg h_1_4, if_neg h_1_5, if_pos h_1_6], hS2⟩
  · refine r_aload_n K 0 dX6_count_99 rfl rfl ?_
    refine r_getI K rfl rfl ff_6_seenMany qw_549 dX6_count_100 ?_
    refine r_top_eq (nI A.2.2.2.1.length) hse.1 ?_
    exact hr _ _ _ _ dX6_count_103 ⟨by rw [ab_count, if_neg h_1_0, if_neg h_1_1, if_neg h_1_2, if_neg h_1_3, if_neg h_1_4, if_neg h_1_5, if_neg h_1_6, if_pos h_1_7], hS⟩
  · refine r_aload_n K 0 dX6_count_104 rfl rfl ?_
    refine r_getI K rfl rfl ff_6_letterMany qw_559 dX6_count_105 ?_
    refine r_top_eq (nI A.2.2.2.2.1.length) htx.1 ?_
    exact hr _ _ _ _ dX6_count_108 ⟨by rw [ab_count, if_neg h_1_0, if_neg h_1_1, if_neg h_1_2, if_neg h_1_3, if_neg h_1_4, if_neg h_1_5, if_neg h_1_6, if_neg h_1_7, if_pos h_1_8], hS⟩
  · refine r_aload_n K 0 dX6_count_109 rfl rfl ?_
    refine r_getI K rfl rfl ff_6_undoMany qw_546 dX6_count_110 ?_
    refine r_top_eq (nI A.2.2.1.length) ha3 ?_
    exact hr _ _ _ _ dX6_count_113 ⟨by rw [ab_count, if_neg h_1_0, if_neg h_1_1, if_neg h_1_2, if_neg h_1_3, if_neg h_1_4, if_neg h_1_5, if_neg h_1_6, if_neg h_1_7, if_neg h_1_8, if_pos h_1_9], hS⟩
  · refine r_iconst K (v := (-1)) dX6_count_114 (by decide) ?_
    exact hr _ _ _ _ dX6_count_115 ⟨by rw [ab_count, if_neg h_1_0, if_neg h_1_1, if_neg h_1_2, if_neg h_1_3, if_neg h_1_4, if_neg h_1_5, if_neg h_1_6, if_neg h_1_7, if_neg h_1_8, if_neg h_1_9], hS⟩
