/-! the reference's state -/
def m_und (M : rs_M) (us : List ab_L) : Prop := ∃ a, a < 12 ∧ M 0 3 = nI a ∧ M 0 2 = nI us.length ∧ us.length ≤ 12 ∧ ∀ i u, us[i]? = some u → ab_ok u ∧ m_row (fun k => M 2 (53 * ((a + 11 - i) % 12) + k)) u
def m_seen (M : rs_M) (sn : List (Int32 × Int32)) : Prop := M 0 5 = nI sn.length ∧ sn.length ≤ 4 ∧ ∀ i, i < sn.length → M 3 i = (sn.getD i (0, 0)).1 ∧ M 4 i = (sn.getD i (0, 0)).2
def m_text (M : rs_M) (tx : List Int32) : Prop := M 0 15 = nI tx.length ∧ tx.length ≤ 120 ∧ ∀ i, i < tx.length → M 12 i = tx.getD i 0 ∧ 0 ≤ (tx.getD i 0).toInt ∧ (tx.getD i 0).toInt ≤ 255
def m_im1 (M : rs_M) (i : Nat) (o : Option ab_L) : Prop := match o with
  | none => M 5 i = 0
  | some L => M 5 i = 1 ∧ ab_ok L ∧ m_row (fun k => M 6 (53 * i + k)) L
def m_im (M : rs_M) (im : Nat → Option ab_L) : Prop := m_im1 M 0 (im 0) ∧ m_im1 M 1 (im 1)
def m_S (M : rs_M) (A : ab_S) : Prop := m_row (M 1) A.1 ∧ ab_ok A.1 ∧ ab_tp A.2.1 ∧ M 0 0 = A.2.1 ∧ m_und M A.2.2.1 ∧ m_seen M A.2.2.2.1 ∧ m_text M A.2.2.2.2.1 ∧ m_im M A.2.2.2.2.2 ∧ m_z M
def m_R (q : Int32 × ab_S) (r : Int32) (M1 : rs_M) : Prop := r = q.1 ∧ m_S M1 q.2
/-- nothing that the state is made of changes -/
def m_k (M M1 : rs_M) : Prop := (∀ c, (1 ≤ c ∧ c ≤ 6) ∨ c = 12 → M1 c = M c) ∧ (∀ j, j = 0 ∨ j = 2 ∨ j = 3 ∨ j = 5 ∨ j = 15 → M1 0 j = M 0 j) ∧ ∀ c, 8 ≤ c → c ≤ 11 → M1 c 0 = M c 0
theorem m_k_fs {M M1 : rs_M} (h : m_fs M M1 1) : m_k M M1 := ⟨fun c hc => h.1 c (by omega), fun j _ => by rw [h.1 0 (by omega)], fun c c1 c2 => h.2 c 0 (by omega) c2 (by omega)⟩
theorem m_k_tr {M M1 M2 : rs_M} (h : m_k M M1) (h2 : m_k M1 M2) : m_k M M2 := ⟨fun c hc => (h2.1 c hc).trans (h.1 c hc), fun j hj => (h2.2.1 j hj).trans (h.2.1 j hj), fun c c1 c2 => (h2.2.2 c c1 c2).trans (h.2.2 c c1 c2)⟩
theorem m_k_rf (M : rs_M) : m_k M M := ⟨fun _ _ => rfl, fun _ _ => rfl, fun _ _ _ => rfl⟩
theorem m_k_st {M : rs_M} {j : Nat} {v : Int32} (h : 16 ≤ j) : m_k M (rs_st M 0 j v) := ⟨fun c hc => rs_st_ne _ _ _ (by omega), fun k hk => rs_st_nk _ _ _ (by omega), fun c c1 c2 => by rw [rs_st_ne _ _ _ (by omega)]⟩
theorem m_und_fr {M M1 : rs_M} {us : List ab_L} (h : m_und M us) (e2 : M1 2 = M 2) (e0 : M1 0 2 = M 0 2) (e3 : M1 0 3 = M 0 3) : m_und M1 us := by
  obtain ⟨a, h1, h2, h3, h4, h5⟩ := h
  exact ⟨a, h1, by rw [e3]; exact h2, by rw [e0]; exact h3, h4, fun i u hi => ⟨(h5 i u hi).1, by rw [e2]; exact (h5 i u hi).2⟩⟩
theorem m_seen_fr {M M1 : rs_M} {sn : List (Int32 × Int32)} (h : m_seen M sn) (e0 : M1 0 5 = M 0 5) (e3 : M1 3 = M 3) (e4 : M1 4 = M 4) : m_seen M1 sn := by rw [m_seen, e0, e3, e4]; exact h
theorem m_text_fr {M M1 : rs_M} {tx : List Int32} (h : m_text M tx) (e0 : M1 0 15 = M 0 15) (e : M1 12 = M 12) : m_text M1 tx := by rw [m_text, e0, e]; exact h
theorem m_im1_fr {M M1 : rs_M} {i : Nat} {o : Option ab_L} (h : m_im1 M i o) (e5 : M1 5 = M 5) (e6 : M1 6 = M 6) : m_im1 M1 i o := by
  cases o with
  | none => show M1 5 i = 0; rw [e5]; exact h
  | some L => exact ⟨by rw [e5]; exact h.1, h.2.1, by rw [e6]; exact h.2.2⟩
theorem m_im_fr {M M1 : rs_M} {im : Nat → Option ab_L} (h : m_im M im) (e5 : M1 5 = M 5) (e6 : M1 6 = M 6) : m_im M1 im := ⟨m_im1_fr h.1 e5 e6, m_im1_fr h.2 e5 e6⟩
theorem m_z_fr {M M1 : rs_M} (h : m_z M) (e : ∀ c, 8 ≤ c → c ≤ 11 → M1 c 0 = M c 0) : m_z M1 := ⟨by rw [e 8 (by decide) (by decide)]; exact h.1, by rw [e 9 (by decide) (by decide)]; exact h.2.1, by rw [e 10 (by decide) (by decide)]; exact h.2.2.1, by rw [e 11 (by decide) (by decide)]; exact h.2.2.2⟩
theorem m_S_k {M M1 : rs_M} {A : ab_S} (h : m_S M A) (k : m_k M M1) : m_S M1 A := by
  obtain ⟨h1, h2, h3, h4, h5, h6, h7, h8, h9⟩ := h
  obtain ⟨k1, k2, k3⟩ := k
  exact ⟨by rw [k1 1 (by omega)]; exact h1, h2, h3, by rw [k2 0 (by omega)]; exact h4, m_und_fr h5 (k1 2 (by omega)) (k2 2 (by omega)) (k2 3 (by omega)), m_seen_fr h6 (k2 5 (by omega)) (k1 3 (by omega)) (k1 4 (by omega)), m_text_fr h7 (k2 15 (by omega)) (k1 12 (by omega)), m_im_fr h8 (k1 5 (by omega)) (k1 6 (by omega)), m_z_fr h9 k3⟩
theorem m_text_8 {M : rs_M} {tx : List Int32} (h : m_text M tx) : ab_tok8 tx := ⟨h.2.1, fun i hi => by
  obtain ⟨-, h1, h2⟩ := h.2.2 i hi
  have n0 : ¬ tx.getD i 0 < 0 := fun q => by
    rw [Int32.lt_iff_toInt_lt] at q
    have z : (0 : Int32).toInt = 0 := by decide
    omega
  obtain ⟨j, hj, e⟩ := nI_of n0
  have e2 : ab_ch tx i = j := by rw [ab_ch, e, nI_clamp hj]
  rw [e, nI_toInt hj] at h2
  exact ⟨by rw [e2]; exact e, by omega⟩⟩
theorem m_row_build {f : Nat → Int32} {L : ab_L} (h : m_row f L) (hn : (ab_ks L).length < 12) (k : Nat) : m_row (upd (upd f 3 (nI ((ab_ks L).length + 1))) (4 + ((ab_ks L).length + 1)) (nI k)) (ab_build L k) := by
  obtain ⟨h0, h1, h2, h3, h4, h5⟩ := h
  have hl : (ab_ks (ab_build L k)).length = (ab_ks L).length + 1 := by simp [ab_build, ab_ks]
  simp only [m_row, upd, hl]
  refine ⟨?_, ?_, ?_, ?_, fun i a b => ?_, fun p hp => ?_⟩
  · rw [if_neg (by omega), if_neg (by omega)]; exact h0
  · rw [if_neg (by omega), if_neg (by omega)]; exact h1
  · rw [if_neg (by omega), if_neg (by omega)]; exact h2
  · rw [if_neg (by omega)]; simp
  · show _ = nI ((ab_ks L ++ [k]).getD (i - 1) 0)
    by_cases e : i = (ab_ks L).length + 1
    · subst e
      rw [if_pos rfl]
      simp
    · rw [if_neg (by omega), if_neg (by omega), h4 i a (by omega)]
      have hlt : i - 1 < (ab_ks L).length := by omega
      simp [List.getElem?_append_left hlt]
  · rw [if_neg (by omega), if_neg (by omega), if_neg (by omega), if_neg (by omega)]; exact h5 p hp
theorem m_row_wish {f : Nat → Int32} {L : ab_L} (h : m_row f L) (hn : (ab_ks L).length ≤ 12) {p : Nat} (hp : p < 18) (x y : Int32) : m_row (upd (upd f (17 + p) x) (35 + p) y) (ab_setwish L p x y) := by
  obtain ⟨h0, h1, h2, h3, h4, h5⟩ := h
  refine ⟨?_, ?_, ?_, ?_, fun i a b => ?_, fun q hq => ?_⟩
  · simp only [upd]; rw [if_neg (by omega), if_neg (by omega)]; exact h0
  · simp only [upd]; rw [if_neg (by omega), if_neg (by omega)]; exact h1
  · simp only [upd]; rw [if_neg (by omega), if_neg (by omega)]; exact h2
  · simp only [upd]; rw [if_neg (by omega), if_neg (by omega)]; exact h3
  · have b : i ≤ (ab_ks L).length := b
    simp only [upd]; rw [if_neg (by omega), if_neg (by omega)]; exact h4 i a b
  · show upd (upd f (17 + p) x) (35 + p) y (17 + q) = upd (ab_wx L) p x q ∧ upd (upd f (17 + p) x) (35 + p) y (35 + q) = upd (ab_wy L) p y q
    simp only [upd]
    by_cases e : q = p
    · subst e
      rw [if_neg (by omega), if_pos rfl, if_pos rfl, if_pos rfl, if_pos rfl]; exact ⟨rfl, rfl⟩
    · rw [if_neg (by omega), if_neg (by omega), if_neg e, if_neg (by omega), if_neg (by omega), if_neg e]; exact h5 q hq
theorem m_row_rule {f : Nat → Int32} {L : ab_L} (h : m_row f L) {w : Nat} (hw : w ≤ 2) (v : Nat) : m_row (upd f w (nI v)) (ab_setrule L w v) := by
  obtain ⟨h0, h1, h2, h3, h4, h5⟩ := h
  have e : ∀ j, 3 ≤ j → upd f w (nI v) j = f j := fun j hj => by simp only [upd]; rw [if_neg (by omega)]
  rcases (show w = 0 ∨ w = 1 ∨ w = 2 by omega) with rfl | rfl | rfl
  · exact ⟨rfl, h1, h2, h3, fun i a b => by rw [e _ (by omega)]; exact h4 i a b, fun q hq => by rw [e _ (by omega), e _ (by omega)]; exact h5 q hq⟩
  · exact ⟨h0, rfl, h2, h3, fun i a b => by rw [e _ (by omega)]; exact h4 i a b, fun q hq => by rw [e _ (by omega), e _ (by omega)]; exact h5 q hq⟩
  · exact ⟨h0, h1, rfl, h3, fun i a b => by rw [e _ (by omega)]; exact h4 i a b, fun q hq => by rw [e _ (by omega), e _ (by omega)]; exact h5 q hq⟩
theorem x_min_1 {n : Nat} (h : n < 12) : min (n + 1) 12 = n + 1 := by omega
theorem x_min_2 {n : Nat} (h : n = 12) : min (n + 1) 12 = n := by omega
theorem m_und_push {M M1 : rs_M} {L : ab_L} {us : List ab_L} {a : Nat} (hok : ab_ok L) (hrow : m_row (M 1) L) (ha : a < 12) (h12 : us.length ≤ 12) (h5 : ∀ i u, us[i]? = some u → ab_ok u ∧ m_row (fun k => M 2 (53 * ((a + 11 - i) % 12) + k)) u) (e3 : M1 0 3 = nI ((a + 1) % 12)) (e2 : M1 0 2 = nI (min (us.length + 1) 12)) (h1 : ∀ k, k < 53 → M1 2 (53 * a + k) = M 1 k) (h2 : ∀ q, (q < 53 * a ∨ 53 * a + 53 ≤ q) → M1 2 q = M 2 q) : m_und M1 ((L :: us).take 12) := by
  have hlen : ((L :: us).take 12).length = min (us.length + 1) 12 := by rw [List.length_take, List.length_cons]; omega
  refine ⟨(a + 1) % 12, Nat.mod_lt _ (by decide), e3, by rw [hlen]; exact e2, by rw [hlen]; omega, fun i u hi => ?_⟩
  have hlt : i < min (us.length + 1) 12 := by rw [← hlen]; exact (List.getElem?_eq_some_iff.mp hi).1
  rw [List.getElem?_take_of_lt (by omega)] at hi
  cases i with
  | zero =>
    simp at hi
    subst hi
    refine ⟨hok, m_row_same hok.1 hrow (fun k hk => ?_)⟩
    show M1 2 (53 * (((a + 1) % 12 + 11 - 0) % 12) + k) = M 1 k
    rw [show ((a + 1) % 12 + 11 - 0) % 12 = a by omega]
    exact h1 k hk
  | succ i =>
    rw [List.getElem?_cons_succ] at hi
    obtain ⟨g1, g2⟩ := h5 i u hi
    refine ⟨g1, m_row_same g1.1 g2 (fun k hk => ?_)⟩
    show M1 2 (53 * (((a + 1) % 12 + 11 - (i + 1)) % 12) + k) = M 2 (53 * ((a + 11 - i) % 12) + k)
    rw [show ((a + 1) % 12 + 11 - (i + 1)) % 12 = (a + 11 - i) % 12 by omega]
    exact h2 _ (by omega)
set_option maxHeartbeats 4000000 in
set_option maxRecDepth 100000 in
theorem cm_remember (l : Launch) (g : rs_G) (t : Nat × Nat) (M : rs_M) (L : ab_L) (hok : ab_ok L) (hrow : m_row (M 1) L) (us : List ab_L) (hun : m_und M us) : rs_Cv l g mk t yX6_remember cX6_remember 2 0 [.ref (g.2.2 0)] M (fun M1 => m_und M1 ((L :: us).take 12) ∧ (∀ c, c ≠ 0 → c ≠ 2 → M1 c = M c) ∧ ∀ j, j ≠ 2 → j ≠ 3 → M1 0 j = M 0 j) := by
  obtain ⟨a, ha1, ha2, ha3, ha4, ha5⟩ := hun
  refine rs_ofv (plainFor_of_name (by decide)) (Nat.le_of_ble_eq_true rfl) ?_
  intro Y K hr
  show Y M 0 [(0, .ref (g.2.2 0))] []
  refine r_iconst K (v := 0) dX6_remember_0 (by decide) ?_
  refine r_istore_n K [(1, .int 0), (0, .ref (g.2.2 0))] dX6_remember_1 rfl (by decide) rfl ?_
  have lp : ∀ (f : Nat) (k : Nat) (Mi : rs_M), (53 - k < f) → (k ≤ 53) → ((∀ c, c ≠ 2 → Mi c = M c) ∧ (∀ q, q < k → Mi 2 (53 * a + q) = M 1 q) ∧ ∀ q, (q < 53 * a ∨ 53 * a + 53 ≤ q) → Mi 2 q = M 2 q) → Y Mi 2 [(1, .int (nI k)), (0, .ref (g.2.2 0))] [] := by
    intro f
    induction f with
    | zero =>
      intro k Mi hf
      exact absurd hf (Nat.not_lt_zero _)
    | succ f ih =>
      intro k Mi hf hk hI
      refine r_iload_n K 0 dX6_remember_2 rfl rfl ?_
      refine r_bipush K (v := 53) dX6_remember_3 (by decide) ?_
      refine r_icmp_ge K 34 dX6_remember_5 (by decide) (fun h_1 => ?_) (fun h_1 => ?_)
      · have nh_1 : 53 ≤ k := (nf_le rfl rfl (by omega) (by omega)).mp h_1
        refine r_aload_n K 1 dX6_remember_34 rfl rfl ?_
        refine r_aload_n K 1 dX6_remember_35 rfl rfl ?_
        refine r_getI K rfl rfl ff_6_undoAt qw_547 dX6_remember_36 ?_
        refine r_top_eq (nI a) (by rw [hI.1 0 (by decide)]; exact ha2) ?_
        refine r_iconst K (v := 1) dX6_remember_39 (by decide) ?_
        refine r_iadd K dX6_remember_40 ?_
        refine r_top_eq (nI (a + 1)) (nI_1 _) ?_
        refine r_bipush K (v := 12) dX6_remember_41 (by decide) ?_
        refine r_irem K dX6_remember_43 (by decide) ?_
        refine r_top_eq (nI ((a + 1) % 12)) (pk_rem (d := 12) (by omega) (by decide) (by decide)) ?_
        refine r_put K rfl rfl ff_6_undoAt qw_547 rfl rfl dX6_remember_44 ?_
        refine r_aload_n K 1 dX6_remember_47 rfl rfl ?_
        refine r_dup K dX6_remember_48 rfl ?_
        refine r_getI K rfl rfl ff_6_undoMany qw_546 dX6_remember_49 ?_
        refine r_top_eq (nI us.length) (by rw [rs_st_nk _ _ _ (by decide), hI.1 0 (by decide)]; exact ha3) ?_
        refine r_aload_n K 1 dX6_remember_52 rfl rfl ?_
        refine r_getI K rfl rfl ff_6_undoMany qw_546 dX6_remember_53 ?_
        refine r_top_eq (nI us.length) (by rw [rs_st_nk _ _ _ (by decide), hI.1 0 (by decide)]; exact ha3) ?_
        refine r_bipush K (v := 12) dX6_remember_56 (by decide) ?_
        refine r_icmp_ge K 65 dX6_remember_58 (by decide) (fun h_2 => ?_) (fun h_2 => ?_)
        · have nh_2 : 12 ≤ us.length := (nf_le rfl rfl (by omega) (by omega)).mp h_2
          refine r_iconst K (v := 0) dX6_remember_65 (by decide) ?_
          refine r_iadd K dX6_remember_66 ?_
          refine r_put K rfl rfl ff_6_undoMany qw_546 rfl rfl dX6_remember_67 ?_
          have hk53 : k = 53 := by omega
          subst hk53
          refine hr _ _ _ dX6_remember_70 ⟨m_und_push hok hrow ha1 ha4 ha5 (by rw [rs_st_nk _ _ _ (by decide), rs_st_eq]) (by rw [rs_st_eq]; exact (by rw [x_min_2 (by omega), Int32.add_zero])) (fun k hk => by rw [rs_st_ne _ _ _ (by decide), rs_st_ne _ _ _ (by decide)]; exact hI.2.1 k hk) (fun q hq => by rw [rs_st_ne _ _ _ (by decide), rs_st_ne _ _ _ (by decide)]; exact hI.2.2 q hq), fun c c0 c2 => by rw [rs_st_ne _ _ _ c0, rs_st_ne _ _ _ c0]; exact hI.1 c c2, fun j j2 j3 => by rw [rs_st_nk _ _ _ j2, rs_st_nk _ _ _ j3, hI.1 0 (by decide)]⟩
        · have nh_2 : ¬ 12 ≤ us.length := mt (nf_le rfl rfl (by omega) (by omega)).mpr h_2
          refine r_iconst K (v := 1) dX6_remember_61 (by decide) ?_
          refine r_goto K 66 dX6_remember_62 (by decide) ?_
          refine r_iadd K dX6_remember_66 ?_
          refine r_put K rfl rfl ff_6_undoMany qw_546 rfl rfl dX6_remember_67 ?_
          have hk53 : k = 53 := by omega
          subst hk53
          refine hr _ _ _ dX6_remember_70 ⟨m_und_push hok hrow ha1 ha4 ha5 (by rw [rs_st_nk _ _ _ (by decide), rs_st_eq]) (by rw [rs_st_eq]; exact (by rw [x_min_1 (by omega)]; exact nI_1 _)) (fun k hk => by rw [rs_st_ne _ _ _ (by decide), rs_st_ne _ _ _ (by decide)]; exact hI.2.1 k hk) (fun q hq => by rw [rs_st_ne _ _ _ (by decide), rs_st_ne _ _ _ (by decide)]; exact hI.2.2 q hq), fun c c0 c2 => by rw [rs_st_ne _ _ _ c0, rs_st_ne _ _ _ c0]; exact hI.1 c c2, fun j j2 j3 => by rw [rs_st_nk _ _ _ j2, rs_st_nk _ _ _ j3, hI.1 0 (by decide)]⟩
      · have nh_1 : ¬ 53 ≤ k := mt (nf_le rfl rfl (by omega) (by omega)).mpr h_1
        refine r_aload_n K 1 dX6_remember_8 rfl rfl ?_
        refine r_getR K rfl rfl ff_6_undos qw_548 dX6_remember_9 ?_
        refine r_bipush K (v := 53) dX6_remember_12 (by decide) ?_
        refine r_aload_n K 1 dX6_remember_14 rfl rfl ?_
        refine r_getI K rfl rfl ff_6_undoAt qw_547 dX6_remember_15 ?_
        refine r_top_eq (nI a) (by rw [hI.1 0 (by decide)]; exact ha2) ?_
        refine r_imul K dX6_remember_18 ?_
        refine r_top_eq (nI (53 * a)) (pk_mul 53 a) ?_
        refine r_iload_n K 0 dX6_remember_19 rfl rfl ?_
        refine r_iadd K dX6_remember_20 ?_
        refine r_top_eq (nI (53 * a + k)) (nI_add _ _) ?_
        refine r_aload_n K 1 dX6_remember_21 rfl rfl ?_
        refine r_getR K rfl rfl ff_6_now qw_545 dX6_remember_22 ?_
        refine r_iload_n K 0 dX6_remember_25 rfl rfl ?_
        refine r_iald K (j := k) rfl rfl (by omega) (by decide) dX6_remember_26 ?_
        refine r_top_eq (M 1 k) (by rw [hI.1 1 (by decide)]) ?_
        refine r_iast K (j := 53 * a + k) rfl rfl (by omega) (by decide) dX6_remember_27 ?_
        refine r_iinc_n K 0 [(1, .int (nI (k + 1))), (0, .ref (g.2.2 0))] dX6_remember_28 rfl (by decide) rfl ?_
        refine r_goto K 2 dX6_remember_31 (by decide) ?_
        exact ih (k + 1) _ (by omega) (by omega) ⟨fun c hc => by rw [rs_st_ne _ _ _ hc]; exact hI.1 c hc, fun q hq => by
          by_cases e : q = k
          · subst e; rw [rs_st_eq]
          · rw [rs_st_nk _ _ _ (by omega)]; exact hI.2.1 q (by omega), fun q hq => by rw [rs_st_nk _ _ _ (by omega)]; exact hI.2.2 q hq⟩
  exact lp 54 0 M (by omega) (by omega) ⟨fun _ _ => rfl, fun q hq => absurd hq (Nat.not_lt_zero _), fun _ _ => rfl⟩
theorem m_last {M : rs_M} {tp : Int32} {ks : List Nat} (h : m_laid M tp ks ks.length) {j : Nat} (hj : ks.getLast? = some j) : M 7 ks.length = nI j := by
  have hne : 0 < ks.length := by
    cases ks with
    | nil => simp at hj
    | cons a l => simp
  rw [(h _ (Nat.le_refl _)).2 hne]
  rw [List.getLast?_eq_getElem?] at hj
  rw [List.getD, hj]; rfl
set_option maxHeartbeats 4000000 in
set_option maxRecDepth 100000 in
theorem cm_mayBeNext (l : Launch) (g : rs_G) (t : Nat × Nat) (M : rs_M) (A : ab_S) (hS : m_S M A) (k : Nat) (hk : k < 8) : rs_Ci l g mk t yX6_mayBeNext cX6_mayBeNext 2 .boolean 4 [.ref (g.2.2 0), .int (nI k)] M (fun r M1 => ab_b01 r (ab_may A.2.1 A.1 (ab_ks A.1) k) ∧ m_g M1 ((ab_ks A.1).length + 1) (ab_geo A.2.1 (ab_ks A.1 ++ [k])) ∧ m_k M M1) := by
  obtain ⟨hrow, hok, ht, h0, hun, hse, htx, him, hz⟩ := id hS
  have hn12 := hok.1
  refine rs_ofz (plainFor_of_name (by decide)) (Nat.le_of_ble_eq_true rfl) ?_
  intro Y K hr
  show Y M 0 [(0, .ref (g.2.2 0)), (1, .int (nI k))] []
  refine r_aload_n K 0 dX6_mayBeNext_0 rfl rfl ?_
  refine r_aload_n K 0 dX6_mayBeNext_1 rfl rfl ?_
  refine r_getR K rfl rfl ff_6_now qw_545 dX6_mayBeNext_2 ?_
  refine r_aload_n K 0 dX6_mayBeNext_5 rfl rfl ?_
  refine r_getI K rfl rfl ff_6_taper qw_544 dX6_mayBeNext_6 ?_
  refine r_top_eq A.2.1 h0 ?_
  refine r_callVv K [.ref (g.2.2 1), .int A.2.1] [] dX6_mayBeNext_9 mf_X6_layRings rfl rfl qw_697 qw_699 qs_29 (cm_layRings l g t M 1 (Or.inl rfl) A.1 hok hrow hz A.2.1) rfl rfl (by decide) (Nat.le_of_ble_eq_true rfl) (fun Mr hp => ?_)
  obtain ⟨hp1, hp2⟩ := hp
  refine r_aload_n K 0 dX6_mayBeNext_12 rfl rfl ?_
  refine r_aload_n K 0 dX6_mayBeNext_13 rfl rfl ?_
  refine r_getR K rfl rfl ff_6_now qw_545 dX6_mayBeNext_14 ?_
  refine r_aload_n K 0 dX6_mayBeNext_17 rfl rfl ?_
  refine r_getR K rfl rfl ff_6_now qw_545 dX6_mayBeNext_18 ?_
  refine r_iconst K (v := 3) dX6_mayBeNext_21 (by decide) ?_
  refine r_iald K (j := 3) rfl rfl (by decide) (by decide) dX6_mayBeNext_22 ?_
  refine r_top_eq (nI (ab_ks A.1).length) (by rw [hp2.1 1 (by decide)]; exact hrow.2.2.2.1) ?_
  refine r_iconst K (v := 1) dX6_mayBeNext_23 (by decide) ?_
  refine r_iadd K dX6_mayBeNext_24 ?_
  refine r_top_eq (nI ((ab_ks A.1).length + 1)) (nI_1 _) ?_
  refine r_iload_n K 1 dX6_mayBeNext_25 rfl rfl ?_
  refine r_aload_n K 0 dX6_mayBeNext_26 rfl rfl ?_
  refine r_getI K rfl rfl ff_6_taper qw_544 dX6_mayBeNext_27 ?_
  refine r_top_eq A.2.1 (by rw [hp2.1 0 (by decide)]; exact h0) ?_
  have hgl : m_g Mr (ab_ks A.1).length (ab_geo A.2.1 (ab_ks A.1)) := by have := (hp1 _ (Nat.le_refl _)).1; rwa [List.take_length] at this
  have hk7 : ∀ j, (ab_ks A.1).getLast? = some j → Mr 7 (ab_ks A.1).length = nI j := fun j hj => m_last hp1 hj
  refine r_callVi K [.ref (g.2.2 1), .int (nI ((ab_ks A.1).length + 1)), .int (nI k), .int A.2.1] [] dX6_mayBeNext_30 mf_X6_mayBe rfl rfl qw_711 qw_713 qs_31 (cm_mayBe l g t Mr 1 (Or.inl rfl) A.1 hok (by rw [hp2.1 1 (by decide)]; exact hrow) A.2.1 (ab_ks A.1) (ab_ks A.1).length rfl (by omega) hok.2.1 hgl (fun j hj => hk7 j hj) k hk) rfl rfl (by decide) (Nat.le_of_ble_eq_true rfl) (fun r M1 hp => ?_)
  obtain ⟨hb, hg1, hg2, hg3⟩ := hp
  have hkk : m_k M M1 := m_k_tr (m_k_fs hp2) (m_k_fs (m_fs_mono hg3 (by omega)))
  have h01 : r = 0 ∨ r = 1 := hb.elim (fun q => Or.inr q.1) (fun q => Or.inl q.1)
  exact hr _ _ _ _ dX6_mayBeNext_33 h01 ⟨hb, hg1, hkk⟩
set_option maxHeartbeats 4000000 in
set_option maxRecDepth 100000 in
theorem cm_laysKey (l : Launch) (g : rs_G) (t : Nat × Nat) (M : rs_M) (A : ab_S) (hS : m_S M A) (hn : (ab_ks A.1).length < 12) (k : Nat) (hk : k < 8) : rs_Cv l g mk t yX6_laysKey cX6_laysKey 2 1 [.ref (g.2.2 0), .int (nI k)] M (fun M1 => m_S M1 (ab_done A k) ∧ (∀ c, 7 ≤ c → c ≤ 11 → M1 c = M c)) := by
  obtain ⟨hrow, hok, ht, h0, hun, hse, htx, him, hz⟩ := id hS
  have hn12 := hok.1
  refine rs_ofv (plainFor_of_name (by decide)) (Nat.le_of_ble_eq_true rfl) ?_
  intro Y K hr
  show Y M 0 [(0, .ref (g.2.2 0)), (1, .int (nI k))] []
  refine r_aload_n K 0 dX6_laysKey_0 rfl rfl ?_
  refine r_callVv K [] [] dX6_laysKey_1 mf_X6_remember rfl rfl qw_733 qw_735 qs_34 (cm_remember l g t M A.1 hok hrow A.2.2.1 hun) rfl rfl (by decide) (Nat.le_of_ble_eq_true rfl) (fun Mr hp => ?_)
  obtain ⟨hp1, hp2, hp3⟩ := hp
  refine r_aload_n K 0 dX6_laysKey_4 rfl rfl ?_
  refine r_getR K rfl rfl ff_6_now qw_545 dX6_laysKey_5 ?_
  refine r_iconst K (v := 3) dX6_laysKey_8 (by decide) ?_
  refine r_dup2 K dX6_laysKey_9 rfl rfl ?_
  refine r_iald K (j := 3) rfl rfl (by decide) (by decide) dX6_laysKey_10 ?_
  refine r_top_eq (nI (ab_ks A.1).length) (by rw [hp2 1 (by decide) (by decide)]; exact hrow.2.2.2.1) ?_
  refine r_iconst K (v := 1) dX6_laysKey_11 (by decide) ?_
  refine r_iadd K dX6_laysKey_12 ?_
  refine r_top_eq (nI ((ab_ks A.1).length + 1)) (nI_1 _) ?_
  refine r_iast K (j := 3) rfl rfl (by decide) (by decide) dX6_laysKey_13 ?_
  refine r_aload_n K 0 dX6_laysKey_14 rfl rfl ?_
  refine r_getR K rfl rfl ff_6_now qw_545 dX6_laysKey_15 ?_
  refine r_iconst K (v := 4) dX6_laysKey_18 (by decide) ?_
  refine r_aload_n K 0 dX6_laysKey_19 rfl rfl ?_
  refine r_getR K rfl rfl ff_6_now qw_545 dX6_laysKey_20 ?_
  refine r_iconst K (v := 3) dX6_laysKey_23 (by decide) ?_
  refine r_iald K (j := 3) rfl rfl (by decide) (by decide) dX6_laysKey_24 ?_
  refine r_top_eq (nI ((ab_ks A.1).length + 1)) (by rw [rs_st_eq]) ?_
  refine r_iadd K dX6_laysKey_25 ?_
  refine r_iload_n K 1 dX6_laysKey_26 rfl rfl ?_
  refine r_iast K (j := 4 + ((ab_ks A.1).length + 1)) rfl (nI_add 4 _) (by omega) (by decide) dX6_laysKey_27 ?_
  have e1 : (rs_st (rs_st Mr 1 3 (nI ((ab_ks A.1).length + 1))) 1 (4 + ((ab_ks A.1).length + 1)) (nI k)) 1 = upd (upd (M 1) 3 (nI ((ab_ks A.1).length + 1))) (4 + ((ab_ks A.1).length + 1)) (nI k) := by rw [rs_st_row, rs_st_row, hp2 1 (by decide) (by decide)]
  have ec : ∀ c, c ≠ 1 → (rs_st (rs_st Mr 1 3 (nI ((ab_ks A.1).length + 1))) 1 (4 + ((ab_ks A.1).length + 1)) (nI k)) c = Mr c := fun c hc => by rw [rs_st_ne _ _ _ hc, rs_st_ne _ _ _ hc]
  exact hr _ _ _ dX6_laysKey_28 ⟨⟨by rw [e1]; exact m_row_build hrow hn k, ab_ok_build hok hn hk, ht, by rw [ec 0 (by decide), hp3 0 (by decide) (by decide)]; exact h0, m_und_fr hp1 (ec 2 (by decide)) (by rw [ec 0 (by decide)]) (by rw [ec 0 (by decide)]), m_seen_fr hse (by rw [ec 0 (by decide), hp3 5 (by decide) (by decide)]) (by rw [ec 3 (by decide), hp2 3 (by decide) (by decide)]) (by rw [ec 4 (by decide), hp2 4 (by decide) (by decide)]), m_text_fr htx (by rw [ec 0 (by decide), hp3 15 (by decide) (by decide)]) (by rw [ec 12 (by decide), hp2 12 (by decide) (by decide)]), m_im_fr him (by rw [ec 5 (by decide), hp2 5 (by decide) (by decide)]) (by rw [ec 6 (by decide), hp2 6 (by decide) (by decide)]), m_z_fr hz (fun c c1 c2 => by rw [ec c (by omega), hp2 c (by omega) (by omega)])⟩, fun c c1 c2 => by rw [ec c (by omega), hp2 c (by omega) (by omega)]⟩
set_option maxHeartbeats 4000000 in
set_option maxRecDepth 100000 in
theorem cm_builds (l : Launch) (g : rs_G) (t : Nat × Nat) (M : rs_M) (A : ab_S) (hS : m_S M A) (k : Int32) : rs_Ci l g mk t yX6_builds cX6_builds 2 .int 5 [.ref (g.2.2 0), .int k] M (fun r M1 => m_R (ab_builds A k) r M1) := by
  obtain ⟨hrow, hok, ht, h0, hun, hse, htx, him, hz⟩ := id hS
  have hn12 := hok.1
  refine rs_ofi (plainFor_of_name (by decide)) (Nat.le_of_ble_eq_true rfl) ?_
  intro Y K hr
  show Y M 0 [(0, .ref (g.2.2 0)), (1, .int k)] []
  refine r_iload_n K 1 dX6_builds_0 rfl rfl ?_
  refine r_iconst K (v := 0) dX6_builds_1 (by decide) ?_
  refine r_bipush K (v := 7) dX6_builds_2 (by decide) ?_
  refine r_callSi K [.int k, .int 0, .int 7] [] dX6_builds_4 mf_X6_in qw_636 qw_637 (cm_in l g t M k 0 7) rfl rfl (by decide) (Nat.le_of_ble_eq_true rfl) (fun r M1 hp => ?_)
  obtain ⟨hp, he⟩ := hp
  have he := he.symm
  subst he
  rcases hp with ⟨rfl, hb_1⟩ | ⟨rfl, hb_1⟩
  · refine r_if_ne K 12 dX6_builds_7 (by decide) (fun _ => ?_) (fun h => absurd h (by decide))
    obtain ⟨j, hj1, hj2, rfl⟩ := x_nat (a := 0) (b := 7) hb_1 (by omega) (by omega)
    have jc : (nI j).toNatClampNeg = j := nI_clamp (by omega)
    refine r_aload_n K 0 dX6_builds_12 rfl rfl ?_
    refine r_getR K rfl rfl ff_6_now qw_545 dX6_builds_13 ?_
    refine r_iconst K (v := 3) dX6_builds_16 (by decide) ?_
    refine r_iald K (j := 3) rfl rfl (by decide) (by decide) dX6_builds_17 ?_
    refine r_top_eq (nI (ab_ks A.1).length) hrow.2.2.2.1 ?_
    refine r_bipush K (v := 12) dX6_builds_18 (by decide) ?_
    refine r_icmp_ne K 26 dX6_builds_20 (by decide) (fun h_2 => ?_) (fun h_2 => ?_)
    · have nh_2 : ¬ (ab_ks A.1).length = 12 := mt (nf_eq rfl rfl (by omega) (by omega)).mpr h_2
      refine r_aload_n K 0 dX6_builds_26 rfl rfl ?_
      refine r_iload_n K 1 dX6_builds_27 rfl rfl ?_
      refine r_callVi K [.int (nI j)] [] dX6_builds_28 mf_X6_mayBeNext rfl rfl qw_725 qw_727 qs_32 (cm_mayBeNext l g t M A hS j (by omega)) rfl rfl (by decide) (Nat.le_of_ble_eq_true rfl) (fun r Mm hp => ?_)
      obtain ⟨hb, hg1, hkk⟩ := hp
      have hSm := m_S_k hS hkk
      rcases hb with ⟨rfl, hmay⟩ | ⟨rfl, hmay⟩
      · refine r_if_ne K 37 dX6_builds_31 (by decide) (fun _ => ?_) (fun h => absurd h (by decide))
        refine r_aload_n K 0 dX6_builds_37 rfl rfl ?_
        refine r_iload_n K 1 dX6_builds_38 rfl rfl ?_
        refine r_callVv K [.int (nI j)] [] dX6_builds_39 mf_X6_laysKey rfl rfl qw_729 qw_731 qs_33 (cm_laysKey l g t Mm A hSm (by omega) j (by omega)) rfl rfl (by decide) (Nat.le_of_ble_eq_true rfl) (fun M1 hp => ?_)
        obtain ⟨hp1, hp2⟩ := hp
        refine r_aload_n K 0 dX6_builds_42 rfl rfl ?_
        refine r_aload_n K 0 dX6_builds_43 rfl rfl ?_
        refine r_getR K rfl rfl ff_6_now qw_545 dX6_builds_44 ?_
        refine r_iconst K (v := 3) dX6_builds_47 (by decide) ?_
        refine r_iald K (j := 3) rfl rfl (by decide) (by decide) dX6_builds_48 ?_
        refine r_top_eq (nI ((ab_ks A.1).length + 1)) (by rw [hp1.1.2.2.2.1]; simp [ab_done, ab_build, ab_ks]) ?_
        refine r_callVi K [.int (nI ((ab_ks A.1).length + 1))] [] dX6_builds_49 mf_X6_costOf rfl rfl qw_737 qw_739 qs_35 (cm_costOf l g t M1 (ab_build A.1 j) hp1.2.1 hp1.1 ((ab_ks A.1).length + 1) (by omega)) rfl rfl (by decide) (Nat.le_of_ble_eq_true rfl) (fun r M9 hp9 => ?_)
        obtain ⟨hp9, he⟩ := hp9
        have he := he.symm
        subst he
        subst hp9
        refine r_top_eq (ab_lcost A.2.1 A.1 (ab_ks A.1 ++ [j])) (by rw [hp2 10 (by decide) (by decide), hp2 11 (by decide) (by decide), hg1.2.2.1, hg1.2.2.2]; simp [ab_lcost]; rfl) ?_
        have e : ab_builds A (nI j) = (ab_lcost A.2.1 A.1 (ab_ks A.1 ++ [j]), ab_done A j) := by rw [ab_builds, ab_if_pos hb_1, ab_if_pos (by omega), jc, ab_if_pos hmay]
        exact hr _ _ _ _ dX6_builds_52 (by rw [e]; exact ⟨rfl, hp1⟩)
      · refine r_if_ne K 37 dX6_builds_31 (by decide) (fun h => absurd h (by decide)) (fun _ => ?_)
        refine r_bipush K (v := (-2)) dX6_builds_34 (by decide) ?_
        have e : ab_builds A (nI j) = (-2, A) := by rw [ab_builds, ab_if_pos hb_1, ab_if_pos (by omega), jc, ab_if_neg hmay]
        exact hr _ _ _ _ dX6_builds_36 (by rw [e]; exact ⟨rfl, hSm⟩)
    · have nh_2 : (ab_ks A.1).length = 12 := (nf_eq rfl rfl (by omega) (by omega)).mp h_2
      refine r_bipush K (v := (-3)) dX6_builds_23 (by decide) ?_
      have e : ab_builds A (nI j) = (-3, A) := by rw [ab_builds, ab_if_pos hb_1, ab_if_neg (by omega)]
      exact hr _ _ _ _ dX6_builds_25 (by rw [e]; exact ⟨rfl, hS⟩)
  · refine r_if_ne K 12 dX6_builds_7 (by decide) (fun h => absurd h (by decide)) (fun _ => ?_)
    refine r_iconst K (v := (-1)) dX6_builds_10 (by decide) ?_
    have e : ab_builds A k = (-1, A) := by rw [ab_builds, ab_if_neg hb_1]
    exact hr _ _ _ _ dX6_builds_11 (by rw [e]; exact ⟨rfl, hS⟩)
set_option maxHeartbeats 4000000 in
set_option maxRecDepth 100000 in
theorem cm_trying (l : Launch) (g : rs_G) (t : Nat × Nat) (M : rs_M) (A : ab_S) (hS : m_S M A) (k : Int32) : rs_Ci l g mk t yX6_trying cX6_trying 2 .int 5 [.ref (g.2.2 0), .int k] M (fun r M1 => m_R (ab_trying A k, A) r M1) := by
  obtain ⟨hrow, hok, ht, h0, hun, hse, htx, him, hz⟩ := id hS
  have hn12 := hok.1
  refine rs_ofi (plainFor_of_name (by decide)) (Nat.le_of_ble_eq_true rfl) ?_
  intro Y K hr
  show Y M 0 [(0, .ref (g.2.2 0)), (1, .int k)] []
  refine r_iload_n K 1 dX6_trying_0 rfl rfl ?_
  refine r_iconst K (v := 0) dX6_trying_1 (by decide) ?_
  refine r_bipush K (v := 7) dX6_trying_2 (by decide) ?_
  refine r_callSi K [.int k, .int 0, .int 7] [] dX6_trying_4 mf_X6_in qw_636 qw_637 (cm_in l g t M k 0 7) rfl rfl (by decide) (Nat.le_of_ble_eq_true rfl) (fun r M1 hp => ?_)
  obtain ⟨hp, he⟩ := hp
  have he := he.symm
  subst he
  rcases hp with ⟨rfl, hb_1⟩ | ⟨rfl, hb_1⟩
  · refine r_if_ne K 14 dX6_trying_7 (by decide) (fun _ => ?_) (fun h => absurd h (by decide))
    obtain ⟨j, hj1, hj2, rfl⟩ := x_nat (a := 0) (b := 7) hb_1 (by omega) (by omega)
    have jc : (nI j).toNatClampNeg = j := nI_clamp (by omega)
    have e0 : ab_trying A (nI j) = _ := ab_if_pos hb_1
    rw [jc] at e0
    refine r_aload_n K 0 dX6_trying_14 rfl rfl ?_
    refine r_iload_n K 1 dX6_trying_15 rfl rfl ?_
    refine r_callVi K [.int (nI j)] [] dX6_trying_16 mf_X6_mayBeNext rfl rfl qw_725 qw_727 qs_32 (cm_mayBeNext l g t M A hS j (by omega)) rfl rfl (by decide) (Nat.le_of_ble_eq_true rfl) (fun r Mm hp => ?_)
    obtain ⟨hb, hg1, hkk⟩ := hp
    have hSm := m_S_k hS hkk
    rcases hb with ⟨rfl, hmay⟩ | ⟨rfl, hmay⟩
    · refine r_if_eq K 37 dX6_trying_19 (by decide) (fun h => absurd h (by decide)) (fun _ => ?_)
      refine r_aload_n K 0 dX6_trying_22 rfl rfl ?_
      refine r_aload_n K 0 dX6_trying_23 rfl rfl ?_
      refine r_getR K rfl rfl ff_6_now qw_545 dX6_trying_24 ?_
      refine r_iconst K (v := 3) dX6_trying_27 (by decide) ?_
      refine r_iald K (j := 3) rfl rfl (by decide) (by decide) dX6_trying_28 ?_
      refine r_top_eq (nI (ab_ks A.1).length) hSm.1.2.2.2.1 ?_
      refine r_iconst K (v := 1) dX6_trying_29 (by decide) ?_
      refine r_iadd K dX6_trying_30 ?_
      refine r_top_eq (nI ((ab_ks A.1).length + 1)) (nI_1 _) ?_
      refine r_callVi K [.int (nI ((ab_ks A.1).length + 1))] [] dX6_trying_31 mf_X6_costOf rfl rfl qw_737 qw_739 qs_35 (cm_costOf l g t Mm A.1 hok hSm.1 ((ab_ks A.1).length + 1) (by omega)) rfl rfl (by decide) (Nat.le_of_ble_eq_true rfl) (fun r M9 hp9 => ?_)
      obtain ⟨hp9, he⟩ := hp9
      have he := he.symm
      subst he
      subst hp9
      refine r_top_eq (ab_lcost A.2.1 A.1 (ab_ks A.1 ++ [j])) (by rw [hg1.2.2.1, hg1.2.2.2]; simp [ab_lcost]) ?_
      refine r_goto K 39 dX6_trying_34 (by decide) ?_
      exact hr _ _ _ _ dX6_trying_39 ⟨by rw [e0, ab_if_pos hmay], hSm⟩
    · refine r_if_eq K 37 dX6_trying_19 (by decide) (fun _ => ?_) (fun h => absurd h (by decide))
      refine r_bipush K (v := (-2)) dX6_trying_37 (by decide) ?_
      exact hr _ _ _ _ dX6_trying_39 ⟨by rw [e0, ab_if_neg hmay], hSm⟩
  · refine r_if_ne K 14 dX6_trying_7 (by decide) (fun h => absurd h (by decide)) (fun _ => ?_)
    refine r_iconst K (v := (-1)) dX6_trying_10 (by decide) ?_
    refine r_goto K 39 dX6_trying_11 (by decide) ?_
    exact hr _ _ _ _ dX6_trying_39 ⟨by rw [ab_trying, ab_if_neg hb_1], hS⟩
