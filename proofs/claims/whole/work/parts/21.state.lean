/-! the whole state: line, taper, what undo would bring (the newest first), seen, text, images -/
abbrev ab_S : Type := ab_L × Int32 × List ab_L × List (Int32 × Int32) × List Int32 × (Nat → Option ab_L)
def ab_chain : ab_L → List ab_D → List ab_L → Prop
  | _, [], [] => True
  | L, d :: ds, u :: us => ab_dok d L ∧ ab_undo d L = u ∧ ab_ok u ∧ ab_chain u ds us
  | _, _, _ => False
theorem ab_chain_take : ∀ (n : Nat) (L : ab_L) (ds : List ab_D) (us : List ab_L), ab_chain L ds us → ab_chain L (ds.take n) (us.take n)
  | 0, L, ds, us, _ => by simp [ab_chain]
  | n + 1, L, [], [], _ => by simp [ab_chain]
  | n + 1, L, [], _ :: _, h => absurd h (by simp [ab_chain])
  | n + 1, L, _ :: _, [], h => absurd h (by simp [ab_chain])
  | n + 1, L, d :: ds, u :: us, h => by
    simp only [ab_chain] at h
    simp only [List.take_succ_cons, ab_chain]
    exact ⟨h.1, h.2.1, h.2.2.1, ab_chain_take n u ds us h.2.2.2⟩
theorem ab_chain_len : ∀ (L : ab_L) (ds : List ab_D) (us : List ab_L), ab_chain L ds us → ds.length = us.length
  | L, [], [], _ => rfl
  | L, [], _ :: _, h => absurd h (by simp [ab_chain])
  | L, _ :: _, [], h => absurd h (by simp [ab_chain])
  | L, d :: ds, u :: us, h => by
    simp only [ab_chain] at h
    simp only [List.length_cons, ab_chain_len u ds us h.2.2.2]
def x_cache (M : rs_M) (tp : Int32) (L : ab_L) : Prop := ∃ a, a ≤ 5 ∧ M 45 2 = nI a ∧ (a = 0 ∨ x_acc M a (ab_plan tp L a))
def x_text (M : rs_M) (tx : List Int32) : Prop := M 37 1 = nI tx.length ∧ tx.length ≤ 120 ∧ ∀ i, i < tx.length → M 38 i = tx.getD i 0 ∧ 0 ≤ (tx.getD i 0).toInt ∧ (tx.getD i 0).toInt ≤ 255
def x_seen (M : rs_M) (sn : List (Int32 × Int32)) : Prop := M 0 10 = nI sn.length ∧ sn.length ≤ 4 ∧ ∀ i, i < sn.length → M 55 i = (sn.getD i (0, 0)).1 ∧ M 56 i = (sn.getD i (0, 0)).2
def x_im1 (M : rs_M) (tp : Int32) (i : Nat) (o : Option ab_L) : Prop := match o with
  | none => M 36 i = 0
  | some L => M 36 i = 1 ∧ ab_ok L ∧ x_ln M (57 + 17 * i) tp L
def x_im (M : rs_M) (tp : Int32) (im : Nat → Option ab_L) : Prop := x_im1 M tp 0 (im 0) ∧ x_im1 M tp 1 (im 1)
def x_und (M : rs_M) (L : ab_L) (us : List ab_L) : Prop := ∃ ds, x_dd M ds ∧ ds.length ≤ 12 ∧ ab_chain L ds.reverse us
def x_S (M : rs_M) (A : ab_S) : Prop := x_ln M 1 A.2.1 A.1 ∧ ab_ok A.1 ∧ ab_tp A.2.1 ∧ x_sp M 22 1 [] ∧ x_im M A.2.1 A.2.2.2.2.2 ∧ x_text M A.2.2.2.2.1 ∧ x_und M A.1 A.2.2.1 ∧ x_cache M A.2.1 A.1 ∧ x_seen M A.2.2.2.1
theorem x_cache_fr {M M1 : rs_M} {tp : Int32} {L : ab_L} (h : x_cache M tp L) (e : ∀ c, 45 ≤ c → c < 54 → M1 c = M c) : x_cache M1 tp L := by
  obtain ⟨a, h1, h2, h3⟩ := h
  exact ⟨a, h1, by rw [e 45 (by decide) (by decide)]; exact h2, h3.imp id (fun q => x_acc_fr q (e 45 (by decide) (by decide)) (e 47 (by decide) (by decide)))⟩
theorem x_text_fr {M M1 : rs_M} {tx : List Int32} (h : x_text M tx) (e1 : M1 37 = M 37) (e2 : M1 38 = M 38) : x_text M1 tx := by rw [x_text, e1, e2]; exact h
theorem x_seen_fr {M M1 : rs_M} {sn : List (Int32 × Int32)} (h : x_seen M sn) (e0 : M1 0 = M 0) (e1 : M1 55 = M 55) (e2 : M1 56 = M 56) : x_seen M1 sn := by rw [x_seen, e0, e1, e2]; exact h
theorem x_im1_fr {M M1 : rs_M} {tp : Int32} {i : Nat} {o : Option ab_L} (hi : i < 2) (h : x_im1 M tp i o) (e : ∀ c, (c = 36 ∨ 57 ≤ c) → M1 c = M c) : x_im1 M1 tp i o := by
  cases o with
  | none => show M1 36 i = 0; rw [e 36 (by omega)]; exact h
  | some L =>
    obtain ⟨h1, h2, h3⟩ := h
    exact ⟨by rw [e 36 (by omega)]; exact h1, h2, x_ln_fr (lo := 0) (hi := 57) h2.1 h3 (fun c hc => e c (by omega)) (by omega)⟩
theorem x_im_fr {M M1 : rs_M} {tp : Int32} {im : Nat → Option ab_L} (h : x_im M tp im) (e : ∀ c, (c = 36 ∨ 57 ≤ c) → M1 c = M c) : x_im M1 tp im := ⟨x_im1_fr (by decide) h.1 e, x_im1_fr (by decide) h.2 e⟩
theorem x_und_fr {M M1 : rs_M} {L : ab_L} {us : List ab_L} (h : x_und M L us) (e : ∀ c, 40 ≤ c → c < 45 → M1 c = M c) : x_und M1 L us := by
  obtain ⟨ds, h1, h2⟩ := h
  exact ⟨ds, x_dd_fr h1 e, h2⟩
/-- only the text changes -/
theorem x_S_text {M M1 : rs_M} {A : ab_S} (h : x_S M A) (e : ∀ c, c < 37 ∨ 39 < c → M1 c = M c) {tx : List Int32} (ht : x_text M1 tx) : x_S M1 (A.1, A.2.1, A.2.2.1, A.2.2.2.1, tx, A.2.2.2.2.2) := by
  obtain ⟨h1, h2, h3, h4, h5, h6, h7, h8, h9⟩ := h
  exact ⟨x_ln_fr (lo := 37) (hi := 40) h2.1 h1 (fun c hc => e c (by omega)) (by omega), h2, h3, x_sp_same h4 (fun j _ => by rw [e 22 (by omega)]), x_im_fr h5 (fun c hc => e c (by omega)), ht, x_und_fr h7 (fun c _ _ => e c (by omega)), x_cache_fr h8 (fun c _ _ => e c (by omega)), x_seen_fr h9 (e 0 (by omega)) (e 55 (by omega)) (e 56 (by omega))⟩
/-- only what is seen changes -/
theorem x_S_seen {M M1 : rs_M} {A : ab_S} (h : x_S M A) (e : ∀ c, c ≠ 0 → c ≠ 55 → c ≠ 56 → M1 c = M c) {sn : List (Int32 × Int32)} (ht : x_seen M1 sn) : x_S M1 (A.1, A.2.1, A.2.2.1, sn, A.2.2.2.2.1, A.2.2.2.2.2) := by
  obtain ⟨h1, h2, h3, h4, h5, h6, h7, h8, h9⟩ := h
  refine ⟨?_, h2, h3, x_sp_same h4 (fun j _ => by rw [e 22 (by omega) (by omega) (by omega)]), x_im_fr h5 (fun c hc => e c (by omega) (by omega) (by omega)), x_text_fr h6 (e 37 (by omega) (by omega) (by omega)) (e 38 (by omega) (by omega) (by omega)), x_und_fr h7 (fun c _ _ => e c (by omega) (by omega) (by omega)), x_cache_fr h8 (fun c _ _ => e c (by omega) (by omega) (by omega)), ht⟩
  obtain ⟨a3, hs, a4, a5, a6, a7, hw⟩ := h1
  have hn := h2.1
  refine ⟨by rw [e 1 (by omega) (by omega) (by omega)]; exact a3, fun i hi => x_sp_same (hs i hi) (fun j _ => by have hi : i ≤ (ab_ks A.1).length := hi; rw [e _ (by omega) (by omega) (by omega)]), by rw [e 1 (by omega) (by omega) (by omega)]; exact a4, by rw [e 1 (by omega) (by omega) (by omega)]; exact a5, by rw [e 1 (by omega) (by omega) (by omega)]; exact a6, by rw [e 1 (by omega) (by omega) (by omega)]; exact a7, fun p hp => by rw [e (1 + 2) (by omega) (by omega) (by omega), e (1 + 3) (by omega) (by omega) (by omega)]; exact hw p hp⟩
/-- the line and what hangs on it change -/
theorem x_S_line {M M1 : rs_M} {A : ab_S} (h : x_S M A) (e : ∀ c, ¬ (1 ≤ c ∧ c < 18) → ¬ (40 ≤ c ∧ c < 55) → M1 c = M c) {L : ab_L} {us : List ab_L} (hL : x_ln M1 1 A.2.1 L) (hok : ab_ok L) (hu : x_und M1 L us) (hc : x_cache M1 A.2.1 L) : x_S M1 (L, A.2.1, us, A.2.2.2.1, A.2.2.2.2.1, A.2.2.2.2.2) := by
  obtain ⟨h1, h2, h3, h4, h5, h6, h7, h8, h9⟩ := h
  exact ⟨hL, hok, h3, x_sp_same h4 (fun j _ => by rw [e 22 (by omega) (by omega)]), x_im_fr h5 (fun c hc => e c (by omega) (by omega)), x_text_fr h6 (e 37 (by omega) (by omega)) (e 38 (by omega) (by omega)), hu, hc, x_seen_fr h9 (e 0 (by omega) (by omega)) (e 55 (by omega) (by omega)) (e 56 (by omega) (by omega))⟩
/-- only search and probe change -/
theorem x_S_scr {M M1 : rs_M} {A : ab_S} (h : x_S M A) (e : ∀ c, ¬ (45 ≤ c ∧ c < 55) → M1 c = M c) (hc : x_cache M1 A.2.1 A.1) : x_S M1 A := by
  have h2 := h.2.1
  exact x_S_line h (fun c _ hc2 => e c (by omega)) (x_ln_fr (lo := 45) (hi := 55) h2.1 h.1 (fun c hc => e c (by omega)) (by omega)) h2 (x_und_fr h.2.2.2.2.2.2.1 (fun c _ _ => e c (by omega))) hc
theorem ab_ok_build {L : ab_L} (h : ab_ok L) (hn : (ab_ks L).length < 12) {k : Nat} (hk : k < 8) : ab_ok (ab_build L k) := by
  obtain ⟨h1, h2, h3⟩ := h
  refine ⟨by have : (ab_ks (ab_build L k)).length = (ab_ks L).length + 1 := by simp [ab_build, ab_ks]
             omega, fun x hx => ?_, h3⟩
  have hx : x ∈ ab_ks L ++ [k] := hx
  rcases List.mem_append.mp hx with q | q
  · exact h2 x q
  · simp at q; omega
theorem ab_ok_wish {L : ab_L} (h : ab_ok L) {p : Nat} (hp : 1 ≤ p) {x y : Int32} (hx : -99 ≤ x.toInt ∧ x.toInt ≤ 99) (hy : -99 ≤ y.toInt ∧ y.toInt ≤ 99) : ab_ok (ab_setwish L p x y) := by
  obtain ⟨h1, h2, h3, h4, h5, h6, h7, h8⟩ := h
  refine ⟨h1, h2, h3, h4, h5, fun q hq => ?_, ?_, ?_⟩
  · show -99 ≤ (upd (ab_wx L) p x q).toInt ∧ (upd (ab_wx L) p x q).toInt ≤ 99 ∧ -99 ≤ (upd (ab_wy L) p y q).toInt ∧ (upd (ab_wy L) p y q).toInt ≤ 99
    simp only [upd]
    split
    · exact ⟨hx.1, hx.2, hy.1, hy.2⟩
    · exact h6 q hq
  · show upd (ab_wx L) p x 0 = 0
    rw [upd, if_neg (by omega)]; exact h7
  · show upd (ab_wy L) p y 0 = 0
    rw [upd, if_neg (by omega)]; exact h8
def ab_rlim (w v : Nat) : Prop := (w = 0 ∧ v ≤ 3) ∨ (w = 1 ∧ v ≤ 2) ∨ (w = 2 ∧ v ≤ 20)
theorem ab_ok_rule {L : ab_L} (h : ab_ok L) {w v : Nat} (hv : ab_rlim w v) : ab_ok (ab_setrule L w v) := by
  obtain ⟨h1, h2, h3, h4, h5, h6⟩ := h
  rcases hv with ⟨rfl, hv⟩ | ⟨rfl, hv⟩ | ⟨rfl, hv⟩
  · exact ⟨h1, h2, hv, h4, h5, h6⟩
  · exact ⟨h1, h2, h3, hv, h5, h6⟩
  · exact ⟨h1, h2, h3, h4, hv, h6⟩
/-- a new deed: what undo brings is the line as it was; 12 at most -/
theorem x_und_push {M1 : rs_M} {L L1 : ab_L} {us : List ab_L} {ds : List ab_D} (hl : ds.length ≤ 12) (hc : ab_chain L ds.reverse us) {d : ab_D} (hd : x_dd M1 (ab_push ds d)) (h1 : ab_dok d L1) (h2 : ab_undo d L1 = L) (hok : ab_ok L) : x_und M1 L1 ((L :: us).take 12) := by
  refine ⟨ab_push ds d, hd, ?_, ?_⟩
  · unfold ab_push
    split
    · simp; omega
    · rw [List.length_append, List.length_tail]; simp; omega
  · have e : (ab_push ds d).reverse = (d :: ds.reverse).take 12 := by
      unfold ab_push
      split
      · rename_i q
        rw [List.reverse_append, List.take_of_length_le (by simp; omega)]
        rfl
      · have q : ds.length = 12 := by omega
        rw [List.reverse_append]
        show d :: ds.tail.reverse = d :: (ds.reverse.take 11)
        rw [List.take_reverse, q]
        congr 1
        congr 1
        rw [List.drop_one]
    rw [e]
    exact ab_chain_take 12 L1 (d :: ds.reverse) (L :: us) ⟨h1, h2, hok, hc⟩
theorem x_und_0 {M : rs_M} {L : ab_L} (h : M 40 4 = 0) : x_und M L [] := ⟨[], ⟨h, fun i d hi => by simp at hi⟩, by simp, trivial⟩
set_option maxHeartbeats 4000000 in
set_option maxRecDepth 100000 in
theorem c_look (l : Launch) (g : rs_G) (t : Nat × Nat) (M : rs_M) (hb : xL 1) (tp : Int32) (ht : ab_tp tp) (L : ab_L) (hok : ab_ok L) (hL : x_ln M 1 tp L) (hc : x_cache M tp L) (h : Nat) (h1 : 1 ≤ h) (h5 : h ≤ 5) : rs_Cv l g xk t yX3_look cX3_look 3 10 [.ref (g.2.2 45), .ref (g.2.2 1), .int (nI h)] M (fun M1 => M1 45 2 = nI h ∧ x_acc M1 h (ab_plan tp L h) ∧ x_fr M M1 45 54) := by
  obtain ⟨a, ha1, ha2, ha3⟩ := hc
  have hn12 := hok.1
  refine rs_ofv (plainFor_of_name (by decide)) (Nat.le_of_ble_eq_true rfl) ?_
  intro Y K hr
  show Y M 0 [(0, .ref (g.2.2 45)), (1, .ref (g.2.2 1)), (2, .int (nI h))] []
  refine r_aload_n K 0 dX3_look_0 rfl rfl ?_
  refine r_getI K rfl rfl ff_3_ahead qw_170 dX3_look_1 ?_
  refine r_top_eq (nI a) ha2 ?_
  refine r_iload_n K 2 dX3_look_4 rfl rfl ?_
  refine r_icmp_ne K 9 dX3_look_5 (by decide) (fun h_1 => ?_) (fun h_1 => ?_)
  · have nh_1 : ¬ a = h := mt (nf_eq rfl rfl (by omega) (by omega)).mpr h_1
    refine r_aload_n K 0 dX3_look_9 rfl rfl ?_
    refine r_iload_n K 2 dX3_look_10 rfl rfl ?_
    refine r_iconst K (v := 5) dX3_look_11 (by decide) ?_
    refine r_mmin K dX3_look_12 qw_395 qw_396 qw_8 qw_397 (by decide) (Nat.le_of_ble_eq_true rfl) ?_
    refine r_top_eq (nI h) (if_neg (mt (nf_lt (X := 5) (Y := h) rfl rfl (by decide) (by omega)).mp (by omega))) ?_
    refine r_put K rfl rfl ff_3_ahead qw_170 rfl rfl dX3_look_15 ?_
    refine r_aload_n K 0 dX3_look_18 rfl rfl ?_
    refine r_iconst K (v := 0) dX3_look_19 (by decide) ?_
    refine r_put K rfl rfl ff_3_rows qw_172 rfl rfl dX3_look_20 ?_
    refine r_aload_n K 0 dX3_look_23 rfl rfl ?_
    refine r_iconst K (v := 0) dX3_look_24 (by decide) ?_
    refine r_put K rfl rfl ff_3_least qw_174 rfl rfl dX3_look_25 ?_
    have hL2 : x_ln (rs_st (rs_st (rs_st M 45 2 (nI h)) 45 3 0) 45 4 0) 1 tp L := x_ln_fr hok.1 hL (x_fr_tr (x_fr_tr (x_fr_st (lo := 45) (hi := 46) (by decide) (by decide)) (x_fr_st (by decide) (by decide))) (x_fr_st (by decide) (by decide))) (by omega)
    refine r_aload_n K 0 dX3_look_28 rfl rfl ?_
    refine r_getR K rfl rfl ff_3_spots qw_167 dX3_look_29 ?_
    refine r_iconst K (v := 0) dX3_look_32 (by decide) ?_
    refine r_aaldS K (j := 0) rfl rfl (xS_e _ (by decide)) (by decide) (by decide) dX3_look_33 ?_
    refine r_aload_n K 1 dX3_look_34 rfl rfl ?_
    refine r_callVr K [] [.ref (g.2.2 (48 + 0))] dX3_look_35 mf_X1_last (xL_0 hb) rfl qw_398 qw_306 qw_307 (c_Line_last l g t (rs_st (rs_st (rs_st M 45 2 (nI h)) 45 3 0) 45 4 0) 1 hb (ab_ks L).length hok.1 hL2.1) rfl rfl (by decide) (Nat.le_of_ble_eq_true rfl) (fun r M1 hp => ?_)
    obtain ⟨hp, he⟩ := hp
    have he := he.symm
    subst he
    subst hp
    refine r_callVv K [.ref (g.2.2 (1 + 4 + (ab_ks L).length))] [] dX3_look_38 mf_X4_copy (xS_s _ (by decide)) rfl qw_399 qw_343 qw_344 (c_Spot_copy l g t (rs_st (rs_st (rs_st M 45 2 (nI h)) 45 3 0) 45 4 0) (48 + 0) (1 + 4 + (ab_ks L).length) (xS_s _ (by decide)) (xL_s hb (by omega))) rfl rfl (by decide) (Nat.le_of_ble_eq_true rfl) (fun M1 hp => ?_)
    subst hp
    refine r_aload_n K 0 dX3_look_41 rfl rfl ?_
    refine r_aload_n K 1 dX3_look_42 rfl rfl ?_
    refine r_iconst K (v := 0) dX3_look_43 (by decide) ?_
    refine r_iconst K (v := 0) dX3_look_44 (by decide) ?_
    have fr4 := x_fr_cp (M := rs_st (rs_st (rs_st M 45 2 (nI h)) 45 3 0) 45 4 0) (lo := 48) (hi := 49) (c := 48 + 0) (d := 1 + 4 + (ab_ks L).length) (by omega) (by omega)
    have hQ : x_eP (x_cp (rs_st (rs_st (rs_st M 45 2 (nI h)) 45 3 0) 45 4 0) (48 + 0) (1 + 4 + (ab_ks L).length)) tp L h h [] 0 (0, 0, []) := ⟨x_ln_fr hok.1 hL2 fr4 (by omega), by rw [fr4 45 (by omega)]; simp [rs_st], by simp, fun k hk => absurd hk List.not_mem_nil, by rw [List.append_nil]; exact x_sp_cp (x_ln_last hL2), fun i hi => absurd hi (Nat.not_lt_zero _), ⟨by rw [fr4 45 (by omega)]; simp [rs_st]; rfl, fun q => absurd q (Nat.lt_irrefl 0)⟩, Or.inl rfl, by decide, by decide, by have := Nat.pow_le_pow_right (show 0 < 8 by decide) h5; show 0 + 8 ^ h ≤ 900000; omega⟩
    refine r_callSv K [.ref (g.2.2 45), .ref (g.2.2 1), .int 0, .int 0] [] dX3_look_45 mf_X3_extend qw_400 qw_401 (c_extend l g t hb tp ht L hok h h1 h5 h (x_cp (rs_st (rs_st (rs_st M 45 2 (nI h)) 45 3 0) 45 4 0) (48 + 0) (1 + 4 + (ab_ks L).length)) [] 0 (0, 0, []) hQ) rfl rfl (by omega) (Nat.le_of_ble_eq_true rfl) (fun M1 hp => ?_)
    exact hr _ _ _ dX3_look_48 ⟨hp.2.1, hp.1, fun c hc => by rw [hp.2.2 c (by simp; omega), fr4 c (by omega), rs_st_ne _ _ _ (by omega), rs_st_ne _ _ _ (by omega), rs_st_ne _ _ _ (by omega)]⟩
  · have nh_1 : a = h := (nf_eq rfl rfl (by omega) (by omega)).mp h_1
    have hah : a = h := by omega
    subst hah
    exact hr _ _ _ dX3_look_8 ⟨ha2, ha3.elim (fun q => absurd q (by omega)) id, x_fr_rf _ _ _⟩
