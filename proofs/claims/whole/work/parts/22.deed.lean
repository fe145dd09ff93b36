theorem xL1 : xL 1 := Or.inl rfl
theorem xL18 : xL 18 := Or.inr (Or.inl rfl)
theorem xL_im {i : Nat} (h : i < 2) : xL (57 + 17 * i) := by rcases (show i = 0 ∨ i = 1 by omega) with rfl | rfl <;> simp [xL]
theorem xI_e {i : Nat} (h : i < 2) : ([57, 74] : List Nat)[i]? = some (57 + 17 * i) := by rcases (show i = 0 ∨ i = 1 by omega) with rfl | rfl <;> rfl
noncomputable def ab_if {α : Type} (P : Prop) (a b : α) : α := @ite α P (Classical.propDecidable P) a b
theorem ab_if_pos {α : Type} {P : Prop} {a b : α} (h : P) : ab_if P a b = a := if_pos h
theorem ab_if_neg {α : Type} {P : Prop} {a b : α} (h : ¬ P) : ab_if P a b = b := if_neg h
theorem x_nat {x : Int32} {a b : Nat} (h : nI a ≤ x ∧ x ≤ nI b) (ha : a < 2 ^ 31) (hb : b < 2 ^ 31) : ∃ j, a ≤ j ∧ j ≤ b ∧ x = nI j := by
  obtain ⟨h1, h2⟩ := h
  have n0 : ¬ x < 0 := fun q => by
    rw [Int32.lt_iff_toInt_lt] at q
    rw [Int32.le_iff_toInt_le, nI_toInt ha] at h1
    have z : (0 : Int32).toInt = 0 := by decide
    omega
  obtain ⟨j, hj, rfl⟩ := nI_of n0
  exact ⟨j, (nI_leI ha hj).mp h1, (nI_leI hj hb).mp h2, rfl⟩
abbrev ab_wT (A : ab_S) (tx : List Int32) : ab_S := (A.1, A.2.1, A.2.2.1, A.2.2.2.1, tx, A.2.2.2.2.2)
abbrev ab_wN (A : ab_S) (sn : List (Int32 × Int32)) : ab_S := (A.1, A.2.1, A.2.2.1, sn, A.2.2.2.2.1, A.2.2.2.2.2)
abbrev ab_wL (A : ab_S) (L : ab_L) (us : List ab_L) : ab_S := (L, A.2.1, us, A.2.2.2.1, A.2.2.2.2.1, A.2.2.2.2.2)
def x_R (q : Int32 × ab_S) (r : Int32) (M1 : rs_M) : Prop := r = q.1 ∧ x_S M1 q.2
/-! what the calls answer and do -/
noncomputable def ab_type (A : ab_S) (c : Int32) : Int32 × ab_S := ab_if (0 ≤ c ∧ c ≤ 255) (ab_if (A.2.2.2.2.1.length < 120) (nI (A.2.2.2.2.1.length + 1), ab_wT A (A.2.2.2.2.1 ++ [c])) (-3, A)) (-1, A)
def ab_clear (A : ab_S) : Int32 × ab_S := (nI A.2.2.2.2.1.length, ab_wT A [])
noncomputable def ab_done (A : ab_S) (k : Nat) : ab_S := ab_wL A (ab_build A.1 k) ((A.1 :: A.2.2.1).take 12)
noncomputable def ab_builds (A : ab_S) (k : Int32) : Int32 × ab_S := ab_if (0 ≤ k ∧ k ≤ 7) (ab_if ((ab_ks A.1).length < 12) (ab_if (ab_may A.2.1 A.1 (ab_ks A.1) k.toNatClampNeg) (ab_lcost A.2.1 A.1 (ab_ks A.1 ++ [k.toNatClampNeg]), ab_done A k.toNatClampNeg) (-2, A)) (-3, A)) (-1, A)
noncomputable def ab_follows (A : ab_S) (h : Int32) : Int32 × ab_S := ab_if (1 ≤ h ∧ h ≤ 5) (ab_if ((ab_ks A.1).length < 12) (ab_if ((ab_plan A.2.1 A.1 h.toNatClampNeg).1 = 0) (-2, A) (nI ((ab_plan A.2.1 A.1 h.toNatClampNeg).2.2.getD 0 0), ab_done A ((ab_plan A.2.1 A.1 h.toNatClampNeg).2.2.getD 0 0))) (-3, A)) (-1, A)
noncomputable def ab_wishes (A : ab_S) (p x y : Int32) : Int32 × ab_S := ab_if ((1 ≤ p ∧ p ≤ 17) ∧ ((-99) ≤ x ∧ x ≤ 99) ∧ ((-99) ≤ y ∧ y ≤ 99)) (ab_if (ab_wx A.1 p.toNatClampNeg = x ∧ ab_wy A.1 p.toNatClampNeg = y) (-2, A) (1, ab_wL A (ab_setwish A.1 p.toNatClampNeg x y) ((A.1 :: A.2.2.1).take 12))) (-1, A)
noncomputable def ab_rules (A : ab_S) (w v : Int32) : Int32 × ab_S := ab_if (0 ≤ v ∧ ((w = 0 ∧ v ≤ 3) ∨ (w = 1 ∧ v ≤ 2) ∨ (w = 2 ∧ v ≤ 20))) (ab_if (nI (ab_rule A.1 w.toNatClampNeg) = v) (-2, A) (nI (ab_rule A.1 w.toNatClampNeg), ab_wL A (ab_setrule A.1 w.toNatClampNeg v.toNatClampNeg) ((A.1 :: A.2.2.1).take 12))) (-1, A)
def ab_undoS (A : ab_S) : Int32 × ab_S := match A.2.2.1 with
  | [] => (-2, A)
  | u :: us => (nI us.length, ab_wL A u us)
def ab_rget (tp : Int32) (L : ab_L) (i : Nat) (w : Int32) : Int32 := if w = 0 then ab_last ((ab_ks L).take i) else if w = 1 then (ab_geo tp ((ab_ks L).take i)).1 else if w = 2 then (ab_geo tp ((ab_ks L).take i)).2.1 else if w = 3 then (ab_geo tp ((ab_ks L).take i)).2.2.1 else if w = 4 then (ab_geo tp ((ab_ks L).take i)).2.2.2 else if w = 5 then ab_ringcost tp L i else -1000000
noncomputable def ab_ring (A : ab_S) (i w : Int32) : Int32 := ab_if (0 ≤ i ∧ i ≤ nI (ab_ks A.1).length) (ab_rget A.2.1 A.1 i.toNatClampNeg w) (-1000000)
noncomputable def ab_wish (A : ab_S) (p w : Int32) : Int32 := ab_if ((0 ≤ p ∧ p ≤ 17) ∧ (0 ≤ w ∧ w ≤ 1)) (ab_if (w = 0) (ab_wx A.1 p.toNatClampNeg) (ab_wy A.1 p.toNatClampNeg)) (-1000000)
def ab_wsrch (c : Nat → Int32) (n : Nat) (k : Int32) : Nat → Nat → Int32
  | 0, _ => -9
  | f + 1, i => if nI (ab_ahead c i n) = k then nI i else ab_wsrch c n k f (i + 1)
noncomputable def ab_worst (A : ab_S) (k : Int32) : Int32 := ab_if (k < 0) (-1) (ab_wsrch (ab_ringcost A.2.1 A.1) (ab_ks A.1).length k (ab_ks A.1).length 1)
noncomputable def ab_planS (A : ab_S) (h k : Int32) : Int32 := ab_if ((1 ≤ h ∧ h ≤ 5) ∧ (-2) ≤ k) (ab_if (h ≤ k ∨ (ab_plan A.2.1 A.1 h.toNatClampNeg).1 = 0) (-9) (ab_if (k = -1) (ab_plan A.2.1 A.1 h.toNatClampNeg).2.1 (ab_if (k = -2) (nI (ab_plan A.2.1 A.1 h.toNatClampNeg).1) (nI ((ab_plan A.2.1 A.1 h.toNatClampNeg).2.2.getD k.toNatClampNeg 0))))) (-1)
noncomputable def ab_trying (A : ab_S) (k : Int32) : Int32 := ab_if (0 ≤ k ∧ k ≤ 7) (ab_if (ab_may A.2.1 A.1 (ab_ks A.1) k.toNatClampNeg) (ab_lcost A.2.1 A.1 (ab_ks A.1 ++ [k.toNatClampNeg])) (-2)) (-1)
noncomputable def ab_sees (A : ab_S) (x y : Int32) : Int32 × ab_S := ab_if (((-9999) ≤ x ∧ x ≤ 9999) ∧ ((-9999) ≤ y ∧ y ≤ 9999)) (ab_if (A.2.2.2.1.length < 4) (nI (A.2.2.2.1.length + 1), ab_wN A (A.2.2.2.1 ++ [(x, y)])) (-3, A)) (-1, A)
def ab_forget (A : ab_S) : Int32 × ab_S := (nI A.2.2.2.1.length, ab_wN A [])
/-! the first row of a plan is one of keys -/
def ab_fok (H : Nat) (a : ab_A) : Prop := 0 < a.1 → a.2.2.length = H ∧ ∀ k ∈ a.2.2, k < 8
theorem ab_kfold_fok {F : Nat → ab_A → ab_A} {H : Nat} : ∀ (n : Nat) (a : ab_A), (∀ k a, k < n → ab_fok H a → ab_fok H (F k a)) → ab_fok H a → ab_fok H (ab_kfold F n a)
  | 0, a, _, ha => ha
  | n + 1, a, h, ha => h n _ (by omega) (ab_kfold_fok n a (fun k a hk => h k a (by omega)) ha)
theorem ab_srch_fok (tp : Int32) (L : ab_L) (ks : List Nat) {H : Nat} : ∀ (r : Nat) (p : List Nat) (sum : Int32) (a : ab_A), p.length + r = H → (∀ k ∈ p, k < 8) → ab_fok H a → ab_fok H (ab_srch tp L ks r p sum a)
  | 0, p, sum, a, hl, hp, ha => by
    simp only [ab_srch, ab_note]
    split
    · rename_i q; exact fun _ => ha q.1
    · split
      · exact fun _ => ⟨by simpa using hl, hp⟩
      · exact ha
  | r + 1, p, sum, a, hl, hp, ha => by
    simp only [ab_srch]
    refine ab_kfold_fok 8 a (fun k a hk ha => ?_) ha
    split
    · refine ab_srch_fok tp L ks r _ _ a (by simp; omega) (fun k' h' => ?_) ha
      rcases List.mem_append.mp h' with q | q
      · exact hp k' q
      · simp at q; omega
    · exact ha
theorem ab_plan_fok (tp : Int32) (L : ab_L) (h : Nat) : ab_fok h (ab_plan tp L h) := ab_srch_fok tp L _ h [] 0 _ (by simp) (fun k hk => absurd hk List.not_mem_nil) (fun q => absurd q (Nat.lt_irrefl 0))
theorem ab_plan_k {tp : Int32} {L : ab_L} {h : Nat} (h0 : 0 < (ab_plan tp L h).1) {i : Nat} (hi : i < h) : (ab_plan tp L h).2.2.getD i 0 < 8 := by
  obtain ⟨h1, h2⟩ := ab_plan_fok tp L h h0
  have hl : i < (ab_plan tp L h).2.2.length := by omega
  rw [List.getD, List.getElem?_eq_getElem hl]
  exact h2 _ (List.getElem_mem hl)
theorem ab_plan_rows (tp : Int32) (L : ab_L) {h : Nat} (h5 : h ≤ 5) : (ab_plan tp L h).1 ≤ 32768 := by
  have := ab_srch_rows tp L (ab_ks L) h [] 0 (0, 0, [])
  have h2 := Nat.pow_le_pow_right (show 0 < 8 by decide) h5
  show (ab_srch tp L (ab_ks L) h [] 0 (0, 0, [])).1 ≤ 32768
  simp only [Nat.zero_add] at this
  omega
/-! what a deed's taking back brings -/
theorem ab_drop_build (L : ab_L) (k : Nat) : ab_drop (ab_build L k) = L := by
  show ((L.1 ++ [k]).dropLast, L.2) = L
  rw [List.dropLast_concat]
theorem ab_wish_wish (L : ab_L) (p : Nat) (x y : Int32) : ab_setwish (ab_setwish L p x y) p (ab_wx L p) (ab_wy L p) = L := by
  have e : ∀ (f : Nat → Int32) (x : Int32), upd (upd f p x) p (f p) = f := fun f x => by
    funext q
    simp only [upd]
    split
    · rename_i h; rw [h]
    · rfl
  show (L.1, upd (upd L.2.1 p x) p (L.2.1 p), upd (upd L.2.2.1 p y) p (L.2.2.1 p), L.2.2.2) = L
  rw [e, e]
theorem ab_rule_rule (L : ab_L) {w : Nat} (hw : w ≤ 2) (v : Nat) : ab_setrule (ab_setrule L w v) w (ab_rule L w) = L := by
  rcases (show w = 0 ∨ w = 1 ∨ w = 2 by omega) with rfl | rfl | rfl <;> rfl
theorem ab_rule_lt {L : ab_L} (h : ab_ok L) (w : Nat) : ab_rule L w ≤ 20 := by
  obtain ⟨_, _, h3, h4, h5, _⟩ := h
  unfold ab_rule
  split <;> omega
theorem x_cache_0 {M : rs_M} {tp : Int32} {L : ab_L} (h : M 45 2 = 0) : x_cache M tp L := ⟨0, by decide, h, Or.inl rfl⟩
set_option maxHeartbeats 4000000 in
set_option maxRecDepth 100000 in
theorem c_lineChanged (l : Launch) (g : rs_G) (t : Nat × Nat) (M : rs_M) : rs_Cv l g xk t yX5_lineChanged cX5_lineChanged 1 0 [.ref (g.2.2 0)] M (fun M1 => M1 = rs_st M 45 2 0) := by
  refine rs_ofv (plainFor_of_name (by decide)) (Nat.le_of_ble_eq_true rfl) ?_
  intro Y K hr
  show Y M 0 [(0, .ref (g.2.2 0))] []
  refine r_aload_n K 0 dX5_lineChanged_0 rfl rfl ?_
  refine r_getR K rfl rfl ff_5_search qw_195 dX5_lineChanged_1 ?_
  refine r_iconst K (v := 0) dX5_lineChanged_4 (by decide) ?_
  refine r_put K rfl rfl ff_3_ahead qw_171 rfl rfl dX5_lineChanged_5 ?_
  exact hr _ _ _ dX5_lineChanged_8 rfl
set_option maxHeartbeats 4000000 in
set_option maxRecDepth 100000 in
theorem c_buildKnown (l : Launch) (g : rs_G) (t : Nat × Nat) (M : rs_M) (A : ab_S) (hS : x_S M A) (hn : (ab_ks A.1).length < 12) (k : Nat) (hk : k < 8) : rs_Cv l g xk t yX5_buildKnown cX5_buildKnown 2 3 [.ref (g.2.2 0), .int (nI k)] M (fun M1 => x_S M1 (ab_done A k)) := by
  obtain ⟨hL, hok, ht, hdr, him, htx, hun, hca, hse⟩ := id hS
  have hn12 := hok.1
  obtain ⟨ds, hds, hdl, hch⟩ := hun
  refine rs_ofv (plainFor_of_name (by decide)) (Nat.le_of_ble_eq_true rfl) ?_
  intro Y K hr
  show Y M 0 [(0, .ref (g.2.2 0)), (1, .int (nI k))] []
  refine r_aload_n K 0 dX5_buildKnown_0 rfl rfl ?_
  refine r_getR K rfl rfl ff_5_deeds qw_194 dX5_buildKnown_1 ?_
  refine r_iconst K (v := 0) dX5_buildKnown_4 (by decide) ?_
  refine r_iconst K (v := 0) dX5_buildKnown_5 (by decide) ?_
  refine r_iconst K (v := 0) dX5_buildKnown_6 (by decide) ?_
  refine r_iconst K (v := 0) dX5_buildKnown_7 (by decide) ?_
  refine r_callVv K [.int 0, .int 0, .int 0, .int 0] [] dX5_buildKnown_8 mf_X0_add rfl rfl qw_371 qw_372 qw_373 (c_Deeds_add l g t M ds hds hdl (0, 0, 0, 0)) rfl rfl (by decide) (Nat.le_of_ble_eq_true rfl) (fun Ma hp => ?_)
  obtain ⟨ha1, ha2⟩ := hp
  refine r_aload_n K 0 dX5_buildKnown_11 rfl rfl ?_
  refine r_getR K rfl rfl ff_5_line qw_189 dX5_buildKnown_12 ?_
  refine r_iload_n K 1 dX5_buildKnown_15 rfl rfl ?_
  refine r_callVv K [.int (nI k)] [] dX5_buildKnown_16 mf_X1_build (xL_0 xL1) rfl qw_379 qw_338 qw_339 (c_build l g t Ma 1 xL1 A.2.1 A.1 (x_ln_fr hok.1 hL ha2 (by omega)) hn k hk) rfl rfl (by decide) (Nat.le_of_ble_eq_true rfl) (fun Mb hp => ?_)
  obtain ⟨hb1, hb2⟩ := hp
  refine r_aload_n K 0 dX5_buildKnown_19 rfl rfl ?_
  refine r_callVv K [] [] dX5_buildKnown_20 mf_X5_lineChanged rfl rfl qw_356 qw_358 qs_11 (c_lineChanged l g t Mb) rfl rfl (by decide) (Nat.le_of_ble_eq_true rfl) (fun M1 hp => ?_)
  subst hp
  refine hr _ _ _ dX5_buildKnown_23 (x_S_line hS (fun c h1 h2 => by rw [rs_st_ne _ _ _ (by omega), hb2 c (by omega), ha2 c (by omega)]) (x_ln_fr (ab_ok_build hok hn hk).1 hb1 (x_fr_st (lo := 45) (hi := 46) (by decide) (by decide)) (by omega)) (ab_ok_build hok hn hk) ?_ (x_cache_0 (by rw [rs_st_eq])))
  exact x_und_push hdl hch (x_dd_fr (x_dd_fr ha1 (fun c h1 h2 => hb2 c (by omega))) (fun c h1 h2 => rs_st_ne _ _ _ (by omega))) (Or.inl ⟨rfl, by show 0 < (ab_ks A.1 ++ [k]).length; simp⟩) (by rw [ab_undo_0 rfl]; exact ab_drop_build A.1 k) hok
set_option maxHeartbeats 4000000 in
set_option maxRecDepth 100000 in
theorem c_clear (l : Launch) (g : rs_G) (t : Nat × Nat) (M : rs_M) (A : ab_S) (hS : x_S M A) : rs_Ci l g xk t yX5_clear cX5_clear 2 .int 0 [.ref (g.2.2 0)] M (fun r M1 => x_R (ab_clear A) r M1) := by
  obtain ⟨hL, hok, ht, hdr, him, htx, hun, hca, hse⟩ := id hS
  have hn12 := hok.1
  refine rs_ofi (plainFor_of_name (by decide)) (Nat.le_of_ble_eq_true rfl) ?_
  intro Y K hr
  show Y M 0 [(0, .ref (g.2.2 0))] []
  refine r_aload_n K 0 dX5_clear_0 rfl rfl ?_
  refine r_getR K rfl rfl ff_5_script qw_193 dX5_clear_1 ?_
  refine r_getI K rfl rfl ff_2_length qw_108 dX5_clear_4 ?_
  refine r_top_eq (nI A.2.2.2.2.1.length) htx.1 ?_
  refine r_istore_n K [(1, .int (nI A.2.2.2.2.1.length)), (0, .ref (g.2.2 0))] dX5_clear_7 rfl (by decide) rfl ?_
  refine r_aload_n K 1 dX5_clear_8 rfl rfl ?_
  refine r_getR K rfl rfl ff_5_script qw_193 dX5_clear_9 ?_
  refine r_iconst K (v := 0) dX5_clear_12 (by decide) ?_
  refine r_put K rfl rfl ff_2_length qw_108 rfl rfl dX5_clear_13 ?_
  refine r_iload_n K 0 dX5_clear_16 rfl rfl ?_
  exact hr _ _ _ _ dX5_clear_17 ⟨rfl, x_S_text (M1 := rs_st M 37 1 0) hS (fun c hc => rs_st_ne _ _ _ (by omega)) ⟨by rw [rs_st_eq]; rfl, by simp, fun i hi => absurd hi (Nat.not_lt_zero _)⟩⟩
set_option maxHeartbeats 4000000 in
set_option maxRecDepth 100000 in
theorem c_builds (l : Launch) (g : rs_G) (t : Nat × Nat) (M : rs_M) (A : ab_S) (hS : x_S M A) (k : Int32) : rs_Ci l g xk t yX5_builds cX5_builds 2 .int 4 [.ref (g.2.2 0), .int k] M (fun r M1 => x_R (ab_builds A k) r M1) := by
  obtain ⟨hL, hok, ht, hdr, him, htx, hun, hca, hse⟩ := id hS
  have hn12 := hok.1
  refine rs_ofi (plainFor_of_name (by decide)) (Nat.le_of_ble_eq_true rfl) ?_
  intro Y K hr
  show Y M 0 [(0, .ref (g.2.2 0)), (1, .int k)] []
  refine r_iload_n K 1 dX5_builds_0 rfl rfl ?_
  refine r_callSi K [.int k] [] dX5_builds_1 mf_X5_isKey qw_364 qw_303 (c_isKey l g xk t M k) rfl rfl (by decide) (Nat.le_of_ble_eq_true rfl) (fun r M1 hp => ?_)
  obtain ⟨hp, he⟩ := hp
  have he := he.symm
  subst he
  rcases hp with ⟨rfl, hb_1⟩ | ⟨rfl, hb_1⟩
  · refine r_if_ne K 9 dX5_builds_4 (by decide) (fun _ => ?_) (fun h => absurd h (by decide))
    obtain ⟨j, hj1, hj2, rfl⟩ := x_nat (a := 0) (b := 7) hb_1 (by decide) (by decide)
    have hjc : (nI j).toNatClampNeg = j := nI_clamp (by omega)
    refine r_aload_n K 0 dX5_builds_9 rfl rfl ?_
    refine r_getR K rfl rfl ff_5_line qw_189 dX5_builds_10 ?_
    refine r_getI K (xL_0 xL1) rfl ff_1_rings qw_71 dX5_builds_13 ?_
    refine r_top_eq (nI (ab_ks A.1).length) hL.1 ?_
    refine r_bipush K (v := 12) dX5_builds_16 (by decide) ?_
    refine r_icmp_lt K 24 dX5_builds_18 (by decide) (fun h_2 => ?_) (fun h_2 => ?_)
    · have nh_2 : (ab_ks A.1).length < 12 := (nf_lt rfl rfl (by omega) (by omega)).mp h_2
      refine r_aload_n K 0 dX5_builds_24 rfl rfl ?_
      refine r_getR K rfl rfl ff_5_line qw_189 dX5_builds_25 ?_
      refine r_aload_n K 0 dX5_builds_28 rfl rfl ?_
      refine r_getR K rfl rfl ff_5_line qw_189 dX5_builds_29 ?_
      refine r_callVr K [] [.ref (g.2.2 1)] dX5_builds_32 mf_X1_last (xL_0 xL1) rfl qw_365 qw_306 qw_307 (c_Line_last l g t M 1 xL1 (ab_ks A.1).length hok.1 hL.1) rfl rfl (by decide) (Nat.le_of_ble_eq_true rfl) (fun r M1 hp => ?_)
      obtain ⟨hp, he⟩ := hp
      have he := he.symm
      subst he
      subst hp
      refine r_iload_n K 1 dX5_builds_35 rfl rfl ?_
      refine r_callVi K [.ref (g.2.2 (1 + 4 + (ab_ks A.1).length)), .int (nI j)] [] dX5_builds_36 mf_X1_mayFollow (xL_0 xL1) rfl qw_366 qw_310 qw_311 (c_mayFollow l g t M 1 xL1 A.2.1 A.1 hok hL.2.2 (1 + 4 + (ab_ks A.1).length) (xL_s xL1 (by omega)) (ab_ks A.1) (by omega) (x_ln_last hL) j (by omega) hok.2.1) rfl rfl (by decide) (Nat.le_of_ble_eq_true rfl) (fun r M1 hp => ?_)
      obtain ⟨hp, he⟩ := hp
      have he := he.symm
      subst he
      rcases hp with ⟨rfl, hb_3⟩ | ⟨rfl, hb_3⟩
      · refine r_if_ne K 45 dX5_builds_39 (by decide) (fun _ => ?_) (fun h => absurd h (by decide))
        refine r_aload_n K 0 dX5_builds_45 rfl rfl ?_
        refine r_iload_n K 1 dX5_builds_46 rfl rfl ?_
        refine r_callVv K [.int (nI j)] [] dX5_builds_47 mf_X5_buildKnown rfl rfl qw_367 qw_369 qs_12 (c_buildKnown l g t M A hS (by omega) j (by omega)) rfl rfl (by decide) (Nat.le_of_ble_eq_true rfl) (fun M1 hp => ?_)
        have hL2 : x_ln M1 1 A.2.1 (ab_build A.1 j) := hp.1
        have hln : (ab_ks (ab_build A.1 j)).length = (ab_ks A.1).length + 1 := by simp [ab_build, ab_ks]
        have hL3 : M1 1 3 = nI ((ab_ks A.1).length + 1) := by rw [hL2.1, hln]
        refine r_aload_n K 0 dX5_builds_50 rfl rfl ?_
        refine r_getR K rfl rfl ff_5_line qw_189 dX5_builds_51 ?_
        refine r_aload_n K 0 dX5_builds_54 rfl rfl ?_
        refine r_getR K rfl rfl ff_5_line qw_189 dX5_builds_55 ?_
        refine r_callVr K [] [.ref (g.2.2 1)] dX5_builds_58 mf_X1_last (xL_0 xL1) rfl qw_365 qw_306 qw_307 (c_Line_last l g t M1 1 xL1 ((ab_ks A.1).length + 1) (by omega) hL3) rfl rfl (by decide) (Nat.le_of_ble_eq_true rfl) (fun r M9 hp9 => ?_)
        obtain ⟨hp9, he⟩ := hp9
        have he := he.symm
        subst he
        subst hp9
        refine r_callVi K [.ref (g.2.2 (1 + 4 + ((ab_ks A.1).length + 1)))] [] dX5_builds_61 mf_X1_cost (xL_0 xL1) rfl qw_380 qw_381 qw_382 (c_Line_cost l g t M1 1 xL1 A.2.1 (ab_build A.1 j) hp.2.1 hL2.2.2 (1 + 4 + ((ab_ks A.1).length + 1)) ((ab_ks A.1).length + 1) (xL_s xL1 (by omega)) (by omega) (x_ln_c0 hL2 (by omega))) rfl rfl (by decide) (Nat.le_of_ble_eq_true rfl) (fun r M9 hp9 => ?_)
        obtain ⟨hp9, he⟩ := hp9
        have he := he.symm
        subst he
        subst hp9
        refine r_top_eq (ab_lcost A.2.1 A.1 (ab_ks A.1 ++ [j])) (by rw [x_ln_cost hL2 (by omega), ab_ringcost, List.take_of_length_le (by omega), ab_lcost]; simp; rfl) ?_
        have e : ab_builds A (nI j) = (ab_lcost A.2.1 A.1 (ab_ks A.1 ++ [j]), ab_done A j) := by rw [ab_builds, ab_if_pos hb_1, ab_if_pos (by omega), hjc, ab_if_pos hb_3]
        exact hr _ _ _ _ dX5_builds_64 (by rw [e]; exact ⟨rfl, hp⟩)
      · refine r_if_ne K 45 dX5_builds_39 (by decide) (fun h => absurd h (by decide)) (fun _ => ?_)
        refine r_bipush K (v := (-2)) dX5_builds_42 (by decide) ?_
        have e : ab_builds A (nI j) = (-2, A) := by rw [ab_builds, ab_if_pos hb_1, ab_if_pos (by omega), hjc, ab_if_neg hb_3]
        exact hr _ _ _ _ dX5_builds_44 (by rw [e]; exact ⟨rfl, hS⟩)
    · have nh_2 : ¬ (ab_ks A.1).length < 12 := mt (nf_lt rfl rfl (by omega) (by omega)).mpr h_2
      refine r_bipush K (v := (-3)) dX5_builds_21 (by decide) ?_
      have e : ab_builds A (nI j) = (-3, A) := by rw [ab_builds, ab_if_pos hb_1, ab_if_neg (by omega)]
      exact hr _ _ _ _ dX5_builds_23 (by rw [e]; exact ⟨rfl, hS⟩)
  · refine r_if_ne K 9 dX5_builds_4 (by decide) (fun h => absurd h (by decide)) (fun _ => ?_)
    refine r_iconst K (v := (-1)) dX5_builds_7 (by decide) ?_
    have e : ab_builds A k = (-1, A) := by rw [ab_builds, ab_if_neg hb_1]
    exact hr _ _ _ _ dX5_builds_8 (by rw [e]; exact ⟨rfl, hS⟩)
set_option maxHeartbeats 4000000 in
set_option maxRecDepth 100000 in
theorem c_follows (l : Launch) (g : rs_G) (t : Nat × Nat) (M : rs_M) (A : ab_S) (hS : x_S M A) (h : Int32) : rs_Ci l g xk t yX5_follows cX5_follows 3 .int 11 [.ref (g.2.2 0), .int h] M (fun r M1 => x_R (ab_follows A h) r M1) := by
  obtain ⟨hL, hok, ht, hdr, him, htx, hun, hca, hse⟩ := id hS
  have hn12 := hok.1
  refine rs_ofi (plainFor_of_name (by decide)) (Nat.le_of_ble_eq_true rfl) ?_
  intro Y K hr
  show Y M 0 [(0, .ref (g.2.2 0)), (1, .int h)] []
  refine r_iload_n K 1 dX5_follows_0 rfl rfl ?_
  refine r_iconst K (v := 1) dX5_follows_1 (by decide) ?_
  refine r_iconst K (v := 5) dX5_follows_2 (by decide) ?_
  refine r_callSi K [.int h, .int 1, .int 5] [] dX5_follows_3 mf_X5_isWithin qw_227 qw_228 (c_isWithin l g xk t M h 1 5) rfl rfl (by decide) (Nat.le_of_ble_eq_true rfl) (fun r M1 hp => ?_)
  obtain ⟨hp, he⟩ := hp
  have he := he.symm
  subst he
  rcases hp with ⟨rfl, hb_1⟩ | ⟨rfl, hb_1⟩
  · refine r_if_ne K 11 dX5_follows_6 (by decide) (fun _ => ?_) (fun h => absurd h (by decide))
    obtain ⟨j, hj1, hj2, rfl⟩ := x_nat (a := 1) (b := 5) hb_1 (by decide) (by decide)
    have hjc : (nI j).toNatClampNeg = j := nI_clamp (by omega)
    have hpr := ab_plan_rows A.2.1 A.1 (h := j) (by omega)
    refine r_aload_n K 0 dX5_follows_11 rfl rfl ?_
    refine r_getR K rfl rfl ff_5_line qw_189 dX5_follows_12 ?_
    refine r_getI K (xL_0 xL1) rfl ff_1_rings qw_71 dX5_follows_15 ?_
    refine r_top_eq (nI (ab_ks A.1).length) hL.1 ?_
    refine r_bipush K (v := 12) dX5_follows_18 (by decide) ?_
    refine r_icmp_lt K 26 dX5_follows_20 (by decide) (fun h_2 => ?_) (fun h_2 => ?_)
    · have nh_2 : (ab_ks A.1).length < 12 := (nf_lt rfl rfl (by omega) (by omega)).mp h_2
      refine r_aload_n K 0 dX5_follows_26 rfl rfl ?_
      refine r_getR K rfl rfl ff_5_search qw_195 dX5_follows_27 ?_
      refine r_aload_n K 0 dX5_follows_30 rfl rfl ?_
      refine r_getR K rfl rfl ff_5_line qw_189 dX5_follows_31 ?_
      refine r_iload_n K 1 dX5_follows_34 rfl rfl ?_
      refine r_callVv K [.ref (g.2.2 1), .int (nI j)] [] dX5_follows_35 mf_X3_look rfl rfl qw_391 qw_392 qw_393 (c_look l g t M xL1 A.2.1 ht A.1 hok hL hca j (by omega) (by omega)) rfl rfl (by decide) (Nat.le_of_ble_eq_true rfl) (fun Mk hp => ?_)
      obtain ⟨hl1, hl2, hl3⟩ := hp
      have hSk : x_S Mk A := x_S_scr hS (fun c hc => hl3 c (by omega)) ⟨j, by omega, hl1, Or.inr hl2⟩
      refine r_aload_n K 0 dX5_follows_38 rfl rfl ?_
      refine r_getR K rfl rfl ff_5_search qw_195 dX5_follows_39 ?_
      refine r_getI K rfl rfl ff_3_rows qw_173 dX5_follows_42 ?_
      refine r_top_eq (nI (ab_plan A.2.1 A.1 j).1) hl2.1 ?_
      refine r_if_ne K 51 dX5_follows_45 (by decide) (fun h_3 => ?_) (fun h_3 => ?_)
      · have nh_3 : ¬ (ab_plan A.2.1 A.1 j).1 = 0 := mt (nf_eq rfl rfl (by omega) (by omega)).mpr h_3
        refine r_aload_n K 0 dX5_follows_51 rfl rfl ?_
        refine r_getR K rfl rfl ff_5_search qw_195 dX5_follows_52 ?_
        refine r_getR K rfl rfl ff_3_firstRow qw_169 dX5_follows_55 ?_
        refine r_iconst K (v := 0) dX5_follows_58 (by decide) ?_
        refine r_iald K (j := 0) rfl rfl (by decide) (by decide) dX5_follows_59 ?_
        refine r_top_eq (nI ((ab_plan A.2.1 A.1 j).2.2.getD 0 0)) ((hl2.2 (by omega)).2 0 (by omega)) ?_
        refine r_istore_n K [(2, .int (nI ((ab_plan A.2.1 A.1 j).2.2.getD 0 0))), (0, .ref (g.2.2 0)), (1, .int (nI j))] dX5_follows_60 rfl (by decide) rfl ?_
        refine r_aload_n K 1 dX5_follows_61 rfl rfl ?_
        refine r_iload_n K 0 dX5_follows_62 rfl rfl ?_
        refine r_callVv K [.int (nI ((ab_plan A.2.1 A.1 j).2.2.getD 0 0))] [] dX5_follows_63 mf_X5_buildKnown rfl rfl qw_367 qw_369 qs_12 (c_buildKnown l g t Mk A hSk (by omega) ((ab_plan A.2.1 A.1 j).2.2.getD 0 0) (ab_plan_k (by omega) (by omega))) rfl rfl (by decide) (Nat.le_of_ble_eq_true rfl) (fun M1 hp => ?_)
        refine r_iload_n K 0 dX5_follows_66 rfl rfl ?_
        have e : ab_follows A (nI j) = (nI ((ab_plan A.2.1 A.1 j).2.2.getD 0 0), ab_done A ((ab_plan A.2.1 A.1 j).2.2.getD 0 0)) := by rw [ab_follows, ab_if_pos hb_1, ab_if_pos (by omega), hjc, ab_if_neg (by omega)]
        exact hr _ _ _ _ dX5_follows_67 (by rw [e]; exact ⟨rfl, hp⟩)
      · have nh_3 : (ab_plan A.2.1 A.1 j).1 = 0 := (nf_eq rfl rfl (by omega) (by omega)).mp h_3
        refine r_bipush K (v := (-2)) dX5_follows_48 (by decide) ?_
        have e : ab_follows A (nI j) = (-2, A) := by rw [ab_follows, ab_if_pos hb_1, ab_if_pos (by omega), hjc, ab_if_pos (by omega)]
        exact hr _ _ _ _ dX5_follows_50 (by rw [e]; exact ⟨rfl, hSk⟩)
    · have nh_2 : ¬ (ab_ks A.1).length < 12 := mt (nf_lt rfl rfl (by omega) (by omega)).mpr h_2
      refine r_bipush K (v := (-3)) dX5_follows_23 (by decide) ?_
      have e : ab_follows A (nI j) = (-3, A) := by rw [ab_follows, ab_if_pos hb_1, ab_if_neg (by omega)]
      exact hr _ _ _ _ dX5_follows_25 (by rw [e]; exact ⟨rfl, hS⟩)
  · refine r_if_ne K 11 dX5_follows_6 (by decide) (fun h => absurd h (by decide)) (fun _ => ?_)
    refine r_iconst K (v := (-1)) dX5_follows_9 (by decide) ?_
    have e : ab_follows A h = (-1, A) := by rw [ab_follows, ab_if_neg hb_1]
    exact hr _ _ _ _ dX5_follows_10 (by rw [e]; exact ⟨rfl, hS⟩)
