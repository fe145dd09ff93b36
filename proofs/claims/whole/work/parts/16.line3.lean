theorem rs_st_nk (M : rs_M) (c : Nat) {k k' : Nat} (v : Int32) (h : k' ≠ k) : rs_st M c k v c k' = M c k' := by simp [rs_st, h]
theorem rs_st_eq (M : rs_M) (c k : Nat) (v : Int32) : rs_st M c k v c k = v := by simp [rs_st]
/-- what lies outside the cells lo .. hi - 1 stays -/
def x_fr (M M1 : rs_M) (lo hi : Nat) : Prop := ∀ c, (c < lo ∨ hi ≤ c) → M1 c = M c
theorem x_fr_rf (M : rs_M) (lo hi : Nat) : x_fr M M lo hi := fun _ _ => rfl
theorem x_fr_tr {M M1 M2 : rs_M} {lo hi : Nat} (h : x_fr M M1 lo hi) (h2 : x_fr M1 M2 lo hi) : x_fr M M2 lo hi := fun c hc => (h2 c hc).trans (h c hc)
theorem x_fr_mono {M M1 : rs_M} {lo hi lo2 hi2 : Nat} (h : x_fr M M1 lo hi) (h1 : lo2 ≤ lo) (h2 : hi ≤ hi2) : x_fr M M1 lo2 hi2 := fun c hc => h c (by omega)
theorem x_fr_st {M : rs_M} {lo hi c k : Nat} {v : Int32} (h1 : lo ≤ c) (h2 : c < hi) : x_fr M (rs_st M c k v) lo hi := fun c' hc => rs_st_ne M k v (by omega)
theorem x_fr_cp {M : rs_M} {lo hi c d : Nat} (h1 : lo ≤ c) (h2 : c < hi) : x_fr M (x_cp M c d) lo hi := fun c' hc => by
  funext j
  simp only [x_cp, if_neg (show ¬ (c' = c ∧ j < 6) by omega)]
theorem x_fr_adv {M : rs_M} {lo hi c k : Nat} {tp : Int32} (h1 : lo ≤ c) (h2 : c < hi) : x_fr M (x_adv M c tp k) lo hi := fun c' hc => by
  funext j
  simp only [x_adv, if_neg (show ¬ c' = c by omega)]
theorem x_ln_fr {M M1 : rs_M} {b lo hi : Nat} {tp : Int32} {L : ab_L} (hL : (ab_ks L).length ≤ 12) (h : x_ln M b tp L) (hf : x_fr M M1 lo hi) (hd : b + 17 ≤ lo ∨ hi ≤ b) : x_ln M1 b tp L := by
  obtain ⟨h3, hs, h4, h5, h6, h7, hw⟩ := h
  refine ⟨by rw [hf b (by omega)]; exact h3, fun i hi => x_sp_same (hs i hi) (fun j _ => by rw [hf (b + 4 + i) (by omega)]), by rw [hf b (by omega)]; exact h4, by rw [hf b (by omega)]; exact h5, by rw [hf b (by omega)]; exact h6, by rw [hf b (by omega)]; exact h7, fun p hp => ⟨by rw [hf (b + 2) (by omega)]; exact (hw p hp).1, by rw [hf (b + 3) (by omega)]; exact (hw p hp).2⟩⟩
def ab_rule (L : ab_L) (w : Nat) : Nat := match w with
  | 0 => ab_bar L
  | 1 => ab_way L
  | _ => ab_tail L
def ab_setrule (L : ab_L) (w v : Nat) : ab_L := match w with
  | 0 => (ab_ks L, ab_wx L, ab_wy L, v, ab_way L, ab_tail L)
  | 1 => (ab_ks L, ab_wx L, ab_wy L, ab_bar L, v, ab_tail L)
  | _ => (ab_ks L, ab_wx L, ab_wy L, ab_bar L, ab_way L, v)
def ab_setwish (L : ab_L) (p : Nat) (x y : Int32) : ab_L := (ab_ks L, upd (ab_wx L) p x, upd (ab_wy L) p y, L.2.2.2)
def ab_build (L : ab_L) (k : Nat) : ab_L := (ab_ks L ++ [k], L.2)
def ab_drop (L : ab_L) : ab_L := ((ab_ks L).dropLast, L.2)
theorem x_build_ok {M : rs_M} {b : Nat} {tp : Int32} {L : ab_L} (h : x_ln M b tp L) (hn : (ab_ks L).length < 12) (k : Nat) : x_ln (rs_st (x_adv (x_cp M (b + 4 + ((ab_ks L).length + 1)) (b + 4 + (ab_ks L).length)) (b + 4 + ((ab_ks L).length + 1)) tp k) b 3 (nI ((ab_ks L).length + 1))) b tp (ab_build L k) := by
  obtain ⟨h3, hs, h4, h5, h6, h7, hw⟩ := h
  have fr : ∀ c, c ≠ b → c ≠ b + 4 + ((ab_ks L).length + 1) → (rs_st (x_adv (x_cp M (b + 4 + ((ab_ks L).length + 1)) (b + 4 + (ab_ks L).length)) (b + 4 + ((ab_ks L).length + 1)) tp k) b 3 (nI ((ab_ks L).length + 1))) c = M c := by
    intro c c1 c2
    rw [rs_st_ne _ _ _ c1]
    funext j
    simp only [x_adv, if_neg c2, x_cp, if_neg (show ¬ (c = b + 4 + ((ab_ks L).length + 1) ∧ j < 6) from fun q => c2 q.1)]
  have frb : ∀ j, j ≠ 3 → (rs_st (x_adv (x_cp M (b + 4 + ((ab_ks L).length + 1)) (b + 4 + (ab_ks L).length)) (b + 4 + ((ab_ks L).length + 1)) tp k) b 3 (nI ((ab_ks L).length + 1))) b j = M b j := by
    intro j hj
    rw [rs_st_nk _ _ _ hj]
    simp only [x_adv, if_neg (show ¬ b = b + 4 + ((ab_ks L).length + 1) by omega), x_cp, if_neg (show ¬ (b = b + 4 + ((ab_ks L).length + 1) ∧ j < 6) by omega)]
  refine ⟨?_, fun i hi => ?_, by rw [frb 4 (by decide)]; exact h4, by rw [frb 5 (by decide)]; exact h5, by rw [frb 6 (by decide)]; exact h6, by rw [frb 7 (by decide)]; exact h7, fun p hp => ⟨by rw [fr (b + 2) (by omega) (by omega)]; exact (hw p hp).1, by rw [fr (b + 3) (by omega) (by omega)]; exact (hw p hp).2⟩⟩
  · rw [rs_st_eq]; simp [ab_build, ab_ks]
  · have hi' : i ≤ (ab_ks L).length + 1 := by simpa [ab_build, ab_ks] using hi
    show x_sp _ (b + 4 + i) tp ((ab_ks L ++ [k]).take i)
    rcases Nat.lt_or_ge (ab_ks L).length i with q | q
    · have e : i = (ab_ks L).length + 1 := by omega
      subst e
      rw [List.take_of_length_le (by simp)]
      refine x_sp_same (x_sp_adv k (x_sp_cp (c := b + 4 + ((ab_ks L).length + 1)) (by have := hs _ (Nat.le_refl _); rwa [List.take_length] at this))) (fun j _ => ?_)
      rw [rs_st_ne _ _ _ (by omega)]
    · rw [List.take_append_of_le_length q]
      exact x_sp_same (hs i q) (fun j _ => by rw [fr (b + 4 + i) (by omega) (by omega)])
theorem x_drop_ok {M : rs_M} {b : Nat} {tp : Int32} {L : ab_L} (h : x_ln M b tp L) : x_ln (rs_st M b 3 (nI ((ab_ks L).length - 1))) b tp (ab_drop L) := by
  obtain ⟨h3, hs, h4, h5, h6, h7, hw⟩ := h
  have frb : ∀ j, j ≠ 3 → (rs_st M b 3 (nI ((ab_ks L).length - 1))) b j = M b j := fun j hj => rs_st_nk _ _ _ hj
  refine ⟨?_, fun i hi => ?_, by rw [frb 4 (by decide)]; exact h4, by rw [frb 5 (by decide)]; exact h5, by rw [frb 6 (by decide)]; exact h6, by rw [frb 7 (by decide)]; exact h7, fun p hp => ⟨by rw [rs_st_ne _ _ _ (by omega)]; exact (hw p hp).1, by rw [rs_st_ne _ _ _ (by omega)]; exact (hw p hp).2⟩⟩
  · rw [rs_st_eq]; simp [ab_drop, ab_ks]
  · have hi' : i ≤ (ab_ks L).length - 1 := by simpa [ab_drop, ab_ks] using hi
    show x_sp _ (b + 4 + i) tp ((ab_ks L).dropLast.take i)
    rw [List.dropLast_eq_take, List.take_take, Nat.min_eq_left hi']
    exact x_sp_same (hs i (by omega)) (fun j _ => by rw [rs_st_ne _ _ _ (by omega)])
theorem x_wish_ok {M : rs_M} {b : Nat} {tp : Int32} {L : ab_L} (h : x_ln M b tp L) (p : Nat) (x y : Int32) : x_ln (rs_st (rs_st M (b + 2) p x) (b + 3) p y) b tp (ab_setwish L p x y) := by
  obtain ⟨h3, hs, h4, h5, h6, h7, hw⟩ := h
  have fr : ∀ c, c ≠ b + 2 → c ≠ b + 3 → (rs_st (rs_st M (b + 2) p x) (b + 3) p y) c = M c := fun c c1 c2 => by rw [rs_st_ne _ _ _ c2, rs_st_ne _ _ _ c1]
  refine ⟨by rw [fr b (by omega) (by omega)]; exact h3, fun i hi => x_sp_same (hs i hi) (fun j _ => by rw [fr (b + 4 + i) (by omega) (by omega)]), by rw [fr b (by omega) (by omega)]; exact h4, by rw [fr b (by omega) (by omega)]; exact h5, by rw [fr b (by omega) (by omega)]; exact h6, by rw [fr b (by omega) (by omega)]; exact h7, fun q hq => ⟨?_, ?_⟩⟩
  · rw [rs_st_ne _ _ _ (by omega), rs_st_row]
    show upd (M (b + 2)) p x q = upd (ab_wx L) p x q
    simp only [upd]
    split
    · rfl
    · exact (hw q hq).1
  · rw [rs_st_row, rs_st_ne _ _ _ (by omega)]
    show upd (M (b + 3)) p y q = upd (ab_wy L) p y q
    simp only [upd]
    split
    · rfl
    · exact (hw q hq).2
theorem x_rule_ok {M : rs_M} {b : Nat} {tp : Int32} {L : ab_L} (h : x_ln M b tp L) (w v : Nat) (hw2 : w ≤ 2) : x_ln (rs_st M b (5 + w) (nI v)) b tp (ab_setrule L w v) := by
  obtain ⟨h3, hs, h4, h5, h6, h7, hw⟩ := h
  have fr : ∀ c, c ≠ b → (rs_st M b (5 + w) (nI v)) c = M c := fun c c1 => rs_st_ne _ _ _ c1
  have hk : ab_ks (ab_setrule L w v) = ab_ks L ∧ ab_wx (ab_setrule L w v) = ab_wx L ∧ ab_wy (ab_setrule L w v) = ab_wy L := by
    rcases (show w = 0 ∨ w = 1 ∨ w = 2 by omega) with rfl | rfl | rfl <;> exact ⟨rfl, rfl, rfl⟩
  refine ⟨by rw [hk.1, rs_st_nk _ _ _ (by omega)]; exact h3, by rw [hk.1]; exact fun i hi => x_sp_same (hs i hi) (fun j _ => by rw [fr (b + 4 + i) (by omega)]), by rw [rs_st_nk _ _ _ (by omega)]; exact h4, ?_, ?_, ?_, by rw [hk.2.1, hk.2.2]; exact fun q hq => ⟨by rw [fr _ (by omega)]; exact (hw q hq).1, by rw [fr _ (by omega)]; exact (hw q hq).2⟩⟩
  all_goals rcases (show w = 0 ∨ w = 1 ∨ w = 2 by omega) with rfl | rfl | rfl <;> simp [rs_st, ab_setrule, ab_bar, ab_way, ab_tail, h5, h6, h7]
set_option maxHeartbeats 4000000 in
set_option maxRecDepth 100000 in
theorem c_mayFollow0 (l : Launch) (g : rs_G) (t : Nat × Nat) (M : rs_M) (b : Nat) (hb : xL b) (tp : Int32) (L : ab_L) (hok : ab_ok L) (hL : x_rl M b tp L) (c : Nat) (hc : xk[c]? = some x_spot) (ks : List Nat) (hm : ks.length ≤ 16) (hs : x_sp M c tp ks) (k : Nat) (hk : k < 8) (hg : ks.getLast? = none) : rs_Ci l g xk t yX1_mayFollow cX1_mayFollow 3 .boolean 2 [.ref (g.2.2 b), .ref (g.2.2 c), .int (nI k)] M (fun r M1 => ab_b01 r (ab_may tp L ks k) ∧ M1 = M) := by
  refine rs_ofz (plainFor_of_name (by decide)) (Nat.le_of_ble_eq_true rfl) ?_
  intro Y K hr
  show Y M 0 [(0, .ref (g.2.2 b)), (1, .ref (g.2.2 c)), (2, .int (nI k))] []
  refine r_aload_n K 0 dX1_mayFollow_0 rfl rfl ?_
  refine r_aload_n K 1 dX1_mayFollow_1 rfl rfl ?_
  refine r_getI K hc rfl ff_4_key qw_35 dX1_mayFollow_2 ?_
  refine r_top_eq (-9) (by rw [hs.2.1]; simp [ab_last, hg]) ?_
  refine r_iload_n K 2 dX1_mayFollow_5 rfl rfl ?_
  refine r_callVi K [.int (-9), .int (nI k)] [] dX1_mayFollow_6 mf_X1_isBarred (xL_0 hb) rfl qw_313 qw_315 qs_9 (c_isBarred0 l g t M b hb (nI k)) rfl rfl (by decide) (Nat.le_of_ble_eq_true rfl) (fun r M1 hp => ?_)
  obtain ⟨hp, he⟩ := hp
  have he := he.symm
  subst he
  subst hp
  refine r_if_ne K 25 dX1_mayFollow_9 (by decide) (fun h => absurd h (by decide)) (fun _ => ?_)
  refine r_aload_n K 0 dX1_mayFollow_12 rfl rfl ?_
  refine r_aload_n K 1 dX1_mayFollow_13 rfl rfl ?_
  refine r_iload_n K 2 dX1_mayFollow_14 rfl rfl ?_
  refine r_callVi K [.ref (g.2.2 c), .int (nI k)] [] dX1_mayFollow_15 mf_X1_hasRoom (xL_0 hb) rfl qw_320 qw_322 qs_10 (c_hasRoom l g t M b hb tp L hok hL c hc ks hm hs k hk) rfl rfl (by decide) (Nat.le_of_ble_eq_true rfl) (fun r M1 hp => ?_)
  obtain ⟨hp, he⟩ := hp
  have he := he.symm
  subst he
  rcases hp with ⟨rfl, hb_1⟩ | ⟨rfl, hb_1⟩
  · refine r_if_eq K 25 dX1_mayFollow_18 (by decide) (fun h => absurd h (by decide)) (fun _ => ?_)
    refine r_iconst K (v := 1) dX1_mayFollow_21 (by decide) ?_
    refine r_goto K 26 dX1_mayFollow_22 (by decide) ?_
    exact hr _ _ _ _ dX1_mayFollow_26 (Or.inr rfl) ⟨Or.inl ⟨rfl, ⟨fun j q => (by rw [hg] at q; cases q), hb_1⟩⟩, rfl⟩
  · refine r_if_eq K 25 dX1_mayFollow_18 (by decide) (fun _ => ?_) (fun h => absurd h (by decide))
    refine r_iconst K (v := 0) dX1_mayFollow_25 (by decide) ?_
    exact hr _ _ _ _ dX1_mayFollow_26 (Or.inl rfl) ⟨Or.inr ⟨rfl, fun q => hb_1 q.2⟩, rfl⟩
set_option maxHeartbeats 4000000 in
set_option maxRecDepth 100000 in
theorem c_mayFollow1 (l : Launch) (g : rs_G) (t : Nat × Nat) (M : rs_M) (b : Nat) (hb : xL b) (tp : Int32) (L : ab_L) (hok : ab_ok L) (hL : x_rl M b tp L) (c : Nat) (hc : xk[c]? = some x_spot) (ks : List Nat) (hm : ks.length ≤ 16) (hs : x_sp M c tp ks) (k : Nat) (hk : k < 8) (j : Nat) (hj : j < 8) (hg : ks.getLast? = some j) : rs_Ci l g xk t yX1_mayFollow cX1_mayFollow 3 .boolean 2 [.ref (g.2.2 b), .ref (g.2.2 c), .int (nI k)] M (fun r M1 => ab_b01 r (ab_may tp L ks k) ∧ M1 = M) := by
  refine rs_ofz (plainFor_of_name (by decide)) (Nat.le_of_ble_eq_true rfl) ?_
  intro Y K hr
  show Y M 0 [(0, .ref (g.2.2 b)), (1, .ref (g.2.2 c)), (2, .int (nI k))] []
  refine r_aload_n K 0 dX1_mayFollow_0 rfl rfl ?_
  refine r_aload_n K 1 dX1_mayFollow_1 rfl rfl ?_
  refine r_getI K hc rfl ff_4_key qw_35 dX1_mayFollow_2 ?_
  refine r_top_eq (nI j) (by rw [hs.2.1]; simp [ab_last, hg]) ?_
  refine r_iload_n K 2 dX1_mayFollow_5 rfl rfl ?_
  refine r_callVi K [.int (nI j), .int (nI k)] [] dX1_mayFollow_6 mf_X1_isBarred (xL_0 hb) rfl qw_313 qw_315 qs_9 (c_isBarred1 l g t M b hb (ab_bar L) hok.2.2.1 hL.2.1 j k hj hk) rfl rfl (by decide) (Nat.le_of_ble_eq_true rfl) (fun r M1 hp => ?_)
  obtain ⟨hp, he⟩ := hp
  have he := he.symm
  subst he
  rcases hp with ⟨rfl, hb_1⟩ | ⟨rfl, hb_1⟩
  · refine r_if_ne K 25 dX1_mayFollow_9 (by decide) (fun _ => ?_) (fun h => absurd h (by decide))
    refine r_iconst K (v := 0) dX1_mayFollow_25 (by decide) ?_
    exact hr _ _ _ _ dX1_mayFollow_26 (Or.inl rfl) ⟨Or.inr ⟨rfl, fun q => q.1 j hg hb_1⟩, rfl⟩
  · refine r_if_ne K 25 dX1_mayFollow_9 (by decide) (fun h => absurd h (by decide)) (fun _ => ?_)
    refine r_aload_n K 0 dX1_mayFollow_12 rfl rfl ?_
    refine r_aload_n K 1 dX1_mayFollow_13 rfl rfl ?_
    refine r_iload_n K 2 dX1_mayFollow_14 rfl rfl ?_
    refine r_callVi K [.ref (g.2.2 c), .int (nI k)] [] dX1_mayFollow_15 mf_X1_hasRoom (xL_0 hb) rfl qw_320 qw_322 qs_10 (c_hasRoom l g t M b hb tp L hok hL c hc ks hm hs k hk) rfl rfl (by decide) (Nat.le_of_ble_eq_true rfl) (fun r M1 hp => ?_)
    obtain ⟨hp, he⟩ := hp
    have he := he.symm
    subst he
    rcases hp with ⟨rfl, hb_2⟩ | ⟨rfl, hb_2⟩
    · refine r_if_eq K 25 dX1_mayFollow_18 (by decide) (fun h => absurd h (by decide)) (fun _ => ?_)
      refine r_iconst K (v := 1) dX1_mayFollow_21 (by decide) ?_
      refine r_goto K 26 dX1_mayFollow_22 (by decide) ?_
      exact hr _ _ _ _ dX1_mayFollow_26 (Or.inr rfl) ⟨Or.inl ⟨rfl, ⟨fun j2 q => (by rw [hg] at q; cases q; exact hb_1), hb_2⟩⟩, rfl⟩
    · refine r_if_eq K 25 dX1_mayFollow_18 (by decide) (fun _ => ?_) (fun h => absurd h (by decide))
      refine r_iconst K (v := 0) dX1_mayFollow_25 (by decide) ?_
      exact hr _ _ _ _ dX1_mayFollow_26 (Or.inl rfl) ⟨Or.inr ⟨rfl, fun q => hb_2 q.2⟩, rfl⟩
theorem c_mayFollow (l : Launch) (g : rs_G) (t : Nat × Nat) (M : rs_M) (b : Nat) (hb : xL b) (tp : Int32) (L : ab_L) (hok : ab_ok L) (hL : x_rl M b tp L) (c : Nat) (hc : xk[c]? = some x_spot) (ks : List Nat) (hm : ks.length ≤ 16) (hs : x_sp M c tp ks) (k : Nat) (hk : k < 8) (h8 : ∀ x ∈ ks, x < 8) : rs_Ci l g xk t yX1_mayFollow cX1_mayFollow 3 .boolean 2 [.ref (g.2.2 b), .ref (g.2.2 c), .int (nI k)] M (fun r M1 => ab_b01 r (ab_may tp L ks k) ∧ M1 = M) := by
  cases hg : ks.getLast? with
  | none => exact c_mayFollow0 l g t M b hb tp L hok hL c hc ks hm hs k hk hg
  | some j => exact c_mayFollow1 l g t M b hb tp L hok hL c hc ks hm hs k hk j (h8 j (List.mem_of_getLast? hg)) hg
set_option maxHeartbeats 4000000 in
set_option maxRecDepth 100000 in
theorem c_setWish (l : Launch) (g : rs_G) (t : Nat × Nat) (M : rs_M) (b : Nat) (hb : xL b) (tp : Int32) (L : ab_L) (hL : x_ln M b tp L) (p : Nat) (h1 : 1 ≤ p) (h17 : p ≤ 17) (x y : Int32) : rs_Cv l g xk t yX1_setWish cX1_setWish 4 1 [.ref (g.2.2 b), .int (nI p), .int x, .int y] M (fun M1 => x_ln M1 b tp (ab_setwish L p x y) ∧ x_fr M M1 b (b + 17)) := by
  refine rs_ofv (plainFor_of_name (by decide)) (Nat.le_of_ble_eq_true rfl) ?_
  intro Y K hr
  show Y M 0 [(0, .ref (g.2.2 b)), (1, .int (nI p)), (2, .int x), (3, .int y)] []
  refine r_iload_n K 1 dX1_setWish_0 rfl rfl ?_
  refine r_iconst K (v := 1) dX1_setWish_1 (by decide) ?_
  refine r_bipush K (v := 17) dX1_setWish_2 (by decide) ?_
  refine r_callNi K [.int (nI p), .int 1, .int 17] [] dX1_setWish_4 mf_X5_isWithin (by decide) qw_228 (c_isWithin l g xk t M (nI p) 1 17) rfl rfl (by decide) (Nat.le_of_ble_eq_true rfl) (fun r M1 hp => ?_)
  obtain ⟨hp, he⟩ := hp
  have he := he.symm
  subst he
  rcases hp with ⟨rfl, hb_1⟩ | ⟨rfl, hb_1⟩
  rotate_left
  · exact absurd (x_within (a := 1) (b := 17) rfl h1 h17 (by decide)) hb_1
  refine r_if_eq K 24 dX1_setWish_7 (by decide) (fun h => absurd h (by decide)) (fun _ => ?_)
  refine r_aload_n K 0 dX1_setWish_10 rfl rfl ?_
  refine r_getR K (xL_0 hb) rfl ff_1_wishX qw_65 dX1_setWish_11 ?_
  refine r_iload_n K 1 dX1_setWish_14 rfl rfl ?_
  refine r_iload_n K 2 dX1_setWish_15 rfl rfl ?_
  refine r_iast K (j := p) (xL_2 hb) rfl (by omega) (by decide) dX1_setWish_16 ?_
  refine r_aload_n K 0 dX1_setWish_17 rfl rfl ?_
  refine r_getR K (xL_0 hb) rfl ff_1_wishY qw_67 dX1_setWish_18 ?_
  refine r_iload_n K 1 dX1_setWish_21 rfl rfl ?_
  refine r_iload_n K 3 dX1_setWish_22 rfl rfl ?_
  refine r_iast K (j := p) (xL_3 hb) rfl (by omega) (by decide) dX1_setWish_23 ?_
  exact hr _ _ _ dX1_setWish_24 ⟨x_wish_ok hL p x y, x_fr_tr (x_fr_st (by omega) (by omega)) (x_fr_st (by omega) (by omega))⟩
set_option maxHeartbeats 4000000 in
set_option maxRecDepth 100000 in
theorem c_rule (l : Launch) (g : rs_G) (t : Nat × Nat) (M : rs_M) (b : Nat) (hb : xL b) (tp : Int32) (L : ab_L) (hL : x_ln M b tp L) (w : Nat) (hw : w ≤ 2) : rs_Ci l g xk t yX1_rule cX1_rule 2 .int 0 [.ref (g.2.2 b), .int (nI w)] M (fun r M1 => r = nI (ab_rule L w) ∧ M1 = M) := by
  refine rs_ofi (plainFor_of_name (by decide)) (Nat.le_of_ble_eq_true rfl) ?_
  intro Y K hr
  show Y M 0 [(0, .ref (g.2.2 b)), (1, .int (nI w))] []
  refine r_iload_n K 1 dX1_rule_0 rfl rfl ?_
  refine r_lookup K [(0, 28), (1, 33)] 38 dX1_rule_1 (by decide) (by decide) (by decide) ?_
  simp only [rs_swp]
  refine ⟨fun h_1_0 => ?_, fun h_1_0 => ⟨fun h_1_1 => ?_, fun h_1_1 => ?_⟩⟩
  · refine r_aload_n K 0 dX1_rule_28 rfl rfl ?_
    refine r_getI K (xL_0 hb) rfl ff_1_bar qw_76 dX1_rule_29 ?_
    obtain ⟨-, -, -, e5, e6, e7, -⟩ := hL
    have nh_1_0 : w = 0 := (nf_eq rfl rfl (by omega) (by omega)).mp h_1_0
    have hww : w = 0 := by omega
    subst hww
    exact hr _ _ _ _ dX1_rule_32 ⟨e5, rfl⟩
  · refine r_aload_n K 0 dX1_rule_33 rfl rfl ?_
    refine r_getI K (xL_0 hb) rfl ff_1_way qw_78 dX1_rule_34 ?_
    obtain ⟨-, -, -, e5, e6, e7, -⟩ := hL
    have nh_1_0 : ¬ w = 0 := mt (nf_eq rfl rfl (by omega) (by omega)).mpr h_1_0
    have nh_1_1 : w = 1 := (nf_eq rfl rfl (by omega) (by omega)).mp h_1_1
    have hww : w = 1 := by omega
    subst hww
    exact hr _ _ _ _ dX1_rule_37 ⟨e6, rfl⟩
  · refine r_aload_n K 0 dX1_rule_38 rfl rfl ?_
    refine r_getI K (xL_0 hb) rfl ff_1_tail qw_80 dX1_rule_39 ?_
    obtain ⟨-, -, -, e5, e6, e7, -⟩ := hL
    have nh_1_0 : ¬ w = 0 := mt (nf_eq rfl rfl (by omega) (by omega)).mpr h_1_0
    have nh_1_1 : ¬ w = 1 := mt (nf_eq rfl rfl (by omega) (by omega)).mpr h_1_1
    have hww : w = 2 := by omega
    subst hww
    exact hr _ _ _ _ dX1_rule_42 ⟨e7, rfl⟩
set_option maxHeartbeats 4000000 in
set_option maxRecDepth 100000 in
theorem c_setRule (l : Launch) (g : rs_G) (t : Nat × Nat) (M : rs_M) (b : Nat) (hb : xL b) (tp : Int32) (L : ab_L) (hL : x_ln M b tp L) (w : Nat) (hw : w ≤ 2) (v : Nat) : rs_Cv l g xk t yX1_setRule cX1_setRule 3 0 [.ref (g.2.2 b), .int (nI w), .int (nI v)] M (fun M1 => x_ln M1 b tp (ab_setrule L w v) ∧ x_fr M M1 b (b + 17)) := by
  refine rs_ofv (plainFor_of_name (by decide)) (Nat.le_of_ble_eq_true rfl) ?_
  intro Y K hr
  show Y M 0 [(0, .ref (g.2.2 b)), (1, .int (nI w)), (2, .int (nI v))] []
  refine r_iload_n K 1 dX1_setRule_0 rfl rfl ?_
  refine r_lookup K [(0, 28), (1, 36)] 44 dX1_setRule_1 (by decide) (by decide) (by decide) ?_
  simp only [rs_swp]
  refine ⟨fun h_1_0 => ?_, fun h_1_0 => ⟨fun h_1_1 => ?_, fun h_1_1 => ?_⟩⟩
  · refine r_aload_n K 0 dX1_setRule_28 rfl rfl ?_
    refine r_iload_n K 2 dX1_setRule_29 rfl rfl ?_
    refine r_put K (xL_0 hb) rfl ff_1_bar qw_76 rfl rfl dX1_setRule_30 ?_
    refine r_goto K 49 dX1_setRule_33 (by decide) ?_
    have nh_1_0 : w = 0 := (nf_eq rfl rfl (by omega) (by omega)).mp h_1_0
    have hww : w = 0 := by omega
    subst hww
    exact hr _ _ _ dX1_setRule_49 ⟨x_rule_ok hL 0 v (by decide), x_fr_st (by omega) (by omega)⟩
  · refine r_aload_n K 0 dX1_setRule_36 rfl rfl ?_
    refine r_iload_n K 2 dX1_setRule_37 rfl rfl ?_
    refine r_put K (xL_0 hb) rfl ff_1_way qw_78 rfl rfl dX1_setRule_38 ?_
    refine r_goto K 49 dX1_setRule_41 (by decide) ?_
    have nh_1_0 : ¬ w = 0 := mt (nf_eq rfl rfl (by omega) (by omega)).mpr h_1_0
    have nh_1_1 : w = 1 := (nf_eq rfl rfl (by omega) (by omega)).mp h_1_1
    have hww : w = 1 := by omega
    subst hww
    exact hr _ _ _ dX1_setRule_49 ⟨x_rule_ok hL 1 v (by decide), x_fr_st (by omega) (by omega)⟩
  · refine r_aload_n K 0 dX1_setRule_44 rfl rfl ?_
    refine r_iload_n K 2 dX1_setRule_45 rfl rfl ?_
    refine r_put K (xL_0 hb) rfl ff_1_tail qw_80 rfl rfl dX1_setRule_46 ?_
    have nh_1_0 : ¬ w = 0 := mt (nf_eq rfl rfl (by omega) (by omega)).mpr h_1_0
    have nh_1_1 : ¬ w = 1 := mt (nf_eq rfl rfl (by omega) (by omega)).mpr h_1_1
    have hww : w = 2 := by omega
    subst hww
    exact hr _ _ _ dX1_setRule_49 ⟨x_rule_ok hL 2 v (by decide), x_fr_st (by omega) (by omega)⟩
set_option maxHeartbeats 4000000 in
set_option maxRecDepth 100000 in
theorem c_dropLast (l : Launch) (g : rs_G) (t : Nat × Nat) (M : rs_M) (b : Nat) (hb : xL b) (tp : Int32) (L : ab_L) (hL : x_ln M b tp L) (h0 : 0 < (ab_ks L).length) (h12 : (ab_ks L).length ≤ 12) : rs_Cv l g xk t yX1_dropLast cX1_dropLast 1 0 [.ref (g.2.2 b)] M (fun M1 => x_ln M1 b tp (ab_drop L) ∧ x_fr M M1 b (b + 17)) := by
  refine rs_ofv (plainFor_of_name (by decide)) (Nat.le_of_ble_eq_true rfl) ?_
  intro Y K hr
  show Y M 0 [(0, .ref (g.2.2 b))] []
  refine r_aload_n K 0 dX1_dropLast_0 rfl rfl ?_
  refine r_getI K (xL_0 hb) rfl ff_1_rings qw_69 dX1_dropLast_1 ?_
  refine r_top_eq (nI (ab_ks L).length) hL.1 ?_
  refine r_if_le K 17 dX1_dropLast_4 (by decide) (fun h => absurd h (mt (nf_le (X := (ab_ks L).length) (Y := 0) rfl rfl (by omega) (by decide)).mp (by omega))) (fun _ => ?_)
  refine r_aload_n K 0 dX1_dropLast_7 rfl rfl ?_
  refine r_dup K dX1_dropLast_8 rfl ?_
  refine r_getI K (xL_0 hb) rfl ff_1_rings qw_69 dX1_dropLast_9 ?_
  refine r_top_eq (nI (ab_ks L).length) hL.1 ?_
  refine r_iconst K (v := 1) dX1_dropLast_12 (by decide) ?_
  refine r_isub K dX1_dropLast_13 ?_
  refine r_top_eq (nI ((ab_ks L).length - 1)) (by rw [show (1 : Int32) = nI 1 from rfl, pk_sub (by omega)]) ?_
  refine r_put K (xL_0 hb) rfl ff_1_rings qw_69 rfl rfl dX1_dropLast_14 ?_
  exact hr _ _ _ dX1_dropLast_17 ⟨x_drop_ok hL, x_fr_st (by omega) (by omega)⟩
set_option maxHeartbeats 4000000 in
set_option maxRecDepth 100000 in
theorem c_build (l : Launch) (g : rs_G) (t : Nat × Nat) (M : rs_M) (b : Nat) (hb : xL b) (tp : Int32) (L : ab_L) (hL : x_ln M b tp L) (hn : (ab_ks L).length < 12) (k : Nat) (hk : k < 8) : rs_Cv l g xk t yX1_build cX1_build 3 2 [.ref (g.2.2 b), .int (nI k)] M (fun M1 => x_ln M1 b tp (ab_build L k) ∧ x_fr M M1 b (b + 17)) := by
  refine rs_ofv (plainFor_of_name (by decide)) (Nat.le_of_ble_eq_true rfl) ?_
  intro Y K hr
  show Y M 0 [(0, .ref (g.2.2 b)), (1, .int (nI k))] []
  refine r_aload_n K 0 dX1_build_0 rfl rfl ?_
  refine r_getI K (xL_0 hb) rfl ff_1_rings qw_69 dX1_build_1 ?_
  refine r_top_eq (nI (ab_ks L).length) hL.1 ?_
  refine r_bipush K (v := 12) dX1_build_4 (by decide) ?_
  refine r_icmp_lt K 10 dX1_build_6 (by decide) (fun _ => ?_) (fun h => absurd ((nf_lt rfl rfl (by omega) (by decide)).mpr hn) h)
  refine r_aload_n K 0 dX1_build_10 rfl rfl ?_
  refine r_getR K (xL_0 hb) rfl ff_1_spots qw_63 dX1_build_11 ?_
  refine r_aload_n K 0 dX1_build_14 rfl rfl ?_
  refine r_getI K (xL_0 hb) rfl ff_1_rings qw_69 dX1_build_15 ?_
  refine r_top_eq (nI (ab_ks L).length) hL.1 ?_
  refine r_iconst K (v := 1) dX1_build_18 (by decide) ?_
  refine r_iadd K dX1_build_19 ?_
  refine r_top_eq (nI ((ab_ks L).length + 1)) (nI_1 _) ?_
  refine r_aaldS K (j := (ab_ks L).length + 1) (xL_1 hb) rfl (xL_e (by omega)) (by omega) (by decide) dX1_build_20 ?_
  refine r_astore_n K [(2, .ref (g.2.2 (b + 4 + ((ab_ks L).length + 1)))), (0, .ref (g.2.2 b)), (1, .int (nI k))] dX1_build_21 rfl (by decide) rfl ?_
  refine r_aload_n K 0 dX1_build_22 rfl rfl ?_
  refine r_aload_n K 1 dX1_build_23 rfl rfl ?_
  refine r_callVr K [] [.ref (g.2.2 (b + 4 + ((ab_ks L).length + 1)))] dX1_build_24 mf_X1_last (xL_0 hb) rfl qw_341 qw_306 qw_307 (c_Line_last l g t M b hb (ab_ks L).length (by omega) hL.1) rfl rfl (by decide) (Nat.le_of_ble_eq_true rfl) (fun r M1 hp => ?_)
  obtain ⟨hp, he⟩ := hp
  have he := he.symm
  subst he
  subst hp
  refine r_callVv K [.ref (g.2.2 (b + 4 + (ab_ks L).length))] [] dX1_build_27 mf_X4_copy (xL_s hb (by omega)) rfl qw_342 qw_343 qw_344 (c_Spot_copy l g t M (b + 4 + ((ab_ks L).length + 1)) (b + 4 + (ab_ks L).length) (xL_s hb (by omega)) (xL_s hb (by omega))) rfl rfl (by decide) (Nat.le_of_ble_eq_true rfl) (fun M1 hp => ?_)
  subst hp
  refine r_aload_n K 0 dX1_build_30 rfl rfl ?_
  refine r_iload_n K 2 dX1_build_31 rfl rfl ?_
  refine r_aload_n K 1 dX1_build_32 rfl rfl ?_
  refine r_getI K (xL_0 hb) rfl ff_1_taper qw_72 dX1_build_33 ?_
  refine r_top_eq tp (by rw [x_fr_cp (lo := b + 4) (hi := b + 17) (by omega) (by omega) b (by omega)]; exact hL.2.2.1) ?_
  refine r_callVv K [.int (nI k), .int tp] [] dX1_build_36 mf_X4_advance (xL_s hb (by omega)) rfl qw_346 qw_347 qw_348 (c_Spot_advance l g t (x_cp M (b + 4 + ((ab_ks L).length + 1)) (b + 4 + (ab_ks L).length)) (b + 4 + ((ab_ks L).length + 1)) (xL_s hb (by omega)) k hk tp) rfl rfl (by decide) (Nat.le_of_ble_eq_true rfl) (fun M1 hp => ?_)
  subst hp
  refine r_aload_n K 1 dX1_build_39 rfl rfl ?_
  refine r_dup K dX1_build_40 rfl ?_
  refine r_getI K (xL_0 hb) rfl ff_1_rings qw_69 dX1_build_41 ?_
  refine r_top_eq (nI (ab_ks L).length) (by rw [x_fr_adv (lo := b + 4) (hi := b + 17) (by omega) (by omega) b (by omega), x_fr_cp (lo := b + 4) (hi := b + 17) (by omega) (by omega) b (by omega)]; exact hL.1) ?_
  refine r_iconst K (v := 1) dX1_build_44 (by decide) ?_
  refine r_iadd K dX1_build_45 ?_
  refine r_top_eq (nI ((ab_ks L).length + 1)) (nI_1 _) ?_
  refine r_put K (xL_0 hb) rfl ff_1_rings qw_69 rfl rfl dX1_build_46 ?_
  exact hr _ _ _ dX1_build_49 ⟨x_build_ok hL hn k, x_fr_tr (x_fr_tr (x_fr_cp (by omega) (by omega)) (x_fr_adv (by omega) (by omega))) (x_fr_st (by omega) (by omega))⟩
