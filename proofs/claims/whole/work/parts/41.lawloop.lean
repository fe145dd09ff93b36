def ab_A0 : ab_S := (ab_L0, 1, [], [], [], fun _ => none)
theorem x_sp_0 (c : Nat) (h : MX c = c_s) : x_sp MX c 1 [] := by
  rw [x_sp, h]
  exact ⟨rfl, rfl, rfl, rfl, rfl, rfl⟩
theorem x_S_0 : x_S MX ab_A0 := by
  refine ⟨⟨rfl, fun i hi => ?_, rfl, rfl, rfl, rfl, fun p hp => ⟨rfl, rfl⟩⟩, ab_ok_L0, Or.inl rfl, x_sp_0 22 rfl, ⟨rfl, rfl⟩, ⟨rfl, Nat.zero_le _, fun i hi => absurd hi (Nat.not_lt_zero _)⟩, x_und_0 rfl, x_cache_0 rfl, ⟨rfl, Nat.zero_le _, fun i hi => absurd hi (Nat.not_lt_zero _)⟩⟩
  have h0 : i = 0 := Nat.le_zero.mp hi
  subst h0
  exact x_sp_0 5 rfl
theorem m_S_0 {M : rs_M} (h : m_phi M) : m_S M ab_A0 := by
  obtain ⟨h1, h2, h3, h4⟩ := h
  have z : ∀ c j, c ≠ 0 → c ≠ 1 → M c j = 0 := fun c j c0 c1 => by rw [h4 c c0 c1]; rfl
  exact ⟨h1, ab_ok_L0, Or.inl rfl, h2, m_und_0 (a := 0) (by decide) (h3 3 (by decide)) (h3 2 (by decide)), ⟨h3 5 (by decide), Nat.zero_le _, fun i hi => absurd hi (Nat.not_lt_zero _)⟩, ⟨h3 15 (by decide), Nat.zero_le _, fun i hi => absurd hi (Nat.not_lt_zero _)⟩, ⟨z 5 0 (by decide) (by decide), z 5 1 (by decide) (by decide)⟩, ⟨z 8 0 (by decide) (by decide), z 9 0 (by decide) (by decide), z 10 0 (by decide) (by decide), z 11 0 (by decide) (by decide)⟩⟩
set_option maxHeartbeats 4000000 in
set_option maxRecDepth 100000 in
theorem law_loop {l : Launch} {g : rs_G} {t : Nat × Nat} {nm : String} {b L : Nat} {xs : Nat → Int32} {Z : cs_Y} (K : cs_K l g t cL_law 4 RL room_1 nm (true, b, L) xs Z) (hL : L ≤ 2048) (ad1 ad2 : Nat → Nat) (hend : ∀ (ws : va_W) (lv : List (Nat × Value)), Z ws 105 1903 645 lv [.int 1]) : ∀ (f i : Nat) (A : ab_S) (M1 M2 : rs_M), L - i < f → i ≤ L → x_S M1 A → m_S M2 A → Z (rs_ws (g.1, g.2.1, ad1) xk M1 ++ rs_ws (g.1, g.2.1, ad2) mk M2) 105 1903 18 [(3, .int (nI i)), (2, .ref (ad2 0)), (1, .ref (ad1 0)), (0, .ref b)] [] := by
  intro f
  induction f with
  | zero =>
    intro i A M1 M2 hf
    exact absurd hf (Nat.not_lt_zero _)
  | succ f ih =>
    intro i A M1 M2 hf hi hx hm
    refine n_iload_n K 0 dL_law_18 rfl rfl ?_
    refine n_aload_n K 3 dL_law_19 rfl rfl ?_
    refine n_slen K rfl dL_law_20 ?_
    refine n_iconst K (v := 4) dL_law_21 (by decide) ?_
    refine n_isub K dL_law_22 ?_
    refine n_icmp_gt K 644 dL_law_23 (by decide) (fun _ => ?_) (fun h => ?_)
    · refine n_iconst K (v := 1) dL_law_644 (by decide) ?_
      exact hend _ _
    · have hi4 : i + 4 ≤ L := Classical.byContradiction (fun q => h ((x_l4 hL hi).mpr q))
      have back : ∀ (A2 : ab_S) (N1 N2 : rs_M), x_S N1 A2 → m_S N2 A2 → Z (rs_ws (g.1, g.2.1, ad1) xk N1 ++ rs_ws (g.1, g.2.1, ad2) mk N2) 105 1903 638 [(3, .int (nI i)), (2, .ref (ad2 0)), (1, .ref (ad1 0)), (0, .ref b)] [] := by
        intro A2 N1 N2 hx2 hm2
        refine n_iinc K 0 [(3, .int (nI (i + 4))), (2, .ref (ad2 0)), (1, .ref (ad1 0)), (0, .ref b)] dL_law_638 rfl (nI_add i 4) (by decide) rfl ?_
        refine n_goto K 18 dL_law_641 (by decide) ?_
        exact ih (i + 4) A2 N1 N2 (by omega) hi4 hx2 hm2
      refine n_aload_n K 3 dL_law_26 rfl rfl ?_
      refine n_iload_n K 0 dL_law_27 rfl rfl ?_
      refine n_sld K (j := i) rfl rfl (show i < L by omega) (show L < 2 ^ 31 by omega) dL_law_28 ?_
      refine n_bipush K (v := 31) dL_law_29 (by decide) ?_
      refine n_iand K dL_law_31 ?_
      refine n_table K [(0, 128), (1, 151), (2, 164), (3, 177), (4, 200), (5, 223), (6, 266), (7, 299), (8, 312), (9, 345), (10, 378), (11, 401), (12, 434), (13, 457), (14, 490), (15, 503), (16, 526), (17, 569), (18, 592), (19, 615)] 638 dL_law_32 (by decide) (by decide) (by decide) ?_
      simp only [rs_swp]
      refine ⟨fun _ => ?_, fun _ => ⟨fun _ => ?_, fun _ => ⟨fun _ => ?_, fun _ => ⟨fun _ => ?_, fun _ => ⟨fun _ => ?_, fun _ => ⟨fun _ => ?_, fun _ => ⟨fun _ => ?_, fun _ => ⟨fun _ => ?_, fun _ => ⟨fun _ => ?_, fun _ => ⟨fun _ => ?_, fun _ => ⟨fun _ => ?_, fun _ => ⟨fun _ => ?_, fun _ => ⟨fun _ => ?_, fun _ => ⟨fun _ => ?_, fun _ => ⟨fun _ => ?_, fun _ => ⟨fun _ => ?_, fun _ => ⟨fun _ => ?_, fun _ => ⟨fun _ => ?_, fun _ => ⟨fun _ => ?_, fun _ => ⟨fun _ => ?_, fun _ => ?_⟩⟩⟩⟩⟩⟩⟩⟩⟩⟩⟩⟩⟩⟩⟩⟩⟩⟩⟩⟩
      · refine n_aload_n K 2 dL_law_128 rfl rfl ?_
        refine n_aload_n K 3 dL_law_129 rfl rfl ?_
        refine n_iload_n K 0 dL_law_130 rfl rfl ?_
        refine n_iconst K (v := 1) dL_law_131 (by decide) ?_
        refine n_iadd K dL_law_132 ?_
        refine n_sld K (j := i + 1) rfl (nI_add i 1) (show i + 1 < L by omega) (show L < 2 ^ 31 by omega) dL_law_133 ?_
        refine n_call K (ws := []) (kd := xk) (ad := ad1) (M := M1) (rest := []) [.int (xs (i + 1))] dL_law_134 mf_X5_type rfl rfl qw_223 qw_224 qw_225 (c_type l (g.1, g.2.1, ad1) t M1 A hx (xs (i + 1))) rfl ⟨by decide, by decide⟩ ⟨by decide, by decide⟩ (Nat.le_of_ble_eq_true rfl) (fun r1 N1 h1 => ?_)
        obtain ⟨e1, hx1⟩ := h1
        refine n_aload_n K 1 dL_law_137 rfl rfl ?_
        refine n_aload_n K 3 dL_law_138 rfl rfl ?_
        refine n_iload_n K 0 dL_law_139 rfl rfl ?_
        refine n_iconst K (v := 1) dL_law_140 (by decide) ?_
        refine n_iadd K dL_law_141 ?_
        refine n_sld K (j := i + 1) rfl (nI_add i 1) (show i + 1 < L by omega) (show L < 2 ^ 31 by omega) dL_law_142 ?_
        refine n_swap K ?_
        refine n_call K (ws := []) (kd := mk) (ad := ad2) (M := M2) (rest := [.int r1]) [.int (xs (i + 1))] dL_law_143 mf_X6_type rfl rfl qw_632 qw_633 qw_634 (cm_type l (g.1, g.2.1, ad2) t M2 A hm (xs (i + 1))) rfl ⟨by decide, by decide⟩ ⟨by decide, by decide⟩ (Nat.le_of_ble_eq_true rfl) (fun r2 N2 h2 => ?_)
        obtain ⟨e2, hm1⟩ := h2
        refine n_swap K ?_
        refine n_icmp_eq K 638 dL_law_146 (by decide) (fun _ => ?_) (fun h => absurd (e1.trans e2.symm) h)
        exact back _ N1 N2 hx1 hm1
      · refine n_aload_n K 2 dL_law_151 rfl rfl ?_
        refine n_call K (ws := []) (kd := xk) (ad := ad1) (M := M1) (rest := []) [] dL_law_152 mf_X5_clear rfl rfl qw_235 qw_236 qw_237 (c_clear l (g.1, g.2.1, ad1) t M1 A hx ) rfl ⟨by decide, by decide⟩ ⟨by decide, by decide⟩ (Nat.le_of_ble_eq_true rfl) (fun r1 N1 h1 => ?_)
        obtain ⟨e1, hx1⟩ := h1
        refine n_aload_n K 1 dL_law_155 rfl rfl ?_
        refine n_swap K ?_
        refine n_call K (ws := []) (kd := mk) (ad := ad2) (M := M2) (rest := [.int r1]) [] dL_law_156 mf_X6_clear rfl rfl qw_639 qw_640 qw_641 (cm_clear l (g.1, g.2.1, ad2) t M2 A hm ) rfl ⟨by decide, by decide⟩ ⟨by decide, by decide⟩ (Nat.le_of_ble_eq_true rfl) (fun r2 N2 h2 => ?_)
        obtain ⟨e2, hm1⟩ := h2
        refine n_swap K ?_
        refine n_icmp_eq K 638 dL_law_159 (by decide) (fun _ => ?_) (fun h => absurd (e1.trans e2.symm) h)
        exact back _ N1 N2 hx1 hm1
      · refine n_aload_n K 2 dL_law_164 rfl rfl ?_
        refine n_call K (ws := []) (kd := xk) (ad := ad1) (M := M1) (rest := []) [] dL_law_165 mf_X5_tunnel rfl rfl qw_239 qw_240 qw_241 (c_tunnel l (g.1, g.2.1, ad1) t M1 A hx ) rfl ⟨by decide, by decide⟩ ⟨by decide, by decide⟩ (Nat.le_of_ble_eq_true rfl) (fun r1 N1 h1 => ?_)
        obtain ⟨e1, hx1⟩ := h1
        refine n_aload_n K 1 dL_law_168 rfl rfl ?_
        refine n_swap K ?_
        refine n_call K (ws := []) (kd := mk) (ad := ad2) (M := M2) (rest := [.int r1]) [] dL_law_169 mf_X6_tunnel rfl rfl qw_643 qw_644 qw_645 (cm_tunnel l (g.1, g.2.1, ad2) t M2 A hm ) rfl ⟨by decide, by decide⟩ ⟨by decide, by decide⟩ (Nat.le_of_ble_eq_true rfl) (fun r2 N2 h2 => ?_)
        obtain ⟨e2, hm1⟩ := h2
        refine n_swap K ?_
        refine n_icmp_eq K 638 dL_law_172 (by decide) (fun _ => ?_) (fun h => absurd (e1.trans e2.symm) h)
        exact back _ N1 N2 hx1 hm1
      · refine n_aload_n K 2 dL_law_177 rfl rfl ?_
        refine n_aload_n K 3 dL_law_178 rfl rfl ?_
        refine n_iload_n K 0 dL_law_179 rfl rfl ?_
        refine n_iconst K (v := 1) dL_law_180 (by decide) ?_
        refine n_iadd K dL_law_181 ?_
        refine n_sld K (j := i + 1) rfl (nI_add i 1) (show i + 1 < L by omega) (show L < 2 ^ 31 by omega) dL_law_182 ?_
        refine n_call K (ws := []) (kd := xk) (ad := ad1) (M := M1) (rest := []) [.int (xs (i + 1))] dL_law_183 mf_X5_builds rfl rfl qw_360 qw_361 qw_362 (c_builds l (g.1, g.2.1, ad1) t M1 A hx (xs (i + 1))) rfl ⟨by decide, by decide⟩ ⟨by decide, by decide⟩ (Nat.le_of_ble_eq_true rfl) (fun r1 N1 h1 => ?_)
        obtain ⟨e1, hx1⟩ := h1
        refine n_aload_n K 1 dL_law_186 rfl rfl ?_
        refine n_aload_n K 3 dL_law_187 rfl rfl ?_
        refine n_iload_n K 0 dL_law_188 rfl rfl ?_
        refine n_iconst K (v := 1) dL_law_189 (by decide) ?_
        refine n_iadd K dL_law_190 ?_
        refine n_sld K (j := i + 1) rfl (nI_add i 1) (show i + 1 < L by omega) (show L < 2 ^ 31 by omega) dL_law_191 ?_
        refine n_swap K ?_
        refine n_call K (ws := []) (kd := mk) (ad := ad2) (M := M2) (rest := [.int r1]) [.int (xs (i + 1))] dL_law_192 mf_X6_builds rfl rfl qw_721 qw_722 qw_723 (cm_builds l (g.1, g.2.1, ad2) t M2 A hm (xs (i + 1))) rfl ⟨by decide, by decide⟩ ⟨by decide, by decide⟩ (Nat.le_of_ble_eq_true rfl) (fun r2 N2 h2 => ?_)
        obtain ⟨e2, hm1⟩ := h2
        refine n_swap K ?_
        refine n_icmp_eq K 638 dL_law_195 (by decide) (fun _ => ?_) (fun h => absurd (e1.trans e2.symm) h)
        exact back _ N1 N2 hx1 hm1
      · refine n_aload_n K 2 dL_law_200 rfl rfl ?_
        refine n_aload_n K 3 dL_law_201 rfl rfl ?_
        refine n_iload_n K 0 dL_law_202 rfl rfl ?_
        refine n_iconst K (v := 1) dL_law_203 (by decide) ?_
        refine n_iadd K dL_law_204 ?_
        refine n_sld K (j := i + 1) rfl (nI_add i 1) (show i + 1 < L by omega) (show L < 2 ^ 31 by omega) dL_law_205 ?_
        refine n_call K (ws := []) (kd := xk) (ad := ad1) (M := M1) (rest := []) [.int (xs (i + 1))] dL_law_206 mf_X5_follows rfl rfl qw_387 qw_388 qw_389 (c_follows l (g.1, g.2.1, ad1) t M1 A hx (xs (i + 1))) rfl ⟨by decide, by decide⟩ ⟨by decide, by decide⟩ (Nat.le_of_ble_eq_true rfl) (fun r1 N1 h1 => ?_)
        obtain ⟨e1, hx1⟩ := h1
        refine n_aload_n K 1 dL_law_209 rfl rfl ?_
        refine n_aload_n K 3 dL_law_210 rfl rfl ?_
        refine n_iload_n K 0 dL_law_211 rfl rfl ?_
        refine n_iconst K (v := 1) dL_law_212 (by decide) ?_
        refine n_iadd K dL_law_213 ?_
        refine n_sld K (j := i + 1) rfl (nI_add i 1) (show i + 1 < L by omega) (show L < 2 ^ 31 by omega) dL_law_214 ?_
        refine n_swap K ?_
        refine n_call K (ws := []) (kd := mk) (ad := ad2) (M := M2) (rest := [.int r1]) [.int (xs (i + 1))] dL_law_215 mf_X6_follows rfl rfl qw_741 qw_742 qw_743 (cm_follows l (g.1, g.2.1, ad2) t M2 A hm (xs (i + 1))) rfl ⟨by decide, by decide⟩ ⟨by decide, by decide⟩ (Nat.le_of_ble_eq_true rfl) (fun r2 N2 h2 => ?_)
        obtain ⟨e2, hm1⟩ := h2
        refine n_swap K ?_
        refine n_icmp_eq K 638 dL_law_218 (by decide) (fun _ => ?_) (fun h => absurd (e1.trans e2.symm) h)
        exact back _ N1 N2 hx1 hm1
      · refine n_aload_n K 2 dL_law_223 rfl rfl ?_
        refine n_aload_n K 3 dL_law_224 rfl rfl ?_
        refine n_iload_n K 0 dL_law_225 rfl rfl ?_
        refine n_iconst K (v := 1) dL_law_226 (by decide) ?_
        refine n_iadd K dL_law_227 ?_
        refine n_sld K (j := i + 1) rfl (nI_add i 1) (show i + 1 < L by omega) (show L < 2 ^ 31 by omega) dL_law_228 ?_
        refine n_aload_n K 3 dL_law_229 rfl rfl ?_
        refine n_iload_n K 0 dL_law_230 rfl rfl ?_
        refine n_iconst K (v := 2) dL_law_231 (by decide) ?_
        refine n_iadd K dL_law_232 ?_
        refine n_sld K (j := i + 2) rfl (nI_add i 2) (show i + 2 < L by omega) (show L < 2 ^ 31 by omega) dL_law_233 ?_
        refine n_aload_n K 3 dL_law_234 rfl rfl ?_
        refine n_iload_n K 0 dL_law_235 rfl rfl ?_
        refine n_iconst K (v := 3) dL_law_236 (by decide) ?_
        refine n_iadd K dL_law_237 ?_
        refine n_sld K (j := i + 3) rfl (nI_add i 3) (show i + 3 < L by omega) (show L < 2 ^ 31 by omega) dL_law_238 ?_
        refine n_call K (ws := []) (kd := xk) (ad := ad1) (M := M1) (rest := []) [.int (xs (i + 1)), .int (xs (i + 2)), .int (xs (i + 3))] dL_law_239 mf_X5_wishes rfl rfl qw_410 qw_411 qw_412 (c_wishes l (g.1, g.2.1, ad1) t M1 A hx (xs (i + 1)) (xs (i + 2)) (xs (i + 3))) rfl ⟨by decide, by decide⟩ ⟨by decide, by decide⟩ (Nat.le_of_ble_eq_true rfl) (fun r1 N1 h1 => ?_)
        obtain ⟨e1, hx1⟩ := h1
        refine n_aload_n K 1 dL_law_242 rfl rfl ?_
        refine n_aload_n K 3 dL_law_243 rfl rfl ?_
        refine n_iload_n K 0 dL_law_244 rfl rfl ?_
        refine n_iconst K (v := 1) dL_law_245 (by decide) ?_
        refine n_iadd K dL_law_246 ?_
        refine n_sld K (j := i + 1) rfl (nI_add i 1) (show i + 1 < L by omega) (show L < 2 ^ 31 by omega) dL_law_247 ?_
        refine n_aload_n K 3 dL_law_248 rfl rfl ?_
        refine n_iload_n K 0 dL_law_249 rfl rfl ?_
        refine n_iconst K (v := 2) dL_law_250 (by decide) ?_
        refine n_iadd K dL_law_251 ?_
        refine n_sld K (j := i + 2) rfl (nI_add i 2) (show i + 2 < L by omega) (show L < 2 ^ 31 by omega) dL_law_252 ?_
        refine n_aload_n K 3 dL_law_253 rfl rfl ?_
        refine n_iload_n K 0 dL_law_254 rfl rfl ?_
        refine n_iconst K (v := 3) dL_law_255 (by decide) ?_
        refine n_iadd K dL_law_256 ?_
        refine n_sld K (j := i + 3) rfl (nI_add i 3) (show i + 3 < L by omega) (show L < 2 ^ 31 by omega) dL_law_257 ?_
        refine n_swap K ?_
        refine n_call K (ws := []) (kd := mk) (ad := ad2) (M := M2) (rest := [.int r1]) [.int (xs (i + 1)), .int (xs (i + 2)), .int (xs (i + 3))] dL_law_258 mf_X6_wishes rfl rfl qw_752 qw_753 qw_754 (cm_wishes l (g.1, g.2.1, ad2) t M2 A hm (xs (i + 1)) (xs (i + 2)) (xs (i + 3))) rfl ⟨by decide, by decide⟩ ⟨by decide, by decide⟩ (Nat.le_of_ble_eq_true rfl) (fun r2 N2 h2 => ?_)
        obtain ⟨e2, hm1⟩ := h2
        refine n_swap K ?_
        refine n_icmp_eq K 638 dL_law_261 (by decide) (fun _ => ?_) (fun h => absurd (e1.trans e2.symm) h)
        exact back _ N1 N2 hx1 hm1
      · refine n_aload_n K 2 dL_law_266 rfl rfl ?_
        refine n_aload_n K 3 dL_law_267 rfl rfl ?_
        refine n_iload_n K 0 dL_law_268 rfl rfl ?_
        refine n_iconst K (v := 1) dL_law_269 (by decide) ?_
        refine n_iadd K dL_law_270 ?_
        refine n_sld K (j := i + 1) rfl (nI_add i 1) (show i + 1 < L by omega) (show L < 2 ^ 31 by omega) dL_law_271 ?_
        refine n_aload_n K 3 dL_law_272 rfl rfl ?_
        refine n_iload_n K 0 dL_law_273 rfl rfl ?_
        refine n_iconst K (v := 2) dL_law_274 (by decide) ?_
        refine n_iadd K dL_law_275 ?_
        refine n_sld K (j := i + 2) rfl (nI_add i 2) (show i + 2 < L by omega) (show L < 2 ^ 31 by omega) dL_law_276 ?_
        refine n_call K (ws := []) (kd := xk) (ad := ad1) (M := M1) (rest := []) [.int (xs (i + 1)), .int (xs (i + 2))] dL_law_277 mf_X5_rules rfl rfl qw_418 qw_419 qw_420 (c_rules l (g.1, g.2.1, ad1) t M1 A hx (xs (i + 1)) (xs (i + 2))) rfl ⟨by decide, by decide⟩ ⟨by decide, by decide⟩ (Nat.le_of_ble_eq_true rfl) (fun r1 N1 h1 => ?_)
        obtain ⟨e1, hx1⟩ := h1
        refine n_aload_n K 1 dL_law_280 rfl rfl ?_
        refine n_aload_n K 3 dL_law_281 rfl rfl ?_
        refine n_iload_n K 0 dL_law_282 rfl rfl ?_
        refine n_iconst K (v := 1) dL_law_283 (by decide) ?_
        refine n_iadd K dL_law_284 ?_
        refine n_sld K (j := i + 1) rfl (nI_add i 1) (show i + 1 < L by omega) (show L < 2 ^ 31 by omega) dL_law_285 ?_
        refine n_aload_n K 3 dL_law_286 rfl rfl ?_
        refine n_iload_n K 0 dL_law_287 rfl rfl ?_
        refine n_iconst K (v := 2) dL_law_288 (by decide) ?_
        refine n_iadd K dL_law_289 ?_
        refine n_sld K (j := i + 2) rfl (nI_add i 2) (show i + 2 < L by omega) (show L < 2 ^ 31 by omega) dL_law_290 ?_
        refine n_swap K ?_
        refine n_call K (ws := []) (kd := mk) (ad := ad2) (M := M2) (rest := [.int r1]) [.int (xs (i + 1)), .int (xs (i + 2))] dL_law_291 mf_X6_rules rfl rfl qw_756 qw_757 qw_758 (cm_rules l (g.1, g.2.1, ad2) t M2 A hm (xs (i + 1)) (xs (i + 2))) rfl ⟨by decide, by decide⟩ ⟨by decide, by decide⟩ (Nat.le_of_ble_eq_true rfl) (fun r2 N2 h2 => ?_)
        obtain ⟨e2, hm1⟩ := h2
        refine n_swap K ?_
        refine n_icmp_eq K 638 dL_law_294 (by decide) (fun _ => ?_) (fun h => absurd (e1.trans e2.symm) h)
        exact back _ N1 N2 hx1 hm1
      · refine n_aload_n K 2 dL_law_299 rfl rfl ?_
        refine n_call K (ws := []) (kd := xk) (ad := ad1) (M := M1) (rest := []) [] dL_law_300 mf_X5_undo rfl rfl qw_428 qw_429 qw_430 (c_undo l (g.1, g.2.1, ad1) t M1 A hx ) rfl ⟨by decide, by decide⟩ ⟨by decide, by decide⟩ (Nat.le_of_ble_eq_true rfl) (fun r1 N1 h1 => ?_)
        obtain ⟨e1, hx1⟩ := h1
        refine n_aload_n K 1 dL_law_303 rfl rfl ?_
        refine n_swap K ?_
        refine n_call K (ws := []) (kd := mk) (ad := ad2) (M := M2) (rest := [.int r1]) [] dL_law_304 mf_X6_undo rfl rfl qw_760 qw_761 qw_762 (cm_undo l (g.1, g.2.1, ad2) t M2 A hm ) rfl ⟨by decide, by decide⟩ ⟨by decide, by decide⟩ (Nat.le_of_ble_eq_true rfl) (fun r2 N2 h2 => ?_)
        obtain ⟨e2, hm1⟩ := h2
        refine n_swap K ?_
        refine n_icmp_eq K 638 dL_law_307 (by decide) (fun _ => ?_) (fun h => absurd (e1.trans e2.symm) h)
        exact back _ N1 N2 hx1 hm1
      · refine n_aload_n K 2 dL_law_312 rfl rfl ?_
        refine n_aload_n K 3 dL_law_313 rfl rfl ?_
        refine n_iload_n K 0 dL_law_314 rfl rfl ?_
        refine n_iconst K (v := 1) dL_law_315 (by decide) ?_
        refine n_iadd K dL_law_316 ?_
        refine n_sld K (j := i + 1) rfl (nI_add i 1) (show i + 1 < L by omega) (show L < 2 ^ 31 by omega) dL_law_317 ?_
        refine n_aload_n K 3 dL_law_318 rfl rfl ?_
        refine n_iload_n K 0 dL_law_319 rfl rfl ?_
        refine n_iconst K (v := 2) dL_law_320 (by decide) ?_
        refine n_iadd K dL_law_321 ?_
        refine n_sld K (j := i + 2) rfl (nI_add i 2) (show i + 2 < L by omega) (show L < 2 ^ 31 by omega) dL_law_322 ?_
        refine n_call K (ws := []) (kd := xk) (ad := ad1) (M := M1) (rest := []) [.int (xs (i + 1)), .int (xs (i + 2))] dL_law_323 mf_X5_ring rfl rfl qw_443 qw_444 qw_445 (c_ring l (g.1, g.2.1, ad1) t M1 A hx (xs (i + 1)) (xs (i + 2))) rfl ⟨by decide, by decide⟩ ⟨by decide, by decide⟩ (Nat.le_of_ble_eq_true rfl) (fun r1 N1 h1 => ?_)
        obtain ⟨e1, hx1⟩ := h1
        refine n_aload_n K 1 dL_law_326 rfl rfl ?_
        refine n_aload_n K 3 dL_law_327 rfl rfl ?_
        refine n_iload_n K 0 dL_law_328 rfl rfl ?_
        refine n_iconst K (v := 1) dL_law_329 (by decide) ?_
        refine n_iadd K dL_law_330 ?_
        refine n_sld K (j := i + 1) rfl (nI_add i 1) (show i + 1 < L by omega) (show L < 2 ^ 31 by omega) dL_law_331 ?_
        refine n_aload_n K 3 dL_law_332 rfl rfl ?_
        refine n_iload_n K 0 dL_law_333 rfl rfl ?_
        refine n_iconst K (v := 2) dL_law_334 (by decide) ?_
        refine n_iadd K dL_law_335 ?_
        refine n_sld K (j := i + 2) rfl (nI_add i 2) (show i + 2 < L by omega) (show L < 2 ^ 31 by omega) dL_law_336 ?_
        refine n_swap K ?_
        refine n_call K (ws := []) (kd := mk) (ad := ad2) (M := M2) (rest := [.int r1]) [.int (xs (i + 1)), .int (xs (i + 2))] dL_law_337 mf_X6_ring rfl rfl qw_764 qw_765 qw_766 (cm_ring l (g.1, g.2.1, ad2) t M2 A hm (xs (i + 1)) (xs (i + 2))) rfl ⟨by decide, by decide⟩ ⟨by decide, by decide⟩ (Nat.le_of_ble_eq_true rfl) (fun r2 N2 h2 => ?_)
        obtain ⟨e2, hm1⟩ := h2
        refine n_swap K ?_
        refine n_icmp_eq K 638 dL_law_340 (by decide) (fun _ => ?_) (fun h => absurd (e1.trans e2.symm) h)
        exact back _ N1 N2 hx1 hm1
      · refine n_aload_n K 2 dL_law_345 rfl rfl ?_
        refine n_aload_n K 3 dL_law_346 rfl rfl ?_
        refine n_iload_n K 0 dL_law_347 rfl rfl ?_
        refine n_iconst K (v := 1) dL_law_348 (by decide) ?_
        refine n_iadd K dL_law_349 ?_
        refine n_sld K (j := i + 1) rfl (nI_add i 1) (show i + 1 < L by omega) (show L < 2 ^ 31 by omega) dL_law_350 ?_
        refine n_aload_n K 3 dL_law_351 rfl rfl ?_
        refine n_iload_n K 0 dL_law_352 rfl rfl ?_
        refine n_iconst K (v := 2) dL_law_353 (by decide) ?_
        refine n_iadd K dL_law_354 ?_
        refine n_sld K (j := i + 2) rfl (nI_add i 2) (show i + 2 < L by omega) (show L < 2 ^ 31 by omega) dL_law_355 ?_
        refine n_call K (ws := []) (kd := xk) (ad := ad1) (M := M1) (rest := []) [.int (xs (i + 1)), .int (xs (i + 2))] dL_law_356 mf_X5_wish rfl rfl qw_448 qw_449 qw_450 (c_wish l (g.1, g.2.1, ad1) t M1 A hx (xs (i + 1)) (xs (i + 2))) rfl ⟨by decide, by decide⟩ ⟨by decide, by decide⟩ (Nat.le_of_ble_eq_true rfl) (fun r1 N1 h1 => ?_)
        obtain ⟨e1, hx1⟩ := h1
        refine n_aload_n K 1 dL_law_359 rfl rfl ?_
        refine n_aload_n K 3 dL_law_360 rfl rfl ?_
        refine n_iload_n K 0 dL_law_361 rfl rfl ?_
        refine n_iconst K (v := 1) dL_law_362 (by decide) ?_
        refine n_iadd K dL_law_363 ?_
        refine n_sld K (j := i + 1) rfl (nI_add i 1) (show i + 1 < L by omega) (show L < 2 ^ 31 by omega) dL_law_364 ?_
        refine n_aload_n K 3 dL_law_365 rfl rfl ?_
        refine n_iload_n K 0 dL_law_366 rfl rfl ?_
        refine n_iconst K (v := 2) dL_law_367 (by decide) ?_
        refine n_iadd K dL_law_368 ?_
        refine n_sld K (j := i + 2) rfl (nI_add i 2) (show i + 2 < L by omega) (show L < 2 ^ 31 by omega) dL_law_369 ?_
        refine n_swap K ?_
        refine n_call K (ws := []) (kd := mk) (ad := ad2) (M := M2) (rest := [.int r1]) [.int (xs (i + 1)), .int (xs (i + 2))] dL_law_370 mf_X6_wish rfl rfl qw_769 qw_770 qw_771 (cm_wish l (g.1, g.2.1, ad2) t M2 A hm (xs (i + 1)) (xs (i + 2))) rfl ⟨by decide, by decide⟩ ⟨by decide, by decide⟩ (Nat.le_of_ble_eq_true rfl) (fun r2 N2 h2 => ?_)
        obtain ⟨e2, hm1⟩ := h2
        refine n_swap K ?_
        refine n_icmp_eq K 638 dL_law_373 (by decide) (fun _ => ?_) (fun h => absurd (e1.trans e2.symm) h)
        exact back _ N1 N2 hx1 hm1
      · refine n_aload_n K 2 dL_law_378 rfl rfl ?_
        refine n_aload_n K 3 dL_law_379 rfl rfl ?_
        refine n_iload_n K 0 dL_law_380 rfl rfl ?_
        refine n_iconst K (v := 1) dL_law_381 (by decide) ?_
        refine n_iadd K dL_law_382 ?_
        refine n_sld K (j := i + 1) rfl (nI_add i 1) (show i + 1 < L by omega) (show L < 2 ^ 31 by omega) dL_law_383 ?_
        refine n_call K (ws := []) (kd := xk) (ad := ad1) (M := M1) (rest := []) [.int (xs (i + 1))] dL_law_384 mf_X5_worst rfl rfl qw_452 qw_453 qw_454 (c_worst l (g.1, g.2.1, ad1) t M1 A hx (xs (i + 1))) rfl ⟨by decide, by decide⟩ ⟨by decide, by decide⟩ (Nat.le_of_ble_eq_true rfl) (fun r1 N1 h1 => ?_)
        obtain ⟨e1, hx1⟩ := h1
        refine n_aload_n K 1 dL_law_387 rfl rfl ?_
        refine n_aload_n K 3 dL_law_388 rfl rfl ?_
        refine n_iload_n K 0 dL_law_389 rfl rfl ?_
        refine n_iconst K (v := 1) dL_law_390 (by decide) ?_
        refine n_iadd K dL_law_391 ?_
        refine n_sld K (j := i + 1) rfl (nI_add i 1) (show i + 1 < L by omega) (show L < 2 ^ 31 by omega) dL_law_392 ?_
        refine n_swap K ?_
        refine n_call K (ws := []) (kd := mk) (ad := ad2) (M := M2) (rest := [.int r1]) [.int (xs (i + 1))] dL_law_393 mf_X6_worst rfl rfl qw_773 qw_774 qw_775 (cm_worst l (g.1, g.2.1, ad2) t M2 A hm (xs (i + 1))) rfl ⟨by decide, by decide⟩ ⟨by decide, by decide⟩ (Nat.le_of_ble_eq_true rfl) (fun r2 N2 h2 => ?_)
        obtain ⟨e2, hm1⟩ := h2
        refine n_swap K ?_
        refine n_icmp_eq K 638 dL_law_396 (by decide) (fun _ => ?_) (fun h => absurd (e1.trans e2.symm) h)
        exact back _ N1 N2 hx1 hm1
      · refine n_aload_n K 2 dL_law_401 rfl rfl ?_
        refine n_aload_n K 3 dL_law_402 rfl rfl ?_
        refine n_iload_n K 0 dL_law_403 rfl rfl ?_
        refine n_iconst K (v := 1) dL_law_404 (by decide) ?_
        refine n_iadd K dL_law_405 ?_
        refine n_sld K (j := i + 1) rfl (nI_add i 1) (show i + 1 < L by omega) (show L < 2 ^ 31 by omega) dL_law_406 ?_
        refine n_aload_n K 3 dL_law_407 rfl rfl ?_
        refine n_iload_n K 0 dL_law_408 rfl rfl ?_
        refine n_iconst K (v := 2) dL_law_409 (by decide) ?_
        refine n_iadd K dL_law_410 ?_
        refine n_sld K (j := i + 2) rfl (nI_add i 2) (show i + 2 < L by omega) (show L < 2 ^ 31 by omega) dL_law_411 ?_
        refine n_call K (ws := []) (kd := xk) (ad := ad1) (M := M1) (rest := []) [.int (xs (i + 1)), .int (xs (i + 2))] dL_law_412 mf_X5_plan rfl rfl qw_461 qw_462 qw_463 (c_plan l (g.1, g.2.1, ad1) t M1 A hx (xs (i + 1)) (xs (i + 2))) rfl ⟨by decide, by decide⟩ ⟨by decide, by decide⟩ (Nat.le_of_ble_eq_true rfl) (fun r1 N1 h1 => ?_)
        obtain ⟨e1, hx1⟩ := h1
        refine n_aload_n K 1 dL_law_415 rfl rfl ?_
        refine n_aload_n K 3 dL_law_416 rfl rfl ?_
        refine n_iload_n K 0 dL_law_417 rfl rfl ?_
        refine n_iconst K (v := 1) dL_law_418 (by decide) ?_
        refine n_iadd K dL_law_419 ?_
        refine n_sld K (j := i + 1) rfl (nI_add i 1) (show i + 1 < L by omega) (show L < 2 ^ 31 by omega) dL_law_420 ?_
        refine n_aload_n K 3 dL_law_421 rfl rfl ?_
        refine n_iload_n K 0 dL_law_422 rfl rfl ?_
        refine n_iconst K (v := 2) dL_law_423 (by decide) ?_
        refine n_iadd K dL_law_424 ?_
        refine n_sld K (j := i + 2) rfl (nI_add i 2) (show i + 2 < L by omega) (show L < 2 ^ 31 by omega) dL_law_425 ?_
        refine n_swap K ?_
        refine n_call K (ws := []) (kd := mk) (ad := ad2) (M := M2) (rest := [.int r1]) [.int (xs (i + 1)), .int (xs (i + 2))] dL_law_426 mf_X6_plan rfl rfl qw_777 qw_778 qw_779 (cm_plan l (g.1, g.2.1, ad2) t M2 A hm (xs (i + 1)) (xs (i + 2))) rfl ⟨by decide, by decide⟩ ⟨by decide, by decide⟩ (Nat.le_of_ble_eq_true rfl) (fun r2 N2 h2 => ?_)
        obtain ⟨e2, hm1⟩ := h2
        refine n_swap K ?_
        refine n_icmp_eq K 638 dL_law_429 (by decide) (fun _ => ?_) (fun h => absurd (e1.trans e2.symm) h)
        exact back _ N1 N2 hx1 hm1
      · refine n_aload_n K 2 dL_law_434 rfl rfl ?_
        refine n_aload_n K 3 dL_law_435 rfl rfl ?_
        refine n_iload_n K 0 dL_law_436 rfl rfl ?_
        refine n_iconst K (v := 1) dL_law_437 (by decide) ?_
        refine n_iadd K dL_law_438 ?_
        refine n_sld K (j := i + 1) rfl (nI_add i 1) (show i + 1 < L by omega) (show L < 2 ^ 31 by omega) dL_law_439 ?_
        refine n_call K (ws := []) (kd := xk) (ad := ad1) (M := M1) (rest := []) [.int (xs (i + 1))] dL_law_440 mf_X5_trying rfl rfl qw_465 qw_466 qw_467 (c_trying l (g.1, g.2.1, ad1) t M1 A hx (xs (i + 1))) rfl ⟨by decide, by decide⟩ ⟨by decide, by decide⟩ (Nat.le_of_ble_eq_true rfl) (fun r1 N1 h1 => ?_)
        obtain ⟨e1, hx1⟩ := h1
        refine n_aload_n K 1 dL_law_443 rfl rfl ?_
        refine n_aload_n K 3 dL_law_444 rfl rfl ?_
        refine n_iload_n K 0 dL_law_445 rfl rfl ?_
        refine n_iconst K (v := 1) dL_law_446 (by decide) ?_
        refine n_iadd K dL_law_447 ?_
        refine n_sld K (j := i + 1) rfl (nI_add i 1) (show i + 1 < L by omega) (show L < 2 ^ 31 by omega) dL_law_448 ?_
        refine n_swap K ?_
        refine n_call K (ws := []) (kd := mk) (ad := ad2) (M := M2) (rest := [.int r1]) [.int (xs (i + 1))] dL_law_449 mf_X6_trying rfl rfl qw_781 qw_782 qw_783 (cm_trying l (g.1, g.2.1, ad2) t M2 A hm (xs (i + 1))) rfl ⟨by decide, by decide⟩ ⟨by decide, by decide⟩ (Nat.le_of_ble_eq_true rfl) (fun r2 N2 h2 => ?_)
        obtain ⟨e2, hm1⟩ := h2
        refine n_swap K ?_
        refine n_icmp_eq K 638 dL_law_452 (by decide) (fun _ => ?_) (fun h => absurd (e1.trans e2.symm) h)
        exact back _ N1 N2 hx1 hm1
      · refine n_aload_n K 2 dL_law_457 rfl rfl ?_
        refine n_aload_n K 3 dL_law_458 rfl rfl ?_
        refine n_iload_n K 0 dL_law_459 rfl rfl ?_
        refine n_iconst K (v := 1) dL_law_460 (by decide) ?_
        refine n_iadd K dL_law_461 ?_
        refine n_sld K (j := i + 1) rfl (nI_add i 1) (show i + 1 < L by omega) (show L < 2 ^ 31 by omega) dL_law_462 ?_
        refine n_aload_n K 3 dL_law_463 rfl rfl ?_
        refine n_iload_n K 0 dL_law_464 rfl rfl ?_
        refine n_iconst K (v := 2) dL_law_465 (by decide) ?_
        refine n_iadd K dL_law_466 ?_
        refine n_sld K (j := i + 2) rfl (nI_add i 2) (show i + 2 < L by omega) (show L < 2 ^ 31 by omega) dL_law_467 ?_
        refine n_call K (ws := []) (kd := xk) (ad := ad1) (M := M1) (rest := []) [.int (xs (i + 1)), .int (xs (i + 2))] dL_law_468 mf_X5_sees rfl rfl qw_471 qw_472 qw_473 (c_sees l (g.1, g.2.1, ad1) t M1 A hx (xs (i + 1)) (xs (i + 2))) rfl ⟨by decide, by decide⟩ ⟨by decide, by decide⟩ (Nat.le_of_ble_eq_true rfl) (fun r1 N1 h1 => ?_)
        obtain ⟨e1, hx1⟩ := h1
        refine n_aload_n K 1 dL_law_471 rfl rfl ?_
        refine n_aload_n K 3 dL_law_472 rfl rfl ?_
        refine n_iload_n K 0 dL_law_473 rfl rfl ?_
        refine n_iconst K (v := 1) dL_law_474 (by decide) ?_
        refine n_iadd K dL_law_475 ?_
        refine n_sld K (j := i + 1) rfl (nI_add i 1) (show i + 1 < L by omega) (show L < 2 ^ 31 by omega) dL_law_476 ?_
        refine n_aload_n K 3 dL_law_477 rfl rfl ?_
        refine n_iload_n K 0 dL_law_478 rfl rfl ?_
        refine n_iconst K (v := 2) dL_law_479 (by decide) ?_
        refine n_iadd K dL_law_480 ?_
        refine n_sld K (j := i + 2) rfl (nI_add i 2) (show i + 2 < L by omega) (show L < 2 ^ 31 by omega) dL_law_481 ?_
        refine n_swap K ?_
        refine n_call K (ws := []) (kd := mk) (ad := ad2) (M := M2) (rest := [.int r1]) [.int (xs (i + 1)), .int (xs (i + 2))] dL_law_482 mf_X6_sees rfl rfl qw_785 qw_786 qw_787 (cm_sees l (g.1, g.2.1, ad2) t M2 A hm (xs (i + 1)) (xs (i + 2))) rfl ⟨by decide, by decide⟩ ⟨by decide, by decide⟩ (Nat.le_of_ble_eq_true rfl) (fun r2 N2 h2 => ?_)
        obtain ⟨e2, hm1⟩ := h2
        refine n_swap K ?_
        refine n_icmp_eq K 638 dL_law_485 (by decide) (fun _ => ?_) (fun h => absurd (e1.trans e2.symm) h)
        exact back _ N1 N2 hx1 hm1
      · refine n_aload_n K 2 dL_law_490 rfl rfl ?_
        refine n_call K (ws := []) (kd := xk) (ad := ad1) (M := M1) (rest := []) [] dL_law_491 mf_X5_forget rfl rfl qw_475 qw_476 qw_477 (c_forget l (g.1, g.2.1, ad1) t M1 A hx ) rfl ⟨by decide, by decide⟩ ⟨by decide, by decide⟩ (Nat.le_of_ble_eq_true rfl) (fun r1 N1 h1 => ?_)
        obtain ⟨e1, hx1⟩ := h1
        refine n_aload_n K 1 dL_law_494 rfl rfl ?_
        refine n_swap K ?_
        refine n_call K (ws := []) (kd := mk) (ad := ad2) (M := M2) (rest := [.int r1]) [] dL_law_495 mf_X6_forget rfl rfl qw_789 qw_790 qw_791 (cm_forget l (g.1, g.2.1, ad2) t M2 A hm ) rfl ⟨by decide, by decide⟩ ⟨by decide, by decide⟩ (Nat.le_of_ble_eq_true rfl) (fun r2 N2 h2 => ?_)
        obtain ⟨e2, hm1⟩ := h2
        refine n_swap K ?_
        refine n_icmp_eq K 638 dL_law_498 (by decide) (fun _ => ?_) (fun h => absurd (e1.trans e2.symm) h)
        exact back _ N1 N2 hx1 hm1
      · refine n_aload_n K 2 dL_law_503 rfl rfl ?_
        refine n_aload_n K 3 dL_law_504 rfl rfl ?_
        refine n_iload_n K 0 dL_law_505 rfl rfl ?_
        refine n_iconst K (v := 1) dL_law_506 (by decide) ?_
        refine n_iadd K dL_law_507 ?_
        refine n_sld K (j := i + 1) rfl (nI_add i 1) (show i + 1 < L by omega) (show L < 2 ^ 31 by omega) dL_law_508 ?_
        refine n_call K (ws := []) (kd := xk) (ad := ad1) (M := M1) (rest := []) [.int (xs (i + 1))] dL_law_509 mf_X5_unseen rfl rfl qw_479 qw_480 qw_481 (c_unseen l (g.1, g.2.1, ad1) t M1 A hx (xs (i + 1))) rfl ⟨by decide, by decide⟩ ⟨by decide, by decide⟩ (Nat.le_of_ble_eq_true rfl) (fun r1 N1 h1 => ?_)
        obtain ⟨e1, hx1⟩ := h1
        refine n_aload_n K 1 dL_law_512 rfl rfl ?_
        refine n_aload_n K 3 dL_law_513 rfl rfl ?_
        refine n_iload_n K 0 dL_law_514 rfl rfl ?_
        refine n_iconst K (v := 1) dL_law_515 (by decide) ?_
        refine n_iadd K dL_law_516 ?_
        refine n_sld K (j := i + 1) rfl (nI_add i 1) (show i + 1 < L by omega) (show L < 2 ^ 31 by omega) dL_law_517 ?_
        refine n_swap K ?_
        refine n_call K (ws := []) (kd := mk) (ad := ad2) (M := M2) (rest := [.int r1]) [.int (xs (i + 1))] dL_law_518 mf_X6_unseen rfl rfl qw_793 qw_794 qw_795 (cm_unseen l (g.1, g.2.1, ad2) t M2 A hm (xs (i + 1))) rfl ⟨by decide, by decide⟩ ⟨by decide, by decide⟩ (Nat.le_of_ble_eq_true rfl) (fun r2 N2 h2 => ?_)
        obtain ⟨e2, hm1⟩ := h2
        refine n_swap K ?_
        refine n_icmp_eq K 638 dL_law_521 (by decide) (fun _ => ?_) (fun h => absurd (e1.trans e2.symm) h)
        exact back _ N1 N2 hx1 hm1
      · refine n_aload_n K 2 dL_law_526 rfl rfl ?_
        refine n_aload_n K 3 dL_law_527 rfl rfl ?_
        refine n_iload_n K 0 dL_law_528 rfl rfl ?_
        refine n_iconst K (v := 1) dL_law_529 (by decide) ?_
        refine n_iadd K dL_law_530 ?_
        refine n_sld K (j := i + 1) rfl (nI_add i 1) (show i + 1 < L by omega) (show L < 2 ^ 31 by omega) dL_law_531 ?_
        refine n_aload_n K 3 dL_law_532 rfl rfl ?_
        refine n_iload_n K 0 dL_law_533 rfl rfl ?_
        refine n_iconst K (v := 2) dL_law_534 (by decide) ?_
        refine n_iadd K dL_law_535 ?_
        refine n_sld K (j := i + 2) rfl (nI_add i 2) (show i + 2 < L by omega) (show L < 2 ^ 31 by omega) dL_law_536 ?_
        refine n_aload_n K 3 dL_law_537 rfl rfl ?_
        refine n_iload_n K 0 dL_law_538 rfl rfl ?_
        refine n_iconst K (v := 3) dL_law_539 (by decide) ?_
        refine n_iadd K dL_law_540 ?_
        refine n_sld K (j := i + 3) rfl (nI_add i 3) (show i + 3 < L by omega) (show L < 2 ^ 31 by omega) dL_law_541 ?_
        refine n_call K (ws := []) (kd := xk) (ad := ad1) (M := M1) (rest := []) [.int (xs (i + 1)), .int (xs (i + 2)), .int (xs (i + 3))] dL_law_542 mf_X5_odds rfl rfl qw_489 qw_490 qw_491 (c_odds l (g.1, g.2.1, ad1) t M1 A hx (xs (i + 1)) (xs (i + 2)) (xs (i + 3))) rfl ⟨by decide, by decide⟩ ⟨by decide, by decide⟩ (Nat.le_of_ble_eq_true rfl) (fun r1 N1 h1 => ?_)
        obtain ⟨e1, hx1⟩ := h1
        refine n_aload_n K 1 dL_law_545 rfl rfl ?_
        refine n_aload_n K 3 dL_law_546 rfl rfl ?_
        refine n_iload_n K 0 dL_law_547 rfl rfl ?_
        refine n_iconst K (v := 1) dL_law_548 (by decide) ?_
        refine n_iadd K dL_law_549 ?_
        refine n_sld K (j := i + 1) rfl (nI_add i 1) (show i + 1 < L by omega) (show L < 2 ^ 31 by omega) dL_law_550 ?_
        refine n_aload_n K 3 dL_law_551 rfl rfl ?_
        refine n_iload_n K 0 dL_law_552 rfl rfl ?_
        refine n_iconst K (v := 2) dL_law_553 (by decide) ?_
        refine n_iadd K dL_law_554 ?_
        refine n_sld K (j := i + 2) rfl (nI_add i 2) (show i + 2 < L by omega) (show L < 2 ^ 31 by omega) dL_law_555 ?_
        refine n_aload_n K 3 dL_law_556 rfl rfl ?_
        refine n_iload_n K 0 dL_law_557 rfl rfl ?_
        refine n_iconst K (v := 3) dL_law_558 (by decide) ?_
        refine n_iadd K dL_law_559 ?_
        refine n_sld K (j := i + 3) rfl (nI_add i 3) (show i + 3 < L by omega) (show L < 2 ^ 31 by omega) dL_law_560 ?_
        refine n_swap K ?_
        refine n_call K (ws := []) (kd := mk) (ad := ad2) (M := M2) (rest := [.int r1]) [.int (xs (i + 1)), .int (xs (i + 2)), .int (xs (i + 3))] dL_law_561 mf_X6_odds rfl rfl qw_801 qw_802 qw_803 (cm_odds l (g.1, g.2.1, ad2) t M2 A hm (xs (i + 1)) (xs (i + 2)) (xs (i + 3))) rfl ⟨by decide, by decide⟩ ⟨by decide, by decide⟩ (Nat.le_of_ble_eq_true rfl) (fun r2 N2 h2 => ?_)
        obtain ⟨e2, hm1⟩ := h2
        refine n_swap K ?_
        refine n_icmp_eq K 638 dL_law_564 (by decide) (fun _ => ?_) (fun h => absurd (e1.trans e2.symm) h)
        exact back _ N1 N2 hx1 hm1
      · refine n_aload_n K 2 dL_law_569 rfl rfl ?_
        refine n_aload_n K 3 dL_law_570 rfl rfl ?_
        refine n_iload_n K 0 dL_law_571 rfl rfl ?_
        refine n_iconst K (v := 1) dL_law_572 (by decide) ?_
        refine n_iadd K dL_law_573 ?_
        refine n_sld K (j := i + 1) rfl (nI_add i 1) (show i + 1 < L by omega) (show L < 2 ^ 31 by omega) dL_law_574 ?_
        refine n_call K (ws := []) (kd := xk) (ad := ad1) (M := M1) (rest := []) [.int (xs (i + 1))] dL_law_575 mf_X5_keep rfl rfl qw_514 qw_515 qw_516 (c_keep l (g.1, g.2.1, ad1) t M1 A hx (xs (i + 1))) rfl ⟨by decide, by decide⟩ ⟨by decide, by decide⟩ (Nat.le_of_ble_eq_true rfl) (fun r1 N1 h1 => ?_)
        obtain ⟨e1, hx1⟩ := h1
        refine n_aload_n K 1 dL_law_578 rfl rfl ?_
        refine n_aload_n K 3 dL_law_579 rfl rfl ?_
        refine n_iload_n K 0 dL_law_580 rfl rfl ?_
        refine n_iconst K (v := 1) dL_law_581 (by decide) ?_
        refine n_iadd K dL_law_582 ?_
        refine n_sld K (j := i + 1) rfl (nI_add i 1) (show i + 1 < L by omega) (show L < 2 ^ 31 by omega) dL_law_583 ?_
        refine n_swap K ?_
        refine n_call K (ws := []) (kd := mk) (ad := ad2) (M := M2) (rest := [.int r1]) [.int (xs (i + 1))] dL_law_584 mf_X6_keep rfl rfl qw_806 qw_807 qw_808 (cm_keepS l (g.1, g.2.1, ad2) t M2 A hm (xs (i + 1))) rfl ⟨by decide, by decide⟩ ⟨by decide, by decide⟩ (Nat.le_of_ble_eq_true rfl) (fun r2 N2 h2 => ?_)
        obtain ⟨e2, hm1⟩ := h2
        refine n_swap K ?_
        refine n_icmp_eq K 638 dL_law_587 (by decide) (fun _ => ?_) (fun h => absurd (e1.trans e2.symm) h)
        exact back _ N1 N2 hx1 hm1
      · refine n_aload_n K 2 dL_law_592 rfl rfl ?_
        refine n_aload_n K 3 dL_law_593 rfl rfl ?_
        refine n_iload_n K 0 dL_law_594 rfl rfl ?_
        refine n_iconst K (v := 1) dL_law_595 (by decide) ?_
        refine n_iadd K dL_law_596 ?_
        refine n_sld K (j := i + 1) rfl (nI_add i 1) (show i + 1 < L by omega) (show L < 2 ^ 31 by omega) dL_law_597 ?_
        refine n_call K (ws := []) (kd := xk) (ad := ad1) (M := M1) (rest := []) [.int (xs (i + 1))] dL_law_598 mf_X5_back rfl rfl qw_518 qw_519 qw_520 (c_back l (g.1, g.2.1, ad1) t M1 A hx (xs (i + 1))) rfl ⟨by decide, by decide⟩ ⟨by decide, by decide⟩ (Nat.le_of_ble_eq_true rfl) (fun r1 N1 h1 => ?_)
        obtain ⟨e1, hx1⟩ := h1
        refine n_aload_n K 1 dL_law_601 rfl rfl ?_
        refine n_aload_n K 3 dL_law_602 rfl rfl ?_
        refine n_iload_n K 0 dL_law_603 rfl rfl ?_
        refine n_iconst K (v := 1) dL_law_604 (by decide) ?_
        refine n_iadd K dL_law_605 ?_
        refine n_sld K (j := i + 1) rfl (nI_add i 1) (show i + 1 < L by omega) (show L < 2 ^ 31 by omega) dL_law_606 ?_
        refine n_swap K ?_
        refine n_call K (ws := []) (kd := mk) (ad := ad2) (M := M2) (rest := [.int r1]) [.int (xs (i + 1))] dL_law_607 mf_X6_back rfl rfl qw_810 qw_811 qw_812 (cm_back l (g.1, g.2.1, ad2) t M2 A hm (xs (i + 1))) rfl ⟨by decide, by decide⟩ ⟨by decide, by decide⟩ (Nat.le_of_ble_eq_true rfl) (fun r2 N2 h2 => ?_)
        obtain ⟨e2, hm1⟩ := h2
        refine n_swap K ?_
        refine n_icmp_eq K 638 dL_law_610 (by decide) (fun _ => ?_) (fun h => absurd (e1.trans e2.symm) h)
        exact back _ N1 N2 hx1 hm1
      · refine n_aload_n K 2 dL_law_615 rfl rfl ?_
        refine n_aload_n K 3 dL_law_616 rfl rfl ?_
        refine n_iload_n K 0 dL_law_617 rfl rfl ?_
        refine n_iconst K (v := 1) dL_law_618 (by decide) ?_
        refine n_iadd K dL_law_619 ?_
        refine n_sld K (j := i + 1) rfl (nI_add i 1) (show i + 1 < L by omega) (show L < 2 ^ 31 by omega) dL_law_620 ?_
        refine n_call K (ws := []) (kd := xk) (ad := ad1) (M := M1) (rest := []) [.int (xs (i + 1))] dL_law_621 mf_X5_count rfl rfl qw_522 qw_523 qw_524 (c_count l (g.1, g.2.1, ad1) t M1 A hx (xs (i + 1))) rfl ⟨by decide, by decide⟩ ⟨by decide, by decide⟩ (Nat.le_of_ble_eq_true rfl) (fun r1 N1 h1 => ?_)
        obtain ⟨e1, hx1⟩ := h1
        refine n_aload_n K 1 dL_law_624 rfl rfl ?_
        refine n_aload_n K 3 dL_law_625 rfl rfl ?_
        refine n_iload_n K 0 dL_law_626 rfl rfl ?_
        refine n_iconst K (v := 1) dL_law_627 (by decide) ?_
        refine n_iadd K dL_law_628 ?_
        refine n_sld K (j := i + 1) rfl (nI_add i 1) (show i + 1 < L by omega) (show L < 2 ^ 31 by omega) dL_law_629 ?_
        refine n_swap K ?_
        refine n_call K (ws := []) (kd := mk) (ad := ad2) (M := M2) (rest := [.int r1]) [.int (xs (i + 1))] dL_law_630 mf_X6_count rfl rfl qw_814 qw_815 qw_816 (cm_count l (g.1, g.2.1, ad2) t M2 A hm (xs (i + 1))) rfl ⟨by decide, by decide⟩ ⟨by decide, by decide⟩ (Nat.le_of_ble_eq_true rfl) (fun r2 N2 h2 => ?_)
        obtain ⟨e2, hm1⟩ := h2
        refine n_swap K ?_
        refine n_icmp_eq K 638 dL_law_633 (by decide) (fun _ => ?_) (fun h => absurd (e1.trans e2.symm) h)
        exact back _ N1 N2 hx1 hm1
      · exact back A M1 M2 hx hm
