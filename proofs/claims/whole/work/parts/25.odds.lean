theorem r_ldcw {l : Launch} {g : rs_G} {kd : List rs_k} {t : Nat × Nat} {cc : ByteArray} {nL : Nat} {own : String} {d : Nat} {Y : rs_Y} (K : rs_K l g kd t cc nL own d Y) {M : rs_M} {pc : Nat} {lv : List (Nat × Value)} {rest : List Value} {n : Nat} {v : Int32} (hd : decode cc pc = .ok (.ldc_w n, 3)) (hq : Cond.constant own n v ∈ rs_T) (k : Y M (pc + 3) lv (.int v :: rest)) : Y M pc lv rest := by
  obtain ⟨p, e, s, m, args, below, meth, cd, Q, rfl, hx, hb, hml, hown, hts, hN, hZ⟩ := K
  intro H locs ls hI hl
  exact lv_ldcw hx hb hown (hts _ hq) hd (k H locs ls hI hl)
/-! odds -/
def ab_sum (f : Nat → Nat) : Nat → Nat
  | 0 => 0
  | n + 1 => ab_sum f n + f n
theorem ab_sum_congr {f g : Nat → Nat} : ∀ n, (∀ m, m < n → f m = g m) → ab_sum f n = ab_sum g n
  | 0, _ => rfl
  | n + 1, h => by simp only [ab_sum, ab_sum_congr n (fun m hm => h m (by omega)), h n (by omega)]
theorem ab_sum_double (f : Nat → Nat) : ∀ n, ab_sum f (2 * n) = ab_sum (fun m => f (2 * m) + f (2 * m + 1)) n
  | 0 => rfl
  | n + 1 => by
    rw [show 2 * (n + 1) = 2 * n + 1 + 1 by omega]
    simp only [ab_sum, ab_sum_double f n]
    omega
theorem ab_sum_add (f g : Nat → Nat) : ∀ n, ab_sum (fun m => f m + g m) n = ab_sum f n + ab_sum g n
  | 0 => rfl
  | n + 1 => by simp only [ab_sum, ab_sum_add f g n]; omega
theorem ab_sum_mul (a : Nat) (f : Nat → Nat) : ∀ n, ab_sum (fun m => a * f m) n = a * ab_sum f n
  | 0 => rfl
  | n + 1 => by simp only [ab_sum, ab_sum_mul a f n, Nat.mul_add]
/-- the keys with the mask's slips, the first key by the lowest bit -/
def ab_sl : List Nat → Nat → List Nat
  | [], _ => []
  | k :: r, m => (k + m % 2) % 8 :: ab_sl r (m / 2)
def ab_pop : Nat → Nat → Nat
  | 0, _ => 0
  | s + 1, m => m % 2 + ab_pop s (m / 2)
theorem ab_pop_le : ∀ s m, ab_pop s m ≤ s
  | 0, _ => Nat.le_refl 0
  | s + 1, m => by have := ab_pop_le s (m / 2); simp only [ab_pop]; omega
def ab_wt (x s m : Nat) : Nat := x ^ ab_pop s m * (10 - x) ^ (s - ab_pop s m)
/-- of ten to the number of keys, how many parts leave the last ring's cost at c or less -/
def ab_near (tp : Int32) (L : ab_L) (c : Int32) (x : Nat) : List Nat → List Nat → Nat
  | [], p => if ab_lcost tp L p ≤ c then 1 else 0
  | k :: r, p => (10 - x) * ab_near tp L c x r (p ++ [k]) + x * ab_near tp L c x r (p ++ [(k + 1) % 8])
def ab_term (tp : Int32) (L : ab_L) (c : Int32) (x : Nat) (r p : List Nat) (m : Nat) : Nat := if ab_lcost tp L (p ++ ab_sl r m) ≤ c then ab_wt x r.length m else 0
theorem ab_wt_0 (x s m : Nat) : ab_wt x (s + 1) (2 * m) = (10 - x) * ab_wt x s m := by
  have e : ab_pop (s + 1) (2 * m) = ab_pop s m := by
    simp only [ab_pop]
    rw [show 2 * m % 2 = 0 by omega, show 2 * m / 2 = m by omega]; omega
  have := ab_pop_le s m
  rw [ab_wt, ab_wt, e, show s + 1 - ab_pop s m = (s - ab_pop s m) + 1 by omega, Nat.pow_succ]
  rw [Nat.mul_comm ((10 - x) ^ (s - ab_pop s m)), ← Nat.mul_assoc, ← Nat.mul_assoc, Nat.mul_comm (10 - x)]
theorem ab_wt_1 (x s m : Nat) : ab_wt x (s + 1) (2 * m + 1) = x * ab_wt x s m := by
  have e : ab_pop (s + 1) (2 * m + 1) = ab_pop s m + 1 := by
    simp only [ab_pop]
    rw [show (2 * m + 1) % 2 = 1 by omega, show (2 * m + 1) / 2 = m by omega]; omega
  have := ab_pop_le s m
  rw [ab_wt, ab_wt, e, show s + 1 - (ab_pop s m + 1) = s - ab_pop s m by omega, Nat.pow_succ]
  rw [Nat.mul_comm (x ^ ab_pop s m) x, Nat.mul_assoc]
theorem ab_near_sum (tp : Int32) (L : ab_L) (c : Int32) (x : Nat) : ∀ (r p : List Nat), (∀ k ∈ r, k < 8) → ab_sum (ab_term tp L c x r p) (2 ^ r.length) = ab_near tp L c x r p
  | [], p, _ => by
    simp only [List.length_nil, Nat.pow_zero, ab_sum, ab_term, ab_near, ab_sl, List.append_nil, ab_wt, ab_pop]
    simp
  | k :: r, p, h => by
    have h1 := ab_near_sum tp L c x r (p ++ [k]) (fun z hz => h z (List.mem_cons_of_mem _ hz))
    have h2 := ab_near_sum tp L c x r (p ++ [(k + 1) % 8]) (fun z hz => h z (List.mem_cons_of_mem _ hz))
    have hk : k < 8 := h k List.mem_cons_self
    rw [List.length_cons, Nat.pow_succ, Nat.mul_comm, ab_sum_double, ab_sum_add]
    have e1 : ∀ m, ab_term tp L c x (k :: r) p (2 * m) = (10 - x) * ab_term tp L c x r (p ++ [k]) m := by
      intro m
      have es : ab_sl (k :: r) (2 * m) = k :: ab_sl r m := by
        simp only [ab_sl]
        rw [show 2 * m % 2 = 0 by omega, show 2 * m / 2 = m by omega, show (k + 0) % 8 = k by omega]
      simp only [ab_term, es, List.length_cons, ab_wt_0, List.append_assoc, List.singleton_append]
      split
      · rfl
      · simp
    have e2 : ∀ m, ab_term tp L c x (k :: r) p (2 * m + 1) = x * ab_term tp L c x r (p ++ [(k + 1) % 8]) m := by
      intro m
      have es : ab_sl (k :: r) (2 * m + 1) = (k + 1) % 8 :: ab_sl r m := by
        simp only [ab_sl]
        rw [show (2 * m + 1) % 2 = 1 by omega, show (2 * m + 1) / 2 = m by omega]
      simp only [ab_term, es, List.length_cons, ab_wt_1, List.append_assoc, List.singleton_append]
      split
      · rfl
      · simp
    rw [ab_sum_congr _ (fun m _ => e1 m), ab_sum_congr _ (fun m _ => e2 m), ab_sum_mul, ab_sum_mul, h1, h2, ab_near]
theorem ab_near_le (tp : Int32) (L : ab_L) (c : Int32) {x : Nat} (hx : x ≤ 10) : ∀ (r p : List Nat), ab_near tp L c x r p ≤ 10 ^ r.length
  | [], p => by simp only [ab_near]; split <;> simp
  | k :: r, p => by
    have h1 := ab_near_le tp L c hx r (p ++ [k])
    have h2 := ab_near_le tp L c hx r (p ++ [(k + 1) % 8])
    have a1 := Nat.mul_le_mul_left (10 - x) h1
    have a2 := Nat.mul_le_mul_left x h2
    simp only [ab_near, List.length_cons, Nat.pow_succ]
    have e : (10 - x) * 10 ^ r.length + x * 10 ^ r.length = 10 ^ r.length * 10 := by rw [← Nat.add_mul, show 10 - x + x = 10 by omega, Nat.mul_comm]
    omega
theorem ab_sl_len : ∀ (r : List Nat) (m : Nat), (ab_sl r m).length = r.length
  | [], _ => rfl
  | k :: r, m => by simp only [ab_sl, List.length_cons, ab_sl_len r]
theorem ab_sl_get : ∀ (r : List Nat) (m j : Nat), j < r.length → (ab_sl r m)[j]? = some ((r.getD j 0 + m / 2 ^ j % 2) % 8)
  | [], _, j, h => absurd h (Nat.not_lt_zero _)
  | k :: r, m, 0, _ => by simp [ab_sl]
  | k :: r, m, j + 1, h => by
    have := ab_sl_get r (m / 2) j (by simpa using h)
    simp only [ab_sl, List.getElem?_cons_succ, this]
    rw [Nat.div_div_eq_div_mul, Nat.pow_succ, Nat.mul_comm 2]
    simp
theorem ab_sl_lt : ∀ (r : List Nat) (m : Nat), ∀ k ∈ ab_sl r m, k < 8
  | [], _, k, h => absurd h List.not_mem_nil
  | q :: r, m, k, h => by
    simp only [ab_sl] at h
    rcases List.mem_cons.mp h with e | e
    · rw [e]; exact Nat.mod_lt _ (by decide)
    · exact ab_sl_lt r _ k e
def ab_eu : Nat → Nat → Nat → Nat
  | 0, a, _ => a
  | f + 1, a, b => if b = 0 then a else ab_eu f b (a % b)
theorem ab_eu_gcd : ∀ (k a b f : Nat), b < 2 ^ k → 2 * k ≤ f → ab_eu f a b = Nat.gcd a b
  | 0, a, b, f, hb, _ => by
    have : b = 0 := by simpa using hb
    subst this
    cases f <;> simp [ab_eu]
  | k + 1, a, b, f, hb, hf => by
    obtain ⟨g, rfl⟩ : ∃ g, f = g + 2 := ⟨f - 2, by omega⟩
    by_cases h0 : b = 0
    · subst h0; simp [ab_eu]
    · have hr : a % b < b := Nat.mod_lt _ (by omega)
      rw [ab_eu, if_neg h0, ab_eu]
      rw [Nat.gcd_comm, Nat.gcd_rec b a, Nat.gcd_comm]
      by_cases h1 : a % b = 0
      · rw [if_pos h1, h1]; simp
      · rw [if_neg h1]
        have hh : b % (a % b) < 2 ^ k := by
          rw [Nat.pow_succ] at hb
          have hm : b % (a % b) < a % b := Nat.mod_lt _ (by omega)
          rcases Nat.lt_or_ge (a % b) (2 ^ k) with q | q
          · omega
          · have : b % (a % b) = (b - a % b) % (a % b) := (Nat.mod_eq_sub_mod (by omega))
            have h3 : (b - a % b) % (a % b) ≤ b - a % b := Nat.mod_le _ _
            omega
        rw [ab_eu_gcd k (a % b) (b % (a % b)) g hh (by omega)]
        rw [Nat.gcd_comm b, Nat.gcd_comm (a % b) (b % (a % b)), ← Nat.gcd_rec]
noncomputable def ab_odds (A : ab_S) (x c w : Int32) : Int32 := ab_if ((0 ≤ x ∧ x ≤ 10) ∧ (0 ≤ c ∧ c ≤ 9999) ∧ (0 ≤ w ∧ w ≤ 1)) (nI ((if w = 0 then ab_near A.2.1 A.1 c x.toNatClampNeg ((ab_ks A.1).drop ((ab_ks A.1).length - 8)) ((ab_ks A.1).take ((ab_ks A.1).length - 8)) else 10 ^ (min (ab_ks A.1).length 8)) / Nat.gcd (10 ^ (min (ab_ks A.1).length 8)) (ab_near A.2.1 A.1 c x.toNatClampNeg ((ab_ks A.1).drop ((ab_ks A.1).length - 8)) ((ab_ks A.1).take ((ab_ks A.1).length - 8))))) (-1)
def x_bc1 (x : Int32) : Int32 := x - (((x.toUInt32 >>> ((1 : Int32).toUInt32 &&& Int32.toUInt32 31)).toInt32) &&& 1431655765)
def x_bc2 (x : Int32) : Int32 := (x &&& 858993459) + (((x.toUInt32 >>> ((2 : Int32).toUInt32 &&& Int32.toUInt32 31)).toInt32) &&& 858993459)
def x_bc3 (x : Int32) : Int32 := (x + ((x.toUInt32 >>> ((4 : Int32).toUInt32 &&& Int32.toUInt32 31)).toInt32)) &&& 252645135
def x_bc4 (x : Int32) : Int32 := x + ((x.toUInt32 >>> ((8 : Int32).toUInt32 &&& Int32.toUInt32 31)).toInt32)
def x_bc5 (x : Int32) : Int32 := x + ((x.toUInt32 >>> ((16 : Int32).toUInt32 &&& Int32.toUInt32 31)).toInt32)
def x_bc (x : Int32) : Int32 := x_bc5 (x_bc4 (x_bc3 (x_bc2 (x_bc1 x)))) &&& 63
theorem x_bc_pop : ∀ m, m < 256 → x_bc (nI m) = nI (ab_pop 8 m) := by decide +kernel
theorem ab_pop_8 : ∀ s, s ≤ 8 → ∀ m, m < 2 ^ s → ab_pop s m = ab_pop 8 m := by decide +kernel
theorem ab_sh31 : ∀ n, n < 32 → ((nI n &&& 31).toBitVec.smod 32).toNat = n := by decide
theorem ab_shr {m j : Nat} (hm : m < 2 ^ 31) (hj : j < 32) : nI m >>> (nI j &&& 31) = nI (m / 2 ^ j) := pk_shrN hm _ j (ab_sh31 j hj)
theorem ab_shl1 {s : Nat} (hs : s < 31) : (1 : Int32) <<< (nI s &&& 31) = nI (2 ^ s) := by
  have := pk_shlN (n := 1) (nI s &&& 31) s (ab_sh31 s (by omega)) (by rw [Nat.one_mul]; exact Nat.pow_lt_pow_right (by decide) (by omega))
  rw [Nat.one_mul] at this
  exact this
theorem ab_and1 {m : Nat} (hm : m < 2 ^ 32) : nI m &&& 1 = nI (m % 2) := pk_andN hm 1 (by decide)
set_option maxHeartbeats 4000000 in
set_option maxRecDepth 100000 in
theorem c_bitCount (l : Launch) (g : rs_G) (kd : List rs_k) (t : Nat × Nat) (M : rs_M) (x : Int32) : rs_Ci l g kd t yJ6_bitCount_0f7a4 cJ6_bitCount_0f7a4 1 .int 0 [.int x] M (fun r M1 => r = x_bc x ∧ M1 = M) := by
  refine rs_ofi (by decide +kernel) (Nat.le_of_ble_eq_true rfl) ?_
  intro Y K hr
  show Y M 0 [(0, .int x)] []
  refine r_iload_n K 0 dJ6_bitCount_0f7a4_0 rfl rfl ?_
  refine r_iload_n K 0 dJ6_bitCount_0f7a4_1 rfl rfl ?_
  refine r_iconst K (v := 1) dJ6_bitCount_0f7a4_2 (by decide) ?_
  refine r_iushr K dJ6_bitCount_0f7a4_3 ?_
  refine r_ldcw K dJ6_bitCount_0f7a4_4 qw_505 ?_
  refine r_iand K dJ6_bitCount_0f7a4_7 ?_
  refine r_isub K dJ6_bitCount_0f7a4_8 ?_
  refine r_istore_n K [(0, .int (x - (((x.toUInt32 >>> ((1 : Int32).toUInt32 &&& Int32.toUInt32 31)).toInt32) &&& 1431655765)))] dJ6_bitCount_0f7a4_9 rfl (by decide) rfl ?_
  refine r_iload_n K 0 dJ6_bitCount_0f7a4_10 rfl rfl ?_
  refine r_ldcw K dJ6_bitCount_0f7a4_11 qw_506 ?_
  refine r_iand K dJ6_bitCount_0f7a4_14 ?_
  refine r_iload_n K 0 dJ6_bitCount_0f7a4_15 rfl rfl ?_
  refine r_iconst K (v := 2) dJ6_bitCount_0f7a4_16 (by decide) ?_
  refine r_iushr K dJ6_bitCount_0f7a4_17 ?_
  refine r_ldcw K dJ6_bitCount_0f7a4_18 qw_506 ?_
  refine r_iand K dJ6_bitCount_0f7a4_21 ?_
  refine r_iadd K dJ6_bitCount_0f7a4_22 ?_
  refine r_istore_n K [(0, .int (((x - (((x.toUInt32 >>> ((1 : Int32).toUInt32 &&& Int32.toUInt32 31)).toInt32) &&& 1431655765)) &&& 858993459) + ((((x - (((x.toUInt32 >>> ((1 : Int32).toUInt32 &&& Int32.toUInt32 31)).toInt32) &&& 1431655765)).toUInt32 >>> ((2 : Int32).toUInt32 &&& Int32.toUInt32 31)).toInt32) &&& 858993459)))] dJ6_bitCount_0f7a4_23 rfl (by decide) rfl ?_
  refine r_iload_n K 0 dJ6_bitCount_0f7a4_24 rfl rfl ?_
  refine r_iload_n K 0 dJ6_bitCount_0f7a4_25 rfl rfl ?_
  refine r_iconst K (v := 4) dJ6_bitCount_0f7a4_26 (by decide) ?_
  refine r_iushr K dJ6_bitCount_0f7a4_27 ?_
  refine r_iadd K dJ6_bitCount_0f7a4_28 ?_
  refine r_ldcw K dJ6_bitCount_0f7a4_29 qw_507 ?_
  refine r_iand K dJ6_bitCount_0f7a4_32 ?_
  refine r_istore_n K [(0, .int (((((x - (((x.toUInt32 >>> ((1 : Int32).toUInt32 &&& Int32.toUInt32 31)).toInt32) &&& 1431655765)) &&& 858993459) + ((((x - (((x.toUInt32 >>> ((1 : Int32).toUInt32 &&& Int32.toUInt32 31)).toInt32) &&& 1431655765)).toUInt32 >>> ((2 : Int32).toUInt32 &&& Int32.toUInt32 31)).toInt32) &&& 858993459)) + (((((x - (((x.toUInt32 >>> ((1 : Int32).toUInt32 &&& Int32.toUInt32 31)).toInt32) &&& 1431655765)) &&& 858993459) + ((((x - (((x.toUInt32 >>> ((1 : Int32).toUInt32 &&& Int32.toUInt32 31)).toInt32) &&& 1431655765)).toUInt32 >>> ((2 : Int32).toUInt32 &&& Int32.toUInt32 31)).toInt32) &&& 858993459)).toUInt32 >>> ((4 : Int32).toUInt32 &&& Int32.toUInt32 31)).toInt32)) &&& 252645135))] dJ6_bitCount_0f7a4_33 rfl (by decide) rfl ?_
  refine r_iload_n K 0 dJ6_bitCount_0f7a4_34 rfl rfl ?_
  refine r_iload_n K 0 dJ6_bitCount_0f7a4_35 rfl rfl ?_
  refine r_bipush K (v := 8) dJ6_bitCount_0f7a4_36 (by decide) ?_
  refine r_iushr K dJ6_bitCount_0f7a4_38 ?_
  refine r_iadd K dJ6_bitCount_0f7a4_39 ?_
  refine r_istore_n K [(0, .int ((((((x - (((x.toUInt32 >>> ((1 : Int32).toUInt32 &&& Int32.toUInt32 31)).toInt32) &&& 1431655765)) &&& 858993459) + ((((x - (((x.toUInt32 >>> ((1 : Int32).toUInt32 &&& Int32.toUInt32 31)).toInt32) &&& 1431655765)).toUInt32 >>> ((2 : Int32).toUInt32 &&& Int32.toUInt32 31)).toInt32) &&& 858993459)) + (((((x - (((x.toUInt32 >>> ((1 : Int32).toUInt32 &&& Int32.toUInt32 31)).toInt32) &&& 1431655765)) &&& 858993459) + ((((x - (((x.toUInt32 >>> ((1 : Int32).toUInt32 &&& Int32.toUInt32 31)).toInt32) &&& 1431655765)).toUInt32 >>> ((2 : Int32).toUInt32 &&& Int32.toUInt32 31)).toInt32) &&& 858993459)).toUInt32 >>> ((4 : Int32).toUInt32 &&& Int32.toUInt32 31)).toInt32)) &&& 252645135) + (((((((x - (((x.toUInt32 >>> ((1 : Int32).toUInt32 &&& Int32.toUInt32 31)).toInt32) &&& 1431655765)) &&& 858993459) + ((((x - (((x.toUInt32 >>> ((1 : Int32).toUInt32 &&& Int32.toUInt32 31)).toInt32) &&& 1431655765)).toUInt32 >>> ((2 : Int32).toUInt32 &&& Int32.toUInt32 31)).toInt32) &&& 858993459)) + (((((x - (((x.toUInt32 >>> ((1 : Int32).toUInt32 &&& Int32.toUInt32 31)).toInt32) &&& 1431655765)) &&& 858993459) + ((((x - (((x.toUInt32 >>> ((1 : Int32).toUInt32 &&& Int32.toUInt32 31)).toInt32) &&& 1431655765)).toUInt32 >>> ((2 : Int32).toUInt32 &&& Int32.toUInt32 31)).toInt32) &&& 858993459)).toUInt32 >>> ((4 : Int32).toUInt32 &&& Int32.toUInt32 31)).toInt32)) &&& 252645135).toUInt32 >>> ((8 : Int32).toUInt32 &&& Int32.toUInt32 31)).toInt32)))] dJ6_bitCount_0f7a4_40 rfl (by decide) rfl ?_
  refine r_iload_n K 0 dJ6_bitCount_0f7a4_41 rfl rfl ?_
  refine r_iload_n K 0 dJ6_bitCount_0f7a4_42 rfl rfl ?_
  refine r_bipush K (v := 16) dJ6_bitCount_0f7a4_43 (by decide) ?_
  refine r_iushr K dJ6_bitCount_0f7a4_45 ?_
  refine r_iadd K dJ6_bitCount_0f7a4_46 ?_
  refine r_istore_n K [(0, .int (((((((x - (((x.toUInt32 >>> ((1 : Int32).toUInt32 &&& Int32.toUInt32 31)).toInt32) &&& 1431655765)) &&& 858993459) + ((((x - (((x.toUInt32 >>> ((1 : Int32).toUInt32 &&& Int32.toUInt32 31)).toInt32) &&& 1431655765)).toUInt32 >>> ((2 : Int32).toUInt32 &&& Int32.toUInt32 31)).toInt32) &&& 858993459)) + (((((x - (((x.toUInt32 >>> ((1 : Int32).toUInt32 &&& Int32.toUInt32 31)).toInt32) &&& 1431655765)) &&& 858993459) + ((((x - (((x.toUInt32 >>> ((1 : Int32).toUInt32 &&& Int32.toUInt32 31)).toInt32) &&& 1431655765)).toUInt32 >>> ((2 : Int32).toUInt32 &&& Int32.toUInt32 31)).toInt32) &&& 858993459)).toUInt32 >>> ((4 : Int32).toUInt32 &&& Int32.toUInt32 31)).toInt32)) &&& 252645135) + (((((((x - (((x.toUInt32 >>> ((1 : Int32).toUInt32 &&& Int32.toUInt32 31)).toInt32) &&& 1431655765)) &&& 858993459) + ((((x - (((x.toUInt32 >>> ((1 : Int32).toUInt32 &&& Int32.toUInt32 31)).toInt32) &&& 1431655765)).toUInt32 >>> ((2 : Int32).toUInt32 &&& Int32.toUInt32 31)).toInt32) &&& 858993459)) + (((((x - (((x.toUInt32 >>> ((1 : Int32).toUInt32 &&& Int32.toUInt32 31)).toInt32) &&& 1431655765)) &&& 858993459) + ((((x - (((x.toUInt32 >>> ((1 : Int32).toUInt32 &&& Int32.toUInt32 31)).toInt32) &&& 1431655765)).toUInt32 >>> ((2 : Int32).toUInt32 &&& Int32.toUInt32 31)).toInt32) &&& 858993459)).toUInt32 >>> ((4 : Int32).toUInt32 &&& Int32.toUInt32 31)).toInt32)) &&& 252645135).toUInt32 >>> ((8 : Int32).toUInt32 &&& Int32.toUInt32 31)).toInt32)) + ((((((((x - (((x.toUInt32 >>> ((1 : Int32).toUInt32 &&& Int32.toUInt32 31)).toInt32) &&& 1431655765)) &&& 858993459) + ((((x - (((x.toUInt32 >>> ((1 : Int32).toUInt32 &&& Int32.toUInt32 31)).toInt32) &&& 1431655765)).toUInt32 >>> ((2 : Int32).toUInt32 &&& Int32.toUInt32 31)).toInt32) &&& 858993459)) + (((((x - (((x.toUInt32 >>> ((1 : Int32).toUInt32 &&& Int32.toUInt32 31)).toInt32) &&& 1431655765)) &&& 858993459) + ((((x - (((x.toUInt32 >>> ((1 : Int32).toUInt32 &&& Int32.toUInt32 31)).toInt32) &&& 1431655765)).toUInt32 >>> ((2 : Int32).toUInt32 &&& Int32.toUInt32 31)).toInt32) &&& 858993459)).toUInt32 >>> ((4 : Int32).toUInt32 &&& Int32.toUInt32 31)).toInt32)) &&& 252645135) + (((((((x - (((x.toUInt32 >>> ((1 : Int32).toUInt32 &&& Int32.toUInt32 31)).toInt32) &&& 1431655765)) &&& 858993459) + ((((x - (((x.toUInt32 >>> ((1 : Int32).toUInt32 &&& Int32.toUInt32 31)).toInt32) &&& 1431655765)).toUInt32 >>> ((2 : Int32).toUInt32 &&& Int32.toUInt32 31)).toInt32) &&& 858993459)) + (((((x - (((x.toUInt32 >>> ((1 : Int32).toUInt32 &&& Int32.toUInt32 31)).toInt32) &&& 1431655765)) &&& 858993459) + ((((x - (((x.toUInt32 >>> ((1 : Int32).toUInt32 &&& Int32.toUInt32 31)).toInt32) &&& 1431655765)).toUInt32 >>> ((2 : Int32).toUInt32 &&& Int32.toUInt32 31)).toInt32) &&& 858993459)).toUInt32 >>> ((4 : Int32).toUInt32 &&& Int32.toUInt32 31)).toInt32)) &&& 252645135).toUInt32 >>> ((8 : Int32).toUInt32 &&& Int32.toUInt32 31)).toInt32)).toUInt32 >>> ((16 : Int32).toUInt32 &&& Int32.toUInt32 31)).toInt32)))] dJ6_bitCount_0f7a4_47 rfl (by decide) rfl ?_
  refine r_iload_n K 0 dJ6_bitCount_0f7a4_48 rfl rfl ?_
  refine r_bipush K (v := 63) dJ6_bitCount_0f7a4_49 (by decide) ?_
  refine r_iand K dJ6_bitCount_0f7a4_51 ?_
  exact hr _ _ _ _ dJ6_bitCount_0f7a4_52 ⟨rfl, rfl⟩
set_option maxHeartbeats 4000000 in
set_option maxRecDepth 100000 in
theorem c_power (l : Launch) (g : rs_G) (kd : List rs_k) (t : Nat × Nat) (M : rs_M) (b k : Nat) (hk : k < 1000) : rs_Ci l g kd t yX5_power cX5_power 4 .int 0 [.int (nI b), .int (nI k)] M (fun r M1 => r = nI (b ^ k) ∧ M1 = M) := by
  refine rs_ofi (plainFor_of_name (by decide)) (Nat.le_of_ble_eq_true rfl) ?_
  intro Y K hr
  show Y M 0 [(0, .int (nI b)), (1, .int (nI k))] []
  refine r_iconst K (v := 1) dX5_power_0 (by decide) ?_
  refine r_istore_n K [(2, .int 1), (0, .int (nI b)), (1, .int (nI k))] dX5_power_1 rfl (by decide) rfl ?_
  refine r_iconst K (v := 0) dX5_power_2 (by decide) ?_
  refine r_istore_n K [(3, .int 0), (2, .int 1), (0, .int (nI b)), (1, .int (nI k))] dX5_power_3 rfl (by decide) rfl ?_
  have lp : ∀ (f : Nat) (j : Nat), (k - j < f) → (j ≤ k) → Y M 4 [(3, .int (nI j)), (2, .int (nI (b ^ j))), (0, .int (nI b)), (1, .int (nI k))] [] := by
    intro f
    induction f with
    | zero =>
      intro j hf
      exact absurd hf (Nat.not_lt_zero _)
    | succ f ih =>
      intro j hf hj
      refine r_iload_n K 0 dX5_power_4 rfl rfl ?_
      refine r_iload_n K 3 dX5_power_5 rfl rfl ?_
      refine r_icmp_ge K 19 dX5_power_6 (by decide) (fun h_1 => ?_) (fun h_1 => ?_)
      · have nh_1 : k ≤ j := (nf_le rfl rfl (by omega) (by omega)).mp h_1
        refine r_iload_n K 1 dX5_power_19 rfl rfl ?_
        have hjk : j = k := by omega
        subst hjk
        exact hr _ _ _ _ dX5_power_20 ⟨rfl, rfl⟩
      · have nh_1 : ¬ k ≤ j := mt (nf_le rfl rfl (by omega) (by omega)).mpr h_1
        refine r_iload_n K 1 dX5_power_9 rfl rfl ?_
        refine r_iload_n K 2 dX5_power_10 rfl rfl ?_
        refine r_imul K dX5_power_11 ?_
        refine r_top_eq (nI (b ^ (j + 1))) (by rw [pk_mul, Nat.pow_succ]) ?_
        refine r_istore_n K [(2, .int (nI (b ^ (j + 1)))), (3, .int (nI j)), (0, .int (nI b)), (1, .int (nI k))] dX5_power_12 rfl (by decide) rfl ?_
        refine r_iinc_n K 1 [(3, .int (nI (j + 1))), (2, .int (nI (b ^ (j + 1)))), (0, .int (nI b)), (1, .int (nI k))] dX5_power_13 rfl (by decide) rfl ?_
        refine r_goto K 4 dX5_power_16 (by decide) ?_
        exact ih (j + 1) (by omega) (by omega)
  exact lp (k + 1) 0 (by omega) (by omega)
set_option maxHeartbeats 4000000 in
set_option maxRecDepth 100000 in
theorem c_commonDivisor (l : Launch) (g : rs_G) (kd : List rs_k) (t : Nat × Nat) (M : rs_M) (a b : Nat) (ha : a < 2 ^ 31) (hb : b < 2 ^ 31) : rs_Ci l g kd t yX5_commonDivisor cX5_commonDivisor 6 .int 0 [.int (nI a), .int (nI b)] M (fun r M1 => r = nI (ab_eu 64 a b) ∧ M1 = M) := by
  refine rs_ofi (plainFor_of_name (by decide)) (Nat.le_of_ble_eq_true rfl) ?_
  intro Y K hr
  show Y M 0 [(0, .int (nI a)), (1, .int (nI b))] []
  refine r_iload_n K 0 dX5_commonDivisor_0 rfl rfl ?_
  refine r_istore_n K [(2, .int (nI a)), (0, .int (nI a)), (1, .int (nI b))] dX5_commonDivisor_1 rfl (by decide) rfl ?_
  refine r_iload_n K 2 dX5_commonDivisor_2 rfl rfl ?_
  refine r_istore_n K [(3, .int (nI b)), (2, .int (nI a)), (0, .int (nI a)), (1, .int (nI b))] dX5_commonDivisor_3 rfl (by decide) rfl ?_
  refine r_iconst K (v := 0) dX5_commonDivisor_4 (by decide) ?_
  refine r_istore K [(4, .int 0), (3, .int (nI b)), (2, .int (nI a)), (0, .int (nI a)), (1, .int (nI b))] dX5_commonDivisor_5 (by decide) rfl ?_
  have lp : ∀ (f : Nat) (j : Nat) (u : Nat) (v : Nat), (64 - j < f) → (j ≤ 64) → (u < 2 ^ 31) → (v < 2 ^ 31) → (ab_eu (64 - j) u v = ab_eu 64 a b) → Y M 7 [(4, .int (nI j)), (3, .int (nI v)), (2, .int (nI u)), (0, .int (nI a)), (1, .int (nI b))] [] := by
    intro f
    induction f with
    | zero =>
      intro j u v hf
      exact absurd hf (Nat.not_lt_zero _)
    | succ f ih =>
      intro j u v hf hj hu hv hI
      refine r_iload K 0 dX5_commonDivisor_7 rfl ?_
      refine r_bipush K (v := 64) dX5_commonDivisor_9 (by decide) ?_
      refine r_icmp_ge K 34 dX5_commonDivisor_11 (by decide) (fun h_1 => ?_) (fun h_1 => ?_)
      · have nh_1 : 64 ≤ j := (nf_le rfl rfl (by omega) (by omega)).mp h_1
        refine r_iload_n K 2 dX5_commonDivisor_34 rfl rfl ?_
        exact hr _ _ _ _ dX5_commonDivisor_35 ⟨by rw [← hI, show 64 - j = 0 by omega, ab_eu], rfl⟩
      · have nh_1 : ¬ 64 ≤ j := mt (nf_le rfl rfl (by omega) (by omega)).mpr h_1
        refine r_iload_n K 1 dX5_commonDivisor_14 rfl rfl ?_
        refine r_if_eq K 34 dX5_commonDivisor_15 (by decide) (fun h_2 => ?_) (fun h_2 => ?_)
        · have nh_2 : v = 0 := (nf_eq rfl rfl (by omega) (by omega)).mp h_2
          refine r_iload_n K 2 dX5_commonDivisor_34 rfl rfl ?_
          exact hr _ _ _ _ dX5_commonDivisor_35 ⟨by rw [← hI, show 64 - j = (63 - j) + 1 by omega, ab_eu, if_pos (by omega)], rfl⟩
        · have nh_2 : ¬ v = 0 := mt (nf_eq rfl rfl (by omega) (by omega)).mpr h_2
          refine r_iload_n K 2 dX5_commonDivisor_18 rfl rfl ?_
          refine r_iload_n K 1 dX5_commonDivisor_19 rfl rfl ?_
          refine r_irem K dX5_commonDivisor_20 h_2 ?_
          refine r_top_eq (nI (u % v)) (pk_rem (by omega) (by omega) (by omega)) ?_
          refine r_istore K [(5, .int (nI (u % v))), (4, .int (nI j)), (3, .int (nI v)), (2, .int (nI u)), (0, .int (nI a)), (1, .int (nI b))] dX5_commonDivisor_21 (by decide) rfl ?_
          refine r_iload_n K 2 dX5_commonDivisor_23 rfl rfl ?_
          refine r_istore_n K [(2, .int (nI v)), (5, .int (nI (u % v))), (4, .int (nI j)), (3, .int (nI v)), (0, .int (nI a)), (1, .int (nI b))] dX5_commonDivisor_24 rfl (by decide) rfl ?_
          refine r_iload K 1 dX5_commonDivisor_25 rfl ?_
          refine r_istore_n K [(3, .int (nI (u % v))), (2, .int (nI v)), (5, .int (nI (u % v))), (4, .int (nI j)), (0, .int (nI a)), (1, .int (nI b))] dX5_commonDivisor_27 rfl (by decide) rfl ?_
          refine r_iinc_n K 3 [(4, .int (nI (j + 1))), (3, .int (nI (u % v))), (2, .int (nI v)), (5, .int (nI (u % v))), (0, .int (nI a)), (1, .int (nI b))] dX5_commonDivisor_28 rfl (by decide) rfl ?_
          refine r_goto K 7 dX5_commonDivisor_31 (by decide) ?_
          refine r_sub K [0, 1, 2, 4, 5] rfl ?_
          exact ih (j + 1) v (u % v) (by omega) (by omega) hv (Nat.lt_of_le_of_lt (Nat.mod_le _ _) hu) (by rw [← hI, show 64 - j = (64 - (j + 1)) + 1 by omega, ab_eu, if_neg (by omega)])
  exact lp 65 0 a b (by omega) (by omega) ha hb rfl
theorem x_take_s {l : List Nat} {j k : Nat} (h : l[j]? = some k) : l.take j ++ [k] = l.take (j + 1) := by
  rw [List.take_add_one, h]; rfl
set_option maxHeartbeats 4000000 in
set_option maxRecDepth 100000 in
theorem c_slip (l : Launch) (g : rs_G) (t : Nat × Nat) (M : rs_M) (A : ab_S) (hS : x_S M A) (s m : Nat) (hs8 : s ≤ 8) (hsn : s ≤ (ab_ks A.1).length) (hm : m < 256) : rs_Cv l g xk t yX5_slip cX5_slip 6 2 [.ref (g.2.2 0), .int (nI m), .int (nI s)] M (fun M1 => x_sp M1 54 A.2.1 ((ab_ks A.1).take ((ab_ks A.1).length - s) ++ ab_sl ((ab_ks A.1).drop ((ab_ks A.1).length - s)) m) ∧ x_fr M M1 54 55) := by
  obtain ⟨hL, hok, ht, hdr, him, htx, hun, hca, hse⟩ := id hS
  have hn12 := hok.1
  have hdl : ((ab_ks A.1).drop ((ab_ks A.1).length - s)).length = s := by rw [List.length_drop]; omega
  have hd8 : ∀ k ∈ (ab_ks A.1).drop ((ab_ks A.1).length - s), k < 8 := fun k hk => hok.2.1 k (List.mem_of_mem_drop hk)
  refine rs_ofv (plainFor_of_name (by decide)) (Nat.le_of_ble_eq_true rfl) ?_
  intro Y K hr
  show Y M 0 [(0, .ref (g.2.2 0)), (1, .int (nI m)), (2, .int (nI s))] []
  refine r_aload_n K 0 dX5_slip_0 rfl rfl ?_
  refine r_getR K rfl rfl ff_5_line qw_189 dX5_slip_1 ?_
  refine r_getI K (xL_0 xL1) rfl ff_1_rings qw_71 dX5_slip_4 ?_
  refine r_top_eq (nI (ab_ks A.1).length) hL.1 ?_
  refine r_iload_n K 2 dX5_slip_7 rfl rfl ?_
  refine r_isub K dX5_slip_8 ?_
  refine r_top_eq (nI ((ab_ks A.1).length - s)) (pk_sub (by omega)) ?_
  refine r_istore_n K [(3, .int (nI ((ab_ks A.1).length - s))), (0, .ref (g.2.2 0)), (1, .int (nI m)), (2, .int (nI s))] dX5_slip_9 rfl (by decide) rfl ?_
  refine r_iload_n K 0 dX5_slip_10 rfl rfl ?_
  refine r_if_ge K 15 dX5_slip_11 (by decide) (fun _ => ?_) (fun h => absurd (nI_pos' (by omega)) h)
  refine r_aload_n K 1 dX5_slip_15 rfl rfl ?_
  refine r_getR K rfl rfl ff_5_probe qw_196 dX5_slip_16 ?_
  refine r_aload_n K 1 dX5_slip_19 rfl rfl ?_
  refine r_getR K rfl rfl ff_5_line qw_189 dX5_slip_20 ?_
  refine r_getR K (xL_0 xL1) rfl ff_1_spots qw_64 dX5_slip_23 ?_
  refine r_iload_n K 0 dX5_slip_26 rfl rfl ?_
  refine r_aaldS K (j := (ab_ks A.1).length - s) (xL_1 xL1) rfl (xL_e (by omega)) (by omega) (by decide) dX5_slip_27 ?_
  refine r_callVv K [.ref (g.2.2 (1 + 4 + ((ab_ks A.1).length - s)))] [] dX5_slip_28 mf_X4_copy rfl rfl qw_469 qw_343 qw_344 (c_Spot_copy l g t M 54 (1 + 4 + ((ab_ks A.1).length - s)) rfl (xL_s xL1 (by omega))) rfl rfl (by decide) (Nat.le_of_ble_eq_true rfl) (fun M1 hp => ?_)
  subst hp
  refine r_iload_n K 0 dX5_slip_31 rfl rfl ?_
  refine r_iconst K (v := 1) dX5_slip_32 (by decide) ?_
  refine r_iadd K dX5_slip_33 ?_
  refine r_top_eq (nI (((ab_ks A.1).length - s) + 1 + 0)) (nI_1 _) ?_
  refine r_istore K [(4, .int (nI (((ab_ks A.1).length - s) + 1 + 0))), (3, .int (nI ((ab_ks A.1).length - s))), (0, .ref (g.2.2 0)), (1, .int (nI m)), (2, .int (nI s))] dX5_slip_34 (by decide) rfl ?_
  have lp : ∀ (f : Nat) (j : Nat) (Mi : rs_M), (8 - j < f) → (j ≤ s) → (x_sp Mi 54 A.2.1 ((ab_ks A.1).take ((ab_ks A.1).length - s) ++ (ab_sl ((ab_ks A.1).drop ((ab_ks A.1).length - s)) m).take j) ∧ x_fr M Mi 54 55) → Y Mi 36 [(4, .int (nI (((ab_ks A.1).length - s) + 1 + j))), (3, .int (nI ((ab_ks A.1).length - s))), (0, .ref (g.2.2 0)), (1, .int (nI m)), (2, .int (nI s))] [] := by
    intro f
    induction f with
    | zero =>
      intro j Mi hf
      exact absurd hf (Nat.not_lt_zero _)
    | succ f ih =>
      intro j Mi hf hj hI
      refine r_iload K 0 dX5_slip_36 rfl ?_
      refine r_aload_n K 2 dX5_slip_38 rfl rfl ?_
      refine r_getR K rfl rfl ff_5_line qw_189 dX5_slip_39 ?_
      refine r_getI K (xL_0 xL1) rfl ff_1_rings qw_71 dX5_slip_42 ?_
      refine r_top_eq (nI (ab_ks A.1).length) (by rw [hI.2 1 (by omega)]; exact hL.1) ?_
      refine r_icmp_gt K 99 dX5_slip_45 (by decide) (fun h_1 => ?_) (fun h_1 => ?_)
      · have nh_1 : (ab_ks A.1).length < (((ab_ks A.1).length - s) + 1 + j) := (nf_lt rfl rfl (by omega) (by omega)).mp h_1
        have hjs : j = s := by omega
        subst hjs
        refine hr _ _ _ dX5_slip_99 ⟨?_, hI.2⟩
        have e8 : (ab_sl ((ab_ks A.1).drop ((ab_ks A.1).length - j)) m).take j = ab_sl ((ab_ks A.1).drop ((ab_ks A.1).length - j)) m := List.take_of_length_le (by rw [ab_sl_len, hdl]; omega)
        have e9 := hI.1
        rw [e8] at e9
        exact e9
      · have nh_1 : ¬ (ab_ks A.1).length < (((ab_ks A.1).length - s) + 1 + j) := mt (nf_lt rfl rfl (by omega) (by omega)).mpr h_1
        refine r_iload_n K 3 dX5_slip_48 rfl rfl ?_
        refine r_iload K 0 dX5_slip_49 rfl ?_
        refine r_iload_n K 1 dX5_slip_51 rfl rfl ?_
        refine r_isub K dX5_slip_52 ?_
        refine r_top_eq (nI (((ab_ks A.1).length - s) + 1 + j - ((ab_ks A.1).length - s))) (pk_sub (by omega)) ?_
        refine r_iconst K (v := 1) dX5_slip_53 (by decide) ?_
        refine r_isub K dX5_slip_54 ?_
        refine r_top_eq (nI j) (by rw [show (1 : Int32) = nI 1 from rfl, pk_sub (by omega), show ((ab_ks A.1).length - s) + 1 + j - ((ab_ks A.1).length - s) - 1 = j by omega]) ?_
        refine r_ishr K dX5_slip_55 ?_
        refine r_top_eq (nI (m / 2 ^ j)) (ab_shr (by omega) (by omega)) ?_
        refine r_iconst K (v := 1) dX5_slip_56 (by decide) ?_
        refine r_iand K dX5_slip_57 ?_
        refine r_top_eq (nI (m / 2 ^ j % 2)) (ab_and1 (by have := Nat.div_le_self m (2 ^ j); omega)) ?_
        refine r_istore K [(5, .int (nI (m / 2 ^ j % 2))), (4, .int (nI (((ab_ks A.1).length - s) + 1 + j))), (3, .int (nI ((ab_ks A.1).length - s))), (0, .ref (g.2.2 0)), (1, .int (nI m)), (2, .int (nI s))] dX5_slip_58 (by decide) rfl ?_
        refine r_aload_n K 3 dX5_slip_60 rfl rfl ?_
        refine r_getR K rfl rfl ff_5_probe qw_196 dX5_slip_61 ?_
        refine r_aload_n K 3 dX5_slip_64 rfl rfl ?_
        refine r_getR K rfl rfl ff_5_line qw_189 dX5_slip_65 ?_
        refine r_getR K (xL_0 xL1) rfl ff_1_spots qw_64 dX5_slip_68 ?_
        refine r_iload K 1 dX5_slip_71 rfl ?_
        refine r_aaldS K (j := ((ab_ks A.1).length - s) + 1 + j) (xL_1 xL1) rfl (xL_e (by omega)) (by omega) (by decide) dX5_slip_73 ?_
        refine r_getI K (xL_s xL1 (by omega)) rfl ff_4_key qw_36 dX5_slip_74 ?_
        refine r_top_eq (nI (((ab_ks A.1).drop ((ab_ks A.1).length - s)).getD j 0)) (by rw [hI.2 _ (by omega), (hL.2.1 _ (by omega)).2.1, ab_last_take (by omega) (by omega), show ((ab_ks A.1).length - s) + 1 + j - 1 = ((ab_ks A.1).length - s) + j by omega]; simp [List.getElem?_drop]) ?_
        refine r_iload K 0 dX5_slip_77 rfl ?_
        refine r_iadd K dX5_slip_79 ?_
        refine r_top_eq (nI (((ab_ks A.1).drop ((ab_ks A.1).length - s)).getD j 0 + m / 2 ^ j % 2)) (nI_add _ _) ?_
        refine r_bipush K (v := 8) dX5_slip_80 (by decide) ?_
        refine r_irem K dX5_slip_82 (by decide) ?_
        refine r_top_eq (nI ((((ab_ks A.1).drop ((ab_ks A.1).length - s)).getD j 0 + m / 2 ^ j % 2) % 8)) (pk_rem (d := 8) (by have := ab_getD_lt hd8 j; omega) (by decide) (by decide)) ?_
        refine r_aload_n K 3 dX5_slip_83 rfl rfl ?_
        refine r_getR K rfl rfl ff_5_line qw_189 dX5_slip_84 ?_
        refine r_getI K (xL_0 xL1) rfl ff_1_taper qw_75 dX5_slip_87 ?_
        refine r_top_eq A.2.1 (by rw [hI.2 1 (by omega)]; exact hL.2.2.1) ?_
        refine r_callVv K [.int (nI ((((ab_ks A.1).drop ((ab_ks A.1).length - s)).getD j 0 + m / 2 ^ j % 2) % 8)), .int A.2.1] [] dX5_slip_90 mf_X4_advance rfl rfl qw_470 qw_347 qw_348 (c_Spot_advance l g t Mi 54 rfl ((((ab_ks A.1).drop ((ab_ks A.1).length - s)).getD j 0 + m / 2 ^ j % 2) % 8) (Nat.mod_lt _ (by decide)) A.2.1) rfl rfl (by decide) (Nat.le_of_ble_eq_true rfl) (fun M1 hp => ?_)
        subst hp
        refine r_iinc_n K 1 [(4, .int (nI (((ab_ks A.1).length - s) + 1 + j + 1))), (5, .int (nI (m / 2 ^ j % 2))), (3, .int (nI ((ab_ks A.1).length - s))), (0, .ref (g.2.2 0)), (1, .int (nI m)), (2, .int (nI s))] dX5_slip_93 rfl (by decide) rfl ?_
        refine r_goto K 36 dX5_slip_96 (by decide) ?_
        refine r_sub K [0, 2, 3, 4, 5] rfl ?_
        have e : (ab_ks A.1).take ((ab_ks A.1).length - s) ++ (ab_sl ((ab_ks A.1).drop ((ab_ks A.1).length - s)) m).take (j + 1) = ((ab_ks A.1).take ((ab_ks A.1).length - s) ++ (ab_sl ((ab_ks A.1).drop ((ab_ks A.1).length - s)) m).take j) ++ [(((ab_ks A.1).drop ((ab_ks A.1).length - s)).getD j 0 + m / 2 ^ j % 2) % 8] := by rw [List.append_assoc, ← x_take_s (ab_sl_get _ m j (by rw [hdl]; omega))]
        exact ih (j + 1) _ (by omega) (by omega) ⟨by rw [e]; exact x_sp_adv _ hI.1, x_fr_tr hI.2 (x_fr_adv (by decide) (by decide))⟩
  exact lp 9 0 _ (by omega) (by omega) ⟨by simp only [List.take_zero, List.append_nil]; exact x_sp_cp (hL.2.1 _ (by omega)), x_fr_cp (by decide) (by decide)⟩
set_option maxHeartbeats 4000000 in
set_option maxRecDepth 100000 in
theorem c_nearParts (l : Launch) (g : rs_G) (t : Nat × Nat) (M : rs_M) (A : ab_S) (hS : x_S M A) (s x : Nat) (hs8 : s ≤ 8) (hsn : s ≤ (ab_ks A.1).length) (hx : x ≤ 10) (c : Int32) : rs_Ci l g xk t yX5_nearParts cX5_nearParts 7 .int 3 [.ref (g.2.2 0), .int (nI s), .int (nI x), .int c] M (fun r M1 => r = nI (ab_near A.2.1 A.1 c x ((ab_ks A.1).drop ((ab_ks A.1).length - s)) ((ab_ks A.1).take ((ab_ks A.1).length - s))) ∧ x_S M1 A) := by
  obtain ⟨hL, hok, ht, hdr, him, htx, hun, hca, hse⟩ := id hS
  have hn12 := hok.1
  have hdl : ((ab_ks A.1).drop ((ab_ks A.1).length - s)).length = s := by rw [List.length_drop]; omega
  have hd8 : ∀ k ∈ ((ab_ks A.1).drop ((ab_ks A.1).length - s)), k < 8 := fun k hk => hok.2.1 k (List.mem_of_mem_drop hk)
  have h2s : 2 ^ s ≤ 256 := Nat.pow_le_pow_right (n := 2) (by decide) hs8
  refine rs_ofi (plainFor_of_name (by decide)) (Nat.le_of_ble_eq_true rfl) ?_
  intro Y K hr
  show Y M 0 [(0, .ref (g.2.2 0)), (1, .int (nI s)), (2, .int (nI x)), (3, .int c)] []
  refine r_iconst K (v := 0) dX5_nearParts_0 (by decide) ?_
  refine r_istore K [(4, .int 0), (0, .ref (g.2.2 0)), (1, .int (nI s)), (2, .int (nI x)), (3, .int c)] dX5_nearParts_1 (by decide) rfl ?_
  refine r_iconst K (v := 0) dX5_nearParts_3 (by decide) ?_
  refine r_istore K [(5, .int 0), (4, .int 0), (0, .ref (g.2.2 0)), (1, .int (nI s)), (2, .int (nI x)), (3, .int c)] dX5_nearParts_4 (by decide) rfl ?_
  have lp : ∀ (f : Nat) (m : Nat) (Mi : rs_M), (2 ^ s - m < f) → (m ≤ 2 ^ s) → (x_S Mi A) → Y Mi 6 [(5, .int (nI m)), (4, .int (nI (ab_sum (ab_term A.2.1 A.1 c x ((ab_ks A.1).drop ((ab_ks A.1).length - s)) ((ab_ks A.1).take ((ab_ks A.1).length - s))) m))), (0, .ref (g.2.2 0)), (1, .int (nI s)), (2, .int (nI x)), (3, .int c)] [] := by
    intro f
    induction f with
    | zero =>
      intro m Mi hf
      exact absurd hf (Nat.not_lt_zero _)
    | succ f ih =>
      intro m Mi hf hm hSi
      refine r_iload K 0 dX5_nearParts_6 rfl ?_
      refine r_iconst K (v := 1) dX5_nearParts_8 (by decide) ?_
      refine r_iload_n K 3 dX5_nearParts_9 rfl rfl ?_
      refine r_ishl K dX5_nearParts_10 ?_
      refine r_top_eq (nI (2 ^ s)) (ab_shl1 (by omega)) ?_
      refine r_icmp_ge K 72 dX5_nearParts_11 (by decide) (fun h_1 => ?_) (fun h_1 => ?_)
      · have nh_1 : (2 ^ s) ≤ m := (nf_le rfl rfl (by omega) (by omega)).mp h_1
        refine r_iload K 1 dX5_nearParts_72 rfl ?_
        have hms : m = 2 ^ s := by omega
        subst hms
        have q9 := ab_near_sum A.2.1 A.1 c x ((ab_ks A.1).drop ((ab_ks A.1).length - s)) ((ab_ks A.1).take ((ab_ks A.1).length - s)) hd8
        rw [hdl] at q9
        exact hr _ _ _ _ dX5_nearParts_74 ⟨by rw [q9], hSi⟩
      · have nh_1 : ¬ (2 ^ s) ≤ m := mt (nf_le rfl rfl (by omega) (by omega)).mpr h_1
        refine r_aload_n K 2 dX5_nearParts_14 rfl rfl ?_
        refine r_iload K 0 dX5_nearParts_15 rfl ?_
        refine r_iload_n K 3 dX5_nearParts_17 rfl rfl ?_
        refine r_callVv K [.int (nI m), .int (nI s)] [] dX5_nearParts_18 mf_X5_slip rfl rfl qw_498 qw_500 qs_17 (c_slip l g t Mi A hSi s m hs8 hsn (by omega)) rfl rfl (by decide) (Nat.le_of_ble_eq_true rfl) (fun M1 hp => ?_)
        obtain ⟨hp1, hp2⟩ := hp
        have hS1 : x_S M1 A := x_S_scr hSi (fun c hc => hp2 c (by omega)) (x_cache_fr hSi.2.2.2.2.2.2.2.1 (fun c h1 h2 => hp2 c (by omega)))
        have hll : (((ab_ks A.1).take ((ab_ks A.1).length - s)) ++ ab_sl ((ab_ks A.1).drop ((ab_ks A.1).length - s)) m).length = (ab_ks A.1).length := by rw [List.length_append, ab_sl_len, List.length_take, List.length_drop]; omega
        refine r_aload_n K 2 dX5_nearParts_21 rfl rfl ?_
        refine r_getR K rfl rfl ff_5_line qw_189 dX5_nearParts_22 ?_
        refine r_aload_n K 2 dX5_nearParts_25 rfl rfl ?_
        refine r_getR K rfl rfl ff_5_probe qw_196 dX5_nearParts_26 ?_
        refine r_callVi K [.ref (g.2.2 54)] [] dX5_nearParts_29 mf_X1_cost (xL_0 xL1) rfl qw_380 qw_381 qw_382 (c_Line_cost l g t M1 1 xL1 A.2.1 A.1 hok hS1.1.2.2 54 (((ab_ks A.1).take ((ab_ks A.1).length - s)) ++ ab_sl ((ab_ks A.1).drop ((ab_ks A.1).length - s)) m).length rfl (by omega) hp1.1) rfl rfl (by decide) (Nat.le_of_ble_eq_true rfl) (fun r M9 hp9 => ?_)
        obtain ⟨hp9, he⟩ := hp9
        have he := he.symm
        subst he
        subst hp9
        refine r_top_eq (ab_lcost A.2.1 A.1 (((ab_ks A.1).take ((ab_ks A.1).length - s)) ++ ab_sl ((ab_ks A.1).drop ((ab_ks A.1).length - s)) m)) (by rw [hp1.2.2.2.2.1, hp1.2.2.2.2.2]; rfl) ?_
        refine r_iload_n K 5 dX5_nearParts_32 rfl rfl ?_
        refine r_icmp_gt K 66 dX5_nearParts_33 (by decide) (fun h_2 => ?_) (fun h_2 => ?_)
        · refine r_iinc_n K 0 [(5, .int (nI (m + 1))), (4, .int (nI (ab_sum (ab_term A.2.1 A.1 c x ((ab_ks A.1).drop ((ab_ks A.1).length - s)) ((ab_ks A.1).take ((ab_ks A.1).length - s))) m))), (0, .ref (g.2.2 0)), (1, .int (nI s)), (2, .int (nI x)), (3, .int c)] dX5_nearParts_66 rfl (by decide) rfl ?_
          refine r_goto K 6 dX5_nearParts_69 (by decide) ?_
          have et : ab_term A.2.1 A.1 c x ((ab_ks A.1).drop ((ab_ks A.1).length - s)) ((ab_ks A.1).take ((ab_ks A.1).length - s)) m = 0 := if_neg (Int32.not_le.mpr h_2)
          have es : ab_sum (ab_term A.2.1 A.1 c x ((ab_ks A.1).drop ((ab_ks A.1).length - s)) ((ab_ks A.1).take ((ab_ks A.1).length - s))) (m + 1) = ab_sum (ab_term A.2.1 A.1 c x ((ab_ks A.1).drop ((ab_ks A.1).length - s)) ((ab_ks A.1).take ((ab_ks A.1).length - s))) m + ab_term A.2.1 A.1 c x ((ab_ks A.1).drop ((ab_ks A.1).length - s)) ((ab_ks A.1).take ((ab_ks A.1).length - s)) m := rfl
          rw [et] at es
          have q9 := ih (m + 1) M1 (by omega) (by omega) hS1
          rw [es] at q9
          exact q9
        · refine r_iload K 0 dX5_nearParts_36 rfl ?_
          refine r_callSi K [.int (nI m)] [] dX5_nearParts_38 mf_J6_bitCount_0f7a4 qw_502 qw_503 (c_bitCount l g xk t M1 (nI m)) rfl rfl (by decide) (Nat.le_of_ble_eq_true rfl) (fun r M9 hp9 => ?_)
          obtain ⟨hp9, he⟩ := hp9
          have he := he.symm
          subst he
          subst hp9
          refine r_top_eq (nI (ab_pop s m)) (by rw [x_bc_pop m (by omega), ab_pop_8 s hs8 m (by omega)]) ?_
          have hpl := ab_pop_le s m
          refine r_istore K [(6, .int (nI (ab_pop s m))), (5, .int (nI m)), (4, .int (nI (ab_sum (ab_term A.2.1 A.1 c x ((ab_ks A.1).drop ((ab_ks A.1).length - s)) ((ab_ks A.1).take ((ab_ks A.1).length - s))) m))), (0, .ref (g.2.2 0)), (1, .int (nI s)), (2, .int (nI x)), (3, .int c)] dX5_nearParts_41 (by decide) rfl ?_
          refine r_iload K 2 dX5_nearParts_43 rfl ?_
          refine r_iload_n K 5 dX5_nearParts_45 rfl rfl ?_
          refine r_iload K 0 dX5_nearParts_46 rfl ?_
          refine r_callSi K [.int (nI x), .int (nI (ab_pop s m))] [.int (nI (ab_sum (ab_term A.2.1 A.1 c x ((ab_ks A.1).drop ((ab_ks A.1).length - s)) ((ab_ks A.1).take ((ab_ks A.1).length - s))) m))] dX5_nearParts_48 mf_X5_power qw_508 qw_509 (c_power l g xk t M1 x (ab_pop s m) (by omega)) rfl rfl (by decide) (Nat.le_of_ble_eq_true rfl) (fun r M9 hp9 => ?_)
          obtain ⟨hp9, he⟩ := hp9
          have he := he.symm
          subst he
          subst hp9
          refine r_bipush K (v := 10) dX5_nearParts_51 (by decide) ?_
          refine r_iload_n K 5 dX5_nearParts_53 rfl rfl ?_
          refine r_isub K dX5_nearParts_54 ?_
          refine r_top_eq (nI (10 - x)) (pk_sub (a := 10) (by omega)) ?_
          refine r_iload_n K 4 dX5_nearParts_55 rfl rfl ?_
          refine r_iload K 0 dX5_nearParts_56 rfl ?_
          refine r_isub K dX5_nearParts_58 ?_
          refine r_top_eq (nI (s - ab_pop s m)) (pk_sub (by omega)) ?_
          refine r_callSi K [.int (nI (10 - x)), .int (nI (s - ab_pop s m))] [.int (nI (x ^ (ab_pop s m))), .int (nI (ab_sum (ab_term A.2.1 A.1 c x ((ab_ks A.1).drop ((ab_ks A.1).length - s)) ((ab_ks A.1).take ((ab_ks A.1).length - s))) m))] dX5_nearParts_59 mf_X5_power qw_508 qw_509 (c_power l g xk t M1 (10 - x) (s - ab_pop s m) (by omega)) rfl rfl (by decide) (Nat.le_of_ble_eq_true rfl) (fun r M9 hp9 => ?_)
          obtain ⟨hp9, he⟩ := hp9
          have he := he.symm
          subst he
          subst hp9
          refine r_imul K dX5_nearParts_62 ?_
          refine r_top_eq (nI (ab_wt x s m)) (pk_mul _ _) ?_
          refine r_iadd K dX5_nearParts_63 ?_
          refine r_top_eq (nI (ab_sum (ab_term A.2.1 A.1 c x ((ab_ks A.1).drop ((ab_ks A.1).length - s)) ((ab_ks A.1).take ((ab_ks A.1).length - s))) m + ab_wt x s m)) (nI_add _ _) ?_
          refine r_istore K [(4, .int (nI (ab_sum (ab_term A.2.1 A.1 c x ((ab_ks A.1).drop ((ab_ks A.1).length - s)) ((ab_ks A.1).take ((ab_ks A.1).length - s))) m + ab_wt x s m))), (6, .int (nI (ab_pop s m))), (5, .int (nI m)), (0, .ref (g.2.2 0)), (1, .int (nI s)), (2, .int (nI x)), (3, .int c)] dX5_nearParts_64 (by decide) rfl ?_
          refine r_iinc_n K 2 [(5, .int (nI (m + 1))), (4, .int (nI (ab_sum (ab_term A.2.1 A.1 c x ((ab_ks A.1).drop ((ab_ks A.1).length - s)) ((ab_ks A.1).take ((ab_ks A.1).length - s))) m + ab_wt x s m))), (6, .int (nI (ab_pop s m))), (0, .ref (g.2.2 0)), (1, .int (nI s)), (2, .int (nI x)), (3, .int c)] dX5_nearParts_66 rfl (by decide) rfl ?_
          refine r_goto K 6 dX5_nearParts_69 (by decide) ?_
          refine r_sub K [0, 1, 3, 4, 5, 6] rfl ?_
          have et : ab_term A.2.1 A.1 c x ((ab_ks A.1).drop ((ab_ks A.1).length - s)) ((ab_ks A.1).take ((ab_ks A.1).length - s)) m = ab_wt x ((ab_ks A.1).drop ((ab_ks A.1).length - s)).length m := if_pos (Int32.not_lt.mp h_2)
          rw [hdl] at et
          have es : ab_sum (ab_term A.2.1 A.1 c x ((ab_ks A.1).drop ((ab_ks A.1).length - s)) ((ab_ks A.1).take ((ab_ks A.1).length - s))) (m + 1) = ab_sum (ab_term A.2.1 A.1 c x ((ab_ks A.1).drop ((ab_ks A.1).length - s)) ((ab_ks A.1).take ((ab_ks A.1).length - s))) m + ab_term A.2.1 A.1 c x ((ab_ks A.1).drop ((ab_ks A.1).length - s)) ((ab_ks A.1).take ((ab_ks A.1).length - s)) m := rfl
          rw [et] at es
          have q9 := ih (m + 1) M1 (by omega) (by omega) hS1
          rw [es] at q9
          exact q9
  exact lp (2 ^ s + 1) 0 M (Nat.lt_succ_of_le (Nat.sub_le _ _)) (Nat.zero_le _) hS
theorem x_min8 {n : Nat} (h : n < 2 ^ 31) : (if (8 : Int32) < nI n then 8 else nI n) = nI (min n 8) := by
  split
  · rename_i q
    have := (nf_lt (X := 8) (Y := n) rfl rfl (by decide) h).mp q
    rw [Nat.min_eq_right (by omega)]; rfl
  · rename_i q
    have := mt (nf_lt (X := 8) (Y := n) rfl rfl (by decide) h).mpr q
    rw [Nat.min_eq_left (by omega)]
set_option maxHeartbeats 4000000 in
set_option maxRecDepth 100000 in
theorem c_odds (l : Launch) (g : rs_G) (t : Nat × Nat) (M : rs_M) (A : ab_S) (hS : x_S M A) (x c w : Int32) : rs_Ci l g xk t yX5_odds cX5_odds 9 .int 4 [.ref (g.2.2 0), .int x, .int c, .int w] M (fun r M1 => x_R (ab_odds A x c w, A) r M1) := by
  obtain ⟨hL, hok, ht, hdr, him, htx, hun, hca, hse⟩ := id hS
  have hn12 := hok.1
  refine rs_ofi (plainFor_of_name (by decide)) (Nat.le_of_ble_eq_true rfl) ?_
  intro Y K hr
  show Y M 0 [(0, .ref (g.2.2 0)), (1, .int x), (2, .int c), (3, .int w)] []
  refine r_iload_n K 1 dX5_odds_0 rfl rfl ?_
  refine r_iconst K (v := 0) dX5_odds_1 (by decide) ?_
  refine r_bipush K (v := 10) dX5_odds_2 (by decide) ?_
  refine r_callSi K [.int x, .int 0, .int 10] [] dX5_odds_4 mf_X5_isWithin qw_227 qw_228 (c_isWithin l g xk t M x 0 10) rfl rfl (by decide) (Nat.le_of_ble_eq_true rfl) (fun r M1 hp => ?_)
  obtain ⟨hp, he⟩ := hp
  have he := he.symm
  subst he
  rcases hp with ⟨rfl, hb_1⟩ | ⟨rfl, hb_1⟩
  · refine r_if_eq K 30 dX5_odds_7 (by decide) (fun h => absurd h (by decide)) (fun _ => ?_)
    refine r_iload_n K 2 dX5_odds_10 rfl rfl ?_
    refine r_iconst K (v := 0) dX5_odds_11 (by decide) ?_
    refine r_sipush K (v := 9999) dX5_odds_12 (by decide) ?_
    refine r_callSi K [.int c, .int 0, .int 9999] [] dX5_odds_15 mf_X5_isWithin qw_227 qw_228 (c_isWithin l g xk t M c 0 9999) rfl rfl (by decide) (Nat.le_of_ble_eq_true rfl) (fun r M1 hp => ?_)
    obtain ⟨hp, he⟩ := hp
    have he := he.symm
    subst he
    rcases hp with ⟨rfl, hb_2⟩ | ⟨rfl, hb_2⟩
    · refine r_if_eq K 30 dX5_odds_18 (by decide) (fun h => absurd h (by decide)) (fun _ => ?_)
      refine r_iload_n K 3 dX5_odds_21 rfl rfl ?_
      refine r_iconst K (v := 0) dX5_odds_22 (by decide) ?_
      refine r_iconst K (v := 1) dX5_odds_23 (by decide) ?_
      refine r_callSi K [.int w, .int 0, .int 1] [] dX5_odds_24 mf_X5_isWithin qw_227 qw_228 (c_isWithin l g xk t M w 0 1) rfl rfl (by decide) (Nat.le_of_ble_eq_true rfl) (fun r M1 hp => ?_)
      obtain ⟨hp, he⟩ := hp
      have he := he.symm
      subst he
      rcases hp with ⟨rfl, hb_3⟩ | ⟨rfl, hb_3⟩
      · refine r_if_ne K 32 dX5_odds_27 (by decide) (fun _ => ?_) (fun h => absurd h (by decide))
        obtain ⟨j, hj1, hj2, rfl⟩ := x_nat (a := 0) (b := 10) hb_1 (by omega) (by omega)
        have jc : (nI j).toNatClampNeg = j := nI_clamp (by omega)
        have e0 : ab_odds A (nI j) c w = _ := ab_if_pos ⟨hb_1, hb_2, hb_3⟩
        rw [jc] at e0
        refine r_aload_n K 0 dX5_odds_32 rfl rfl ?_
        refine r_getR K rfl rfl ff_5_line qw_189 dX5_odds_33 ?_
        refine r_getI K (xL_0 xL1) rfl ff_1_rings qw_71 dX5_odds_36 ?_
        refine r_top_eq (nI (ab_ks A.1).length) hL.1 ?_
        refine r_bipush K (v := 8) dX5_odds_39 (by decide) ?_
        refine r_mmin K dX5_odds_41 qw_493 qw_396 qw_8 qw_397 (by decide) (Nat.le_of_ble_eq_true rfl) ?_
        refine r_top_eq (nI (min (ab_ks A.1).length 8)) (x_min8 (by omega)) ?_
        refine r_istore K [(4, .int (nI (min (ab_ks A.1).length 8))), (0, .ref (g.2.2 0)), (1, .int (nI j)), (2, .int c), (3, .int w)] dX5_odds_44 (by decide) rfl ?_
        refine r_aload_n K 1 dX5_odds_46 rfl rfl ?_
        refine r_iload K 0 dX5_odds_47 rfl ?_
        refine r_iload_n K 2 dX5_odds_49 rfl rfl ?_
        refine r_iload_n K 3 dX5_odds_50 rfl rfl ?_
        refine r_callVi K [.int (nI (min (ab_ks A.1).length 8)), .int (nI j), .int c] [] dX5_odds_51 mf_X5_nearParts rfl rfl qw_494 qw_496 qs_16 (c_nearParts l g t M A hS (min (ab_ks A.1).length 8) j (by omega) (by omega) hj2 c) rfl rfl (by decide) (Nat.le_of_ble_eq_true rfl) (fun r M1 hp => ?_)
        obtain ⟨hp1, hp2⟩ := hp
        rw [show (ab_ks A.1).length - (min (ab_ks A.1).length 8) = (ab_ks A.1).length - 8 by omega] at hp1
        subst hp1
        have hnl := ab_near_le A.2.1 A.1 c hj2 ((ab_ks A.1).drop ((ab_ks A.1).length - 8)) ((ab_ks A.1).take ((ab_ks A.1).length - 8))
        rw [show ((ab_ks A.1).drop ((ab_ks A.1).length - 8)).length = (min (ab_ks A.1).length 8) by rw [List.length_drop]; omega] at hnl
        have hts : 10 ^ (min (ab_ks A.1).length 8) ≤ 100000000 := Nat.pow_le_pow_right (n := 10) (by decide) (Nat.min_le_right _ _)
        have htp : 0 < 10 ^ (min (ab_ks A.1).length 8) := Nat.pow_pos (by decide)
        have hgp : 0 < Nat.gcd (10 ^ (min (ab_ks A.1).length 8)) (ab_near A.2.1 A.1 c j ((ab_ks A.1).drop ((ab_ks A.1).length - 8)) ((ab_ks A.1).take ((ab_ks A.1).length - 8))) := Nat.gcd_pos_of_pos_left _ htp
        have hgl : Nat.gcd (10 ^ (min (ab_ks A.1).length 8)) (ab_near A.2.1 A.1 c j ((ab_ks A.1).drop ((ab_ks A.1).length - 8)) ((ab_ks A.1).take ((ab_ks A.1).length - 8))) ≤ 10 ^ (min (ab_ks A.1).length 8) := Nat.gcd_le_left _ htp
        refine r_istore K [(5, .int (nI (ab_near A.2.1 A.1 c j ((ab_ks A.1).drop ((ab_ks A.1).length - 8)) ((ab_ks A.1).take ((ab_ks A.1).length - 8))))), (4, .int (nI (min (ab_ks A.1).length 8))), (0, .ref (g.2.2 0)), (1, .int (nI j)), (2, .int c), (3, .int w)] dX5_odds_54 (by decide) rfl ?_
        refine r_bipush K (v := 10) dX5_odds_56 (by decide) ?_
        refine r_iload K 1 dX5_odds_58 rfl ?_
        refine r_callSi K [.int 10, .int (nI (min (ab_ks A.1).length 8))] [] dX5_odds_60 mf_X5_power qw_508 qw_509 (c_power l g xk t M1 10 (min (ab_ks A.1).length 8) (by omega)) rfl rfl (by decide) (Nat.le_of_ble_eq_true rfl) (fun r M9 hp9 => ?_)
        obtain ⟨hp9, he⟩ := hp9
        have he := he.symm
        subst he
        subst hp9
        refine r_istore K [(6, .int (nI (10 ^ (min (ab_ks A.1).length 8)))), (5, .int (nI (ab_near A.2.1 A.1 c j ((ab_ks A.1).drop ((ab_ks A.1).length - 8)) ((ab_ks A.1).take ((ab_ks A.1).length - 8))))), (4, .int (nI (min (ab_ks A.1).length 8))), (0, .ref (g.2.2 0)), (1, .int (nI j)), (2, .int c), (3, .int w)] dX5_odds_63 (by decide) rfl ?_
        refine r_iload K 0 dX5_odds_65 rfl ?_
        refine r_iload K 1 dX5_odds_67 rfl ?_
        refine r_callSi K [.int (nI (10 ^ (min (ab_ks A.1).length 8))), .int (nI (ab_near A.2.1 A.1 c j ((ab_ks A.1).drop ((ab_ks A.1).length - 8)) ((ab_ks A.1).take ((ab_ks A.1).length - 8))))] [] dX5_odds_69 mf_X5_commonDivisor qw_511 qw_512 (c_commonDivisor l g xk t M1 (10 ^ (min (ab_ks A.1).length 8)) (ab_near A.2.1 A.1 c j ((ab_ks A.1).drop ((ab_ks A.1).length - 8)) ((ab_ks A.1).take ((ab_ks A.1).length - 8))) (by omega) (by omega)) rfl rfl (by decide) (Nat.le_of_ble_eq_true rfl) (fun r M9 hp9 => ?_)
        obtain ⟨hp9, he⟩ := hp9
        have he := he.symm
        subst he
        subst hp9
        refine r_top_eq (nI (Nat.gcd (10 ^ (min (ab_ks A.1).length 8)) (ab_near A.2.1 A.1 c j ((ab_ks A.1).drop ((ab_ks A.1).length - 8)) ((ab_ks A.1).take ((ab_ks A.1).length - 8))))) (by rw [ab_eu_gcd 27 _ _ 64 (by omega) (by decide)]) ?_
        refine r_istore K [(7, .int (nI (Nat.gcd (10 ^ (min (ab_ks A.1).length 8)) (ab_near A.2.1 A.1 c j ((ab_ks A.1).drop ((ab_ks A.1).length - 8)) ((ab_ks A.1).take ((ab_ks A.1).length - 8)))))), (6, .int (nI (10 ^ (min (ab_ks A.1).length 8)))), (5, .int (nI (ab_near A.2.1 A.1 c j ((ab_ks A.1).drop ((ab_ks A.1).length - 8)) ((ab_ks A.1).take ((ab_ks A.1).length - 8))))), (4, .int (nI (min (ab_ks A.1).length 8))), (0, .ref (g.2.2 0)), (1, .int (nI j)), (2, .int c), (3, .int w)] dX5_odds_72 (by decide) rfl ?_
        refine r_iload_n K 7 dX5_odds_74 rfl rfl ?_
        refine r_if_ne K 83 dX5_odds_75 (by decide) (fun h_4 => ?_) (fun h_4 => ?_)
        · refine r_iload K 1 dX5_odds_83 rfl ?_
          refine r_istore K [(8, .int (nI (10 ^ (min (ab_ks A.1).length 8)))), (7, .int (nI (Nat.gcd (10 ^ (min (ab_ks A.1).length 8)) (ab_near A.2.1 A.1 c j ((ab_ks A.1).drop ((ab_ks A.1).length - 8)) ((ab_ks A.1).take ((ab_ks A.1).length - 8)))))), (6, .int (nI (10 ^ (min (ab_ks A.1).length 8)))), (5, .int (nI (ab_near A.2.1 A.1 c j ((ab_ks A.1).drop ((ab_ks A.1).length - 8)) ((ab_ks A.1).take ((ab_ks A.1).length - 8))))), (4, .int (nI (min (ab_ks A.1).length 8))), (0, .ref (g.2.2 0)), (1, .int (nI j)), (2, .int c), (3, .int w)] dX5_odds_85 (by decide) rfl ?_
          refine r_iload K 1 dX5_odds_87 rfl ?_
          refine r_iconst K (v := 1) dX5_odds_89 (by decide) ?_
          refine r_icmp_le K 101 dX5_odds_90 (by decide) (fun h_5 => ?_) (fun h_5 => ?_)
          · refine r_iload K 0 dX5_odds_101 rfl ?_
            have hg1 : Nat.gcd (10 ^ (min (ab_ks A.1).length 8)) (ab_near A.2.1 A.1 c j ((ab_ks A.1).drop ((ab_ks A.1).length - 8)) ((ab_ks A.1).take ((ab_ks A.1).length - 8))) = 1 := by have := (nf_le (X := Nat.gcd (10 ^ (min (ab_ks A.1).length 8)) (ab_near A.2.1 A.1 c j ((ab_ks A.1).drop ((ab_ks A.1).length - 8)) ((ab_ks A.1).take ((ab_ks A.1).length - 8)))) (Y := 1) rfl rfl (by omega) (by decide)).mp h_5; omega
            exact hr _ _ _ _ dX5_odds_103 ⟨by rw [e0, if_neg h_4, hg1, Nat.div_one], hp2⟩
          · refine r_iload K 0 dX5_odds_93 rfl ?_
            refine r_iload K 1 dX5_odds_95 rfl ?_
            refine r_idiv K dX5_odds_97 (fun q => by rw [show (0 : Int32) = nI 0 from rfl, nI_eq (by omega) (by decide)] at q; omega) ?_
            refine r_goto K 103 dX5_odds_98 (by decide) ?_
            exact hr _ _ _ _ dX5_odds_103 ⟨by rw [e0, if_neg h_4]; exact pk_div (by omega) hgp (by omega), hp2⟩
        · refine r_iload K 2 dX5_odds_78 rfl ?_
          refine r_goto K 85 dX5_odds_80 (by decide) ?_
          refine r_istore K [(8, .int (nI (ab_near A.2.1 A.1 c j ((ab_ks A.1).drop ((ab_ks A.1).length - 8)) ((ab_ks A.1).take ((ab_ks A.1).length - 8))))), (7, .int (nI (Nat.gcd (10 ^ (min (ab_ks A.1).length 8)) (ab_near A.2.1 A.1 c j ((ab_ks A.1).drop ((ab_ks A.1).length - 8)) ((ab_ks A.1).take ((ab_ks A.1).length - 8)))))), (6, .int (nI (10 ^ (min (ab_ks A.1).length 8)))), (5, .int (nI (ab_near A.2.1 A.1 c j ((ab_ks A.1).drop ((ab_ks A.1).length - 8)) ((ab_ks A.1).take ((ab_ks A.1).length - 8))))), (4, .int (nI (min (ab_ks A.1).length 8))), (0, .ref (g.2.2 0)), (1, .int (nI j)), (2, .int c), (3, .int w)] dX5_odds_85 (by decide) rfl ?_
          refine r_iload K 1 dX5_odds_87 rfl ?_
          refine r_iconst K (v := 1) dX5_odds_89 (by decide) ?_
          refine r_icmp_le K 101 dX5_odds_90 (by decide) (fun h_6 => ?_) (fun h_6 => ?_)
          · refine r_iload K 0 dX5_odds_101 rfl ?_
            have hg1 : Nat.gcd (10 ^ (min (ab_ks A.1).length 8)) (ab_near A.2.1 A.1 c j ((ab_ks A.1).drop ((ab_ks A.1).length - 8)) ((ab_ks A.1).take ((ab_ks A.1).length - 8))) = 1 := by have := (nf_le (X := Nat.gcd (10 ^ (min (ab_ks A.1).length 8)) (ab_near A.2.1 A.1 c j ((ab_ks A.1).drop ((ab_ks A.1).length - 8)) ((ab_ks A.1).take ((ab_ks A.1).length - 8)))) (Y := 1) rfl rfl (by omega) (by decide)).mp h_6; omega
            exact hr _ _ _ _ dX5_odds_103 ⟨by rw [e0, if_pos h_4, hg1, Nat.div_one], hp2⟩
          · refine r_iload K 0 dX5_odds_93 rfl ?_
            refine r_iload K 1 dX5_odds_95 rfl ?_
            refine r_idiv K dX5_odds_97 (fun q => by rw [show (0 : Int32) = nI 0 from rfl, nI_eq (by omega) (by decide)] at q; omega) ?_
            refine r_goto K 103 dX5_odds_98 (by decide) ?_
            exact hr _ _ _ _ dX5_odds_103 ⟨by rw [e0, if_pos h_4]; exact pk_div (by omega) hgp (by omega), hp2⟩
      · refine r_if_ne K 32 dX5_odds_27 (by decide) (fun h => absurd h (by decide)) (fun _ => ?_)
        refine r_iconst K (v := (-1)) dX5_odds_30 (by decide) ?_
        exact hr _ _ _ _ dX5_odds_31 ⟨by rw [ab_odds, ab_if_neg (fun q => hb_3 q.2.2)], hS⟩
    · refine r_if_eq K 30 dX5_odds_18 (by decide) (fun _ => ?_) (fun h => absurd h (by decide))
      refine r_iconst K (v := (-1)) dX5_odds_30 (by decide) ?_
      exact hr _ _ _ _ dX5_odds_31 ⟨by rw [ab_odds, ab_if_neg (fun q => hb_2 q.2.1)], hS⟩
  · refine r_if_eq K 30 dX5_odds_7 (by decide) (fun _ => ?_) (fun h => absurd h (by decide))
    refine r_iconst K (v := (-1)) dX5_odds_30 (by decide) ?_
    exact hr _ _ _ _ dX5_odds_31 ⟨by rw [ab_odds, ab_if_neg (fun q => hb_1 q.1)], hS⟩
