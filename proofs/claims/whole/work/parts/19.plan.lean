/-! bounds of numbers, and the search for the cheapest rows -/
theorem ab_bm {x : Int} (h1 : -2147483648 ≤ x) (h2 : x < 2147483648) : x.bmod (2 ^ 32) = x := by
  rw [Int.bmod_def]
  split <;> omega
theorem ab_addI {a b : Int32} (h1 : -2147483648 ≤ a.toInt + b.toInt) (h2 : a.toInt + b.toInt < 2147483648) : (a + b).toInt = a.toInt + b.toInt := by rw [Int32.toInt_add, ab_bm h1 h2]
theorem ab_subI {a b : Int32} (h1 : -2147483648 ≤ a.toInt - b.toInt) (h2 : a.toInt - b.toInt < 2147483648) : (a - b).toInt = a.toInt - b.toInt := by rw [Int32.toInt_sub, ab_bm h1 h2]
theorem ab_mulI {a b : Int32} (h1 : -2147483648 ≤ a.toInt * b.toInt) (h2 : a.toInt * b.toInt < 2147483648) : (a * b).toInt = a.toInt * b.toInt := by rw [Int32.toInt_mul, ab_bm h1 h2]
def ab_bd (x : Int32) (B : Int) : Prop := -B ≤ x.toInt ∧ x.toInt ≤ B
theorem ab_bd_add {x y : Int32} {A B : Int} (hx : ab_bd x A) (hy : ab_bd y B) (h : A + B < 2147483648) : ab_bd (x + y) (A + B) := by
  obtain ⟨h1, h2⟩ := hx
  obtain ⟨h3, h4⟩ := hy
  rw [ab_bd, ab_addI (by omega) (by omega)]
  omega
theorem ab_bd_sub {x y : Int32} {A B : Int} (hx : ab_bd x A) (hy : ab_bd y B) (h : A + B < 2147483648) : ab_bd (x - y) (A + B) := by
  obtain ⟨h1, h2⟩ := hx
  obtain ⟨h3, h4⟩ := hy
  rw [ab_bd, ab_subI (by omega) (by omega)]
  omega
theorem ab_bd_mono {x : Int32} {A B : Int} (hx : ab_bd x A) (h : A ≤ B) : ab_bd x B := ⟨by have := hx.1; omega, by have := hx.2; omega⟩
/-- a taper -/
def ab_tp (tp : Int32) : Prop := tp = 1 ∨ tp = 2 ∨ tp = 3
theorem ab_leanX_bd1 : ∀ k, k < 8 → (-6 ≤ ((1 : Int32) * rs_lX k).toInt ∧ ((1 : Int32) * rs_lX k).toInt ≤ 6) ∧ (-6 ≤ ((2 : Int32) * rs_lX k).toInt ∧ ((2 : Int32) * rs_lX k).toInt ≤ 6) ∧ (-6 ≤ ((3 : Int32) * rs_lX k).toInt ∧ ((3 : Int32) * rs_lX k).toInt ≤ 6) := by decide
theorem ab_leanY_bd1 : ∀ k, k < 8 → (-6 ≤ ((1 : Int32) * rs_lY k).toInt ∧ ((1 : Int32) * rs_lY k).toInt ≤ 6) ∧ (-6 ≤ ((2 : Int32) * rs_lY k).toInt ∧ ((2 : Int32) * rs_lY k).toInt ≤ 6) ∧ (-6 ≤ ((3 : Int32) * rs_lY k).toInt ∧ ((3 : Int32) * rs_lY k).toInt ≤ 6) := by decide
theorem ab_leanX_bd {tp : Int32} (h : ab_tp tp) {k : Nat} (hk : k < 8) : ab_bd (tp * rs_lX k) 6 := by
  rcases h with rfl | rfl | rfl
  · exact (ab_leanX_bd1 k hk).1
  · exact (ab_leanX_bd1 k hk).2.1
  · exact (ab_leanX_bd1 k hk).2.2
theorem ab_leanY_bd {tp : Int32} (h : ab_tp tp) {k : Nat} (hk : k < 8) : ab_bd (tp * rs_lY k) 6 := by
  rcases h with rfl | rfl | rfl
  · exact (ab_leanY_bd1 k hk).1
  · exact (ab_leanY_bd1 k hk).2.1
  · exact (ab_leanY_bd1 k hk).2.2
def ab_gbd (q : ab_P) (m : Int) : Prop := ab_bd q.1 (6 * m) ∧ ab_bd q.2.1 (6 * m) ∧ ab_bd q.2.2.1 (102 * m) ∧ ab_bd q.2.2.2 (102 * m)
theorem ab_step_bd {tp : Int32} (h : ab_tp tp) {k : Nat} (hk : k < 8) {q : ab_P} {m : Int} (h0 : 0 ≤ m) (hm : m < 17) (hq : ab_gbd q m) : ab_gbd (ab_step tp q k) (m + 1) := by
  obtain ⟨h1, h2, h3, h4⟩ := hq
  have a1 := ab_bd_add h1 (ab_leanX_bd h hk) (by omega)
  have a2 := ab_bd_add h2 (ab_leanY_bd h hk) (by omega)
  exact ⟨ab_bd_mono a1 (by omega), ab_bd_mono a2 (by omega), ab_bd_mono (ab_bd_add h3 a1 (by omega)) (by omega), ab_bd_mono (ab_bd_add h4 a2 (by omega)) (by omega)⟩
theorem ab_fold_bd {tp : Int32} (h : ab_tp tp) : ∀ (ks : List Nat) (q : ab_P) (m : Nat), (∀ k ∈ ks, k < 8) → m + ks.length ≤ 17 → ab_gbd q m → ab_gbd (ks.foldl (ab_step tp) q) ((m + ks.length : Nat) : Int)
  | [], q, m, _, _, hq => hq
  | k :: ks, q, m, hk, hm, hq => by
    simp only [List.length_cons] at hm
    have h1 := ab_step_bd h (hk k List.mem_cons_self) (m := (m : Int)) (by omega) (by omega) hq
    have h2 := ab_fold_bd h ks (ab_step tp q k) (m + 1) (fun k' h' => hk k' (List.mem_cons_of_mem _ h')) (by omega) (by
      rw [show ((m + 1 : Nat) : Int) = (m : Int) + 1 by omega]; exact h1)
    rw [List.foldl_cons]
    rw [show m + (k :: ks).length = m + 1 + ks.length by simp only [List.length_cons]; omega]
    exact h2
theorem ab_geo_bd {tp : Int32} (h : ab_tp tp) {ks : List Nat} (hk : ∀ k ∈ ks, k < 8) (hm : ks.length ≤ 17) : ab_bd (ab_geo tp ks).2.2.1 1734 ∧ ab_bd (ab_geo tp ks).2.2.2 1734 := by
  have := ab_fold_bd h ks (0, 0, 0, 0) 0 hk (by omega) (by refine ⟨?_, ?_, ?_, ?_⟩ <;> (constructor <;> decide))
  exact ⟨ab_bd_mono this.2.2.1 (by omega), ab_bd_mono this.2.2.2 (by omega)⟩
theorem ab_abs_bd {x : Int32} {B : Int} (h : ab_bd x B) (hB : B < 2147483648) : 0 ≤ (ab_abs x).toInt ∧ (ab_abs x).toInt ≤ B := by
  obtain ⟨h1, h2⟩ := h
  have z : (0 : Int32).toInt = 0 := by decide
  unfold ab_abs
  split
  · rename_i hx
    have := Int32.le_iff_toInt_le.mp hx
    omega
  · rename_i hx
    have hx2 := Int32.lt_iff_toInt_lt.mp (Int32.not_le.mp hx)
    rw [ab_subI (by omega) (by omega)]
    omega
theorem ab_sq_bd {x : Int32} (h1 : 0 ≤ x.toInt) (h2 : x.toInt ≤ 1833) : 0 ≤ (x * x).toInt ∧ (x * x).toInt ≤ 3359889 := by
  have a : 0 ≤ x.toInt * x.toInt := Int.mul_nonneg h1 h1
  have b : x.toInt * x.toInt ≤ 1833 * 1833 := Int.mul_le_mul h2 h2 h1 (by decide)
  rw [ab_mulI (by omega) (by omega)]
  omega
theorem ab_cost_bd {tp : Int32} (h : ab_tp tp) {L : ab_L} (hok : ab_ok L) {ks : List Nat} (hk : ∀ k ∈ ks, k < 8) (hm : ks.length ≤ 17) : 0 ≤ (ab_cost L ks.length (ab_geo tp ks).2.2.1 (ab_geo tp ks).2.2.2).toInt ∧ (ab_cost L ks.length (ab_geo tp ks).2.2.1 (ab_geo tp ks).2.2.2).toInt ≤ 7000000 := by
  obtain ⟨gx, gy⟩ := ab_geo_bd h hk hm
  obtain ⟨w1, w2, w3, w4⟩ := hok.2.2.2.2.2.1 ks.length hm
  obtain ⟨x1, x2⟩ := ab_abs_bd (ab_bd_sub gx (B := 99) ⟨w1, w2⟩ (by omega)) (by omega)
  obtain ⟨y1, y2⟩ := ab_abs_bd (ab_bd_sub gy (B := 99) ⟨w3, w4⟩ (by omega)) (by omega)
  unfold ab_cost
  generalize ab_abs ((ab_geo tp ks).2.2.1 - ab_wx L ks.length) = dx at *
  generalize ab_abs ((ab_geo tp ks).2.2.2 - ab_wy L ks.length) = dy at *
  unfold ab_way_cost
  split
  · split <;> omega
  · obtain ⟨a1, a2⟩ := ab_sq_bd (x := dx) (by omega) (by omega)
    obtain ⟨b1, b2⟩ := ab_sq_bd (x := dy) (by omega) (by omega)
    rw [ab_addI (by omega) (by omega)]
    omega
  · rw [ab_addI (by omega) (by omega)]
    omega
/-- what is found: how many rows, the least cost, the first row -/
abbrev ab_A : Type := Nat × Int32 × List Nat
def ab_note (a : ab_A) (sum : Int32) (p : List Nat) : ab_A := if 0 < a.1 ∧ sum = a.2.1 then (a.1 + 1, a.2.1, a.2.2) else if a.1 = 0 ∨ sum < a.2.1 then (1, sum, p) else a
def ab_kfold (F : Nat → ab_A → ab_A) : Nat → ab_A → ab_A
  | 0, a => a
  | k + 1, a => F k (ab_kfold F k a)
/-- what the ring behind the keys ks costs -/
def ab_lcost (tp : Int32) (L : ab_L) (ks : List Nat) : Int32 := ab_cost L ks.length (ab_geo tp ks).2.2.1 (ab_geo tp ks).2.2.2
noncomputable def ab_srch (tp : Int32) (L : ab_L) (ks : List Nat) : Nat → List Nat → Int32 → ab_A → ab_A
  | 0 => fun p sum a => ab_note a sum p
  | r + 1 => fun p sum a => ab_kfold (fun k a => @ite ab_A (ab_may tp L (ks ++ p) k) (Classical.propDecidable _) (ab_srch tp L ks r (p ++ [k]) (sum + ab_lcost tp L (ks ++ p ++ [k])) a) a) 8 a
noncomputable def ab_plan (tp : Int32) (L : ab_L) (h : Nat) : ab_A := ab_srch tp L (ab_ks L) h [] 0 (0, 0, [])
theorem ab_note_rows (a : ab_A) (sum : Int32) (p : List Nat) : (ab_note a sum p).1 ≤ a.1 + 1 := by
  unfold ab_note
  split
  · exact Nat.le_refl _
  · split
    · simp
    · omega
theorem ab_kfold_rows {F : Nat → ab_A → ab_A} {B : Nat} (h : ∀ k a, (F k a).1 ≤ a.1 + B) : ∀ (n : Nat) (a : ab_A), (ab_kfold F n a).1 ≤ a.1 + n * B
  | 0, a => by simp [ab_kfold]
  | n + 1, a => by
    have h1 := h n (ab_kfold F n a)
    have h2 := ab_kfold_rows h n a
    simp only [ab_kfold]
    rw [Nat.add_mul]
    omega
theorem ab_srch_rows (tp : Int32) (L : ab_L) (ks : List Nat) : ∀ (r : Nat) (p : List Nat) (sum : Int32) (a : ab_A), (ab_srch tp L ks r p sum a).1 ≤ a.1 + 8 ^ r
  | 0, p, sum, a => ab_note_rows a sum p
  | r + 1, p, sum, a => by
    simp only [ab_srch]
    have := ab_kfold_rows (F := fun k a => @ite ab_A (ab_may tp L (ks ++ p) k) (Classical.propDecidable _) (ab_srch tp L ks r (p ++ [k]) (sum + ab_lcost tp L (ks ++ p ++ [k])) a) a) (B := 8 ^ r) (fun k a => by
      split
      · exact ab_srch_rows tp L ks r _ _ a
      · exact Nat.le_add_right _ _) 8 a
    rw [Nat.pow_succ]
    omega
theorem ab_kfold_same {F : Nat → ab_A → ab_A} {a : ab_A} : ∀ (n : Nat), (∀ k, k < n → F k a = a) → ab_kfold F n a = a
  | 0, _ => rfl
  | n + 1, h => by
    simp only [ab_kfold]
    rw [ab_kfold_same n (fun k hk => h k (by omega))]
    exact h n (by omega)
/-- a row that is dearer already stays so -/
theorem ab_srch_skip {tp : Int32} (ht : ab_tp tp) {L : ab_L} (hok : ab_ok L) {ks : List Nat} (hks : ∀ k ∈ ks, k < 8) (h12 : ks.length ≤ 12) : ∀ (r : Nat) (p : List Nat) (sum : Int32) (a : ab_A), (∀ k ∈ p, k < 8) → p.length + r ≤ 5 → 0 ≤ sum.toInt → sum.toInt ≤ 7000000 * p.length → 0 < a.1 → a.2.1 < sum → ab_srch tp L ks r p sum a = a
  | 0, p, sum, a, _, _, _, _, h0, hl => by
    have h1 : ¬ sum = a.2.1 := fun e => by rw [e] at hl; exact Int32.lt_irrefl hl
    have h2 : ¬ sum < a.2.1 := fun e => Int32.lt_irrefl (Int32.lt_trans hl e)
    simp only [ab_srch, ab_note]
    rw [if_neg (fun q => h1 q.2), if_neg (fun q => q.elim (fun q => by omega) (fun q => h2 q))]
  | r + 1, p, sum, a, hp, hr, s0, s1, h0, hl => by
    simp only [ab_srch]
    refine ab_kfold_same 8 (fun k hk => ?_)
    split
    · have hp2 : ∀ k' ∈ p ++ [k], k' < 8 := by
        intro k' h'
        rcases List.mem_append.mp h' with q | q
        · exact hp k' q
        · simp at q; omega
      have hl2 : (p ++ [k]).length = p.length + 1 := by simp
      have hall : ∀ k' ∈ ks ++ p ++ [k], k' < 8 := by
        intro k' h'
        rw [List.append_assoc] at h'
        rcases List.mem_append.mp h' with q | q
        · exact hks k' q
        · exact hp2 k' q
      have hc := ab_cost_bd ht hok hall (by rw [List.append_assoc, List.length_append, hl2]; omega)
      have hc1 : 0 ≤ (ab_lcost tp L (ks ++ p ++ [k])).toInt := hc.1
      have hc2 : (ab_lcost tp L (ks ++ p ++ [k])).toInt ≤ 7000000 := hc.2
      have e : (sum + ab_lcost tp L (ks ++ p ++ [k])).toInt = sum.toInt + (ab_lcost tp L (ks ++ p ++ [k])).toInt := ab_addI (by omega) (by omega)
      refine ab_srch_skip ht hok hks h12 r (p ++ [k]) _ a hp2 (by omega) (by omega) (by rw [hl2]; omega) h0 ?_
      rw [Int32.lt_iff_toInt_lt] at hl ⊢
      omega
    · rfl
