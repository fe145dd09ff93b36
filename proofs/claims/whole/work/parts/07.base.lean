/-! the memory of a world of fixed cells: cell number, then place (field or element); every cell is of a kind: int row 0, boolean row 1, row of Spots 2, row of Lines 3, object of class t: t + 4 -/
abbrev rs_M : Type := Nat → Nat → Int32
def rs_st (M : rs_M) (c k : Nat) (v : Int32) : rs_M := fun c' k' => if c' = c ∧ k' = k then v else M c' k'
abbrev rs_G : Type := va_G × (ClassId × ClassId × ClassId × ClassId) × (Nat → Nat)
abbrev rs_k : Type := Nat × Nat × List Nat
def rs_fl (ad : Nat → Nat) (f : Nat → Int32) : Nat → List Nat → List Value
  | _, [] => []
  | j, 0 :: l => .int (f j) :: rs_fl ad f (j + 1) l
  | j, (n + 1) :: l => .ref (ad n) :: rs_fl ad f (j + 1) l
theorem rs_fl_len (ad : Nat → Nat) (f : Nat → Int32) : ∀ (l : List Nat) (j : Nat), (rs_fl ad f j l).length = l.length
  | [], _ => rfl
  | 0 :: l, j => by simp only [rs_fl, List.length_cons, rs_fl_len ad f l]
  | (n + 1) :: l, j => by simp only [rs_fl, List.length_cons, rs_fl_len ad f l]
theorem rs_fl_0 (ad : Nat → Nat) (f : Nat → Int32) : ∀ (l : List Nat) (j i : Nat), l[i]? = some 0 → (rs_fl ad f j l)[i]? = some (.int (f (j + i)))
  | [], j, i, h => by simp at h
  | 0 :: l, j, 0, h => by simp [rs_fl]
  | (n + 1) :: l, j, 0, h => by simp at h
  | 0 :: l, j, i + 1, h => by
    have := rs_fl_0 ad f l (j + 1) i (by simpa using h)
    simp only [rs_fl, List.getElem?_cons_succ, this]
    rw [show j + 1 + i = j + (i + 1) by omega]
  | (n + 1) :: l, j, i + 1, h => by
    have := rs_fl_0 ad f l (j + 1) i (by simpa using h)
    simp only [rs_fl, List.getElem?_cons_succ, this]
    rw [show j + 1 + i = j + (i + 1) by omega]
theorem rs_fl_s (ad : Nat → Nat) (f : Nat → Int32) : ∀ (l : List Nat) (j i n : Nat), l[i]? = some (n + 1) → (rs_fl ad f j l)[i]? = some (.ref (ad n))
  | [], j, i, n, h => by simp at h
  | 0 :: l, j, 0, n, h => by simp at h
  | (k + 1) :: l, j, 0, n, h => by
    have : k = n := by simpa using h
    simp [rs_fl, this]
  | 0 :: l, j, i + 1, n, h => by
    have := rs_fl_s ad f l (j + 1) i n (by simpa using h)
    simp only [rs_fl, List.getElem?_cons_succ, this]
  | (k + 1) :: l, j, i + 1, n, h => by
    have := rs_fl_s ad f l (j + 1) i n (by simpa using h)
    simp only [rs_fl, List.getElem?_cons_succ, this]
theorem rs_fl_same (ad : Nat → Nat) (f : Nat → Int32) (v : Int32) : ∀ (l : List Nat) (j k : Nat), k < j → rs_fl ad (upd f k v) j l = rs_fl ad f j l
  | [], _, _, _ => rfl
  | 0 :: l, j, k, h => by
    simp only [rs_fl, rs_fl_same ad f v l (j + 1) k (by omega), upd, if_neg (show ¬ j = k by omega)]
  | (n + 1) :: l, j, k, h => by
    simp only [rs_fl, rs_fl_same ad f v l (j + 1) k (by omega)]
theorem rs_fl_set (ad : Nat → Nat) (f : Nat → Int32) (v : Int32) : ∀ (l : List Nat) (j i : Nat), l[i]? = some 0 → (rs_fl ad f j l).set i (.int v) = rs_fl ad (upd f (j + i) v) j l
  | [], j, i, h => by simp at h
  | 0 :: l, j, 0, h => by
    simp only [rs_fl, List.set_cons_zero, Nat.add_zero, rs_fl_same ad f v l (j + 1) j (by omega)]
    simp [upd]
  | (n + 1) :: l, j, 0, h => by simp at h
  | 0 :: l, j, i + 1, h => by
    have := rs_fl_set ad f v l (j + 1) i (by simpa using h)
    simp only [rs_fl, List.set_cons_succ, this]
    rw [show j + 1 + i = j + (i + 1) by omega]
    simp only [upd, if_neg (show ¬ j = j + (i + 1) by omega)]
  | (n + 1) :: l, j, i + 1, h => by
    have := rs_fl_set ad f v l (j + 1) i (by simpa using h)
    simp only [rs_fl, List.set_cons_succ, this]
    rw [show j + 1 + i = j + (i + 1) by omega]
def rs_E (g : rs_G) (k : rs_k) (f : Nat → Int32) : va_E := match k.1 with
  | 0 => .inl (g.2.1.1, k.2.1, .inl f)
  | 1 => .inl (g.2.1.2.1, k.2.1, .inl f)
  | 2 => .inl (g.2.1.2.2.1, k.2.1, .inr (.inr (.inr (.inr (fun i => (k.2.2[i]?).map g.2.2)))))
  | 3 => .inl (g.2.1.2.2.2, k.2.1, .inr (.inr (.inr (.inr (fun i => (k.2.2[i]?).map g.2.2)))))
  | t + 4 => .inr (t, rs_fl g.2.2 f 0 k.2.2)
def rs_ws (g : rs_G) (kd : List rs_k) (M : rs_M) : va_W := (List.range kd.length).map (fun c => (g.2.2 c, rs_E g (kd.getD c (0, 0, [])) (M c)))
theorem rs_ws_get {g : rs_G} {kd : List rs_k} {M : rs_M} {c : Nat} {k : rs_k} (h : kd[c]? = some k) : (rs_ws g kd M)[c]? = some (g.2.2 c, rs_E g k (M c)) := by
  have hl := (List.getElem?_eq_some_iff.mp h).1
  simp only [rs_ws, List.getElem?_map, List.getElem?_range hl, Option.map_some, List.getD, h, Option.getD_some]
theorem rs_ws_len (g : rs_G) (kd : List rs_k) (M : rs_M) : (rs_ws g kd M).length = kd.length := by simp [rs_ws]
theorem rs_ws_inv {g : rs_G} {kd : List rs_k} {M : rs_M} {c : Nat} {q : Nat × va_E} (h : (rs_ws g kd M)[c]? = some q) : c < kd.length ∧ q.1 = g.2.2 c := by
  have hl : c < kd.length := by rw [← rs_ws_len g kd M]; exact (List.getElem?_eq_some_iff.mp h).1
  obtain ⟨k, hk⟩ : ∃ k, kd[c]? = some k := ⟨_, List.getElem?_eq_getElem hl⟩
  rw [rs_ws_get hk] at h
  cases h
  exact ⟨hl, rfl⟩
theorem rs_ws_set {g : rs_G} {kd : List rs_k} {M M' : rs_M} {c : Nat} {k : rs_k} {e : va_E} (h : kd[c]? = some k) (he : e = rs_E g k (M' c)) (hM : ∀ c', c' ≠ c → M' c' = M c') : (rs_ws g kd M).set c (g.2.2 c, e) = rs_ws g kd M' := by
  have hl := (List.getElem?_eq_some_iff.mp h).1
  subst he
  apply List.ext_getElem?
  intro j
  by_cases hj : j = c
  · subst hj
    rw [List.getElem?_set_self (by rw [rs_ws_len]; exact hl), rs_ws_get h]
  · rw [List.getElem?_set_ne (Ne.symm hj)]
    by_cases hlt : j < kd.length
    · obtain ⟨k2, hk2⟩ : ∃ k2, kd[j]? = some k2 := ⟨_, List.getElem?_eq_getElem hlt⟩
      rw [rs_ws_get hk2, rs_ws_get hk2, hM j hj]
    · rw [List.getElem?_eq_none (by rw [rs_ws_len]; omega), List.getElem?_eq_none (by rw [rs_ws_len]; omega)]
theorem rs_st_row (M : rs_M) (c k : Nat) (v : Int32) : rs_st M c k v c = upd (M c) k v := by
  funext j
  simp [rs_st, upd]
theorem rs_st_ne (M : rs_M) {c c' : Nat} (k : Nat) (v : Int32) (h : c' ≠ c) : rs_st M c k v c' = M c' := by
  funext j
  simp [rs_st, h]
/-- which addresses may change -/
def rs_A (g : rs_G) (kd : List rs_k) (sz : Nat) : Nat → Prop := fun q => (∃ c, c < kd.length ∧ q = g.2.2 c) ∨ sz ≤ q
theorem rs_A_mono {g : rs_G} {kd : List rs_k} {a b : Nat} (h : a ≤ b) : ∀ q, rs_A g kd b q → rs_A g kd a q := fun q hq => hq.elim Or.inl (fun h2 => Or.inr (Nat.le_trans h h2))
theorem rs_A_eq (g : rs_G) (kd : List rs_k) (M : rs_M) (sz : Nat) : va_A (rs_ws g kd M) sz = rs_A g kd sz := by
  funext q
  apply propext
  constructor
  · rintro (⟨k, e, h⟩ | h)
    · obtain ⟨h1, h2⟩ := rs_ws_inv h
      exact Or.inl ⟨k, h1, h2⟩
    · exact Or.inr h
  · rintro (⟨c, h1, h2⟩ | h)
    · obtain ⟨k, hk⟩ : ∃ k, kd[c]? = some k := ⟨_, List.getElem?_eq_getElem h1⟩
      exact Or.inl ⟨c, rs_E g k (M c), by rw [rs_ws_get hk, h2]⟩
    · exact Or.inr h
/-- what the tables and the tables' arrays say, beside the words -/
def rs_tys (g : rs_G) : List (ClassId × FieldType) := [(g.2.1.1, .int), (g.2.1.2.1, .boolean), (g.2.1.2.2.1, .object RX4), (g.2.1.2.2.2, .object RX1)]
def rs_nest : List (String × Nat × MethodName) := [(RX1, 40, yX4_init), (RX2, 42, yX5_isWithin), (RX1, 45, yX5_isWithin), (RX5, 29, yX2_init), (RX5, 36, yX0_init), (RX5, 50, yX4_init), (RX3, 31, yX4_init), (RX2, 74, yX5_isRule), (RX2, 90, yX5_isKey), (RX1, 80, yX5_leanX), (RX1, 90, yX5_leanY), (RX4, 30, yX5_leanX), (RX4, 34, yX5_leanY), (RX0, 31, yX5_isWithin)]
def rs_N (g : rs_G) (U : State) : Prop := va_K g.1 vwCl (rs_tys g) U ∧ ∀ q ∈ rs_nest, va_Nw (.methodLinkNest q.1 q.2.1 q.2.2 "RingSteer") U
theorem rs_N.warm {g : rs_G} {s U : State} (h : rs_N g s) (hW : s.WarmedH U.vm) : rs_N g U := ⟨va_K.moved hW.alike h.1, fun q hq => va_Nw.warmM hW (h.2 q hq)⟩
theorem rs_N.same {g : rs_G} {s U : State} (h : rs_N g s) (e : s.vm = U.vm) : rs_N g U := ⟨va_K.moved (by rw [e]; exact Vm.Alike.refl U.vm) h.1, fun q hq => va_Nw.same rfl e (h.2 q hq)⟩
def rs_lX : Nat → Int32 := fun k => match k with
  | 0 => 2 | 1 => 1 | 2 => 0 | 3 => -1 | 4 => -2 | 5 => -1 | 6 => 0 | 7 => 1 | _ => 0
def rs_lY : Nat → Int32 := fun k => match k with
  | 0 => 0 | 1 => 1 | 2 => 2 | 3 => 1 | 4 => 0 | 5 => -1 | 6 => -2 | 7 => -1 | _ => 0
def rs_Z (t : Nat × Nat) (A : Nat → Prop) (U : State) (H : Heap) : Prop :=
  (va_Z "RingSteer" "LEAN_X" "[I" (.ref t.1) A U H ∧ va_T .int t.1 8 (fun k => .int (rs_lX k)) A U H) ∧ (va_Z "RingSteer" "LEAN_Y" "[I" (.ref t.2) A U H ∧ va_T .int t.2 8 (fun k => .int (rs_lY k)) A U H)
theorem rs_Z.moved {t : Nat × Nat} {A : Nat → Prop} {u U : State} {H : Heap} (hvm : u.vm.Alike U.vm) (h : rs_Z t A u H) : rs_Z t A U H := ⟨⟨va_Z.moved hvm h.1.1, va_T.moved hvm h.1.2⟩, ⟨va_Z.moved hvm h.2.1, va_T.moved hvm h.2.2⟩⟩
theorem rs_Z.kept {t : Nat × Nat} {A : Nat → Prop} {U : State} {H H1 : Heap} (h : rs_Z t A U H) (hq : ∀ a : Nat, a < H.size → ¬ A a → H1[a]? = H[a]?) : rs_Z t A U H1 := ⟨⟨h.1.1.kept hq, h.1.2.kept hq⟩, ⟨h.2.1.kept hq, h.2.2.kept hq⟩⟩
theorem rs_Z.narrow {t : Nat × Nat} {A B : Nat → Prop} {U : State} {H : Heap} (h : rs_Z t A U H) (hAB : ∀ q, B q → A q) : rs_Z t B U H := ⟨⟨h.1.1.narrow hAB, h.1.2.narrow hAB⟩, ⟨h.2.1.narrow hAB, h.2.2.narrow hAB⟩⟩
/-- a method's start -/
def rs_pre (g : rs_G) (kd : List rs_k) (t : Nat × Nat) (M : rs_M) (sz : Nat) (U : State) : Prop :=
  U.heap.size = sz ∧ va_P g.1 vwCl (rs_ws g kd M) U.heap ∧ rs_N g U ∧ va_D (rs_A g kd sz) (rs_ws g kd M) ∧ rs_Z t (rs_A g kd sz) U U.heap
def rs_post (g : rs_G) (kd : List rs_k) (sz : Nat) (M : rs_M) (U : State) : Prop := va_P g.1 vwCl (rs_ws g kd M) U.heap ∧ va_D (rs_A g kd sz) (rs_ws g kd M)
def rs_R (d : Nat) : Room := { frames := d, cells := 0, slots := 0, locals := 40 * d }
/-- the contracts: an answer that is an int (or boolean), none, a reference to a cell -/
def rs_Ci (l : Launch) (g : rs_G) (kd : List rs_k) (t : Nat × Nat) (y : MethodName) (cc : ByteArray) (n : Nat) (ret : FieldType) (d : Nat) (av : List Value) (M : rs_M) (post : Int32 → rs_M → Prop) : Prop :=
  ∀ sz, Met l y (.code y cc n (some ret) :: rs_T) (rs_R d) (va_Pc av (rs_pre g kd t M sz)) (va_Qi post (rs_post g kd sz) (rs_A g kd sz)) 0 0 (rs_A g kd sz)
def rs_Cv (l : Launch) (g : rs_G) (kd : List rs_k) (t : Nat × Nat) (y : MethodName) (cc : ByteArray) (n : Nat) (d : Nat) (av : List Value) (M : rs_M) (post : rs_M → Prop) : Prop :=
  ∀ sz, Met l y (.code y cc n none :: rs_T) (rs_R d) (va_Pc av (rs_pre g kd t M sz)) (va_Qv post (rs_post g kd sz) (rs_A g kd sz)) 0 0 (rs_A g kd sz)
def rs_Cr (l : Launch) (g : rs_G) (kd : List rs_k) (t : Nat × Nat) (y : MethodName) (cc : ByteArray) (n : Nat) (ret : FieldType) (d : Nat) (av : List Value) (M : rs_M) (post : Nat → rs_M → Prop) : Prop :=
  ∀ sz, Met l y (.code y cc n (some ret) :: rs_T) (rs_R d) (va_Pc av (rs_pre g kd t M sz)) (va_Qr (fun u : Nat × rs_M => post u.1 u.2) (fun u a U => a = g.2.2 u.1 ∧ rs_post g kd sz u.2 U) (rs_A g kd sz)) 0 0 (rs_A g kd sz)
/-- the machine in a method's body, as a judgement over memory, place, locals and stack -/
def rs_I (g : rs_G) (kd : List rs_k) (s : State) (M : rs_M) (H : Heap) (locs : List Loc) : Prop :=
  va_P g.1 vwCl (rs_ws g kd M) H ∧ va_D (rs_A g kd s.heap.size) (rs_ws g kd M) ∧ va_S (rs_A g kd s.heap.size) s.heap H locs
abbrev rs_Y : Type := rs_M → Nat → List (Nat × Value) → List Value → Prop
def rs_J (p : Program) (l : Launch) (e : Env) (d : Nat) (s : State) (m : MethodId) (args : Array Value) (below : List Frame) (meth : Method) (c : Code) (Q : State → Prop) (g : rs_G) (kd : List rs_k) (nL : Nat) : rs_Y := fun M pc lv stk =>
  ∀ (H : Heap) (locs : List Loc) (ls : Array Slot), rs_I g kd s M H locs → lv_has ls nL lv → W p l e (rs_R d) s m args below meth c H locs 0 0 Q (F0 m pc ls stk)
def rs_K (l : Launch) (g : rs_G) (kd : List rs_k) (t : Nat × Nat) (cc : ByteArray) (nL : Nat) (own : String) (d : Nat) (Y : rs_Y) : Prop :=
  ∃ (p : Program) (e : Env) (s : State) (m : MethodId) (args : Array Value) (below : List Frame) (meth : Method) (c : Code) (Q : State → Prop), Y = rs_J p l e d s m args below meth c Q g kd nL ∧
    p.tables.exec = Jvm.exec ∧ c.code = cc ∧ c.maxLocals = nL ∧ s.vm.findClass own = some m.cls ∧ (∀ w ∈ rs_T, w.before args s = true) ∧ rs_N g s ∧ rs_Z t (rs_A g kd s.heap.size) s s.heap
