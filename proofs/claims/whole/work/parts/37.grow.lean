/-! worlds that grow: constructors, and the law -/
def cs_N (g : rs_G) (U : State) : Prop := rs_N g U ∧ va_AO RX4 U ∧ va_AO RX1 U
theorem cs_N.warm {g : rs_G} {s U : State} (h : cs_N g s) (hW : s.WarmedH U.vm) : cs_N g U := ⟨h.1.warm hW, va_AO.moved hW.alike h.2.1, va_AO.moved hW.alike h.2.2⟩
theorem cs_N.same {g : rs_G} {s U : State} (h : cs_N g s) (e : s.vm = U.vm) : cs_N g U := ⟨h.1.same e, va_AO.moved (by rw [e]; exact Vm.Alike.refl U.vm) h.2.1, va_AO.moved (by rw [e]; exact Vm.Alike.refl U.vm) h.2.2⟩
def cs_R (d mc ms : Nat) : Room := { frames := d, cells := mc, slots := ms, locals := 40 * d }
def cs_pre (g : rs_G) (t : Nat × Nat) (ci : Nat) (fs : List Value) (h0 sz : Nat) (U : State) : Prop := U.heap.size = sz ∧ va_P g.1 vwCl [(h0, .inr (ci, fs))] U.heap ∧ cs_N g U ∧ va_D (fun _ => True) [(h0, .inr (ci, fs))] ∧ rs_Z t (va_A [(h0, .inr (ci, fs))] sz) U U.heap
/-- a constructor's contract: of the bare object it makes the world kw -/
def cs_C (l : Launch) (g : rs_G) (t : Nat × Nat) (y : MethodName) (cc : ByteArray) (n d mc ms ci : Nat) (fs : List Value) (kw : (Nat → Nat) × rs_M → va_W) (φ : rs_M → Prop) : Prop :=
  ∀ h0 sz, Met l y (.code y cc n none :: rs_T) (cs_R d mc ms) (va_Pc [.ref h0] (cs_pre g t ci fs h0 sz)) (va_Qv (fun u : (Nat → Nat) × rs_M => u.1 0 = h0 ∧ φ u.2) (fun u U => va_P g.1 vwCl (kw u) U.heap ∧ va_D (va_A [(h0, .inr (ci, fs))] sz) (kw u)) (va_A [(h0, .inr (ci, fs))] sz)) mc ms (va_A [(h0, .inr (ci, fs))] sz)
abbrev cs_Y : Type := va_W → Nat → Nat → Nat → List (Nat × Value) → List Value → Prop
def cs_J (p : Program) (l : Launch) (e : Env) (R : Room) (s : State) (m : MethodId) (args : Array Value) (below : List Frame) (meth : Method) (c : Code) (Q : State → Prop) (g : rs_G) (A : Nat → Prop) (nL : Nat) : cs_Y := fun ws cells slots pc lv stk =>
  ∀ (H : Heap) (locs : List Loc) (ls : Array Slot), va_P g.1 vwCl ws H → va_D A ws → va_S A s.heap H locs → lv_has ls nL lv → W p l e R s m args below meth c H locs cells slots Q (F0 m pc ls stk)
def cs_K (l : Launch) (g : rs_G) (t : Nat × Nat) (cc : ByteArray) (nL : Nat) (own : String) (R : Room) (nm : String) (bL : Bool × Nat × Nat) (xs : Nat → Int32) (Z : cs_Y) : Prop :=
  ∃ (p : Program) (e : Env) (s : State) (m : MethodId) (args : Array Value) (below : List Frame) (meth : Method) (c : Code) (Q : State → Prop) (A : Nat → Prop), Z = cs_J p l e R s m args below meth c Q g A nL ∧
    p.tables.exec = Jvm.exec ∧ c.code = cc ∧ c.maxLocals = nL ∧ s.vm.findClass own = some m.cls ∧ (∀ w ∈ rs_T, w.before args s = true) ∧ cs_N g s ∧ rs_Z t A s s.heap ∧ (∀ q, s.heap.size ≤ q → A q) ∧ meth.name = nm ∧ (bL.1 = true → va_X bL.2.1 bL.2.2 xs s s.heap ∧ bL.2.1 < s.heap.size ∧ ¬ A bL.2.1)
theorem cs_of {l : Launch} {g : rs_G} {t : Nat × Nat} {y : MethodName} {cc : ByteArray} {n d mc ms ci : Nat} {fs : List Value} {kw : (Nat → Nat) × rs_M → va_W} {φ : rs_M → Prop} (hy : plainFor y = true) (hyn : y.name = "<init>") (hn : 1 ≤ n) (body : ∀ (h0 : Nat) (Z : cs_Y), cs_K l g t cc n y.cls (cs_R d mc ms) "<init>" (false, 0, 0) (fun _ => 0) Z → (∀ (ws : va_W) (ad : Nat → Nat) (M : rs_M) (pc : Nat) (lv : List (Nat × Value)), decode cc pc = .ok (.return_, 1) → ws = kw (ad, M) → ad 0 = h0 → φ M → Z ws mc ms pc lv []) → Z [(h0, .inr (ci, fs))] 0 0 0 [(0, .ref h0)] []) : cs_C l g t y cc n d mc ms ci fs kw φ := by
  intro h0 sz
  refine va_MetF (cc := cc) (maxL := n) (ret := none) hy rfl ?_
  intro p e s m args below meth c s₁ B hml hv
  obtain ⟨rfl, hsz, hP, hN, hD0, hZ⟩ := hv
  have hx := B.exec
  have hb := B.bytes
  have hr := B.returns
  have hts0 := atoms_spec (ws := .code y cc n none :: rs_T) B.pre
  have hts : ∀ w ∈ rs_T, w.before [Value.ref h0].toArray s = true := fun w h => hts0 w (List.mem_cons_of_mem _ h)
  have hown : s.vm.findClass y.cls = some m.cls := findClass_of_methodNamed B.named
  have hlocks := B.notSynchronized
  have hin : meth.name = "<init>" := by rw [(name_of_methodNamed B.named B.method).1]; exact hyn
  subst hsz
  have hD := hD0.self (sz := s.heap.size)
  have hS : va_S (va_A [(h0, .inr (ci, fs))] s.heap.size) s.heap s.heap [] := va_S.rf
  have hl := lv_entry [.ref h0] (n := n) hn
  rw [lg_entry_eq]
  exact body h0 (cs_J p l e (cs_R d mc ms) s m [Value.ref h0].toArray below meth c _ g (va_A [(h0, .inr (ci, fs))] s.heap.size) n) ⟨p, e, s, m, [Value.ref h0].toArray, below, meth, c, _, _, rfl, hx, hb, hml, hown, hts, hN, hZ, fun q h => Or.inr h, hin, fun h => absurd h (by decide)⟩ (fun ws ad M pc lv hd hw had hφ H locs ls hP hD hS hl => W.vret hx hb hr (fun t1 ht hW => ⟨⟨(ad, M), rfl, ⟨had, hφ⟩, by rw [ht, ← hw]; exact hP, by rw [← hw]; exact hD⟩, hS.F ht⟩) hS.2.2 hd) s.heap [] _ hP hD hS hl
theorem cs_nd : ∀ l : List Nat, l.Nodup → va_nd l = true
  | [], _ => rfl
  | a :: l, h => by
    have h2 := List.nodup_cons.mp h
    simp only [va_nd, cs_nd l h2.2, Bool.and_true, decide_eq_true_eq]
    exact h2.1
theorem cs_hR (ws : va_W) (x : Nat × va_E) : (List.range ws.length).map (fun i => (ws ++ [x])[i]?) = ws.map some := by
  apply List.ext_getElem?
  intro j
  rcases Nat.lt_or_ge j ws.length with h | h
  · simp only [List.getElem?_map, List.getElem?_range h, Option.map_some, List.getElem?_append_left h, List.getElem?_eq_getElem h]
  · rw [List.getElem?_eq_none (by simp; omega), List.getElem?_eq_none (by simp; omega)]
theorem cs_hC (ws : va_W) (x : Nat × va_E) : [ws.length].map (fun i => (ws ++ [x])[i]?) = [x].map some := by simp
theorem cs_join {A0 : Nat → Prop} {D : va_G} {cl : List vw_C} {ws w1 : va_W} {x : Nat × va_E} {H H1 : Heap} (hP : va_P D cl (ws ++ [x]) H) (hD : va_D A0 (ws ++ [x])) (hk : ∀ q : Nat, q < H.size → ¬ va_A [x] H.size q → H1[q]? = H[q]?) (hF : ∀ q, va_A [x] H.size q → A0 q) (hP1 : va_P D cl w1 H1) (hD1 : va_D (va_A [x] H.size) w1) : va_P D cl (ws ++ w1) H1 ∧ va_D A0 (ws ++ w1) :=
  va_join hP hD [ws.length] (List.range ws.length) (cs_hC ws x) (cs_hR ws x) (cs_nd _ List.nodup_range) (fun i h1 h2 => by rw [List.mem_range] at h1; rw [List.mem_singleton] at h2; omega) hk hF hP1 hD1
/-! two worlds side by side -/
theorem cs_P_mem {D : va_G} {cl : List vw_C} {ws : va_W} {H : Heap} : va_P D cl ws H ↔ ∀ q ∈ ws, va_at D cl q H := ⟨fun h q hq => by obtain ⟨k, hk⟩ := List.getElem?_of_mem hq; exact h k q hk, fun h k q hk => h q (List.mem_of_getElem? hk)⟩
theorem cs_P_swap {D : va_G} {cl : List vw_C} {a b : va_W} {H : Heap} (h : va_P D cl (a ++ b) H) : va_P D cl (b ++ a) H := cs_P_mem.mpr (fun q hq => cs_P_mem.mp h q (by rcases List.mem_append.mp hq with z | z; exact List.mem_append_right _ z; exact List.mem_append_left _ z))
theorem cs_D_swap {A : Nat → Prop} {a b : va_W} (h : va_D A (a ++ b)) : va_D A (b ++ a) := by
  have key : ∀ (i : Nat) (q : Nat × va_E), (b ++ a)[i]? = some q → (i < b.length ∧ (a ++ b)[a.length + i]? = some q) ∨ (b.length ≤ i ∧ i < b.length + a.length ∧ (a ++ b)[i - b.length]? = some q) := by
    intro i q hi
    have hlt : i < b.length + a.length := by have := (List.getElem?_eq_some_iff.mp hi).1; rwa [List.length_append] at this
    rcases Nat.lt_or_ge i b.length with h1 | h1
    · rw [List.getElem?_append_left h1] at hi
      exact Or.inl ⟨h1, by rw [List.getElem?_append_right (by omega), show a.length + i - a.length = i by omega]; exact hi⟩
    · rw [List.getElem?_append_right h1] at hi
      exact Or.inr ⟨h1, hlt, by rw [List.getElem?_append_left (by omega)]; exact hi⟩
  refine ⟨fun i j p q hi hj e => ?_, fun k q hk => ?_⟩
  · rcases key i p hi with ⟨a1, a2⟩ | ⟨a1, a2, a3⟩ <;> rcases key j q hj with ⟨b1, b2⟩ | ⟨b1, b2, b3⟩
    · have := h.1 _ _ _ _ a2 b2 e; omega
    · have := h.1 _ _ _ _ a2 b3 e; omega
    · have := h.1 _ _ _ _ a3 b2 e; omega
    · have := h.1 _ _ _ _ a3 b3 e; omega
  · rcases key k q hk with ⟨a1, a2⟩ | ⟨a1, a2, a3⟩
    · exact h.2 _ _ a2
    · exact h.2 _ _ a3
theorem cs_hC1 (a b : va_W) : (List.range a.length).map (fun i => (a ++ b)[i]?) = a.map some := by
  apply List.ext_getElem?
  intro j
  rcases Nat.lt_or_ge j a.length with h | h
  · simp only [List.getElem?_map, List.getElem?_range h, Option.map_some, List.getElem?_append_left h, List.getElem?_eq_getElem h]
  · rw [List.getElem?_eq_none (by simp; omega), List.getElem?_eq_none (by simp; omega)]
theorem cs_hR1 (a b : va_W) : ((List.range b.length).map (fun i => i + a.length)).map (fun i => (a ++ b)[i]?) = b.map some := by
  apply List.ext_getElem?
  intro j
  rcases Nat.lt_or_ge j b.length with h | h
  · simp only [List.getElem?_map, List.getElem?_range h, Option.map_some]
    rw [List.getElem?_append_right (by omega), show j + a.length - a.length = j by omega, List.getElem?_eq_getElem h]
    rfl
  · rw [List.getElem?_eq_none (by simp; omega), List.getElem?_eq_none (by simp; omega)]
theorem cs_nd_shift (n k : Nat) : ((List.range n).map (fun i => i + k)).Nodup := by
  rw [List.nodup_iff_pairwise_ne, List.pairwise_map]
  exact (List.nodup_iff_pairwise_ne.mp List.nodup_range).imp (fun h e => h (by omega))
theorem cs_free1 {A0 : Nat → Prop} {a b : va_W} {H0 H : Heap} {locs : List Loc} (hD : va_D A0 (a ++ b)) (hS : va_S A0 H0 H locs) (hA : ∀ q, H0.size ≤ q → A0 q) : ∀ q, va_A a H.size q → A0 q := va_free hD hS hA (List.range a.length) (cs_hC1 a b)
theorem cs_join1 {A0 : Nat → Prop} {D : va_G} {cl : List vw_C} {a b w1 : va_W} {H H1 : Heap} (hP : va_P D cl (a ++ b) H) (hD : va_D A0 (a ++ b)) (hk : ∀ q : Nat, q < H.size → ¬ va_A a H.size q → H1[q]? = H[q]?) (hF : ∀ q, va_A a H.size q → A0 q) (hP1 : va_P D cl w1 H1) (hD1 : va_D (va_A a H.size) w1) : va_P D cl (w1 ++ b) H1 ∧ va_D A0 (w1 ++ b) := by
  obtain ⟨h1, h2⟩ := va_join hP hD (List.range a.length) ((List.range b.length).map (fun i => i + a.length)) (cs_hC1 a b) (cs_hR1 a b) (cs_nd _ (cs_nd_shift _ _)) (fun i h1 h2 => by
    obtain ⟨j, -, rfl⟩ := List.mem_map.mp h1
    rw [List.mem_range] at h2
    omega) hk hF hP1 hD1
  exact ⟨cs_P_swap h1, cs_D_swap h2⟩
theorem cs_ty {g : rs_G} {s : State} {cA : ClassId} (hK : va_K g.1 vwCl (rs_tys g ++ [(cA, .int)]) s) : cA = g.2.1.1 := by
  have h1 := (hK.2 0 (g.2.1.1, .int) rfl).2
  have h2 := (hK.2 4 (cA, .int) rfl).2
  exact Option.some.inj (h2.symm.trans h1)
theorem cs_tyZ {g : rs_G} {s : State} {cA : ClassId} (hK : va_K g.1 vwCl (rs_tys g ++ [(cA, .boolean)]) s) : cA = g.2.1.2.1 := by
  have h1 := (hK.2 1 (g.2.1.2.1, .boolean) rfl).2
  have h2 := (hK.2 4 (cA, .boolean) rfl).2
  exact Option.some.inj (h2.symm.trans h1)
theorem cs_tyS {g : rs_G} {s : State} {cA : ClassId} (hK : va_K g.1 vwCl (rs_tys g ++ [(cA, .object RX4)]) s) : cA = g.2.1.2.2.1 := by
  obtain ⟨-, -, -, -, -, h1⟩ := (hK.2 2 (g.2.1.2.2.1, .object RX4) rfl).2
  obtain ⟨-, -, -, -, -, h2⟩ := (hK.2 4 (cA, .object RX4) rfl).2
  exact Option.some.inj (h2.symm.trans h1)
theorem cs_tyL {g : rs_G} {s : State} {cA : ClassId} (hK : va_K g.1 vwCl (rs_tys g ++ [(cA, .object RX1)]) s) : cA = g.2.1.2.2.2 := by
  obtain ⟨-, -, -, -, -, h1⟩ := (hK.2 3 (g.2.1.2.2.2, .object RX1) rfl).2
  obtain ⟨-, -, -, -, -, h2⟩ := (hK.2 4 (cA, .object RX1) rfl).2
  exact Option.some.inj (h2.symm.trans h1)
theorem cs_Z_sub {t : Nat × Nat} {A B : Nat → Prop} {s U : State} {H : Heap} {locs : List Loc} (hZ : rs_Z t A s s.heap) (hS : va_S A s.heap H locs) (hB : ∀ q, B q → A q) (hU : U.heap = H) (hW : s.WarmedH U.vm) : rs_Z t B U U.heap := by
  rw [hU]
  exact ((hZ.kept (fun a h1 h2 => hS.2.1 a h1 h2)).narrow hB).moved hW.alike
theorem n_iconst {l : Launch} {g : rs_G} {t : Nat × Nat} {cc : ByteArray} {nL : Nat} {own : String} {R : Room} {nm : String} {bL : Bool × Nat × Nat} {xs : Nat → Int32} {Z : cs_Y} (K : cs_K l g t cc nL own R nm bL xs Z) {ws : va_W} {cells slots pc : Nat} {lv : List (Nat × Value)} {rest : List Value} {n : Int} {v : Int32} (hd : decode cc pc = .ok (.iconst n, 1)) (hv : Int32.ofInt n = v) (k : Z ws cells slots (pc + 1) lv (.int v :: rest)) : Z ws cells slots pc lv rest := by
  obtain ⟨p, e, s, m, args, below, meth, cd, Q, A, rfl, hx, hb, hml, hown, hts, hN, hZ, hA, hnm, hX⟩ := K
  intro H locs ls hP hD hS hl
  exact lv_iconst hx hb hd hv (k H locs ls hP hD hS hl)
theorem n_bipush {l : Launch} {g : rs_G} {t : Nat × Nat} {cc : ByteArray} {nL : Nat} {own : String} {R : Room} {nm : String} {bL : Bool × Nat × Nat} {xs : Nat → Int32} {Z : cs_Y} (K : cs_K l g t cc nL own R nm bL xs Z) {ws : va_W} {cells slots pc : Nat} {lv : List (Nat × Value)} {rest : List Value} {n : Int} {v : Int32} (hd : decode cc pc = .ok (.bipush n, 2)) (hv : (Int8.ofInt n).toInt32 = v) (k : Z ws cells slots (pc + 2) lv (.int v :: rest)) : Z ws cells slots pc lv rest := by
  obtain ⟨p, e, s, m, args, below, meth, cd, Q, A, rfl, hx, hb, hml, hown, hts, hN, hZ, hA, hnm, hX⟩ := K
  intro H locs ls hP hD hS hl
  exact lv_bipush hx hb hd hv (k H locs ls hP hD hS hl)
theorem n_sipush {l : Launch} {g : rs_G} {t : Nat × Nat} {cc : ByteArray} {nL : Nat} {own : String} {R : Room} {nm : String} {bL : Bool × Nat × Nat} {xs : Nat → Int32} {Z : cs_Y} (K : cs_K l g t cc nL own R nm bL xs Z) {ws : va_W} {cells slots pc : Nat} {lv : List (Nat × Value)} {rest : List Value} {n : Int} {v : Int32} (hd : decode cc pc = .ok (.sipush n, 3)) (hv : (Int16.ofInt n).toInt32 = v) (k : Z ws cells slots (pc + 3) lv (.int v :: rest)) : Z ws cells slots pc lv rest := by
  obtain ⟨p, e, s, m, args, below, meth, cd, Q, A, rfl, hx, hb, hml, hown, hts, hN, hZ, hA, hnm, hX⟩ := K
  intro H locs ls hP hD hS hl
  exact lv_sipush hx hb hd hv (k H locs ls hP hD hS hl)
theorem n_iload_n {l : Launch} {g : rs_G} {t : Nat × Nat} {cc : ByteArray} {nL : Nat} {own : String} {R : Room} {nm : String} {bL : Bool × Nat × Nat} {xs : Nat → Int32} {Z : cs_Y} (K : cs_K l g t cc nL own R nm bL xs Z) {ws : va_W} {cells slots pc : Nat} {lv : List (Nat × Value)} {rest : List Value} {n : Fin 4} {i : Nat} {x : Int32} (j : Nat) (hd : decode cc pc = .ok (.iload_n n, 1)) (hi : (n : Nat) = i) (hv : lv[j]? = some (i, .int x)) (k : Z ws cells slots (pc + 1) lv (.int x :: rest)) : Z ws cells slots pc lv rest := by
  obtain ⟨p, e, s, m, args, below, meth, cd, Q, A, rfl, hx, hb, hml, hown, hts, hN, hZ, hA, hnm, hX⟩ := K
  intro H locs ls hP hD hS hl
  exact lv_iload_n hx hb hd hi (lv_at hl j hv) (k H locs ls hP hD hS hl)
theorem n_aload_n {l : Launch} {g : rs_G} {t : Nat × Nat} {cc : ByteArray} {nL : Nat} {own : String} {R : Room} {nm : String} {bL : Bool × Nat × Nat} {xs : Nat → Int32} {Z : cs_Y} (K : cs_K l g t cc nL own R nm bL xs Z) {ws : va_W} {cells slots pc : Nat} {lv : List (Nat × Value)} {rest : List Value} {n : Fin 4} {i : Nat} {x : Nat} (j : Nat) (hd : decode cc pc = .ok (.aload_n n, 1)) (hi : (n : Nat) = i) (hv : lv[j]? = some (i, .ref x)) (k : Z ws cells slots (pc + 1) lv (.ref x :: rest)) : Z ws cells slots pc lv rest := by
  obtain ⟨p, e, s, m, args, below, meth, cd, Q, A, rfl, hx, hb, hml, hown, hts, hN, hZ, hA, hnm, hX⟩ := K
  intro H locs ls hP hD hS hl
  exact lv_aload_n hx hb hd hi (lv_at hl j hv) (k H locs ls hP hD hS hl)
theorem n_istore_n {l : Launch} {g : rs_G} {t : Nat × Nat} {cc : ByteArray} {nL : Nat} {own : String} {R : Room} {nm : String} {bL : Bool × Nat × Nat} {xs : Nat → Int32} {Z : cs_Y} (K : cs_K l g t cc nL own R nm bL xs Z) {ws : va_W} {cells slots pc : Nat} {lv : List (Nat × Value)} {rest : List Value} {n : Fin 4} {i : Nat} {x : Int32} (lv1 : List (Nat × Value)) (hd : decode cc pc = .ok (.istore_n n, 1)) (hi : (n : Nat) = i) (hn : i < nL) (hv : (i, Value.int x) :: lv.filter (fun q => !(q.1 == i) && !(q.1 + 1 == i && q.2.category == 2)) = lv1) (k : Z ws cells slots (pc + 1) lv1 rest) : Z ws cells slots pc lv (.int x :: rest) := by
  obtain ⟨p, e, s, m, args, below, meth, cd, Q, A, rfl, hx, hb, hml, hown, hts, hN, hZ, hA, hnm, hX⟩ := K
  intro H locs ls hP hD hS hl
  exact lv_istore_n hx hb hd hi hl hn hv (fun ls1 hl1 => k H locs ls1 hP hD hS hl1)
theorem n_astore_n {l : Launch} {g : rs_G} {t : Nat × Nat} {cc : ByteArray} {nL : Nat} {own : String} {R : Room} {nm : String} {bL : Bool × Nat × Nat} {xs : Nat → Int32} {Z : cs_Y} (K : cs_K l g t cc nL own R nm bL xs Z) {ws : va_W} {cells slots pc : Nat} {lv : List (Nat × Value)} {rest : List Value} {n : Fin 4} {i : Nat} {x : Nat} (lv1 : List (Nat × Value)) (hd : decode cc pc = .ok (.astore_n n, 1)) (hi : (n : Nat) = i) (hn : i < nL) (hv : (i, Value.ref x) :: lv.filter (fun q => !(q.1 == i) && !(q.1 + 1 == i && q.2.category == 2)) = lv1) (k : Z ws cells slots (pc + 1) lv1 rest) : Z ws cells slots pc lv (.ref x :: rest) := by
  obtain ⟨p, e, s, m, args, below, meth, cd, Q, A, rfl, hx, hb, hml, hown, hts, hN, hZ, hA, hnm, hX⟩ := K
  intro H locs ls hP hD hS hl
  exact lv_astore_n hx hb hd hi hl hn hv (fun ls1 hl1 => k H locs ls1 hP hD hS hl1)
theorem n_iinc {l : Launch} {g : rs_G} {t : Nat × Nat} {cc : ByteArray} {nL : Nat} {own : String} {R : Room} {nm : String} {bL : Bool × Nat × Nat} {xs : Nat → Int32} {Z : cs_Y} (K : cs_K l g t cc nL own R nm bL xs Z) {ws : va_W} {cells slots pc : Nat} {lv : List (Nat × Value)} {rest : List Value} {i : Nat} {n : Int} {x v : Int32} (j : Nat) (lv1 : List (Nat × Value)) (hd : decode cc pc = .ok (.iinc i n, 3)) (hj : lv[j]? = some (i, .int x)) (hx1 : x + Int32.ofInt n = v) (hn : i < nL) (hv : (i, Value.int v) :: lv.filter (fun q => !(q.1 == i) && !(q.1 + 1 == i && q.2.category == 2)) = lv1) (k : Z ws cells slots (pc + 3) lv1 rest) : Z ws cells slots pc lv rest := by
  obtain ⟨p, e, s, m, args, below, meth, cd, Q, A, rfl, hx, hb, hml, hown, hts, hN, hZ, hA, hnm, hX⟩ := K
  intro H locs ls hP hD hS hl
  exact lv_iinc hx hb hd hl hj hx1 hn hv (fun ls1 hl1 => k H locs ls1 hP hD hS hl1)
theorem n_iadd {l : Launch} {g : rs_G} {t : Nat × Nat} {cc : ByteArray} {nL : Nat} {own : String} {R : Room} {nm : String} {bL : Bool × Nat × Nat} {xs : Nat → Int32} {Z : cs_Y} (K : cs_K l g t cc nL own R nm bL xs Z) {ws : va_W} {cells slots pc : Nat} {lv : List (Nat × Value)} {rest : List Value} {x y : Int32} (hd : decode cc pc = .ok (.iadd, 1)) (k : Z ws cells slots (pc + 1) lv (.int (x + y) :: rest)) : Z ws cells slots pc lv (.int y :: .int x :: rest) := by
  obtain ⟨p, e, s, m, args, below, meth, cd, Q, A, rfl, hx, hb, hml, hown, hts, hN, hZ, hA, hnm, hX⟩ := K
  intro H locs ls hP hD hS hl
  exact lv_iadd hx hb hd (k H locs ls hP hD hS hl)
theorem n_isub {l : Launch} {g : rs_G} {t : Nat × Nat} {cc : ByteArray} {nL : Nat} {own : String} {R : Room} {nm : String} {bL : Bool × Nat × Nat} {xs : Nat → Int32} {Z : cs_Y} (K : cs_K l g t cc nL own R nm bL xs Z) {ws : va_W} {cells slots pc : Nat} {lv : List (Nat × Value)} {rest : List Value} {x y : Int32} (hd : decode cc pc = .ok (.isub, 1)) (k : Z ws cells slots (pc + 1) lv (.int (x - y) :: rest)) : Z ws cells slots pc lv (.int y :: .int x :: rest) := by
  obtain ⟨p, e, s, m, args, below, meth, cd, Q, A, rfl, hx, hb, hml, hown, hts, hN, hZ, hA, hnm, hX⟩ := K
  intro H locs ls hP hD hS hl
  exact lv_isub hx hb hd (k H locs ls hP hD hS hl)
theorem n_iand {l : Launch} {g : rs_G} {t : Nat × Nat} {cc : ByteArray} {nL : Nat} {own : String} {R : Room} {nm : String} {bL : Bool × Nat × Nat} {xs : Nat → Int32} {Z : cs_Y} (K : cs_K l g t cc nL own R nm bL xs Z) {ws : va_W} {cells slots pc : Nat} {lv : List (Nat × Value)} {rest : List Value} {x y : Int32} (hd : decode cc pc = .ok (.iand, 1)) (k : Z ws cells slots (pc + 1) lv (.int (x &&& y) :: rest)) : Z ws cells slots pc lv (.int y :: .int x :: rest) := by
  obtain ⟨p, e, s, m, args, below, meth, cd, Q, A, rfl, hx, hb, hml, hown, hts, hN, hZ, hA, hnm, hX⟩ := K
  intro H locs ls hP hD hS hl
  exact lv_iand hx hb hd (k H locs ls hP hD hS hl)
theorem n_dup {l : Launch} {g : rs_G} {t : Nat × Nat} {cc : ByteArray} {nL : Nat} {own : String} {R : Room} {nm : String} {bL : Bool × Nat × Nat} {xs : Nat → Int32} {Z : cs_Y} (K : cs_K l g t cc nL own R nm bL xs Z) {ws : va_W} {cells slots pc : Nat} {lv : List (Nat × Value)} {rest : List Value} {v : Value} (hd : decode cc pc = .ok (.dup, 1)) (hv : v.category = 1) (k : Z ws cells slots (pc + 1) lv (v :: v :: rest)) : Z ws cells slots pc lv (v :: rest) := by
  obtain ⟨p, e, s, m, args, below, meth, cd, Q, A, rfl, hx, hb, hml, hown, hts, hN, hZ, hA, hnm, hX⟩ := K
  intro H locs ls hP hD hS hl
  exact lv_dup hx hb hd hv (k H locs ls hP hD hS hl)
theorem n_goto {l : Launch} {g : rs_G} {t : Nat × Nat} {cc : ByteArray} {nL : Nat} {own : String} {R : Room} {nm : String} {bL : Bool × Nat × Nat} {xs : Nat → Int32} {Z : cs_Y} (K : cs_K l g t cc nL own R nm bL xs Z) {ws : va_W} {cells slots pc : Nat} {lv : List (Nat × Value)} {rest : List Value} {o : Int} (tgt : Nat) (hd : decode cc pc = .ok (.goto o, 3)) (ht : (pc : Int) + o = (tgt : Int)) (k : Z ws cells slots tgt lv rest) : Z ws cells slots pc lv rest := by
  obtain ⟨p, e, s, m, args, below, meth, cd, Q, A, rfl, hx, hb, hml, hown, hts, hN, hZ, hA, hnm, hX⟩ := K
  intro H locs ls hP hD hS hl
  exact lv_goto hx hb hd ht (k H locs ls hP hD hS hl)
theorem n_icmp_eq {l : Launch} {g : rs_G} {t : Nat × Nat} {cc : ByteArray} {nL : Nat} {own : String} {R : Room} {nm : String} {bL : Bool × Nat × Nat} {xs : Nat → Int32} {Z : cs_Y} (K : cs_K l g t cc nL own R nm bL xs Z) {ws : va_W} {cells slots pc : Nat} {lv : List (Nat × Value)} {rest : List Value} {x y : Int32} {o : Int} (tgt : Nat) (hd : decode cc pc = .ok (.if_icmp .eq o, 3)) (ht : (pc : Int) + o = (tgt : Int)) (kt : x = y → Z ws cells slots tgt lv rest) (kf : ¬ x = y → Z ws cells slots (pc + 3) lv rest) : Z ws cells slots pc lv (.int y :: .int x :: rest) := by
  obtain ⟨p, e, s, m, args, below, meth, cd, Q, A, rfl, hx, hb, hml, hown, hts, hN, hZ, hA, hnm, hX⟩ := K
  intro H locs ls hP hD hS hl
  exact lv_icmp_eq hx hb hd ht (fun h => kt h H locs ls hP hD hS hl) (fun h => kf h H locs ls hP hD hS hl)
theorem n_icmp_ge {l : Launch} {g : rs_G} {t : Nat × Nat} {cc : ByteArray} {nL : Nat} {own : String} {R : Room} {nm : String} {bL : Bool × Nat × Nat} {xs : Nat → Int32} {Z : cs_Y} (K : cs_K l g t cc nL own R nm bL xs Z) {ws : va_W} {cells slots pc : Nat} {lv : List (Nat × Value)} {rest : List Value} {x y : Int32} {o : Int} (tgt : Nat) (hd : decode cc pc = .ok (.if_icmp .ge o, 3)) (ht : (pc : Int) + o = (tgt : Int)) (kt : y ≤ x → Z ws cells slots tgt lv rest) (kf : ¬ y ≤ x → Z ws cells slots (pc + 3) lv rest) : Z ws cells slots pc lv (.int y :: .int x :: rest) := by
  obtain ⟨p, e, s, m, args, below, meth, cd, Q, A, rfl, hx, hb, hml, hown, hts, hN, hZ, hA, hnm, hX⟩ := K
  intro H locs ls hP hD hS hl
  exact lv_icmp_ge hx hb hd ht (fun h => kt h H locs ls hP hD hS hl) (fun h => kf h H locs ls hP hD hS hl)
theorem n_icmp_gt {l : Launch} {g : rs_G} {t : Nat × Nat} {cc : ByteArray} {nL : Nat} {own : String} {R : Room} {nm : String} {bL : Bool × Nat × Nat} {xs : Nat → Int32} {Z : cs_Y} (K : cs_K l g t cc nL own R nm bL xs Z) {ws : va_W} {cells slots pc : Nat} {lv : List (Nat × Value)} {rest : List Value} {x y : Int32} {o : Int} (tgt : Nat) (hd : decode cc pc = .ok (.if_icmp .gt o, 3)) (ht : (pc : Int) + o = (tgt : Int)) (kt : y < x → Z ws cells slots tgt lv rest) (kf : ¬ y < x → Z ws cells slots (pc + 3) lv rest) : Z ws cells slots pc lv (.int y :: .int x :: rest) := by
  obtain ⟨p, e, s, m, args, below, meth, cd, Q, A, rfl, hx, hb, hml, hown, hts, hN, hZ, hA, hnm, hX⟩ := K
  intro H locs ls hP hD hS hl
  exact lv_icmp_gt hx hb hd ht (fun h => kt h H locs ls hP hD hS hl) (fun h => kf h H locs ls hP hD hS hl)
theorem n_sub {l : Launch} {g : rs_G} {t : Nat × Nat} {cc : ByteArray} {nL : Nat} {own : String} {R : Room} {nm : String} {bL : Bool × Nat × Nat} {xs : Nat → Int32} {Z : cs_Y} (K : cs_K l g t cc nL own R nm bL xs Z) {ws : va_W} {cells slots pc : Nat} {lv lv1 : List (Nat × Value)} {stk : List Value} (ks : List Nat) (h : lv_pick lv ks = lv1) (k : Z ws cells slots pc lv1 stk) : Z ws cells slots pc lv stk := by
  obtain ⟨p, e, s, m, args, below, meth, cd, Q, A, rfl, hx, hb, hml, hown, hts, hN, hZ, hA, hnm, hX⟩ := K
  intro H locs ls hP hD hS hl
  exact k H locs ls hP hD hS (lv_sub hl ks h)
theorem n_objInit {l : Launch} {g : rs_G} {t : Nat × Nat} {cc : ByteArray} {nL : Nat} {own : String} {R : Room} {nm : String} {bL : Bool × Nat × Nat} {xs : Nat → Int32} {Z : cs_Y} (K : cs_K l g t cc nL own R nm bL xs Z) {ws : va_W} {cells slots pc : Nat} {lv : List (Nat × Value)} {rest : List Value} {idx a : Nat} (hd : decode cc pc = .ok (.invokespecial idx, 3)) (hq : Cond.methodLink own idx (⟨"java/lang/Object", "<init>", "()V"⟩ : MethodName) ∈ rs_T) (hR : 1 ≤ R.frames ∧ 40 ≤ R.locals) (k : Z ws cells slots (pc + 3) lv []) : Z ws cells slots pc lv [.ref a] := by
  obtain ⟨p, e, s, m, args, below, meth, cd, Q, A, rfl, hx, hb, hml, hown, hts, hN, hZ, hA, hnm, hX⟩ := K
  intro H locs ls hP hD hS hl
  exact W.objInit hx hb hown (hts _ hq) (hts _ qw_16) (hts _ qw_17) rfl (by rw [hml]; exact hl.1) rfl hd hR.1 (Nat.le_trans (m := 40) (Nat.le_of_ble_eq_true rfl) hR.2) (k H locs ls hP hD hS hl)
theorem n_new {l : Launch} {g : rs_G} {t : Nat × Nat} {cc : ByteArray} {nL : Nat} {own : String} {R : Room} {nm : String} {bL : Bool × Nat × Nat} {xs : Nat → Int32} {Z : cs_Y} (K : cs_K l g t cc nL own R nm bL xs Z) {ws : va_W} {cells slots pc : Nat} {lv : List (Nat × Value)} {rest : List Value} {C : String} {T : u_T} {N ci idx : Nat} {ty : Nat → FieldType} (fs : List Value) (hin : ∀ w ∈ u_ws C T N, w ∈ rs_T) (hty : ∀ k, k < N → parseFieldDescriptor (T k).2.2.1 = some (ty k)) (hcl : Cond.classLink own idx C ∈ rs_T) (hinst : Cond.instantiable C N ∈ rs_T) (hini : Cond.initialized C ∈ rs_T) (hc : vwCl[ci]? = some (C, T, N)) (hfs : ∀ j, j < N → defaultValue (ty j) = vp_V fs j) (h1 : cells + 1 ≤ R.cells) (h2 : slots + N ≤ R.slots) (hd : decode cc pc = .ok (.new idx, 3)) (k : ∀ q : Nat, Z (ws ++ [(q, .inr (ci, fs))]) (cells + 1) (slots + N) (pc + 3) lv (.ref q :: rest)) : Z ws cells slots pc lv rest := by
  obtain ⟨p, e, s, m, args, below, meth, cd, Q, A, rfl, hx, hb, hml, hown, hts, hN, hZ, hA, hnm, hX⟩ := K
  intro H locs ls hP hD hS hl
  exact va_new hx hb hts hin ty hty hown (hts _ hcl) (hts _ hinst) (hts _ hini) hN.1.1 hP hD hS hA hc hfs h1 h2 hd (fun q H1 hP hD hS => k q H1 locs ls hP hD hS hl)
theorem n_newaI {l : Launch} {g : rs_G} {t : Nat × Nat} {cc : ByteArray} {nL : Nat} {own : String} {R : Room} {nm : String} {bL : Bool × Nat × Nat} {xs : Nat → Int32} {Z : cs_Y} (K : cs_K l g t cc nL own R nm bL xs Z) {ws : va_W} {cells slots pc : Nat} {lv : List (Nat × Value)} {rest : List Value} {n : Int32} {N : Nat} (hn : ¬ n < 0) (hNn : n.toNatClampNeg = N) (hby : N * 4 ≤ 536870912) (h1 : cells + 1 ≤ R.cells) (h2 : slots + N ≤ R.slots) (hd : decode cc pc = .ok (.newarray .int, 2)) (k : ∀ q : Nat, Z (ws ++ [(q, .inl (g.2.1.1, N, .inl (fun _ => 0)))]) (cells + 1) (slots + N) (pc + 2) lv (.ref q :: rest)) : Z ws cells slots pc lv (.int n :: rest) := by
  obtain ⟨p, e, s, m, args, below, meth, cd, Q, A, rfl, hx, hb, hml, hown, hts, hN, hZ, hA, hnm, hX⟩ := K
  intro H locs ls hP hD hS hl
  refine va_newa (atype := .int) (ty := .int) (a0 := (N, .inl (fun _ => 0))) hx hb (hts _ qw_62) rfl hN.1.1 hP hD hS hA (fun _ => rfl) hn hNn hby h1 h2 hd (fun q cA H1 hK hP hD hS => ?_)
  have e := cs_ty hK
  subst e
  exact k q H1 locs ls hP hD hS hl
theorem n_newaZ {l : Launch} {g : rs_G} {t : Nat × Nat} {cc : ByteArray} {nL : Nat} {own : String} {R : Room} {nm : String} {bL : Bool × Nat × Nat} {xs : Nat → Int32} {Z : cs_Y} (K : cs_K l g t cc nL own R nm bL xs Z) {ws : va_W} {cells slots pc : Nat} {lv : List (Nat × Value)} {rest : List Value} {n : Int32} {N : Nat} (hn : ¬ n < 0) (hNn : n.toNatClampNeg = N) (hby : N * 4 ≤ 536870912) (h1 : cells + 1 ≤ R.cells) (h2 : slots + N ≤ R.slots) (hd : decode cc pc = .ok (.newarray .boolean, 2)) (k : ∀ q : Nat, Z (ws ++ [(q, .inl (g.2.1.2.1, N, .inl (fun _ => 0)))]) (cells + 1) (slots + N) (pc + 2) lv (.ref q :: rest)) : Z ws cells slots pc lv (.int n :: rest) := by
  obtain ⟨p, e, s, m, args, below, meth, cd, Q, A, rfl, hx, hb, hml, hown, hts, hN, hZ, hA, hnm, hX⟩ := K
  intro H locs ls hP hD hS hl
  refine va_newa (atype := .boolean) (ty := .boolean) (a0 := (N, .inl (fun _ => 0))) hx hb (hts _ qw_135) rfl hN.1.1 hP hD hS hA (fun _ => rfl) hn hNn (Nat.le_trans (Nat.mul_le_mul_left N (show componentBytes .boolean ≤ 4 by decide)) hby) h1 h2 hd (fun q cA H1 hK hP hD hS => ?_)
  have e := cs_tyZ hK
  subst e
  exact k q H1 locs ls hP hD hS hl
theorem n_newqS {l : Launch} {g : rs_G} {t : Nat × Nat} {cc : ByteArray} {nL : Nat} {own : String} {R : Room} {nm : String} {bL : Bool × Nat × Nat} {xs : Nat → Int32} {Z : cs_Y} (K : cs_K l g t cc nL own R nm bL xs Z) {ws : va_W} {cells slots pc : Nat} {lv : List (Nat × Value)} {rest : List Value} {n : Int32} {N idx : Nat} (hcl : Cond.classLink own idx RX4 ∈ rs_T) (hn : ¬ n < 0) (hNn : n.toNatClampNeg = N) (hby : N * 4 ≤ 536870912) (h1 : cells + 1 ≤ R.cells) (h2 : slots + N ≤ R.slots) (hd : decode cc pc = .ok (.anewarray idx, 3)) (k : ∀ q : Nat, Z (ws ++ [(q, .inl (g.2.1.2.2.1, N, .inr (.inr (.inr (.inr (fun _ => none))))))]) (cells + 1) (slots + N) (pc + 3) lv (.ref q :: rest)) : Z ws cells slots pc lv (.int n :: rest) := by
  obtain ⟨p, e, s, m, args, below, meth, cd, Q, A, rfl, hx, hb, hml, hown, hts, hN, hZ, hA, hnm, hX⟩ := K
  intro H locs ls hP hD hS hl
  refine va_newq (C := RX4) hx hb hown (hts _ hcl) hN.2.1 hN.1.1 hP hD hS hA hn hNn hby h1 h2 hd (fun q cA H1 hK hP hD hS => ?_)
  have e := cs_tyS hK
  subst e
  exact k q H1 locs ls hP hD hS hl
theorem n_newqL {l : Launch} {g : rs_G} {t : Nat × Nat} {cc : ByteArray} {nL : Nat} {own : String} {R : Room} {nm : String} {bL : Bool × Nat × Nat} {xs : Nat → Int32} {Z : cs_Y} (K : cs_K l g t cc nL own R nm bL xs Z) {ws : va_W} {cells slots pc : Nat} {lv : List (Nat × Value)} {rest : List Value} {n : Int32} {N idx : Nat} (hcl : Cond.classLink own idx RX1 ∈ rs_T) (hn : ¬ n < 0) (hNn : n.toNatClampNeg = N) (hby : N * 4 ≤ 536870912) (h1 : cells + 1 ≤ R.cells) (h2 : slots + N ≤ R.slots) (hd : decode cc pc = .ok (.anewarray idx, 3)) (k : ∀ q : Nat, Z (ws ++ [(q, .inl (g.2.1.2.2.2, N, .inr (.inr (.inr (.inr (fun _ => none))))))]) (cells + 1) (slots + N) (pc + 3) lv (.ref q :: rest)) : Z ws cells slots pc lv (.int n :: rest) := by
  obtain ⟨p, e, s, m, args, below, meth, cd, Q, A, rfl, hx, hb, hml, hown, hts, hN, hZ, hA, hnm, hX⟩ := K
  intro H locs ls hP hD hS hl
  refine va_newq (C := RX1) hx hb hown (hts _ hcl) hN.2.2 hN.1.1 hP hD hS hA hn hNn hby h1 h2 hd (fun q cA H1 hK hP hD hS => ?_)
  have e := cs_tyL hK
  subst e
  exact k q H1 locs ls hP hD hS hl
theorem n_putI {l : Launch} {g : rs_G} {t : Nat × Nat} {cc : ByteArray} {nL : Nat} {own : String} {R : Room} {nm : String} {bL : Bool × Nat × Nat} {xs : Nat → Int32} {Z : cs_Y} (K : cs_K l g t cc nL own R nm bL xs Z) {ws : va_W} {cells slots pc : Nat} {lv : List (Nat × Value)} {rest : List Value} {a ci j idx : Nat} {fs : List Value} {C fn ds : String} {ty : FieldType} {x : Int32} (q0 : Nat) (he : ws[q0]? = some (a, .inr (ci, fs))) (ff : rs_ff ci j C fn ds ty false) (hq : Cond.fieldLink own idx C fn ds ∈ rs_T) (hn : narrow ty (.int x) = .int x) (hf : fits ty (.int x) = true) (hj : j < fs.length) (hd : decode cc pc = .ok (.putfield idx, 3)) (k : Z (ws.set q0 (a, .inr (ci, fs.set j (.int x)))) cells slots (pc + 3) lv rest) : Z ws cells slots pc lv (.int x :: .ref a :: rest) := by
  obtain ⟨p, e, s, m, args, below, meth, cd, Q, A, rfl, hx, hb, hml, hown, hts, hN, hZ, hA, hnm, hX⟩ := K
  intro H locs ls hP hD hS hl
  obtain ⟨Cn, T, N, ty0, f1, f2, f3, f4, f5, f6, f7⟩ := ff
  exact va_put (ref := C) hx hb hts f4 ty0 f5 f6 hown hN.1.1 hP hD hS q0 he f1 j f2 (by rw [f3]; exact hts _ hq) (fun _ h9 => by rw [f3] at h9 ⊢; exact h9) (by rw [f3]) (by rw [f3]; exact f7) hn hf hj hd (fun H1 locs1 hP hD hS => k H1 locs1 ls hP hD hS hl)
theorem n_putF {l : Launch} {g : rs_G} {t : Nat × Nat} {cc : ByteArray} {nL : Nat} {own : String} {R : Room} {nm : String} {bL : Bool × Nat × Nat} {xs : Nat → Int32} {Z : cs_Y} (K : cs_K l g t cc nL own R nm bL xs Z) {ws : va_W} {cells slots pc : Nat} {lv : List (Nat × Value)} {rest : List Value} {a ci j idx : Nat} {fs : List Value} {C fn ds : String} {ty : FieldType} {v : Value} (hnm1 : nm = "<init>") (hC : C = own) (q0 : Nat) (he : ws[q0]? = some (a, .inr (ci, fs))) (ff : rs_ff ci j C fn ds ty true) (hq : Cond.fieldLink own idx C fn ds ∈ rs_T) (hn : narrow ty v = v) (hf : fits ty v = true) (hj : j < fs.length) (hd : decode cc pc = .ok (.putfield idx, 3)) (k : Z (ws.set q0 (a, .inr (ci, fs.set j v))) cells slots (pc + 3) lv rest) : Z ws cells slots pc lv (v :: .ref a :: rest) := by
  obtain ⟨p, e, s, m, args, below, meth, cd, Q, A, rfl, hx, hb, hml, hown, hts, hN, hZ, hA, hnm, hX⟩ := K
  intro H locs ls hP hD hS hl
  obtain ⟨Cn, T, N, ty0, f1, f2, f3, f4, f5, f6, f7⟩ := ff
  exact va_putF (ref := C) hx hb hts f4 ty0 f5 f6 hown hN.1.1 hP hD hS q0 he f1 j f2 (by rw [f3]; exact hts _ hq) (fun _ h9 => by rw [f3] at h9 ⊢; exact h9) (by rw [f3]) (hnm.trans hnm1) (by rw [f3]; exact hC) (by rw [f3]; exact f7) hn hf hj hd (fun H1 locs1 hP hD hS => k H1 locs1 ls hP hD hS hl)
theorem n_get {l : Launch} {g : rs_G} {t : Nat × Nat} {cc : ByteArray} {nL : Nat} {own : String} {R : Room} {nm : String} {bL : Bool × Nat × Nat} {xs : Nat → Int32} {Z : cs_Y} (K : cs_K l g t cc nL own R nm bL xs Z) {ws : va_W} {cells slots pc : Nat} {lv : List (Nat × Value)} {rest : List Value} {a ci j idx : Nat} {fs : List Value} {C fn ds : String} {ty : FieldType} {fin : Bool} {v : Value} (q0 : Nat) (he : ws[q0]? = some (a, .inr (ci, fs))) (ff : rs_ff ci j C fn ds ty fin) (hq : Cond.fieldLink own idx C fn ds ∈ rs_T) (hv : fs[j]? = some v) (hd : decode cc pc = .ok (.getfield idx, 3)) (k : Z ws cells slots (pc + 3) lv (v :: rest)) : Z ws cells slots pc lv (.ref a :: rest) := by
  obtain ⟨p, e, s, m, args, below, meth, cd, Q, A, rfl, hx, hb, hml, hown, hts, hN, hZ, hA, hnm, hX⟩ := K
  intro H locs ls hP hD hS hl
  obtain ⟨Cn, T, N, ty0, f1, f2, f3, f4, f5, f6, f7⟩ := ff
  exact va_get (ref := C) hx hb hts f4 hown hN.1.1 hP q0 he f1 j f2 (by rw [f3]; exact hts _ hq) (fun _ h9 => by rw [f3] at h9 ⊢; exact h9) hv hd (k H locs ls hP hD hS hl)
theorem n_aastS {l : Launch} {g : rs_G} {t : Nat × Nat} {cc : ByteArray} {nL : Nat} {own : String} {R : Room} {nm : String} {bL : Bool × Nat × Nat} {xs : Nat → Int32} {Z : cs_Y} (K : cs_K l g t cc nL own R nm bL xs Z) {ws : va_W} {cells slots pc : Nat} {lv : List (Nat × Value)} {rest : List Value} {a v n : Nat} {vs : List Value} {f : Nat → Option Nat} {i : Int32} (q0 qk : Nat) (ha : ws[q0]? = some (a, .inl (g.2.1.2.2.1, n, .inr (.inr (.inr (.inr f)))))) (hv : ws[qk]? = some (v, .inr (4, vs))) (hin : vp_in i n) (hd : decode cc pc = .ok (.aastore, 1)) (k : Z (ws.set q0 (a, .inl (g.2.1.2.2.1, n, .inr (.inr (.inr (.inr (va_up f i.toNatClampNeg (some v)))))))) cells slots (pc + 1) lv rest) : Z ws cells slots pc lv (.ref v :: .int i :: .ref a :: rest) := by
  obtain ⟨p, e, s, m, args, below, meth, cd, Q, A, rfl, hx, hb, hml, hown, hts, hN, hZ, hA, hnm, hX⟩ := K
  intro H locs ls hP hD hS hl
  exact va_astq hx hb hN.1.1 hP hD hS q0 2 qk 4 ha rfl hv rfl hin hd (fun H1 locs1 hP hD hS => k H1 locs1 ls hP hD hS hl)
theorem n_aastL {l : Launch} {g : rs_G} {t : Nat × Nat} {cc : ByteArray} {nL : Nat} {own : String} {R : Room} {nm : String} {bL : Bool × Nat × Nat} {xs : Nat → Int32} {Z : cs_Y} (K : cs_K l g t cc nL own R nm bL xs Z) {ws : va_W} {cells slots pc : Nat} {lv : List (Nat × Value)} {rest : List Value} {a v n : Nat} {vs : List Value} {f : Nat → Option Nat} {i : Int32} (q0 qk : Nat) (ha : ws[q0]? = some (a, .inl (g.2.1.2.2.2, n, .inr (.inr (.inr (.inr f)))))) (hv : ws[qk]? = some (v, .inr (1, vs))) (hin : vp_in i n) (hd : decode cc pc = .ok (.aastore, 1)) (k : Z (ws.set q0 (a, .inl (g.2.1.2.2.2, n, .inr (.inr (.inr (.inr (va_up f i.toNatClampNeg (some v)))))))) cells slots (pc + 1) lv rest) : Z ws cells slots pc lv (.ref v :: .int i :: .ref a :: rest) := by
  obtain ⟨p, e, s, m, args, below, meth, cd, Q, A, rfl, hx, hb, hml, hown, hts, hN, hZ, hA, hnm, hX⟩ := K
  intro H locs ls hP hD hS hl
  exact va_astq hx hb hN.1.1 hP hD hS q0 3 qk 1 ha rfl hv rfl hin hd (fun H1 locs1 hP hD hS => k H1 locs1 ls hP hD hS hl)
theorem n_init {l : Launch} {g : rs_G} {t : Nat × Nat} {cc : ByteArray} {nL : Nat} {own : String} {R : Room} {nm : String} {bL : Bool × Nat × Nat} {xs : Nat → Int32} {Z : cs_Y} (K : cs_K l g t cc nL own R nm bL xs Z) {ws : va_W} {cells slots pc : Nat} {lv : List (Nat × Value)} {rest : List Value} {y : MethodName} {c1 : ByteArray} {n1 d1 mc ms ci idx q : Nat} {fs : List Value} {kw : (Nat → Nat) × rs_M → va_W} {φ : rs_M → Prop} (hM : cs_C l g t y c1 n1 d1 mc ms ci fs kw φ) (mf : rs_mf y c1 n1 none 0) (hni : y.name = "<init>") (h1 : Cond.instanceMethod y ∈ rs_T) (hq : Cond.methodLink own idx y ∈ rs_T) (hR : d1 + 1 ≤ R.frames ∧ 40 * (d1 + 1) ≤ R.locals) (hc : cells + mc ≤ R.cells ∧ slots + ms ≤ R.slots) (hd : decode cc pc = .ok (.invokespecial idx, 3)) (hc0 : (rest.map fun v => v.category).sum ≤ 8) (k : ∀ u : (Nat → Nat) × rs_M, (u.1 0 = q ∧ φ u.2) → Z (ws ++ kw u) (cells + mc) (slots + ms) (pc + 3) lv rest) : Z (ws ++ [(q, .inr (ci, fs))]) cells slots pc lv (.ref q :: rest) := by
  obtain ⟨p, e, s, m, args, below, meth, cd, Q, A, rfl, hx, hb, hml, hown, hts, hN, hZ, hA, hnm, hX⟩ := K
  intro H locs ls hP hD hS hl
  have hF : ∀ x, va_A [(q, .inr (ci, fs))] H.size x → A x := va_free hD hS hA [ws.length] (cs_hC ws _)
  have hPq : va_P g.1 vwCl [(q, .inr (ci, fs))] H := cs_P_mem.mpr (fun x hx => cs_P_mem.mp hP x (List.mem_append_right _ hx))
  have hDq : va_D (fun _ => True) [(q, .inr (ci, fs))] := ⟨fun i j p q hi hj _ => by
    have a1 := (List.getElem?_eq_some_iff.mp hi).1
    have a2 := (List.getElem?_eq_some_iff.mp hj).1
    simp only [List.length_singleton] at a1 a2
    omega, fun _ _ _ => trivial⟩
  refine va_callv (va_runI (As := []) (rest := rest) ⟨hx, hb, hml, hown, hts⟩ (hM q H.size) ⟨callB_of 0 hts (rs_good mf.1) rfl rfl rfl (hts _ mf.2.1) (hts _ hq) mf.2.2.1 ⟨hR.1, by have h1 := mf.2.2.2; have h2 := hR.2; show 8 + (n1 + 11) + 40 * d1 ≤ R.locals; omega⟩, hni, hts _ h1⟩ ⟨fun a U gf mk z => by
    obtain ⟨z0, z1, zP, zN, zD, zZ⟩ := z
    exact ⟨z0, z1, zP, cs_N.same zN rfl, zD, rs_Z.moved (u := U) (U := U.calling gf mk a) (Vm.Alike.refl U.vm) zZ⟩, fun U hU hW => ⟨rfl, by rw [hU], by rw [hU]; exact hPq, hN.warm hW, hDq, cs_Z_sub hZ hS hF hU hW⟩⟩ rfl rfl hl.1 rfl (lv_room hc0) hd hc) hS (fun x _ h => hF x h) hF (fun u t1 H1 locs1 ht hvm hw hB hz1 hk1 hS => ?_)
  obtain ⟨hP1, hD1⟩ := hB
  obtain ⟨hP, hD⟩ := cs_join hP hD hk1 hF (by rw [← ht]; exact hP1) hD1
  exact k u hw H1 locs1 ls hP hD hS hl
theorem n_initN {l : Launch} {g : rs_G} {t : Nat × Nat} {cc : ByteArray} {nL : Nat} {own : String} {R : Room} {nm : String} {bL : Bool × Nat × Nat} {xs : Nat → Int32} {Z : cs_Y} (K : cs_K l g t cc nL own R nm bL xs Z) {ws : va_W} {cells slots pc : Nat} {lv : List (Nat × Value)} {rest : List Value} {y : MethodName} {c1 : ByteArray} {n1 d1 mc ms ci idx q : Nat} {fs : List Value} {kw : (Nat → Nat) × rs_M → va_W} {φ : rs_M → Prop} (hM : cs_C l g t y c1 n1 d1 mc ms ci fs kw φ) (mf : rs_mf y c1 n1 none 0) (hni : y.name = "<init>") (h1 : Cond.instanceMethod y ∈ rs_T) (hq : (own, idx, y) ∈ rs_nest) (hR : d1 + 1 ≤ R.frames ∧ 40 * (d1 + 1) ≤ R.locals) (hc : cells + mc ≤ R.cells ∧ slots + ms ≤ R.slots) (hd : decode cc pc = .ok (.invokespecial idx, 3)) (hc0 : (rest.map fun v => v.category).sum ≤ 8) (k : ∀ u : (Nat → Nat) × rs_M, (u.1 0 = q ∧ φ u.2) → Z (ws ++ kw u) (cells + mc) (slots + ms) (pc + 3) lv rest) : Z (ws ++ [(q, .inr (ci, fs))]) cells slots pc lv (.ref q :: rest) := by
  obtain ⟨p, e, s, m, args, below, meth, cd, Q, A, rfl, hx, hb, hml, hown, hts, hN, hZ, hA, hnm, hX⟩ := K
  intro H locs ls hP hD hS hl
  have hF : ∀ x, va_A [(q, .inr (ci, fs))] H.size x → A x := va_free hD hS hA [ws.length] (cs_hC ws _)
  have hPq : va_P g.1 vwCl [(q, .inr (ci, fs))] H := cs_P_mem.mpr (fun x hx => cs_P_mem.mp hP x (List.mem_append_right _ hx))
  have hDq : va_D (fun _ => True) [(q, .inr (ci, fs))] := ⟨fun i j p q hi hj _ => by
    have a1 := (List.getElem?_eq_some_iff.mp hi).1
    have a2 := (List.getElem?_eq_some_iff.mp hj).1
    simp only [List.length_singleton] at a1 a2
    omega, fun _ _ _ => trivial⟩
  refine va_callv (va_runIN (As := []) (rest := rest) ⟨hx, hb, hml, hown, hts⟩ (hM q H.size) ⟨va_cnB 0 hts (rs_good mf.1) rfl rfl rfl (hN.1.2 _ hq) (hts _ mf.2.1) mf.2.2.1 ⟨hR.1, by have h1 := mf.2.2.2; have h2 := hR.2; show 8 + (n1 + 11) + 40 * d1 ≤ R.locals; omega⟩, hni, hts _ h1⟩ ⟨fun a U gf mk z => by
    obtain ⟨z0, z1, zP, zN, zD, zZ⟩ := z
    exact ⟨z0, z1, zP, cs_N.same zN rfl, zD, rs_Z.moved (u := U) (U := U.calling gf mk a) (Vm.Alike.refl U.vm) zZ⟩, fun U hU hW => ⟨rfl, by rw [hU], by rw [hU]; exact hPq, hN.warm hW, hDq, cs_Z_sub hZ hS hF hU hW⟩⟩ rfl rfl hl.1 rfl (lv_room hc0) hd hc) hS (fun x _ h => hF x h) hF (fun u t1 H1 locs1 ht hvm hw hB hz1 hk1 hS => ?_)
  obtain ⟨hP1, hD1⟩ := hB
  obtain ⟨hP, hD⟩ := cs_join hP hD hk1 hF (by rw [← ht]; exact hP1) hD1
  exact k u hw H1 locs1 ls hP hD hS hl
theorem n_begins {l : Launch} {g : rs_G} {t : Nat × Nat} {cc : ByteArray} {nL : Nat} {own : String} {R : Room} {nm : String} {bL : Bool × Nat × Nat} {xs : Nat → Int32} {Z : cs_Y} (K : cs_K l g t cc nL own R nm bL xs Z) {ws : va_W} {cells slots pc : Nat} {lv : List (Nat × Value)} {rest : List Value} {ad : Nat → Nat} {M : rs_M} {idx : Nat} (hws : ws = rs_ws (g.1, g.2.1, ad) mk M) (hq : Cond.methodLink own idx yX6_begins ∈ rs_T) (hR : 1 ≤ R.frames ∧ 40 ≤ R.locals) (hc : cells ≤ R.cells ∧ slots ≤ R.slots) (hc0 : (rest.map fun v => v.category).sum ≤ 8) (hd : decode cc pc = .ok (.invokestatic idx, 3)) (k : ∀ M1 : rs_M, (m_row (M1 1) ab_L0 ∧ ∀ c, c ≠ 1 → M1 c = M c) → Z (rs_ws (g.1, g.2.1, ad) mk M1) cells slots (pc + 3) lv rest) : Z ws cells slots pc lv (.ref (ad 1) :: rest) := by
  obtain ⟨p, e, s, m, args, below, meth, cd, Q, A, rfl, hx, hb, hml, hown, hts, hN, hZ, hA, hnm, hX⟩ := K
  intro H locs ls hP hD hS hl
  subst hws
  have hF : ∀ q, rs_A (g.1, g.2.1, ad) mk H.size q → A q := fun q h => by
    rcases h with ⟨c, c1, rfl⟩ | h
    · obtain ⟨kk, hkk⟩ : ∃ kk, mk[c]? = some kk := ⟨_, List.getElem?_eq_getElem c1⟩
      exact hD.2 c _ (rs_ws_get hkk)
    · exact hA q (Nat.le_trans hS.1 h)
  refine va_callv (va_runS (As := [.ref (ad 1)]) (rest := rest) ⟨hx, hb, hml, hown, hts⟩ (cm_begins l (g.1, g.2.1, ad) t M 1 (Or.inl rfl) H.size) ⟨rs_cB hts mf_X6_begins hq hR, hts _ qw_542⟩ ⟨rs_blind _ (g.1, g.2.1, ad) mk t M H.size, fun U hU hW => ⟨rfl, by rw [hU], by rw [hU]; exact hP, hN.1.warm hW, rs_D_any hD, cs_Z_sub hZ hS hF hU hW⟩⟩ rfl rfl hl.1 rfl (lv_room hc0) hd hc) hS (fun x _ h => hF x h) hF (fun u t1 H1 locs1 ht hvm hw hB hz1 hk1 hS => ?_)
  exact k u hw H1 locs1 ls (by rw [← ht]; exact hB.1) (hB.2.weaken (fun _ _ _ h => hF _ h)) hS hl
theorem n_ws {Z : cs_Y} {ws ws1 : va_W} {cells slots pc : Nat} {lv : List (Nat × Value)} {stk : List Value} (h : ws = ws1) (k : Z ws1 cells slots pc lv stk) : Z ws cells slots pc lv stk := h ▸ k
theorem n_cs {Z : cs_Y} {ws : va_W} {cells slots c1 s1 pc : Nat} {lv : List (Nat × Value)} {stk : List Value} (h : cells = c1) (h2 : slots = s1) (k : Z ws c1 s1 pc lv stk) : Z ws cells slots pc lv stk := by subst h; subst h2; exact k
theorem cs_up (L : List Nat) (q : Nat) : va_up (fun i => L[i]?) L.length (some q) = fun i => (L ++ [q])[i]? := by
  funext i
  unfold va_up
  by_cases e : i = L.length
  · subst e; rw [if_pos rfl]; simp
  · rw [if_neg e]
    rcases Nat.lt_or_ge i L.length with h | h
    · rw [List.getElem?_append_left h]
    · show L[i]? = _
      rw [List.getElem?_eq_none h, List.getElem?_eq_none (by simp; omega)]
theorem cs_last (ws : va_W) (x : Nat × va_E) : (ws ++ [x])[ws.length]? = some x := by simp
