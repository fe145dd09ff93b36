theorem rs_good {w : Cond} (h : w ∈ rs_T) : GoodIn rs_T (w :: rs_T) := fun v hv => by
  rcases List.mem_cons.mp hv with e | e
  · subst e; exact ⟨h, good_of_word (rs_T_good _ h)⟩
  · exact ⟨e, good_of_word (rs_T_good _ e)⟩
theorem rs_blind (av : List Value) (g : rs_G) (kd : List rs_k) (t : Nat × Nat) (M : rs_M) (sz : Nat) : FrameBlind (va_Pc av (rs_pre g kd t M sz)) := fun a U gf mk q => by
  obtain ⟨q0, q1, qP, qN, qD, qZ⟩ := q
  exact ⟨q0, q1, qP, rs_N.same qN rfl, qD, rs_Z.moved (u := U) (U := U.calling gf mk a) (Vm.Alike.refl U.vm) qZ⟩
theorem rs_D_any {g : rs_G} {kd : List rs_k} {M : rs_M} {A : Nat → Prop} {sz : Nat} (h : va_D A (rs_ws g kd M)) : va_D (rs_A g kd sz) (rs_ws g kd M) := h.weaken (fun k q hk _ => by
  obtain ⟨h1, h2⟩ := rs_ws_inv hk
  exact Or.inl ⟨k, h1, h2⟩)
/-- a callee's start, out of the caller's state -/
theorem rs_pre_at {g : rs_G} {kd : List rs_k} {t : Nat × Nat} {M : rs_M} {s : State} {H : Heap} {locs : List Loc} (hN : rs_N g s) (hZ : rs_Z t (rs_A g kd s.heap.size) s s.heap) (hI : rs_I g kd s M H locs) {U : State} (hU : U.heap = H) (hW : s.WarmedH U.vm) : rs_pre g kd t M H.size U := by
  refine ⟨by rw [hU], by rw [hU]; exact hI.1, hN.warm hW, rs_D_any hI.2.1, ?_⟩
  rw [hU]
  exact ((hZ.kept (fun a h1 h2 => hI.2.2.2.1 a h1 h2)).narrow (rs_A_mono hI.2.2.1)).moved hW.alike
/-- what is known of a method: its code, its class, how many arguments -/
def rs_mf (y : MethodName) (cc : ByteArray) (n : Nat) (ret : Option FieldType) (k : Nat) : Prop := Cond.code y cc n ret ∈ rs_T ∧ Cond.initialized y.cls ∈ rs_T ∧ (y.cls ≠ "java/lang/invoke/MethodHandle" ∧ y.cls ≠ "java/lang/invoke/VarHandle" ∧ (parseMethodDescriptor y.desc).map (fun d => d.parameters.length) = some k) ∧ n ≤ 16
theorem rs_cB {R : Room} {s : State} {args : Array Value} {own : String} {idx : Nat} {y : MethodName} {cc : ByteArray} {n : Nat} {ret : Option FieldType} {k d : Nat} (hts : ∀ w ∈ rs_T, w.before args s = true) (mf : rs_mf y cc n ret k) (hq : Cond.methodLink own idx y ∈ rs_T) (hR : d + 1 ≤ R.frames ∧ 40 * (d + 1) ≤ R.locals) : CallB R s args own idx y cc n ret (.code y cc n ret :: rs_T) (rs_R d) 0 0 k :=
  callB_of k hts (rs_good mf.1) rfl rfl rfl (hts _ mf.2.1) (hts _ hq) mf.2.2.1 ⟨hR.1, by have h1 := mf.2.2.2; have h2 := hR.2; show 8 + (n + 11) + 40 * d ≤ R.locals; omega⟩
theorem rs_cN {R : Room} {s : State} {args : Array Value} {own : String} {idx : Nat} {y : MethodName} {cc : ByteArray} {n : Nat} {ret : Option FieldType} {k d : Nat} {g : rs_G} (hts : ∀ w ∈ rs_T, w.before args s = true) (mf : rs_mf y cc n ret k) (hN : rs_N g s) (hq : (own, idx, y) ∈ rs_nest) (hR : d + 1 ≤ R.frames ∧ 40 * (d + 1) ≤ R.locals) : va_CN R s args own idx y "RingSteer" cc n ret (.code y cc n ret :: rs_T) (rs_R d) 0 0 k :=
  va_cnB k hts (rs_good mf.1) rfl rfl rfl (hN.2 _ hq) (hts _ mf.2.1) mf.2.2.1 ⟨hR.1, by have h1 := mf.2.2.2; have h2 := hR.2; show 8 + (n + 11) + 40 * d ≤ R.locals; omega⟩
theorem rs_dR {d' d : Nat} (h : d' < d) : d' + 1 ≤ (rs_R d).frames ∧ 40 * (d' + 1) ≤ (rs_R d).locals := ⟨h, by show 40 * (d' + 1) ≤ 40 * d; omega⟩
theorem r_callVi {l : Launch} {g : rs_G} {kd : List rs_k} {t : Nat × Nat} {cc : ByteArray} {nL : Nat} {own : String} {d : Nat} {Y : rs_Y} (K : rs_K l g kd t cc nL own d Y) {M : rs_M} {pc : Nat} {lv : List (Nat × Value)} {stk : List Value} {y : MethodName} {c1 : ByteArray} {n1 d1 ka idx : Nat} {rt : FieldType} {post : Int32 → rs_M → Prop} (As rest : List Value) (hd : decode cc pc = .ok (.invokevirtual idx, 3)) (mf : rs_mf y c1 n1 (some rt) ka) {c ti n : Nat} {refs : List Nat} {T : u_T} {N : Nat} (hk : kd[c]? = some (ti + 4, n, refs)) (hcl : vwCl[ti]? = some (y.cls, T, N)) (hq : Cond.methodLink own idx y ∈ rs_T) (h1 : Cond.instanceMethod y ∈ rs_T) (h2 : Cond.selects y.cls y y ∈ rs_T) (hM : rs_Ci l g kd t y c1 n1 rt d1 (.ref (g.2.2 c) :: As) M post) (hst : stk = As.reverse ++ .ref (g.2.2 c) :: rest) (hn : As.length = ka) (hdd : d1 < d) (hc0 : (rest.map fun v => v.category).sum ≤ 8) (k : ∀ (r : Int32) (M1 : rs_M), post r M1 → Y M1 (pc + 3) lv (.int r :: rest)) : Y M pc lv stk := by
  obtain ⟨p, e, s, m, args, below, meth, cd, Q, rfl, hx, hb, hml, hown, hts, hN, hZ⟩ := K
  intro H locs ls hI hl
  subst hst
  refine va_calli (va_runV (As := As) (rest := rest) ⟨hx, hb, hml, hown, hts⟩ (hM H.size) ⟨rs_cB hts mf hq (rs_dR hdd), hts _ h1, hts _ h2⟩ ⟨rs_blind _ g kd t M H.size, va_recv hN.1 hI.1 hcl (rs_ws_get hk), fun U hU hW => ⟨rfl, rs_pre_at hN hZ hI hU hW⟩⟩ rfl hn hl.1 rfl (lv_room hc0) hd ⟨Nat.le_refl 0, Nat.le_refl 0⟩) hI.2.2 (fun q _ h => rs_A_mono hI.2.2.1 q h) (rs_A_mono hI.2.2.1) (fun r u t1 H1 locs1 ht hvm hw hB hz1 hk1 hS => ?_)
  exact k r u hw H1 locs1 ls ⟨by rw [← ht]; exact hB.1, rs_D_any hB.2, hS⟩ hl
theorem r_callVv {l : Launch} {g : rs_G} {kd : List rs_k} {t : Nat × Nat} {cc : ByteArray} {nL : Nat} {own : String} {d : Nat} {Y : rs_Y} (K : rs_K l g kd t cc nL own d Y) {M : rs_M} {pc : Nat} {lv : List (Nat × Value)} {stk : List Value} {y : MethodName} {c1 : ByteArray} {n1 d1 ka idx : Nat} {post : rs_M → Prop} (As rest : List Value) (hd : decode cc pc = .ok (.invokevirtual idx, 3)) (mf : rs_mf y c1 n1 none ka) {c ti n : Nat} {refs : List Nat} {T : u_T} {N : Nat} (hk : kd[c]? = some (ti + 4, n, refs)) (hcl : vwCl[ti]? = some (y.cls, T, N)) (hq : Cond.methodLink own idx y ∈ rs_T) (h1 : Cond.instanceMethod y ∈ rs_T) (h2 : Cond.selects y.cls y y ∈ rs_T) (hM : rs_Cv l g kd t y c1 n1 d1 (.ref (g.2.2 c) :: As) M post) (hst : stk = As.reverse ++ .ref (g.2.2 c) :: rest) (hn : As.length = ka) (hdd : d1 < d) (hc0 : (rest.map fun v => v.category).sum ≤ 8) (k : ∀ M1 : rs_M, post M1 → Y M1 (pc + 3) lv rest) : Y M pc lv stk := by
  obtain ⟨p, e, s, m, args, below, meth, cd, Q, rfl, hx, hb, hml, hown, hts, hN, hZ⟩ := K
  intro H locs ls hI hl
  subst hst
  refine va_callv (va_runV (As := As) (rest := rest) ⟨hx, hb, hml, hown, hts⟩ (hM H.size) ⟨rs_cB hts mf hq (rs_dR hdd), hts _ h1, hts _ h2⟩ ⟨rs_blind _ g kd t M H.size, va_recv hN.1 hI.1 hcl (rs_ws_get hk), fun U hU hW => ⟨rfl, rs_pre_at hN hZ hI hU hW⟩⟩ rfl hn hl.1 rfl (lv_room hc0) hd ⟨Nat.le_refl 0, Nat.le_refl 0⟩) hI.2.2 (fun q _ h => rs_A_mono hI.2.2.1 q h) (rs_A_mono hI.2.2.1) (fun u t1 H1 locs1 ht hvm hw hB hz1 hk1 hS => ?_)
  exact k u hw H1 locs1 ls ⟨by rw [← ht]; exact hB.1, rs_D_any hB.2, hS⟩ hl
theorem r_callVr {l : Launch} {g : rs_G} {kd : List rs_k} {t : Nat × Nat} {cc : ByteArray} {nL : Nat} {own : String} {d : Nat} {Y : rs_Y} (K : rs_K l g kd t cc nL own d Y) {M : rs_M} {pc : Nat} {lv : List (Nat × Value)} {stk : List Value} {y : MethodName} {c1 : ByteArray} {n1 d1 ka idx : Nat} {rt : FieldType} {post : Nat → rs_M → Prop} (As rest : List Value) (hd : decode cc pc = .ok (.invokevirtual idx, 3)) (mf : rs_mf y c1 n1 (some rt) ka) {c ti n : Nat} {refs : List Nat} {T : u_T} {N : Nat} (hk : kd[c]? = some (ti + 4, n, refs)) (hcl : vwCl[ti]? = some (y.cls, T, N)) (hq : Cond.methodLink own idx y ∈ rs_T) (h1 : Cond.instanceMethod y ∈ rs_T) (h2 : Cond.selects y.cls y y ∈ rs_T) (hM : rs_Cr l g kd t y c1 n1 rt d1 (.ref (g.2.2 c) :: As) M post) (hst : stk = As.reverse ++ .ref (g.2.2 c) :: rest) (hn : As.length = ka) (hdd : d1 < d) (hc0 : (rest.map fun v => v.category).sum ≤ 8) (k : ∀ (r : Nat) (M1 : rs_M), post r M1 → Y M1 (pc + 3) lv (.ref (g.2.2 r) :: rest)) : Y M pc lv stk := by
  obtain ⟨p, e, s, m, args, below, meth, cd, Q, rfl, hx, hb, hml, hown, hts, hN, hZ⟩ := K
  intro H locs ls hI hl
  subst hst
  refine va_callr (va_runV (As := As) (rest := rest) ⟨hx, hb, hml, hown, hts⟩ (hM H.size) ⟨rs_cB hts mf hq (rs_dR hdd), hts _ h1, hts _ h2⟩ ⟨rs_blind _ g kd t M H.size, va_recv hN.1 hI.1 hcl (rs_ws_get hk), fun U hU hW => ⟨rfl, rs_pre_at hN hZ hI hU hW⟩⟩ rfl hn hl.1 rfl (lv_room hc0) hd ⟨Nat.le_refl 0, Nat.le_refl 0⟩) hI.2.2 (fun q _ h => rs_A_mono hI.2.2.1 q h) (rs_A_mono hI.2.2.1) (fun u ra t1 H1 locs1 ht hvm hw hB hz1 hk1 hS => ?_)
  obtain ⟨rfl, hB⟩ := hB
  exact k u.1 u.2 hw H1 locs1 ls ⟨by rw [← ht]; exact hB.1, rs_D_any hB.2, hS⟩ hl
theorem r_callSi {l : Launch} {g : rs_G} {kd : List rs_k} {t : Nat × Nat} {cc : ByteArray} {nL : Nat} {own : String} {d : Nat} {Y : rs_Y} (K : rs_K l g kd t cc nL own d Y) {M : rs_M} {pc : Nat} {lv : List (Nat × Value)} {stk : List Value} {y : MethodName} {c1 : ByteArray} {n1 d1 ka idx : Nat} {rt : FieldType} {post : Int32 → rs_M → Prop} (As rest : List Value) (hd : decode cc pc = .ok (.invokestatic idx, 3)) (mf : rs_mf y c1 n1 (some rt) ka) (hq : Cond.methodLink own idx y ∈ rs_T) (h1 : Cond.static y ∈ rs_T) (hM : rs_Ci l g kd t y c1 n1 rt d1 As M post) (hst : stk = As.reverse ++ rest) (hn : As.length = ka) (hdd : d1 < d) (hc0 : (rest.map fun v => v.category).sum ≤ 8) (k : ∀ (r : Int32) (M1 : rs_M), post r M1 → Y M1 (pc + 3) lv (.int r :: rest)) : Y M pc lv stk := by
  obtain ⟨p, e, s, m, args, below, meth, cd, Q, rfl, hx, hb, hml, hown, hts, hN, hZ⟩ := K
  intro H locs ls hI hl
  subst hst
  refine va_calli (va_runS (As := As) (rest := rest) ⟨hx, hb, hml, hown, hts⟩ (hM H.size) ⟨rs_cB hts mf hq (rs_dR hdd), hts _ h1⟩ ⟨rs_blind _ g kd t M H.size, fun U hU hW => ⟨rfl, rs_pre_at hN hZ hI hU hW⟩⟩ rfl hn hl.1 rfl (lv_room hc0) hd ⟨Nat.le_refl 0, Nat.le_refl 0⟩) hI.2.2 (fun q _ h => rs_A_mono hI.2.2.1 q h) (rs_A_mono hI.2.2.1) (fun r u t1 H1 locs1 ht hvm hw hB hz1 hk1 hS => ?_)
  exact k r u hw H1 locs1 ls ⟨by rw [← ht]; exact hB.1, rs_D_any hB.2, hS⟩ hl
theorem r_callSv {l : Launch} {g : rs_G} {kd : List rs_k} {t : Nat × Nat} {cc : ByteArray} {nL : Nat} {own : String} {d : Nat} {Y : rs_Y} (K : rs_K l g kd t cc nL own d Y) {M : rs_M} {pc : Nat} {lv : List (Nat × Value)} {stk : List Value} {y : MethodName} {c1 : ByteArray} {n1 d1 ka idx : Nat} {post : rs_M → Prop} (As rest : List Value) (hd : decode cc pc = .ok (.invokestatic idx, 3)) (mf : rs_mf y c1 n1 none ka) (hq : Cond.methodLink own idx y ∈ rs_T) (h1 : Cond.static y ∈ rs_T) (hM : rs_Cv l g kd t y c1 n1 d1 As M post) (hst : stk = As.reverse ++ rest) (hn : As.length = ka) (hdd : d1 < d) (hc0 : (rest.map fun v => v.category).sum ≤ 8) (k : ∀ M1 : rs_M, post M1 → Y M1 (pc + 3) lv rest) : Y M pc lv stk := by
  obtain ⟨p, e, s, m, args, below, meth, cd, Q, rfl, hx, hb, hml, hown, hts, hN, hZ⟩ := K
  intro H locs ls hI hl
  subst hst
  refine va_callv (va_runS (As := As) (rest := rest) ⟨hx, hb, hml, hown, hts⟩ (hM H.size) ⟨rs_cB hts mf hq (rs_dR hdd), hts _ h1⟩ ⟨rs_blind _ g kd t M H.size, fun U hU hW => ⟨rfl, rs_pre_at hN hZ hI hU hW⟩⟩ rfl hn hl.1 rfl (lv_room hc0) hd ⟨Nat.le_refl 0, Nat.le_refl 0⟩) hI.2.2 (fun q _ h => rs_A_mono hI.2.2.1 q h) (rs_A_mono hI.2.2.1) (fun u t1 H1 locs1 ht hvm hw hB hz1 hk1 hS => ?_)
  exact k u hw H1 locs1 ls ⟨by rw [← ht]; exact hB.1, rs_D_any hB.2, hS⟩ hl
theorem r_callSr {l : Launch} {g : rs_G} {kd : List rs_k} {t : Nat × Nat} {cc : ByteArray} {nL : Nat} {own : String} {d : Nat} {Y : rs_Y} (K : rs_K l g kd t cc nL own d Y) {M : rs_M} {pc : Nat} {lv : List (Nat × Value)} {stk : List Value} {y : MethodName} {c1 : ByteArray} {n1 d1 ka idx : Nat} {rt : FieldType} {post : Nat → rs_M → Prop} (As rest : List Value) (hd : decode cc pc = .ok (.invokestatic idx, 3)) (mf : rs_mf y c1 n1 (some rt) ka) (hq : Cond.methodLink own idx y ∈ rs_T) (h1 : Cond.static y ∈ rs_T) (hM : rs_Cr l g kd t y c1 n1 rt d1 As M post) (hst : stk = As.reverse ++ rest) (hn : As.length = ka) (hdd : d1 < d) (hc0 : (rest.map fun v => v.category).sum ≤ 8) (k : ∀ (r : Nat) (M1 : rs_M), post r M1 → Y M1 (pc + 3) lv (.ref (g.2.2 r) :: rest)) : Y M pc lv stk := by
  obtain ⟨p, e, s, m, args, below, meth, cd, Q, rfl, hx, hb, hml, hown, hts, hN, hZ⟩ := K
  intro H locs ls hI hl
  subst hst
  refine va_callr (va_runS (As := As) (rest := rest) ⟨hx, hb, hml, hown, hts⟩ (hM H.size) ⟨rs_cB hts mf hq (rs_dR hdd), hts _ h1⟩ ⟨rs_blind _ g kd t M H.size, fun U hU hW => ⟨rfl, rs_pre_at hN hZ hI hU hW⟩⟩ rfl hn hl.1 rfl (lv_room hc0) hd ⟨Nat.le_refl 0, Nat.le_refl 0⟩) hI.2.2 (fun q _ h => rs_A_mono hI.2.2.1 q h) (rs_A_mono hI.2.2.1) (fun u ra t1 H1 locs1 ht hvm hw hB hz1 hk1 hS => ?_)
  obtain ⟨rfl, hB⟩ := hB
  exact k u.1 u.2 hw H1 locs1 ls ⟨by rw [← ht]; exact hB.1, rs_D_any hB.2, hS⟩ hl
theorem r_callNi {l : Launch} {g : rs_G} {kd : List rs_k} {t : Nat × Nat} {cc : ByteArray} {nL : Nat} {own : String} {d : Nat} {Y : rs_Y} (K : rs_K l g kd t cc nL own d Y) {M : rs_M} {pc : Nat} {lv : List (Nat × Value)} {stk : List Value} {y : MethodName} {c1 : ByteArray} {n1 d1 ka idx : Nat} {rt : FieldType} {post : Int32 → rs_M → Prop} (As rest : List Value) (hd : decode cc pc = .ok (.invokestatic idx, 3)) (mf : rs_mf y c1 n1 (some rt) ka) (hq : (own, idx, y) ∈ rs_nest) (h1 : Cond.static y ∈ rs_T) (hM : rs_Ci l g kd t y c1 n1 rt d1 As M post) (hst : stk = As.reverse ++ rest) (hn : As.length = ka) (hdd : d1 < d) (hc0 : (rest.map fun v => v.category).sum ≤ 8) (k : ∀ (r : Int32) (M1 : rs_M), post r M1 → Y M1 (pc + 3) lv (.int r :: rest)) : Y M pc lv stk := by
  obtain ⟨p, e, s, m, args, below, meth, cd, Q, rfl, hx, hb, hml, hown, hts, hN, hZ⟩ := K
  intro H locs ls hI hl
  subst hst
  refine va_calli (va_runSN (As := As) (rest := rest) ⟨hx, hb, hml, hown, hts⟩ (hM H.size) ⟨rs_cN hts mf hN hq (rs_dR hdd), hts _ h1, trivial⟩ ⟨rs_blind _ g kd t M H.size, fun U hU hW => ⟨rfl, rs_pre_at hN hZ hI hU hW⟩⟩ rfl hn hl.1 rfl (lv_room hc0) hd ⟨Nat.le_refl 0, Nat.le_refl 0⟩) hI.2.2 (fun q _ h => rs_A_mono hI.2.2.1 q h) (rs_A_mono hI.2.2.1) (fun r u t1 H1 locs1 ht hvm hw hB hz1 hk1 hS => ?_)
  exact k r u hw H1 locs1 ls ⟨by rw [← ht]; exact hB.1, rs_D_any hB.2, hS⟩ hl
theorem r_callNv {l : Launch} {g : rs_G} {kd : List rs_k} {t : Nat × Nat} {cc : ByteArray} {nL : Nat} {own : String} {d : Nat} {Y : rs_Y} (K : rs_K l g kd t cc nL own d Y) {M : rs_M} {pc : Nat} {lv : List (Nat × Value)} {stk : List Value} {y : MethodName} {c1 : ByteArray} {n1 d1 ka idx : Nat} {post : rs_M → Prop} (As rest : List Value) (hd : decode cc pc = .ok (.invokestatic idx, 3)) (mf : rs_mf y c1 n1 none ka) (hq : (own, idx, y) ∈ rs_nest) (h1 : Cond.static y ∈ rs_T) (hM : rs_Cv l g kd t y c1 n1 d1 As M post) (hst : stk = As.reverse ++ rest) (hn : As.length = ka) (hdd : d1 < d) (hc0 : (rest.map fun v => v.category).sum ≤ 8) (k : ∀ M1 : rs_M, post M1 → Y M1 (pc + 3) lv rest) : Y M pc lv stk := by
  obtain ⟨p, e, s, m, args, below, meth, cd, Q, rfl, hx, hb, hml, hown, hts, hN, hZ⟩ := K
  intro H locs ls hI hl
  subst hst
  refine va_callv (va_runSN (As := As) (rest := rest) ⟨hx, hb, hml, hown, hts⟩ (hM H.size) ⟨rs_cN hts mf hN hq (rs_dR hdd), hts _ h1, trivial⟩ ⟨rs_blind _ g kd t M H.size, fun U hU hW => ⟨rfl, rs_pre_at hN hZ hI hU hW⟩⟩ rfl hn hl.1 rfl (lv_room hc0) hd ⟨Nat.le_refl 0, Nat.le_refl 0⟩) hI.2.2 (fun q _ h => rs_A_mono hI.2.2.1 q h) (rs_A_mono hI.2.2.1) (fun u t1 H1 locs1 ht hvm hw hB hz1 hk1 hS => ?_)
  exact k u hw H1 locs1 ls ⟨by rw [← ht]; exact hB.1, rs_D_any hB.2, hS⟩ hl
theorem r_callNr {l : Launch} {g : rs_G} {kd : List rs_k} {t : Nat × Nat} {cc : ByteArray} {nL : Nat} {own : String} {d : Nat} {Y : rs_Y} (K : rs_K l g kd t cc nL own d Y) {M : rs_M} {pc : Nat} {lv : List (Nat × Value)} {stk : List Value} {y : MethodName} {c1 : ByteArray} {n1 d1 ka idx : Nat} {rt : FieldType} {post : Nat → rs_M → Prop} (As rest : List Value) (hd : decode cc pc = .ok (.invokestatic idx, 3)) (mf : rs_mf y c1 n1 (some rt) ka) (hq : (own, idx, y) ∈ rs_nest) (h1 : Cond.static y ∈ rs_T) (hM : rs_Cr l g kd t y c1 n1 rt d1 As M post) (hst : stk = As.reverse ++ rest) (hn : As.length = ka) (hdd : d1 < d) (hc0 : (rest.map fun v => v.category).sum ≤ 8) (k : ∀ (r : Nat) (M1 : rs_M), post r M1 → Y M1 (pc + 3) lv (.ref (g.2.2 r) :: rest)) : Y M pc lv stk := by
  obtain ⟨p, e, s, m, args, below, meth, cd, Q, rfl, hx, hb, hml, hown, hts, hN, hZ⟩ := K
  intro H locs ls hI hl
  subst hst
  refine va_callr (va_runSN (As := As) (rest := rest) ⟨hx, hb, hml, hown, hts⟩ (hM H.size) ⟨rs_cN hts mf hN hq (rs_dR hdd), hts _ h1, trivial⟩ ⟨rs_blind _ g kd t M H.size, fun U hU hW => ⟨rfl, rs_pre_at hN hZ hI hU hW⟩⟩ rfl hn hl.1 rfl (lv_room hc0) hd ⟨Nat.le_refl 0, Nat.le_refl 0⟩) hI.2.2 (fun q _ h => rs_A_mono hI.2.2.1 q h) (rs_A_mono hI.2.2.1) (fun u ra t1 H1 locs1 ht hvm hw hB hz1 hk1 hS => ?_)
  obtain ⟨rfl, hB⟩ := hB
  exact k u.1 u.2 hw H1 locs1 ls ⟨by rw [← ht]; exact hB.1, rs_D_any hB.2, hS⟩ hl
theorem rs_ofi {l : Launch} {g : rs_G} {kd : List rs_k} {t : Nat × Nat} {y : MethodName} {cc : ByteArray} {n d : Nat} {av : List Value} {M : rs_M} {post : Int32 → rs_M → Prop} (hy : plainFor y = true) (hav : (lg_sl av).length ≤ n) (body : ∀ Y : rs_Y, rs_K l g kd t cc n y.cls d Y → (∀ (M1 : rs_M) (r : Int32) (pc : Nat) (lv : List (Nat × Value)), decode cc pc = .ok (.ireturn, 1) → post r M1 → Y M1 pc lv [.int r]) → Y M 0 (lv_args 0 av) []) : rs_Ci l g kd t y cc n .int d av M post := by
  intro sz
  refine va_MetF (cc := cc) (maxL := n) (ret := (some .int)) hy rfl ?_
  intro p e s m args below meth c s₁ B hml hv
  obtain ⟨rfl, hsz, hP, hN, hD0, hZ⟩ := hv
  have hx := B.exec
  have hb := B.bytes
  have hr := B.returns
  have hts0 := atoms_spec (ws := .code y cc n (some .int) :: rs_T) B.pre
  have hts : ∀ w ∈ rs_T, w.before av.toArray s = true := fun w h => hts0 w (List.mem_cons_of_mem _ h)
  have hown : s.vm.findClass y.cls = some m.cls := findClass_of_methodNamed B.named
  have hlocks := B.notSynchronized
  subst hsz
  have hS : va_S (rs_A g kd s.heap.size) s.heap s.heap [] := va_S.rf
  have hl := lv_entry av (n := n) hav
  rw [lg_entry_eq]
  exact body (rs_J p l e d s m av.toArray below meth c _ g kd n) ⟨p, e, s, m, av.toArray, below, meth, c, _, rfl, hx, hb, hml, hown, hts, hN, hZ⟩ (fun M1 r pc lv hd hp H locs ls hI hl => W.iret (v := r) hx hb hr (fun t1 ht hW => ⟨⟨r, M1, rfl, hp, ⟨by rw [ht]; exact hI.1, hI.2.1⟩⟩, hI.2.2.F ht⟩) hI.2.2.2.2 hd) s.heap [] _ ⟨hP, hD0, hS⟩ hl
theorem rs_ofz {l : Launch} {g : rs_G} {kd : List rs_k} {t : Nat × Nat} {y : MethodName} {cc : ByteArray} {n d : Nat} {av : List Value} {M : rs_M} {post : Int32 → rs_M → Prop} (hy : plainFor y = true) (hav : (lg_sl av).length ≤ n) (body : ∀ Y : rs_Y, rs_K l g kd t cc n y.cls d Y → (∀ (M1 : rs_M) (r : Int32) (pc : Nat) (lv : List (Nat × Value)), decode cc pc = .ok (.ireturn, 1) → (r = 0 ∨ r = 1) → post r M1 → Y M1 pc lv [.int r]) → Y M 0 (lv_args 0 av) []) : rs_Ci l g kd t y cc n .boolean d av M post := by
  intro sz
  refine va_MetF (cc := cc) (maxL := n) (ret := (some .boolean)) hy rfl ?_
  intro p e s m args below meth c s₁ B hml hv
  obtain ⟨rfl, hsz, hP, hN, hD0, hZ⟩ := hv
  have hx := B.exec
  have hb := B.bytes
  have hr := B.returns
  have hts0 := atoms_spec (ws := .code y cc n (some .boolean) :: rs_T) B.pre
  have hts : ∀ w ∈ rs_T, w.before av.toArray s = true := fun w h => hts0 w (List.mem_cons_of_mem _ h)
  have hown : s.vm.findClass y.cls = some m.cls := findClass_of_methodNamed B.named
  have hlocks := B.notSynchronized
  subst hsz
  have hS : va_S (rs_A g kd s.heap.size) s.heap s.heap [] := va_S.rf
  have hl := lv_entry av (n := n) hav
  rw [lg_entry_eq]
  exact body (rs_J p l e d s m av.toArray below meth c _ g kd n) ⟨p, e, s, m, av.toArray, below, meth, c, _, rfl, hx, hb, hml, hown, hts, hN, hZ⟩ (fun M1 r pc lv hd h01 hp H locs ls hI hl => W.zret (v := r) hx hb hr (by rcases h01 with e | e <;> subst e <;> rfl) (fun t1 ht hW => ⟨⟨r, M1, rfl, hp, ⟨by rw [ht]; exact hI.1, hI.2.1⟩⟩, hI.2.2.F ht⟩) hI.2.2.2.2 hd) s.heap [] _ ⟨hP, hD0, hS⟩ hl
theorem rs_ofv {l : Launch} {g : rs_G} {kd : List rs_k} {t : Nat × Nat} {y : MethodName} {cc : ByteArray} {n d : Nat} {av : List Value} {M : rs_M} {post : rs_M → Prop} (hy : plainFor y = true) (hav : (lg_sl av).length ≤ n) (body : ∀ Y : rs_Y, rs_K l g kd t cc n y.cls d Y → (∀ (M1 : rs_M) (pc : Nat) (lv : List (Nat × Value)), decode cc pc = .ok (.return_, 1) → post M1 → Y M1 pc lv []) → Y M 0 (lv_args 0 av) []) : rs_Cv l g kd t y cc n d av M post := by
  intro sz
  refine va_MetF (cc := cc) (maxL := n) (ret := none) hy rfl ?_
  intro p e s m args below meth c s₁ B hml hv
  obtain ⟨rfl, hsz, hP, hN, hD0, hZ⟩ := hv
  have hx := B.exec
  have hb := B.bytes
  have hr := B.returns
  have hts0 := atoms_spec (ws := .code y cc n none :: rs_T) B.pre
  have hts : ∀ w ∈ rs_T, w.before av.toArray s = true := fun w h => hts0 w (List.mem_cons_of_mem _ h)
  have hown : s.vm.findClass y.cls = some m.cls := findClass_of_methodNamed B.named
  have hlocks := B.notSynchronized
  subst hsz
  have hS : va_S (rs_A g kd s.heap.size) s.heap s.heap [] := va_S.rf
  have hl := lv_entry av (n := n) hav
  rw [lg_entry_eq]
  exact body (rs_J p l e d s m av.toArray below meth c _ g kd n) ⟨p, e, s, m, av.toArray, below, meth, c, _, rfl, hx, hb, hml, hown, hts, hN, hZ⟩ (fun M1 pc lv hd hp H locs ls hI hl => W.vret hx hb hr (fun t1 ht hW => ⟨⟨M1, rfl, hp, ⟨by rw [ht]; exact hI.1, hI.2.1⟩⟩, hI.2.2.F ht⟩) hI.2.2.2.2 hd) s.heap [] _ ⟨hP, hD0, hS⟩ hl
theorem rs_ofr {l : Launch} {g : rs_G} {kd : List rs_k} {t : Nat × Nat} {y : MethodName} {cc : ByteArray} {n d : Nat} {av : List Value} {M : rs_M} {C : String} {post : Nat → rs_M → Prop} (hy : plainFor y = true) (hav : (lg_sl av).length ≤ n) (body : ∀ Y : rs_Y, rs_K l g kd t cc n y.cls d Y → (∀ (M1 : rs_M) (r pc : Nat) (lv : List (Nat × Value)), decode cc pc = .ok (.areturn, 1) → post r M1 → Y M1 pc lv [.ref (g.2.2 r)]) → Y M 0 (lv_args 0 av) []) : rs_Cr l g kd t y cc n (.object C) d av M post := by
  intro sz
  refine va_MetF (cc := cc) (maxL := n) (ret := (some (.object C))) hy rfl ?_
  intro p e s m args below meth c s₁ B hml hv
  obtain ⟨rfl, hsz, hP, hN, hD0, hZ⟩ := hv
  have hx := B.exec
  have hb := B.bytes
  have hr := B.returns
  have hts0 := atoms_spec (ws := .code y cc n (some (.object C)) :: rs_T) B.pre
  have hts : ∀ w ∈ rs_T, w.before av.toArray s = true := fun w h => hts0 w (List.mem_cons_of_mem _ h)
  have hown : s.vm.findClass y.cls = some m.cls := findClass_of_methodNamed B.named
  have hlocks := B.notSynchronized
  subst hsz
  have hS : va_S (rs_A g kd s.heap.size) s.heap s.heap [] := va_S.rf
  have hl := lv_entry av (n := n) hav
  rw [lg_entry_eq]
  exact body (rs_J p l e d s m av.toArray below meth c _ g kd n) ⟨p, e, s, m, av.toArray, below, meth, c, _, rfl, hx, hb, hml, hown, hts, hN, hZ⟩ (fun M1 r pc lv hd hp H locs ls hI hl => W.aret hx hb hr (Or.inl ⟨C, rfl⟩) (Or.inr ⟨_, rfl⟩) (fun t1 ht hW => ⟨⟨(r, M1), _, rfl, hp, rfl, ⟨by rw [ht]; exact hI.1, hI.2.1⟩⟩, hI.2.2.F ht⟩) hI.2.2.2.2 hd) s.heap [] _ ⟨hP, hD0, hS⟩ hl
