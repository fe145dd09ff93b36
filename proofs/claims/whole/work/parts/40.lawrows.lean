theorem cs_D_left {A : Nat → Prop} {a b : va_W} (h : va_D A (a ++ b)) : va_D A a := by
  have key : ∀ (i : Nat) (q : Nat × va_E), a[i]? = some q → (a ++ b)[i]? = some q := fun i q hi => by rw [List.getElem?_append_left (List.getElem?_eq_some_iff.mp hi).1]; exact hi
  exact ⟨fun i j p q hi hj e => h.1 i j p q (key i p hi) (key j q hj) e, fun k q hk => h.2 k q (key k q hk)⟩
theorem n_slen {l : Launch} {g : rs_G} {t : Nat × Nat} {cc : ByteArray} {nL : Nat} {own : String} {R : Room} {nm : String} {bL : Bool × Nat × Nat} {xs : Nat → Int32} {Z : cs_Y} (K : cs_K l g t cc nL own R nm bL xs Z) {ws : va_W} {cells slots pc : Nat} {lv : List (Nat × Value)} {rest : List Value} (hs : bL.1 = true) (hd : decode cc pc = .ok (.arraylength, 1)) (k : Z ws cells slots (pc + 1) lv (.int (nI bL.2.2) :: rest)) : Z ws cells slots pc lv (.ref bL.2.1 :: rest) := by
  obtain ⟨p, e, s, m, args, below, meth, cd, Q, A, rfl, hx, hb, hml, hown, hts, hN, hZ, hA, hnm, hX⟩ := K
  intro H locs ls hP hD hS hl
  exact va_slen hx hb (hX hs).1 (hX hs).2.1 (hX hs).2.2 hS hd (k H locs ls hP hD hS hl)
theorem n_sld {l : Launch} {g : rs_G} {t : Nat × Nat} {cc : ByteArray} {nL : Nat} {own : String} {R : Room} {nm : String} {bL : Bool × Nat × Nat} {xs : Nat → Int32} {Z : cs_Y} (K : cs_K l g t cc nL own R nm bL xs Z) {ws : va_W} {cells slots pc : Nat} {lv : List (Nat × Value)} {rest : List Value} {j : Nat} {i : Int32} (hs : bL.1 = true) (hi : i = nI j) (hj : j < bL.2.2) (hL : bL.2.2 < 2 ^ 31) (hd : decode cc pc = .ok (.iaload, 1)) (k : Z ws cells slots (pc + 1) lv (.int (xs j) :: rest)) : Z ws cells slots pc lv (.int i :: .ref bL.2.1 :: rest) := by
  obtain ⟨p, e, s, m, args, below, meth, cd, Q, A, rfl, hx, hb, hml, hown, hts, hN, hZ, hA, hnm, hX⟩ := K
  intro H locs ls hP hD hS hl
  subst hi
  refine va_sld hx hb (hX hs).1 (hX hs).2.1 (hX hs).2.2 hS (vp_in_nI hj hL) hd ?_
  rw [nI_clamp (Nat.lt_trans hj hL)]
  exact k H locs ls hP hD hS hl
theorem n_table {l : Launch} {g : rs_G} {t : Nat × Nat} {cc : ByteArray} {nL : Nat} {own : String} {R : Room} {nm : String} {bL : Bool × Nat × Nat} {xs : Nat → Int32} {Z : cs_Y} (K : cs_K l g t cc nL own R nm bL xs Z) {ws : va_W} {cells slots pc : Nat} {lv : List (Nat × Value)} {rest : List Value} {x : Int32} {df lo hi : Int} {offs : Array Int} {len : Nat} (cs : List (Int32 × Nat)) (dt : Nat) (hd : decode cc pc = .ok (.tableswitch df lo hi offs, len)) (hdt : (pc : Int) + df = (dt : Int)) (hh : hi + 1 = lo + offs.toList.length) (hs : rs_swt pc lo offs.toList cs = true) (k : rs_swp (fun tg => Z ws cells slots tg lv rest) x cs dt) : Z ws cells slots pc lv (.int x :: rest) := by
  obtain ⟨p, e, s, m, args, below, meth, cd, Q, A, rfl, hx, hb, hml, hown, hts, hN, hZ, hA, hnm, hX⟩ := K
  intro H locs ls hP hD hS hl
  by_cases ho : x.toInt < lo ∨ hi < x.toInt
  · exact lv_tableOut hx hb hd ho hdt (rs_swt_out (fun tg => cs_J p l e R s m args below meth cd Q g A nL ws cells slots tg lv rest) x pc dt offs.toList cs lo hs (by omega) k H locs ls hP hD hS hl)
  · obtain ⟨o, tg, h1, h2, h3⟩ := rs_swt_in _ x pc dt offs.toList cs lo hs (by omega) (by omega) k
    rw [Array.getElem?_toList] at h1
    exact lv_tableIn hx hb hd (by omega) (by omega) h1 h2 (h3 H locs ls hP hD hS hl)
theorem n_swap {l : Launch} {g : rs_G} {t : Nat × Nat} {cc : ByteArray} {nL : Nat} {own : String} {R : Room} {nm : String} {bL : Bool × Nat × Nat} {xs : Nat → Int32} {Z : cs_Y} (K : cs_K l g t cc nL own R nm bL xs Z) {a b : va_W} {cells slots pc : Nat} {lv : List (Nat × Value)} {stk : List Value} (k : Z (b ++ a) cells slots pc lv stk) : Z (a ++ b) cells slots pc lv stk := by
  obtain ⟨p, e, s, m, args, below, meth, cd, Q, A, rfl, hx, hb, hml, hown, hts, hN, hZ, hA, hnm, hX⟩ := K
  intro H locs ls hP hD hS hl
  exact k H locs ls (cs_P_swap hP) (cs_D_swap hD) hS hl
theorem n_call {l : Launch} {g : rs_G} {t : Nat × Nat} {cc : ByteArray} {nL : Nat} {own : String} {R : Room} {nm : String} {bL : Bool × Nat × Nat} {xs : Nat → Int32} {Z : cs_Y} (K : cs_K l g t cc nL own R nm bL xs Z) {ws : va_W} {cells slots pc : Nat} {lv : List (Nat × Value)} {rest : List Value} {kd : List rs_k} {ad : Nat → Nat} {M : rs_M} {w2 : va_W} {y : MethodName} {c1 : ByteArray} {n1 d1 ka idx ti n : Nat} {refs : List Nat} {T : u_T} {N : Nat} {post : Int32 → rs_M → Prop} (As : List Value) (hd : decode cc pc = .ok (.invokevirtual idx, 3)) (mf : rs_mf y c1 n1 (some .int) ka) (hk : kd[0]? = some (ti + 4, n, refs)) (hcl : vwCl[ti]? = some (y.cls, T, N)) (hq : Cond.methodLink own idx y ∈ rs_T) (h1 : Cond.instanceMethod y ∈ rs_T) (h2 : Cond.selects y.cls y y ∈ rs_T) (hM : rs_Ci l (g.1, g.2.1, ad) kd t y c1 n1 .int d1 (.ref (ad 0) :: As) M post) (hn : As.length = ka) (hR : d1 + 1 ≤ R.frames ∧ 40 * (d1 + 1) ≤ R.locals) (hc : cells ≤ R.cells ∧ slots ≤ R.slots) (hc0 : (rest.map fun v => v.category).sum ≤ 8) (k : ∀ (r : Int32) (M1 : rs_M), post r M1 → Z (rs_ws (g.1, g.2.1, ad) kd M1 ++ w2) cells slots (pc + 3) lv (.int r :: rest)) : Z (rs_ws (g.1, g.2.1, ad) kd M ++ w2) cells slots pc lv (As.reverse ++ .ref (ad 0) :: rest) := by
  obtain ⟨p, e, s, m, args, below, meth, cd, Q, A, rfl, hx, hb, hml, hown, hts, hN, hZ, hA, hnm, hX⟩ := K
  intro H locs ls hP hD hS hl
  have hF : ∀ q, rs_A (g.1, g.2.1, ad) kd H.size q → A q := by
    rw [← rs_A_eq (g.1, g.2.1, ad) kd M H.size]
    exact cs_free1 hD hS hA
  have hP1 : va_P g.1 vwCl (rs_ws (g.1, g.2.1, ad) kd M) H := cs_P_mem.mpr (fun q hq => cs_P_mem.mp hP q (List.mem_append_left _ hq))
  refine va_calli (va_runV (As := As) (rest := rest) ⟨hx, hb, hml, hown, hts⟩ (hM H.size) ⟨rs_cB hts mf hq hR, hts _ h1, hts _ h2⟩ ⟨rs_blind _ (g.1, g.2.1, ad) kd t M H.size, va_recv hN.1.1 hP1 hcl (rs_ws_get hk), fun U hU hW => ⟨rfl, by rw [hU], by rw [hU]; exact hP1, hN.1.warm hW, rs_D_any (cs_D_left hD), cs_Z_sub hZ hS hF hU hW⟩⟩ rfl hn hl.1 rfl (lv_room hc0) hd hc) hS (fun x _ h => hF x h) hF (fun r u t1 H1 locs1 ht hvm hw hB hz1 hk1 hS => ?_)
  obtain ⟨hP2, hD2⟩ := cs_join1 hP hD (by rw [rs_A_eq]; exact hk1) (by rw [rs_A_eq]; exact hF) (by rw [← ht]; exact hB.1) (by rw [rs_A_eq]; exact hB.2)
  exact k r u hw H1 locs1 ls hP2 hD2 hS hl
theorem x_l4 {L i : Nat} (hL : L ≤ 2048) (hi : i ≤ L) : nI L - 4 < nI i ↔ ¬ i + 4 ≤ L := by
  have h := pk_sub_toInt (a := L) (b := 4) (by omega) (by decide)
  rw [Int32.lt_iff_toInt_lt, nI_toInt (by omega)]
  have h2 : (nI L - 4).toInt = (L : Int) - 4 := h
  rw [h2]
  omega
