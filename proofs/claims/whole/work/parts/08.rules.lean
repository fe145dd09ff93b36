theorem r_iconst {l : Launch} {g : rs_G} {kd : List rs_k} {t : Nat × Nat} {cc : ByteArray} {nL : Nat} {own : String} {d : Nat} {Y : rs_Y} (K : rs_K l g kd t cc nL own d Y) {M : rs_M} {pc : Nat} {lv : List (Nat × Value)} {rest : List Value} {n : Int} {v : Int32} (hd : decode cc pc = .ok (.iconst n, 1)) (hv : Int32.ofInt n = v) (k : Y M (pc + 1) lv (.int v :: rest)) : Y M pc lv rest := by
  obtain ⟨p, e, s, m, args, below, meth, cd, Q, rfl, hx, hb, hml, hown, hts, hN, hZ⟩ := K
  intro H locs ls hI hl
  exact lv_iconst hx hb hd hv (k H locs ls hI hl)
theorem r_bipush {l : Launch} {g : rs_G} {kd : List rs_k} {t : Nat × Nat} {cc : ByteArray} {nL : Nat} {own : String} {d : Nat} {Y : rs_Y} (K : rs_K l g kd t cc nL own d Y) {M : rs_M} {pc : Nat} {lv : List (Nat × Value)} {rest : List Value} {n : Int} {v : Int32} (hd : decode cc pc = .ok (.bipush n, 2)) (hv : (Int8.ofInt n).toInt32 = v) (k : Y M (pc + 2) lv (.int v :: rest)) : Y M pc lv rest := by
  obtain ⟨p, e, s, m, args, below, meth, cd, Q, rfl, hx, hb, hml, hown, hts, hN, hZ⟩ := K
  intro H locs ls hI hl
  exact lv_bipush hx hb hd hv (k H locs ls hI hl)
theorem r_sipush {l : Launch} {g : rs_G} {kd : List rs_k} {t : Nat × Nat} {cc : ByteArray} {nL : Nat} {own : String} {d : Nat} {Y : rs_Y} (K : rs_K l g kd t cc nL own d Y) {M : rs_M} {pc : Nat} {lv : List (Nat × Value)} {rest : List Value} {n : Int} {v : Int32} (hd : decode cc pc = .ok (.sipush n, 3)) (hv : (Int16.ofInt n).toInt32 = v) (k : Y M (pc + 3) lv (.int v :: rest)) : Y M pc lv rest := by
  obtain ⟨p, e, s, m, args, below, meth, cd, Q, rfl, hx, hb, hml, hown, hts, hN, hZ⟩ := K
  intro H locs ls hI hl
  exact lv_sipush hx hb hd hv (k H locs ls hI hl)
theorem r_lconst {l : Launch} {g : rs_G} {kd : List rs_k} {t : Nat × Nat} {cc : ByteArray} {nL : Nat} {own : String} {d : Nat} {Y : rs_Y} (K : rs_K l g kd t cc nL own d Y) {M : rs_M} {pc : Nat} {lv : List (Nat × Value)} {rest : List Value} {n : Fin 2} {v : Int64} (hd : decode cc pc = .ok (.lconst n, 1)) (hv : Int64.ofNat (n : Nat) = v) (k : Y M (pc + 1) lv (.long v :: rest)) : Y M pc lv rest := by
  obtain ⟨p, e, s, m, args, below, meth, cd, Q, rfl, hx, hb, hml, hown, hts, hN, hZ⟩ := K
  intro H locs ls hI hl
  exact lv_lconst hx hb hd hv (k H locs ls hI hl)
theorem r_ldc {l : Launch} {g : rs_G} {kd : List rs_k} {t : Nat × Nat} {cc : ByteArray} {nL : Nat} {own : String} {d : Nat} {Y : rs_Y} (K : rs_K l g kd t cc nL own d Y) {M : rs_M} {pc : Nat} {lv : List (Nat × Value)} {rest : List Value} {n : Nat} {v : Int32} (hd : decode cc pc = .ok (.ldc n, 2)) (hq : Cond.constant own n v ∈ rs_T) (k : Y M (pc + 2) lv (.int v :: rest)) : Y M pc lv rest := by
  obtain ⟨p, e, s, m, args, below, meth, cd, Q, rfl, hx, hb, hml, hown, hts, hN, hZ⟩ := K
  intro H locs ls hI hl
  exact lv_ldc hx hb hown (hts _ hq) hd (k H locs ls hI hl)
theorem r_ldc2 {l : Launch} {g : rs_G} {kd : List rs_k} {t : Nat × Nat} {cc : ByteArray} {nL : Nat} {own : String} {d : Nat} {Y : rs_Y} (K : rs_K l g kd t cc nL own d Y) {M : rs_M} {pc : Nat} {lv : List (Nat × Value)} {rest : List Value} {n : Nat} {v : Int64} (hd : decode cc pc = .ok (.ldc2_w n, 3)) (hq : Cond.constantLong own n v ∈ rs_T) (k : Y M (pc + 3) lv (.long v :: rest)) : Y M pc lv rest := by
  obtain ⟨p, e, s, m, args, below, meth, cd, Q, rfl, hx, hb, hml, hown, hts, hN, hZ⟩ := K
  intro H locs ls hI hl
  exact lv_ldc2 hx hb hown (hts _ hq) hd (k H locs ls hI hl)
theorem r_iload_n {l : Launch} {g : rs_G} {kd : List rs_k} {t : Nat × Nat} {cc : ByteArray} {nL : Nat} {own : String} {d : Nat} {Y : rs_Y} (K : rs_K l g kd t cc nL own d Y) {M : rs_M} {pc : Nat} {lv : List (Nat × Value)} {rest : List Value} {n : Fin 4} {i : Nat} {x : Int32} (j : Nat) (hd : decode cc pc = .ok (.iload_n n, 1)) (hi : (n : Nat) = i) (hv : lv[j]? = some (i, .int x)) (k : Y M (pc + 1) lv (.int x :: rest)) : Y M pc lv rest := by
  obtain ⟨p, e, s, m, args, below, meth, cd, Q, rfl, hx, hb, hml, hown, hts, hN, hZ⟩ := K
  intro H locs ls hI hl
  exact lv_iload_n hx hb hd hi (lv_at hl j hv) (k H locs ls hI hl)
theorem r_iload {l : Launch} {g : rs_G} {kd : List rs_k} {t : Nat × Nat} {cc : ByteArray} {nL : Nat} {own : String} {d : Nat} {Y : rs_Y} (K : rs_K l g kd t cc nL own d Y) {M : rs_M} {pc : Nat} {lv : List (Nat × Value)} {rest : List Value} {i : Nat} {x : Int32} (j : Nat) (hd : decode cc pc = .ok (.iload i, 2)) (hv : lv[j]? = some (i, .int x)) (k : Y M (pc + 2) lv (.int x :: rest)) : Y M pc lv rest := by
  obtain ⟨p, e, s, m, args, below, meth, cd, Q, rfl, hx, hb, hml, hown, hts, hN, hZ⟩ := K
  intro H locs ls hI hl
  exact lv_iload hx hb hd (lv_at hl j hv) (k H locs ls hI hl)
theorem r_aload_n {l : Launch} {g : rs_G} {kd : List rs_k} {t : Nat × Nat} {cc : ByteArray} {nL : Nat} {own : String} {d : Nat} {Y : rs_Y} (K : rs_K l g kd t cc nL own d Y) {M : rs_M} {pc : Nat} {lv : List (Nat × Value)} {rest : List Value} {n : Fin 4} {i : Nat} {x : Nat} (j : Nat) (hd : decode cc pc = .ok (.aload_n n, 1)) (hi : (n : Nat) = i) (hv : lv[j]? = some (i, .ref x)) (k : Y M (pc + 1) lv (.ref x :: rest)) : Y M pc lv rest := by
  obtain ⟨p, e, s, m, args, below, meth, cd, Q, rfl, hx, hb, hml, hown, hts, hN, hZ⟩ := K
  intro H locs ls hI hl
  exact lv_aload_n hx hb hd hi (lv_at hl j hv) (k H locs ls hI hl)
theorem r_aload {l : Launch} {g : rs_G} {kd : List rs_k} {t : Nat × Nat} {cc : ByteArray} {nL : Nat} {own : String} {d : Nat} {Y : rs_Y} (K : rs_K l g kd t cc nL own d Y) {M : rs_M} {pc : Nat} {lv : List (Nat × Value)} {rest : List Value} {i : Nat} {x : Nat} (j : Nat) (hd : decode cc pc = .ok (.aload i, 2)) (hv : lv[j]? = some (i, .ref x)) (k : Y M (pc + 2) lv (.ref x :: rest)) : Y M pc lv rest := by
  obtain ⟨p, e, s, m, args, below, meth, cd, Q, rfl, hx, hb, hml, hown, hts, hN, hZ⟩ := K
  intro H locs ls hI hl
  exact lv_aload hx hb hd (lv_at hl j hv) (k H locs ls hI hl)
theorem r_lload {l : Launch} {g : rs_G} {kd : List rs_k} {t : Nat × Nat} {cc : ByteArray} {nL : Nat} {own : String} {d : Nat} {Y : rs_Y} (K : rs_K l g kd t cc nL own d Y) {M : rs_M} {pc : Nat} {lv : List (Nat × Value)} {rest : List Value} {i : Nat} {x : Int64} (j : Nat) (hd : decode cc pc = .ok (.lload i, 2)) (hv : lv[j]? = some (i, .long x)) (k : Y M (pc + 2) lv (.long x :: rest)) : Y M pc lv rest := by
  obtain ⟨p, e, s, m, args, below, meth, cd, Q, rfl, hx, hb, hml, hown, hts, hN, hZ⟩ := K
  intro H locs ls hI hl
  exact lv_lload hx hb hd (lv_at hl j hv) (k H locs ls hI hl)
theorem r_istore_n {l : Launch} {g : rs_G} {kd : List rs_k} {t : Nat × Nat} {cc : ByteArray} {nL : Nat} {own : String} {d : Nat} {Y : rs_Y} (K : rs_K l g kd t cc nL own d Y) {M : rs_M} {pc : Nat} {lv : List (Nat × Value)} {rest : List Value} {n : Fin 4} {i : Nat} {x : Int32} (lv1 : List (Nat × Value)) (hd : decode cc pc = .ok (.istore_n n, 1)) (hi : (n : Nat) = i) (hn : i < nL) (hv : (i, Value.int x) :: lv.filter (fun q => !(q.1 == i) && !(q.1 + 1 == i && q.2.category == 2)) = lv1) (k : Y M (pc + 1) lv1 rest) : Y M pc lv (.int x :: rest) := by
  obtain ⟨p, e, s, m, args, below, meth, cd, Q, rfl, hx, hb, hml, hown, hts, hN, hZ⟩ := K
  intro H locs ls hI hl
  exact lv_istore_n hx hb hd hi hl hn hv (fun ls1 hl1 => k H locs ls1 hI hl1)
theorem r_istore {l : Launch} {g : rs_G} {kd : List rs_k} {t : Nat × Nat} {cc : ByteArray} {nL : Nat} {own : String} {d : Nat} {Y : rs_Y} (K : rs_K l g kd t cc nL own d Y) {M : rs_M} {pc : Nat} {lv : List (Nat × Value)} {rest : List Value} {i : Nat} {x : Int32} (lv1 : List (Nat × Value)) (hd : decode cc pc = .ok (.istore i, 2)) (hn : i < nL) (hv : (i, Value.int x) :: lv.filter (fun q => !(q.1 == i) && !(q.1 + 1 == i && q.2.category == 2)) = lv1) (k : Y M (pc + 2) lv1 rest) : Y M pc lv (.int x :: rest) := by
  obtain ⟨p, e, s, m, args, below, meth, cd, Q, rfl, hx, hb, hml, hown, hts, hN, hZ⟩ := K
  intro H locs ls hI hl
  exact lv_istore hx hb hd hl hn hv (fun ls1 hl1 => k H locs ls1 hI hl1)
theorem r_astore_n {l : Launch} {g : rs_G} {kd : List rs_k} {t : Nat × Nat} {cc : ByteArray} {nL : Nat} {own : String} {d : Nat} {Y : rs_Y} (K : rs_K l g kd t cc nL own d Y) {M : rs_M} {pc : Nat} {lv : List (Nat × Value)} {rest : List Value} {n : Fin 4} {i : Nat} {x : Nat} (lv1 : List (Nat × Value)) (hd : decode cc pc = .ok (.astore_n n, 1)) (hi : (n : Nat) = i) (hn : i < nL) (hv : (i, Value.ref x) :: lv.filter (fun q => !(q.1 == i) && !(q.1 + 1 == i && q.2.category == 2)) = lv1) (k : Y M (pc + 1) lv1 rest) : Y M pc lv (.ref x :: rest) := by
  obtain ⟨p, e, s, m, args, below, meth, cd, Q, rfl, hx, hb, hml, hown, hts, hN, hZ⟩ := K
  intro H locs ls hI hl
  exact lv_astore_n hx hb hd hi hl hn hv (fun ls1 hl1 => k H locs ls1 hI hl1)
theorem r_astore {l : Launch} {g : rs_G} {kd : List rs_k} {t : Nat × Nat} {cc : ByteArray} {nL : Nat} {own : String} {d : Nat} {Y : rs_Y} (K : rs_K l g kd t cc nL own d Y) {M : rs_M} {pc : Nat} {lv : List (Nat × Value)} {rest : List Value} {i : Nat} {x : Nat} (lv1 : List (Nat × Value)) (hd : decode cc pc = .ok (.astore i, 2)) (hn : i < nL) (hv : (i, Value.ref x) :: lv.filter (fun q => !(q.1 == i) && !(q.1 + 1 == i && q.2.category == 2)) = lv1) (k : Y M (pc + 2) lv1 rest) : Y M pc lv (.ref x :: rest) := by
  obtain ⟨p, e, s, m, args, below, meth, cd, Q, rfl, hx, hb, hml, hown, hts, hN, hZ⟩ := K
  intro H locs ls hI hl
  exact lv_astore hx hb hd hl hn hv (fun ls1 hl1 => k H locs ls1 hI hl1)
theorem r_lstore {l : Launch} {g : rs_G} {kd : List rs_k} {t : Nat × Nat} {cc : ByteArray} {nL : Nat} {own : String} {d : Nat} {Y : rs_Y} (K : rs_K l g kd t cc nL own d Y) {M : rs_M} {pc : Nat} {lv : List (Nat × Value)} {rest : List Value} {i : Nat} {x : Int64} (lv1 : List (Nat × Value)) (hd : decode cc pc = .ok (.lstore i, 2)) (hn : i + 1 < nL) (hv : (i, Value.long x) :: lv.filter (fun q => !(q.1 == i) && (!(q.1 == i + 1) && !(q.1 + 1 == i && q.2.category == 2))) = lv1) (k : Y M (pc + 2) lv1 rest) : Y M pc lv (.long x :: rest) := by
  obtain ⟨p, e, s, m, args, below, meth, cd, Q, rfl, hx, hb, hml, hown, hts, hN, hZ⟩ := K
  intro H locs ls hI hl
  exact lv_lstore hx hb hd hl hn hv (fun ls1 hl1 => k H locs ls1 hI hl1)
theorem r_iinc {l : Launch} {g : rs_G} {kd : List rs_k} {t : Nat × Nat} {cc : ByteArray} {nL : Nat} {own : String} {d : Nat} {Y : rs_Y} (K : rs_K l g kd t cc nL own d Y) {M : rs_M} {pc : Nat} {lv : List (Nat × Value)} {rest : List Value} {i : Nat} {n : Int} {x v : Int32} (j : Nat) (lv1 : List (Nat × Value)) (hd : decode cc pc = .ok (.iinc i n, 3)) (hj : lv[j]? = some (i, .int x)) (hx1 : x + Int32.ofInt n = v) (hn : i < nL) (hv : (i, Value.int v) :: lv.filter (fun q => !(q.1 == i) && !(q.1 + 1 == i && q.2.category == 2)) = lv1) (k : Y M (pc + 3) lv1 rest) : Y M pc lv rest := by
  obtain ⟨p, e, s, m, args, below, meth, cd, Q, rfl, hx, hb, hml, hown, hts, hN, hZ⟩ := K
  intro H locs ls hI hl
  exact lv_iinc hx hb hd hl hj hx1 hn hv (fun ls1 hl1 => k H locs ls1 hI hl1)
theorem r_iadd {l : Launch} {g : rs_G} {kd : List rs_k} {t : Nat × Nat} {cc : ByteArray} {nL : Nat} {own : String} {d : Nat} {Y : rs_Y} (K : rs_K l g kd t cc nL own d Y) {M : rs_M} {pc : Nat} {lv : List (Nat × Value)} {rest : List Value} {x y : Int32} (hd : decode cc pc = .ok (.iadd, 1)) (k : Y M (pc + 1) lv (.int (x + y) :: rest)) : Y M pc lv (.int y :: .int x :: rest) := by
  obtain ⟨p, e, s, m, args, below, meth, cd, Q, rfl, hx, hb, hml, hown, hts, hN, hZ⟩ := K
  intro H locs ls hI hl
  exact lv_iadd hx hb hd (k H locs ls hI hl)
theorem r_isub {l : Launch} {g : rs_G} {kd : List rs_k} {t : Nat × Nat} {cc : ByteArray} {nL : Nat} {own : String} {d : Nat} {Y : rs_Y} (K : rs_K l g kd t cc nL own d Y) {M : rs_M} {pc : Nat} {lv : List (Nat × Value)} {rest : List Value} {x y : Int32} (hd : decode cc pc = .ok (.isub, 1)) (k : Y M (pc + 1) lv (.int (x - y) :: rest)) : Y M pc lv (.int y :: .int x :: rest) := by
  obtain ⟨p, e, s, m, args, below, meth, cd, Q, rfl, hx, hb, hml, hown, hts, hN, hZ⟩ := K
  intro H locs ls hI hl
  exact lv_isub hx hb hd (k H locs ls hI hl)
theorem r_imul {l : Launch} {g : rs_G} {kd : List rs_k} {t : Nat × Nat} {cc : ByteArray} {nL : Nat} {own : String} {d : Nat} {Y : rs_Y} (K : rs_K l g kd t cc nL own d Y) {M : rs_M} {pc : Nat} {lv : List (Nat × Value)} {rest : List Value} {x y : Int32} (hd : decode cc pc = .ok (.imul, 1)) (k : Y M (pc + 1) lv (.int (x * y) :: rest)) : Y M pc lv (.int y :: .int x :: rest) := by
  obtain ⟨p, e, s, m, args, below, meth, cd, Q, rfl, hx, hb, hml, hown, hts, hN, hZ⟩ := K
  intro H locs ls hI hl
  exact lv_imul hx hb hd (k H locs ls hI hl)
theorem r_iand {l : Launch} {g : rs_G} {kd : List rs_k} {t : Nat × Nat} {cc : ByteArray} {nL : Nat} {own : String} {d : Nat} {Y : rs_Y} (K : rs_K l g kd t cc nL own d Y) {M : rs_M} {pc : Nat} {lv : List (Nat × Value)} {rest : List Value} {x y : Int32} (hd : decode cc pc = .ok (.iand, 1)) (k : Y M (pc + 1) lv (.int (x &&& y) :: rest)) : Y M pc lv (.int y :: .int x :: rest) := by
  obtain ⟨p, e, s, m, args, below, meth, cd, Q, rfl, hx, hb, hml, hown, hts, hN, hZ⟩ := K
  intro H locs ls hI hl
  exact lv_iand hx hb hd (k H locs ls hI hl)
theorem r_ior {l : Launch} {g : rs_G} {kd : List rs_k} {t : Nat × Nat} {cc : ByteArray} {nL : Nat} {own : String} {d : Nat} {Y : rs_Y} (K : rs_K l g kd t cc nL own d Y) {M : rs_M} {pc : Nat} {lv : List (Nat × Value)} {rest : List Value} {x y : Int32} (hd : decode cc pc = .ok (.ior, 1)) (k : Y M (pc + 1) lv (.int (x ||| y) :: rest)) : Y M pc lv (.int y :: .int x :: rest) := by
  obtain ⟨p, e, s, m, args, below, meth, cd, Q, rfl, hx, hb, hml, hown, hts, hN, hZ⟩ := K
  intro H locs ls hI hl
  exact lv_ior hx hb hd (k H locs ls hI hl)
theorem r_ixor {l : Launch} {g : rs_G} {kd : List rs_k} {t : Nat × Nat} {cc : ByteArray} {nL : Nat} {own : String} {d : Nat} {Y : rs_Y} (K : rs_K l g kd t cc nL own d Y) {M : rs_M} {pc : Nat} {lv : List (Nat × Value)} {rest : List Value} {x y : Int32} (hd : decode cc pc = .ok (.ixor, 1)) (k : Y M (pc + 1) lv (.int (x ^^^ y) :: rest)) : Y M pc lv (.int y :: .int x :: rest) := by
  obtain ⟨p, e, s, m, args, below, meth, cd, Q, rfl, hx, hb, hml, hown, hts, hN, hZ⟩ := K
  intro H locs ls hI hl
  exact lv_ixor hx hb hd (k H locs ls hI hl)
theorem r_ishl {l : Launch} {g : rs_G} {kd : List rs_k} {t : Nat × Nat} {cc : ByteArray} {nL : Nat} {own : String} {d : Nat} {Y : rs_Y} (K : rs_K l g kd t cc nL own d Y) {M : rs_M} {pc : Nat} {lv : List (Nat × Value)} {rest : List Value} {x y : Int32} (hd : decode cc pc = .ok (.ishl, 1)) (k : Y M (pc + 1) lv (.int (x <<< (y &&& 31)) :: rest)) : Y M pc lv (.int y :: .int x :: rest) := by
  obtain ⟨p, e, s, m, args, below, meth, cd, Q, rfl, hx, hb, hml, hown, hts, hN, hZ⟩ := K
  intro H locs ls hI hl
  exact lv_ishl hx hb hd (k H locs ls hI hl)
theorem r_ishr {l : Launch} {g : rs_G} {kd : List rs_k} {t : Nat × Nat} {cc : ByteArray} {nL : Nat} {own : String} {d : Nat} {Y : rs_Y} (K : rs_K l g kd t cc nL own d Y) {M : rs_M} {pc : Nat} {lv : List (Nat × Value)} {rest : List Value} {x y : Int32} (hd : decode cc pc = .ok (.ishr, 1)) (k : Y M (pc + 1) lv (.int (x >>> (y &&& 31)) :: rest)) : Y M pc lv (.int y :: .int x :: rest) := by
  obtain ⟨p, e, s, m, args, below, meth, cd, Q, rfl, hx, hb, hml, hown, hts, hN, hZ⟩ := K
  intro H locs ls hI hl
  exact lv_ishr hx hb hd (k H locs ls hI hl)
theorem r_iushr {l : Launch} {g : rs_G} {kd : List rs_k} {t : Nat × Nat} {cc : ByteArray} {nL : Nat} {own : String} {d : Nat} {Y : rs_Y} (K : rs_K l g kd t cc nL own d Y) {M : rs_M} {pc : Nat} {lv : List (Nat × Value)} {rest : List Value} {x y : Int32} (hd : decode cc pc = .ok (.iushr, 1)) (k : Y M (pc + 1) lv (.int ((x.toUInt32 >>> (y.toUInt32 &&& Int32.toUInt32 31)).toInt32) :: rest)) : Y M pc lv (.int y :: .int x :: rest) := by
  obtain ⟨p, e, s, m, args, below, meth, cd, Q, rfl, hx, hb, hml, hown, hts, hN, hZ⟩ := K
  intro H locs ls hI hl
  exact lv_iushr hx hb hd rfl (k H locs ls hI hl)
theorem r_ineg {l : Launch} {g : rs_G} {kd : List rs_k} {t : Nat × Nat} {cc : ByteArray} {nL : Nat} {own : String} {d : Nat} {Y : rs_Y} (K : rs_K l g kd t cc nL own d Y) {M : rs_M} {pc : Nat} {lv : List (Nat × Value)} {rest : List Value} {x : Int32} (hd : decode cc pc = .ok (.ineg, 1)) (k : Y M (pc + 1) lv (.int (-x) :: rest)) : Y M pc lv (.int x :: rest) := by
  obtain ⟨p, e, s, m, args, below, meth, cd, Q, rfl, hx, hb, hml, hown, hts, hN, hZ⟩ := K
  intro H locs ls hI hl
  exact lv_ineg hx hb hd (k H locs ls hI hl)
theorem r_idiv {l : Launch} {g : rs_G} {kd : List rs_k} {t : Nat × Nat} {cc : ByteArray} {nL : Nat} {own : String} {d : Nat} {Y : rs_Y} (K : rs_K l g kd t cc nL own d Y) {M : rs_M} {pc : Nat} {lv : List (Nat × Value)} {rest : List Value} {x y : Int32} (hd : decode cc pc = .ok (.idiv, 1)) (h0 : ¬ y = 0) (k : Y M (pc + 1) lv (.int (x / y) :: rest)) : Y M pc lv (.int y :: .int x :: rest) := by
  obtain ⟨p, e, s, m, args, below, meth, cd, Q, rfl, hx, hb, hml, hown, hts, hN, hZ⟩ := K
  intro H locs ls hI hl
  exact lv_idiv hx hb hd h0 (k H locs ls hI hl)
theorem r_irem {l : Launch} {g : rs_G} {kd : List rs_k} {t : Nat × Nat} {cc : ByteArray} {nL : Nat} {own : String} {d : Nat} {Y : rs_Y} (K : rs_K l g kd t cc nL own d Y) {M : rs_M} {pc : Nat} {lv : List (Nat × Value)} {rest : List Value} {x y : Int32} (hd : decode cc pc = .ok (.irem, 1)) (h0 : ¬ y = 0) (k : Y M (pc + 1) lv (.int (x - x / y * y) :: rest)) : Y M pc lv (.int y :: .int x :: rest) := by
  obtain ⟨p, e, s, m, args, below, meth, cd, Q, rfl, hx, hb, hml, hown, hts, hN, hZ⟩ := K
  intro H locs ls hI hl
  exact lv_irem hx hb hd h0 (k H locs ls hI hl)
theorem r_ladd {l : Launch} {g : rs_G} {kd : List rs_k} {t : Nat × Nat} {cc : ByteArray} {nL : Nat} {own : String} {d : Nat} {Y : rs_Y} (K : rs_K l g kd t cc nL own d Y) {M : rs_M} {pc : Nat} {lv : List (Nat × Value)} {rest : List Value} {x y : Int64} (hd : decode cc pc = .ok (.ladd, 1)) (k : Y M (pc + 1) lv (.long (x + y) :: rest)) : Y M pc lv (.long y :: .long x :: rest) := by
  obtain ⟨p, e, s, m, args, below, meth, cd, Q, rfl, hx, hb, hml, hown, hts, hN, hZ⟩ := K
  intro H locs ls hI hl
  exact lv_ladd hx hb hd (k H locs ls hI hl)
theorem r_lmul {l : Launch} {g : rs_G} {kd : List rs_k} {t : Nat × Nat} {cc : ByteArray} {nL : Nat} {own : String} {d : Nat} {Y : rs_Y} (K : rs_K l g kd t cc nL own d Y) {M : rs_M} {pc : Nat} {lv : List (Nat × Value)} {rest : List Value} {x y : Int64} (hd : decode cc pc = .ok (.lmul, 1)) (k : Y M (pc + 1) lv (.long (x * y) :: rest)) : Y M pc lv (.long y :: .long x :: rest) := by
  obtain ⟨p, e, s, m, args, below, meth, cd, Q, rfl, hx, hb, hml, hown, hts, hN, hZ⟩ := K
  intro H locs ls hI hl
  exact lv_lmul hx hb hd (k H locs ls hI hl)
theorem r_ldiv {l : Launch} {g : rs_G} {kd : List rs_k} {t : Nat × Nat} {cc : ByteArray} {nL : Nat} {own : String} {d : Nat} {Y : rs_Y} (K : rs_K l g kd t cc nL own d Y) {M : rs_M} {pc : Nat} {lv : List (Nat × Value)} {rest : List Value} {x y : Int64} (hd : decode cc pc = .ok (.ldiv, 1)) (h0 : ¬ y = 0) (k : Y M (pc + 1) lv (.long (x / y) :: rest)) : Y M pc lv (.long y :: .long x :: rest) := by
  obtain ⟨p, e, s, m, args, below, meth, cd, Q, rfl, hx, hb, hml, hown, hts, hN, hZ⟩ := K
  intro H locs ls hI hl
  exact lv_ldiv hx hb hd h0 (k H locs ls hI hl)
theorem r_lrem {l : Launch} {g : rs_G} {kd : List rs_k} {t : Nat × Nat} {cc : ByteArray} {nL : Nat} {own : String} {d : Nat} {Y : rs_Y} (K : rs_K l g kd t cc nL own d Y) {M : rs_M} {pc : Nat} {lv : List (Nat × Value)} {rest : List Value} {x y : Int64} (hd : decode cc pc = .ok (.lrem, 1)) (h0 : ¬ y = 0) (k : Y M (pc + 1) lv (.long (x - x / y * y) :: rest)) : Y M pc lv (.long y :: .long x :: rest) := by
  obtain ⟨p, e, s, m, args, below, meth, cd, Q, rfl, hx, hb, hml, hown, hts, hN, hZ⟩ := K
  intro H locs ls hI hl
  exact lv_lrem hx hb hd h0 (k H locs ls hI hl)
theorem r_lcmp {l : Launch} {g : rs_G} {kd : List rs_k} {t : Nat × Nat} {cc : ByteArray} {nL : Nat} {own : String} {d : Nat} {Y : rs_Y} (K : rs_K l g kd t cc nL own d Y) {M : rs_M} {pc : Nat} {lv : List (Nat × Value)} {rest : List Value} {x y : Int64} (hd : decode cc pc = .ok (.lcmp, 1)) (k : Y M (pc + 1) lv (.int (lg_cmp x y) :: rest)) : Y M pc lv (.long y :: .long x :: rest) := by
  obtain ⟨p, e, s, m, args, below, meth, cd, Q, rfl, hx, hb, hml, hown, hts, hN, hZ⟩ := K
  intro H locs ls hI hl
  exact W.lcmp hx hb hd (k H locs ls hI hl)
theorem r_i2l {l : Launch} {g : rs_G} {kd : List rs_k} {t : Nat × Nat} {cc : ByteArray} {nL : Nat} {own : String} {d : Nat} {Y : rs_Y} (K : rs_K l g kd t cc nL own d Y) {M : rs_M} {pc : Nat} {lv : List (Nat × Value)} {rest : List Value} {x : Int32} (hd : decode cc pc = .ok (.i2l, 1)) (k : Y M (pc + 1) lv (.long x.toInt64 :: rest)) : Y M pc lv (.int x :: rest) := by
  obtain ⟨p, e, s, m, args, below, meth, cd, Q, rfl, hx, hb, hml, hown, hts, hN, hZ⟩ := K
  intro H locs ls hI hl
  exact lv_i2l hx hb hd rfl (k H locs ls hI hl)
theorem r_l2i {l : Launch} {g : rs_G} {kd : List rs_k} {t : Nat × Nat} {cc : ByteArray} {nL : Nat} {own : String} {d : Nat} {Y : rs_Y} (K : rs_K l g kd t cc nL own d Y) {M : rs_M} {pc : Nat} {lv : List (Nat × Value)} {rest : List Value} {x : Int64} (hd : decode cc pc = .ok (.l2i, 1)) (k : Y M (pc + 1) lv (.int x.toInt32 :: rest)) : Y M pc lv (.long x :: rest) := by
  obtain ⟨p, e, s, m, args, below, meth, cd, Q, rfl, hx, hb, hml, hown, hts, hN, hZ⟩ := K
  intro H locs ls hI hl
  exact lv_l2i hx hb hd rfl (k H locs ls hI hl)
theorem r_dup {l : Launch} {g : rs_G} {kd : List rs_k} {t : Nat × Nat} {cc : ByteArray} {nL : Nat} {own : String} {d : Nat} {Y : rs_Y} (K : rs_K l g kd t cc nL own d Y) {M : rs_M} {pc : Nat} {lv : List (Nat × Value)} {rest : List Value} {v : Value} (hd : decode cc pc = .ok (.dup, 1)) (hv : v.category = 1) (k : Y M (pc + 1) lv (v :: v :: rest)) : Y M pc lv (v :: rest) := by
  obtain ⟨p, e, s, m, args, below, meth, cd, Q, rfl, hx, hb, hml, hown, hts, hN, hZ⟩ := K
  intro H locs ls hI hl
  exact lv_dup hx hb hd hv (k H locs ls hI hl)
theorem r_dup2 {l : Launch} {g : rs_G} {kd : List rs_k} {t : Nat × Nat} {cc : ByteArray} {nL : Nat} {own : String} {d : Nat} {Y : rs_Y} (K : rs_K l g kd t cc nL own d Y) {M : rs_M} {pc : Nat} {lv : List (Nat × Value)} {rest : List Value} {v w : Value} (hd : decode cc pc = .ok (.dup2, 1)) (hv : v.category = 1) (hw : w.category = 1) (k : Y M (pc + 1) lv (v :: w :: v :: w :: rest)) : Y M pc lv (v :: w :: rest) := by
  obtain ⟨p, e, s, m, args, below, meth, cd, Q, rfl, hx, hb, hml, hown, hts, hN, hZ⟩ := K
  intro H locs ls hI hl
  exact lv_dup2_11 hx hb hd hv hw (k H locs ls hI hl)
theorem r_dup_x1 {l : Launch} {g : rs_G} {kd : List rs_k} {t : Nat × Nat} {cc : ByteArray} {nL : Nat} {own : String} {d : Nat} {Y : rs_Y} (K : rs_K l g kd t cc nL own d Y) {M : rs_M} {pc : Nat} {lv : List (Nat × Value)} {rest : List Value} {v w : Value} (hd : decode cc pc = .ok (.dup_x1, 1)) (hv : v.category = 1) (hw : w.category = 1) (k : Y M (pc + 1) lv (v :: w :: v :: rest)) : Y M pc lv (v :: w :: rest) := by
  obtain ⟨p, e, s, m, args, below, meth, cd, Q, rfl, hx, hb, hml, hown, hts, hN, hZ⟩ := K
  intro H locs ls hI hl
  exact lv_dup_x1 hx hb hd hv hw (k H locs ls hI hl)
theorem r_goto {l : Launch} {g : rs_G} {kd : List rs_k} {t : Nat × Nat} {cc : ByteArray} {nL : Nat} {own : String} {d : Nat} {Y : rs_Y} (K : rs_K l g kd t cc nL own d Y) {M : rs_M} {pc : Nat} {lv : List (Nat × Value)} {rest : List Value} {o : Int} (tgt : Nat) (hd : decode cc pc = .ok (.goto o, 3)) (ht : (pc : Int) + o = (tgt : Int)) (k : Y M tgt lv rest) : Y M pc lv rest := by
  obtain ⟨p, e, s, m, args, below, meth, cd, Q, rfl, hx, hb, hml, hown, hts, hN, hZ⟩ := K
  intro H locs ls hI hl
  exact lv_goto hx hb hd ht (k H locs ls hI hl)
theorem r_if_eq {l : Launch} {g : rs_G} {kd : List rs_k} {t : Nat × Nat} {cc : ByteArray} {nL : Nat} {own : String} {d : Nat} {Y : rs_Y} (K : rs_K l g kd t cc nL own d Y) {M : rs_M} {pc : Nat} {lv : List (Nat × Value)} {rest : List Value} {x : Int32} {o : Int} (tgt : Nat) (hd : decode cc pc = .ok (.ifCond .eq o, 3)) (ht : (pc : Int) + o = (tgt : Int)) (kt : x = 0 → Y M tgt lv rest) (kf : ¬ x = 0 → Y M (pc + 3) lv rest) : Y M pc lv (.int x :: rest) := by
  obtain ⟨p, e, s, m, args, below, meth, cd, Q, rfl, hx, hb, hml, hown, hts, hN, hZ⟩ := K
  intro H locs ls hI hl
  exact lv_if_eq hx hb hd ht (fun h => kt h H locs ls hI hl) (fun h => kf h H locs ls hI hl)
theorem r_icmp_eq {l : Launch} {g : rs_G} {kd : List rs_k} {t : Nat × Nat} {cc : ByteArray} {nL : Nat} {own : String} {d : Nat} {Y : rs_Y} (K : rs_K l g kd t cc nL own d Y) {M : rs_M} {pc : Nat} {lv : List (Nat × Value)} {rest : List Value} {x y : Int32} {o : Int} (tgt : Nat) (hd : decode cc pc = .ok (.if_icmp .eq o, 3)) (ht : (pc : Int) + o = (tgt : Int)) (kt : x = y → Y M tgt lv rest) (kf : ¬ x = y → Y M (pc + 3) lv rest) : Y M pc lv (.int y :: .int x :: rest) := by
  obtain ⟨p, e, s, m, args, below, meth, cd, Q, rfl, hx, hb, hml, hown, hts, hN, hZ⟩ := K
  intro H locs ls hI hl
  exact lv_icmp_eq hx hb hd ht (fun h => kt h H locs ls hI hl) (fun h => kf h H locs ls hI hl)
theorem r_if_ne {l : Launch} {g : rs_G} {kd : List rs_k} {t : Nat × Nat} {cc : ByteArray} {nL : Nat} {own : String} {d : Nat} {Y : rs_Y} (K : rs_K l g kd t cc nL own d Y) {M : rs_M} {pc : Nat} {lv : List (Nat × Value)} {rest : List Value} {x : Int32} {o : Int} (tgt : Nat) (hd : decode cc pc = .ok (.ifCond .ne o, 3)) (ht : (pc : Int) + o = (tgt : Int)) (kt : ¬ x = 0 → Y M tgt lv rest) (kf : x = 0 → Y M (pc + 3) lv rest) : Y M pc lv (.int x :: rest) := by
  obtain ⟨p, e, s, m, args, below, meth, cd, Q, rfl, hx, hb, hml, hown, hts, hN, hZ⟩ := K
  intro H locs ls hI hl
  exact lv_if_ne hx hb hd ht (fun h => kt h H locs ls hI hl) (fun h => kf h H locs ls hI hl)
theorem r_icmp_ne {l : Launch} {g : rs_G} {kd : List rs_k} {t : Nat × Nat} {cc : ByteArray} {nL : Nat} {own : String} {d : Nat} {Y : rs_Y} (K : rs_K l g kd t cc nL own d Y) {M : rs_M} {pc : Nat} {lv : List (Nat × Value)} {rest : List Value} {x y : Int32} {o : Int} (tgt : Nat) (hd : decode cc pc = .ok (.if_icmp .ne o, 3)) (ht : (pc : Int) + o = (tgt : Int)) (kt : ¬ x = y → Y M tgt lv rest) (kf : x = y → Y M (pc + 3) lv rest) : Y M pc lv (.int y :: .int x :: rest) := by
  obtain ⟨p, e, s, m, args, below, meth, cd, Q, rfl, hx, hb, hml, hown, hts, hN, hZ⟩ := K
  intro H locs ls hI hl
  exact lv_icmp_ne hx hb hd ht (fun h => kt h H locs ls hI hl) (fun h => kf h H locs ls hI hl)
theorem r_if_lt {l : Launch} {g : rs_G} {kd : List rs_k} {t : Nat × Nat} {cc : ByteArray} {nL : Nat} {own : String} {d : Nat} {Y : rs_Y} (K : rs_K l g kd t cc nL own d Y) {M : rs_M} {pc : Nat} {lv : List (Nat × Value)} {rest : List Value} {x : Int32} {o : Int} (tgt : Nat) (hd : decode cc pc = .ok (.ifCond .lt o, 3)) (ht : (pc : Int) + o = (tgt : Int)) (kt : x < 0 → Y M tgt lv rest) (kf : ¬ x < 0 → Y M (pc + 3) lv rest) : Y M pc lv (.int x :: rest) := by
  obtain ⟨p, e, s, m, args, below, meth, cd, Q, rfl, hx, hb, hml, hown, hts, hN, hZ⟩ := K
  intro H locs ls hI hl
  exact lv_if_lt hx hb hd ht (fun h => kt h H locs ls hI hl) (fun h => kf h H locs ls hI hl)
theorem r_icmp_lt {l : Launch} {g : rs_G} {kd : List rs_k} {t : Nat × Nat} {cc : ByteArray} {nL : Nat} {own : String} {d : Nat} {Y : rs_Y} (K : rs_K l g kd t cc nL own d Y) {M : rs_M} {pc : Nat} {lv : List (Nat × Value)} {rest : List Value} {x y : Int32} {o : Int} (tgt : Nat) (hd : decode cc pc = .ok (.if_icmp .lt o, 3)) (ht : (pc : Int) + o = (tgt : Int)) (kt : x < y → Y M tgt lv rest) (kf : ¬ x < y → Y M (pc + 3) lv rest) : Y M pc lv (.int y :: .int x :: rest) := by
  obtain ⟨p, e, s, m, args, below, meth, cd, Q, rfl, hx, hb, hml, hown, hts, hN, hZ⟩ := K
  intro H locs ls hI hl
  exact lv_icmp_lt hx hb hd ht (fun h => kt h H locs ls hI hl) (fun h => kf h H locs ls hI hl)
theorem r_if_ge {l : Launch} {g : rs_G} {kd : List rs_k} {t : Nat × Nat} {cc : ByteArray} {nL : Nat} {own : String} {d : Nat} {Y : rs_Y} (K : rs_K l g kd t cc nL own d Y) {M : rs_M} {pc : Nat} {lv : List (Nat × Value)} {rest : List Value} {x : Int32} {o : Int} (tgt : Nat) (hd : decode cc pc = .ok (.ifCond .ge o, 3)) (ht : (pc : Int) + o = (tgt : Int)) (kt : 0 ≤ x → Y M tgt lv rest) (kf : ¬ 0 ≤ x → Y M (pc + 3) lv rest) : Y M pc lv (.int x :: rest) := by
  obtain ⟨p, e, s, m, args, below, meth, cd, Q, rfl, hx, hb, hml, hown, hts, hN, hZ⟩ := K
  intro H locs ls hI hl
  exact lv_if_ge hx hb hd ht (fun h => kt h H locs ls hI hl) (fun h => kf h H locs ls hI hl)
theorem r_icmp_ge {l : Launch} {g : rs_G} {kd : List rs_k} {t : Nat × Nat} {cc : ByteArray} {nL : Nat} {own : String} {d : Nat} {Y : rs_Y} (K : rs_K l g kd t cc nL own d Y) {M : rs_M} {pc : Nat} {lv : List (Nat × Value)} {rest : List Value} {x y : Int32} {o : Int} (tgt : Nat) (hd : decode cc pc = .ok (.if_icmp .ge o, 3)) (ht : (pc : Int) + o = (tgt : Int)) (kt : y ≤ x → Y M tgt lv rest) (kf : ¬ y ≤ x → Y M (pc + 3) lv rest) : Y M pc lv (.int y :: .int x :: rest) := by
  obtain ⟨p, e, s, m, args, below, meth, cd, Q, rfl, hx, hb, hml, hown, hts, hN, hZ⟩ := K
  intro H locs ls hI hl
  exact lv_icmp_ge hx hb hd ht (fun h => kt h H locs ls hI hl) (fun h => kf h H locs ls hI hl)
theorem r_if_gt {l : Launch} {g : rs_G} {kd : List rs_k} {t : Nat × Nat} {cc : ByteArray} {nL : Nat} {own : String} {d : Nat} {Y : rs_Y} (K : rs_K l g kd t cc nL own d Y) {M : rs_M} {pc : Nat} {lv : List (Nat × Value)} {rest : List Value} {x : Int32} {o : Int} (tgt : Nat) (hd : decode cc pc = .ok (.ifCond .gt o, 3)) (ht : (pc : Int) + o = (tgt : Int)) (kt : 0 < x → Y M tgt lv rest) (kf : ¬ 0 < x → Y M (pc + 3) lv rest) : Y M pc lv (.int x :: rest) := by
  obtain ⟨p, e, s, m, args, below, meth, cd, Q, rfl, hx, hb, hml, hown, hts, hN, hZ⟩ := K
  intro H locs ls hI hl
  exact lv_if_gt hx hb hd ht (fun h => kt h H locs ls hI hl) (fun h => kf h H locs ls hI hl)
theorem r_icmp_gt {l : Launch} {g : rs_G} {kd : List rs_k} {t : Nat × Nat} {cc : ByteArray} {nL : Nat} {own : String} {d : Nat} {Y : rs_Y} (K : rs_K l g kd t cc nL own d Y) {M : rs_M} {pc : Nat} {lv : List (Nat × Value)} {rest : List Value} {x y : Int32} {o : Int} (tgt : Nat) (hd : decode cc pc = .ok (.if_icmp .gt o, 3)) (ht : (pc : Int) + o = (tgt : Int)) (kt : y < x → Y M tgt lv rest) (kf : ¬ y < x → Y M (pc + 3) lv rest) : Y M pc lv (.int y :: .int x :: rest) := by
  obtain ⟨p, e, s, m, args, below, meth, cd, Q, rfl, hx, hb, hml, hown, hts, hN, hZ⟩ := K
  intro H locs ls hI hl
  exact lv_icmp_gt hx hb hd ht (fun h => kt h H locs ls hI hl) (fun h => kf h H locs ls hI hl)
theorem r_if_le {l : Launch} {g : rs_G} {kd : List rs_k} {t : Nat × Nat} {cc : ByteArray} {nL : Nat} {own : String} {d : Nat} {Y : rs_Y} (K : rs_K l g kd t cc nL own d Y) {M : rs_M} {pc : Nat} {lv : List (Nat × Value)} {rest : List Value} {x : Int32} {o : Int} (tgt : Nat) (hd : decode cc pc = .ok (.ifCond .le o, 3)) (ht : (pc : Int) + o = (tgt : Int)) (kt : x ≤ 0 → Y M tgt lv rest) (kf : ¬ x ≤ 0 → Y M (pc + 3) lv rest) : Y M pc lv (.int x :: rest) := by
  obtain ⟨p, e, s, m, args, below, meth, cd, Q, rfl, hx, hb, hml, hown, hts, hN, hZ⟩ := K
  intro H locs ls hI hl
  exact lv_if_le hx hb hd ht (fun h => kt h H locs ls hI hl) (fun h => kf h H locs ls hI hl)
theorem r_icmp_le {l : Launch} {g : rs_G} {kd : List rs_k} {t : Nat × Nat} {cc : ByteArray} {nL : Nat} {own : String} {d : Nat} {Y : rs_Y} (K : rs_K l g kd t cc nL own d Y) {M : rs_M} {pc : Nat} {lv : List (Nat × Value)} {rest : List Value} {x y : Int32} {o : Int} (tgt : Nat) (hd : decode cc pc = .ok (.if_icmp .le o, 3)) (ht : (pc : Int) + o = (tgt : Int)) (kt : x ≤ y → Y M tgt lv rest) (kf : ¬ x ≤ y → Y M (pc + 3) lv rest) : Y M pc lv (.int y :: .int x :: rest) := by
  obtain ⟨p, e, s, m, args, below, meth, cd, Q, rfl, hx, hb, hml, hown, hts, hN, hZ⟩ := K
  intro H locs ls hI hl
  exact lv_icmp_le hx hb hd ht (fun h => kt h H locs ls hI hl) (fun h => kf h H locs ls hI hl)
theorem r_top {Y : rs_Y} {M : rs_M} {pc : Nat} {lv : List (Nat × Value)} {rest : List Value} {x : Int32} (k : ∀ y : Int32, y = x → Y M pc lv (.int y :: rest)) : Y M pc lv (.int x :: rest) := k x rfl
theorem r_top_eq {Y : rs_Y} {M : rs_M} {pc : Nat} {lv : List (Nat × Value)} {rest : List Value} {x : Int32} (y : Int32) (h : x = y) (k : Y M pc lv (.int y :: rest)) : Y M pc lv (.int x :: rest) := h ▸ k
theorem r_topl_eq {Y : rs_Y} {M : rs_M} {pc : Nat} {lv : List (Nat × Value)} {rest : List Value} {x : Int64} (y : Int64) (h : x = y) (k : Y M pc lv (.long y :: rest)) : Y M pc lv (.long x :: rest) := h ▸ k
theorem r_mem {Y : rs_Y} {M : rs_M} {pc : Nat} {lv : List (Nat × Value)} {rest : List Value} (M1 : rs_M) (h : M = M1) (k : Y M1 pc lv rest) : Y M pc lv rest := h ▸ k
def rs_ff (ti j : Nat) (C nm ds : String) (ty : FieldType) (fin : Bool) : Prop := ∃ (Cn : String) (T : u_T) (N : Nat) (ty0 : Nat → FieldType), vwCl[ti]? = some (Cn, T, N) ∧ j < N ∧ T j = (C, nm, ds, fin) ∧ (∀ w ∈ u_ws Cn T N, w ∈ rs_T) ∧ (∀ k, k < N → parseFieldDescriptor (T k).2.2.1 = some (ty0 k)) ∧ (∀ a, a < N → ∀ b, b < N → a ≠ b → (T a).2.1 ≠ (T b).2.1) ∧ parseFieldDescriptor ds = some ty
theorem r_getI {l : Launch} {g : rs_G} {kd : List rs_k} {t : Nat × Nat} {cc : ByteArray} {nL : Nat} {own : String} {d : Nat} {Y : rs_Y} (K : rs_K l g kd t cc nL own d Y) {M : rs_M} {pc : Nat} {lv : List (Nat × Value)} {rest : List Value} {c ti n j idx : Nat} {refs : List Nat} {C nm ds : String} {ty : FieldType} {fin : Bool} (hk : kd[c]? = some (ti + 4, n, refs)) (hj : refs[j]? = some 0) (ff : rs_ff ti j C nm ds ty fin) (hq : Cond.fieldLink own idx C nm ds ∈ rs_T) (hd : decode cc pc = .ok (.getfield idx, 3)) (k : Y M (pc + 3) lv (.int (M c j) :: rest)) : Y M pc lv (.ref (g.2.2 c) :: rest) := by
  obtain ⟨p, e, s, m, args, below, meth, cd, Q, rfl, hx, hb, hml, hown, hts, hN, hZ⟩ := K
  intro H locs ls hI hl
  obtain ⟨Cn, T, N, ty0, f1, f2, f3, f4, f5, f6, f7⟩ := ff
  have hv := rs_fl_0 g.2.2 (M c) refs 0 j hj
  rw [Nat.zero_add] at hv
  exact va_get (ref := C) hx hb hts f4 hown hN.1 hI.1 c (rs_ws_get hk) f1 j f2 (by rw [f3]; exact hts _ hq) (fun _ h9 => by rw [f3] at h9 ⊢; exact h9) hv hd (k H locs ls hI hl)
theorem r_getR {l : Launch} {g : rs_G} {kd : List rs_k} {t : Nat × Nat} {cc : ByteArray} {nL : Nat} {own : String} {d : Nat} {Y : rs_Y} (K : rs_K l g kd t cc nL own d Y) {M : rs_M} {pc : Nat} {lv : List (Nat × Value)} {rest : List Value} {c ti n j r idx : Nat} {refs : List Nat} {C nm ds : String} {ty : FieldType} {fin : Bool} (hk : kd[c]? = some (ti + 4, n, refs)) (hj : refs[j]? = some (r + 1)) (ff : rs_ff ti j C nm ds ty fin) (hq : Cond.fieldLink own idx C nm ds ∈ rs_T) (hd : decode cc pc = .ok (.getfield idx, 3)) (k : Y M (pc + 3) lv (.ref (g.2.2 r) :: rest)) : Y M pc lv (.ref (g.2.2 c) :: rest) := by
  obtain ⟨p, e, s, m, args, below, meth, cd, Q, rfl, hx, hb, hml, hown, hts, hN, hZ⟩ := K
  intro H locs ls hI hl
  obtain ⟨Cn, T, N, ty0, f1, f2, f3, f4, f5, f6, f7⟩ := ff
  exact va_get (ref := C) hx hb hts f4 hown hN.1 hI.1 c (rs_ws_get hk) f1 j f2 (by rw [f3]; exact hts _ hq) (fun _ h9 => by rw [f3] at h9 ⊢; exact h9) (rs_fl_s g.2.2 (M c) refs 0 j r hj) hd (k H locs ls hI hl)
theorem r_put {l : Launch} {g : rs_G} {kd : List rs_k} {t : Nat × Nat} {cc : ByteArray} {nL : Nat} {own : String} {d : Nat} {Y : rs_Y} (K : rs_K l g kd t cc nL own d Y) {M : rs_M} {pc : Nat} {lv : List (Nat × Value)} {rest : List Value} {c ti n j idx : Nat} {refs : List Nat} {C nm ds : String} {ty : FieldType} {x : Int32} (hk : kd[c]? = some (ti + 4, n, refs)) (hj : refs[j]? = some 0) (ff : rs_ff ti j C nm ds ty false) (hq : Cond.fieldLink own idx C nm ds ∈ rs_T) (hn : narrow ty (.int x) = .int x) (hf : fits ty (.int x) = true) (hd : decode cc pc = .ok (.putfield idx, 3)) (k : Y (rs_st M c j x) (pc + 3) lv rest) : Y M pc lv (.int x :: .ref (g.2.2 c) :: rest) := by
  obtain ⟨p, e, s, m, args, below, meth, cd, Q, rfl, hx, hb, hml, hown, hts, hN, hZ⟩ := K
  intro H locs ls hI hl
  obtain ⟨Cn, T, N, ty0, f1, f2, f3, f4, f5, f6, f7⟩ := ff
  refine va_put (ref := C) hx hb hts f4 ty0 f5 f6 hown hN.1 hI.1 hI.2.1 hI.2.2 c (rs_ws_get hk) f1 j f2 (by rw [f3]; exact hts _ hq) (fun _ h9 => by rw [f3] at h9 ⊢; exact h9) (by rw [f3]) (by rw [f3]; exact f7) hn hf (by rw [rs_fl_len]; exact (List.getElem?_eq_some_iff.mp hj).1) hd (fun H1 locs1 hP hD hS => ?_)
  have e0 : (rs_ws g kd M).set c (g.2.2 c, .inr (ti, (rs_fl g.2.2 (M c) 0 refs).set j (.int x))) = rs_ws g kd (rs_st M c j x) := by
    refine rs_ws_set hk ?_ (fun c' hc' => rs_st_ne M j x hc')
    rw [rs_fl_set _ _ _ _ _ _ hj, Nat.zero_add, rs_st_row]
    rfl
  have hP : va_P g.1 vwCl ((rs_ws g kd M).set c (g.2.2 c, .inr (ti, (rs_fl g.2.2 (M c) 0 refs).set j (.int x)))) H1 := hP
  have hD : va_D _ ((rs_ws g kd M).set c (g.2.2 c, .inr (ti, (rs_fl g.2.2 (M c) 0 refs).set j (.int x)))) := hD
  rw [e0] at hP hD
  exact k H1 locs1 ls ⟨hP, hD, hS⟩ hl
theorem r_iald {l : Launch} {g : rs_G} {kd : List rs_k} {t : Nat × Nat} {cc : ByteArray} {nL : Nat} {own : String} {d : Nat} {Y : rs_Y} (K : rs_K l g kd t cc nL own d Y) {M : rs_M} {pc : Nat} {lv : List (Nat × Value)} {rest : List Value} {c n j : Nat} {refs : List Nat} {i : Int32} (hk : kd[c]? = some (0, n, refs)) (hi : i = nI j) (hj : j < n) (hn : n < 2 ^ 31) (hd : decode cc pc = .ok (.iaload, 1)) (k : Y M (pc + 1) lv (.int (M c j) :: rest)) : Y M pc lv (.int i :: .ref (g.2.2 c) :: rest) := by
  obtain ⟨p, e, s, m, args, below, meth, cd, Q, rfl, hx, hb, hml, hown, hts, hN, hZ⟩ := K
  intro H locs ls hI hl
  subst hi
  refine va_iald hx hb hN.1 hI.1 c 0 (rs_ws_get hk) rfl (vp_in_nI hj hn) hd ?_
  rw [nI_clamp (Nat.lt_trans hj hn)]
  exact k H locs ls hI hl
theorem r_zald {l : Launch} {g : rs_G} {kd : List rs_k} {t : Nat × Nat} {cc : ByteArray} {nL : Nat} {own : String} {d : Nat} {Y : rs_Y} (K : rs_K l g kd t cc nL own d Y) {M : rs_M} {pc : Nat} {lv : List (Nat × Value)} {rest : List Value} {c n j : Nat} {refs : List Nat} {i : Int32} (hk : kd[c]? = some (1, n, refs)) (hi : i = nI j) (hj : j < n) (hn : n < 2 ^ 31) (hd : decode cc pc = .ok (.baload, 1)) (k : Y M (pc + 1) lv (.int (M c j) :: rest)) : Y M pc lv (.int i :: .ref (g.2.2 c) :: rest) := by
  obtain ⟨p, e, s, m, args, below, meth, cd, Q, rfl, hx, hb, hml, hown, hts, hN, hZ⟩ := K
  intro H locs ls hI hl
  subst hi
  refine va_zald hx hb hN.1 hI.1 c 1 (rs_ws_get hk) rfl (vp_in_nI hj hn) hd ?_
  rw [nI_clamp (Nat.lt_trans hj hn)]
  exact k H locs ls hI hl
theorem r_iast {l : Launch} {g : rs_G} {kd : List rs_k} {t : Nat × Nat} {cc : ByteArray} {nL : Nat} {own : String} {d : Nat} {Y : rs_Y} (K : rs_K l g kd t cc nL own d Y) {M : rs_M} {pc : Nat} {lv : List (Nat × Value)} {rest : List Value} {c n j : Nat} {refs : List Nat} {i x : Int32} (hk : kd[c]? = some (0, n, refs)) (hi : i = nI j) (hj : j < n) (hn : n < 2 ^ 31) (hd : decode cc pc = .ok (.iastore, 1)) (k : Y (rs_st M c j (x)) (pc + 1) lv rest) : Y M pc lv (.int x :: .int i :: .ref (g.2.2 c) :: rest) := by
  obtain ⟨p, e, s, m, args, below, meth, cd, Q, rfl, hx, hb, hml, hown, hts, hN, hZ⟩ := K
  intro H locs ls hI hl
  subst hi
  refine va_iast hx hb hN.1 hI.1 hI.2.1 hI.2.2 c 0 (rs_ws_get hk) rfl (vp_in_nI hj hn) hd (fun H1 locs1 hP hD hS => ?_)
  rw [nI_clamp (Nat.lt_trans hj hn)] at hP hD
  have e0 : (rs_ws g kd M).set c (g.2.2 c, rs_E g (0, n, refs) (upd (M c) j (x))) = rs_ws g kd (rs_st M c j (x)) := rs_ws_set hk (by rw [rs_st_row]) (fun c' hc' => rs_st_ne M j _ hc')
  have hP : va_P g.1 vwCl ((rs_ws g kd M).set c (g.2.2 c, rs_E g (0, n, refs) (upd (M c) j (x)))) H1 := hP
  have hD : va_D _ ((rs_ws g kd M).set c (g.2.2 c, rs_E g (0, n, refs) (upd (M c) j (x)))) := hD
  rw [e0] at hP hD
  exact k H1 locs1 ls ⟨hP, hD, hS⟩ hl
theorem r_zast {l : Launch} {g : rs_G} {kd : List rs_k} {t : Nat × Nat} {cc : ByteArray} {nL : Nat} {own : String} {d : Nat} {Y : rs_Y} (K : rs_K l g kd t cc nL own d Y) {M : rs_M} {pc : Nat} {lv : List (Nat × Value)} {rest : List Value} {c n j : Nat} {refs : List Nat} {i x : Int32} (hk : kd[c]? = some (1, n, refs)) (hi : i = nI j) (hj : j < n) (hn : n < 2 ^ 31) (hd : decode cc pc = .ok (.bastore, 1)) (k : Y (rs_st M c j (vp_nar .boolean x)) (pc + 1) lv rest) : Y M pc lv (.int x :: .int i :: .ref (g.2.2 c) :: rest) := by
  obtain ⟨p, e, s, m, args, below, meth, cd, Q, rfl, hx, hb, hml, hown, hts, hN, hZ⟩ := K
  intro H locs ls hI hl
  subst hi
  refine va_zast hx hb hN.1 hI.1 hI.2.1 hI.2.2 c 1 (rs_ws_get hk) rfl (vp_in_nI hj hn) hd (fun H1 locs1 hP hD hS => ?_)
  rw [nI_clamp (Nat.lt_trans hj hn)] at hP hD
  have e0 : (rs_ws g kd M).set c (g.2.2 c, rs_E g (1, n, refs) (upd (M c) j (vp_nar .boolean x))) = rs_ws g kd (rs_st M c j (vp_nar .boolean x)) := rs_ws_set hk (by rw [rs_st_row]) (fun c' hc' => rs_st_ne M j _ hc')
  have hP : va_P g.1 vwCl ((rs_ws g kd M).set c (g.2.2 c, rs_E g (1, n, refs) (upd (M c) j (vp_nar .boolean x)))) H1 := hP
  have hD : va_D _ ((rs_ws g kd M).set c (g.2.2 c, rs_E g (1, n, refs) (upd (M c) j (vp_nar .boolean x)))) := hD
  rw [e0] at hP hD
  exact k H1 locs1 ls ⟨hP, hD, hS⟩ hl
theorem r_aaldS {l : Launch} {g : rs_G} {kd : List rs_k} {t : Nat × Nat} {cc : ByteArray} {nL : Nat} {own : String} {d : Nat} {Y : rs_Y} (K : rs_K l g kd t cc nL own d Y) {M : rs_M} {pc : Nat} {lv : List (Nat × Value)} {rest : List Value} {c n j r : Nat} {refs : List Nat} {i : Int32} (hk : kd[c]? = some (2, n, refs)) (hi : i = nI j) (hr : refs[j]? = some r) (hj : j < n) (hn : n < 2 ^ 31) (hd : decode cc pc = .ok (.aaload, 1)) (k : Y M (pc + 1) lv (.ref (g.2.2 r) :: rest)) : Y M pc lv (.int i :: .ref (g.2.2 c) :: rest) := by
  obtain ⟨p, e, s, m, args, below, meth, cd, Q, rfl, hx, hb, hml, hown, hts, hN, hZ⟩ := K
  intro H locs ls hI hl
  subst hi
  refine va_aldq hx hb hN.1 hI.1 c 2 (rs_ws_get hk) rfl (vp_in_nI hj hn) hd ?_
  rw [nI_clamp (Nat.lt_trans hj hn)]
  simp only [hr, Option.map_some, va_rf]
  exact k H locs ls hI hl
theorem r_aaldL {l : Launch} {g : rs_G} {kd : List rs_k} {t : Nat × Nat} {cc : ByteArray} {nL : Nat} {own : String} {d : Nat} {Y : rs_Y} (K : rs_K l g kd t cc nL own d Y) {M : rs_M} {pc : Nat} {lv : List (Nat × Value)} {rest : List Value} {c n j r : Nat} {refs : List Nat} {i : Int32} (hk : kd[c]? = some (3, n, refs)) (hi : i = nI j) (hr : refs[j]? = some r) (hj : j < n) (hn : n < 2 ^ 31) (hd : decode cc pc = .ok (.aaload, 1)) (k : Y M (pc + 1) lv (.ref (g.2.2 r) :: rest)) : Y M pc lv (.int i :: .ref (g.2.2 c) :: rest) := by
  obtain ⟨p, e, s, m, args, below, meth, cd, Q, rfl, hx, hb, hml, hown, hts, hN, hZ⟩ := K
  intro H locs ls hI hl
  subst hi
  refine va_aldq hx hb hN.1 hI.1 c 3 (rs_ws_get hk) rfl (vp_in_nI hj hn) hd ?_
  rw [nI_clamp (Nat.lt_trans hj hn)]
  simp only [hr, Option.map_some, va_rf]
  exact k H locs ls hI hl
theorem r_getsLX {l : Launch} {g : rs_G} {kd : List rs_k} {t : Nat × Nat} {cc : ByteArray} {nL : Nat} {own : String} {d : Nat} {Y : rs_Y} (K : rs_K l g kd t cc nL own d Y) {M : rs_M} {pc : Nat} {lv : List (Nat × Value)} {rest : List Value} {idx : Nat} (hq : Cond.fieldLink own idx "RingSteer" "LEAN_X" "[I" ∈ rs_T) (hd : decode cc pc = .ok (.getstatic idx, 3)) (k : Y M (pc + 3) lv (.ref t.1 :: rest)) : Y M pc lv rest := by
  obtain ⟨p, e, s, m, args, below, meth, cd, Q, rfl, hx, hb, hml, hown, hts, hN, hZ⟩ := K
  intro H locs ls hI hl
  exact va_gets (ref := "RingSteer") hx hb hZ.1.1 hI.2.2 hown (hts _ hq) (fun _ h9 => h9) hd (k H locs ls hI hl)
theorem r_tabLX {l : Launch} {g : rs_G} {kd : List rs_k} {t : Nat × Nat} {cc : ByteArray} {nL : Nat} {own : String} {d : Nat} {Y : rs_Y} (K : rs_K l g kd t cc nL own d Y) {M : rs_M} {pc : Nat} {lv : List (Nat × Value)} {rest : List Value} {j : Nat} {i : Int32} (hi : i = nI j) (hj : j < 8) (hd : decode cc pc = .ok (.iaload, 1)) (k : Y M (pc + 1) lv (.int (rs_lX j) :: rest)) : Y M pc lv (.int i :: .ref t.1 :: rest) := by
  obtain ⟨p, e, s, m, args, below, meth, cd, Q, rfl, hx, hb, hml, hown, hts, hN, hZ⟩ := K
  intro H locs ls hI hl
  subst hi
  refine va_ti hx hb hZ.1.2 hI.2.2 (vp_in_nI hj (Nat.le_of_ble_eq_true rfl)) (v := .int (rs_lX j)) (by rw [nI_clamp (Nat.lt_trans hj (Nat.le_of_ble_eq_true rfl))]) hd (k H locs ls hI hl)
theorem r_getsLY {l : Launch} {g : rs_G} {kd : List rs_k} {t : Nat × Nat} {cc : ByteArray} {nL : Nat} {own : String} {d : Nat} {Y : rs_Y} (K : rs_K l g kd t cc nL own d Y) {M : rs_M} {pc : Nat} {lv : List (Nat × Value)} {rest : List Value} {idx : Nat} (hq : Cond.fieldLink own idx "RingSteer" "LEAN_Y" "[I" ∈ rs_T) (hd : decode cc pc = .ok (.getstatic idx, 3)) (k : Y M (pc + 3) lv (.ref t.2 :: rest)) : Y M pc lv rest := by
  obtain ⟨p, e, s, m, args, below, meth, cd, Q, rfl, hx, hb, hml, hown, hts, hN, hZ⟩ := K
  intro H locs ls hI hl
  exact va_gets (ref := "RingSteer") hx hb hZ.2.1 hI.2.2 hown (hts _ hq) (fun _ h9 => h9) hd (k H locs ls hI hl)
theorem r_tabLY {l : Launch} {g : rs_G} {kd : List rs_k} {t : Nat × Nat} {cc : ByteArray} {nL : Nat} {own : String} {d : Nat} {Y : rs_Y} (K : rs_K l g kd t cc nL own d Y) {M : rs_M} {pc : Nat} {lv : List (Nat × Value)} {rest : List Value} {j : Nat} {i : Int32} (hi : i = nI j) (hj : j < 8) (hd : decode cc pc = .ok (.iaload, 1)) (k : Y M (pc + 1) lv (.int (rs_lY j) :: rest)) : Y M pc lv (.int i :: .ref t.2 :: rest) := by
  obtain ⟨p, e, s, m, args, below, meth, cd, Q, rfl, hx, hb, hml, hown, hts, hN, hZ⟩ := K
  intro H locs ls hI hl
  subst hi
  refine va_ti hx hb hZ.2.2 hI.2.2 (vp_in_nI hj (Nat.le_of_ble_eq_true rfl)) (v := .int (rs_lY j)) (by rw [nI_clamp (Nat.lt_trans hj (Nat.le_of_ble_eq_true rfl))]) hd (k H locs ls hI hl)
def rs_swp (P : Nat → Prop) (x : Int32) : List (Int32 × Nat) → Nat → Prop
  | [], dt => P dt
  | (a, tg) :: r, dt => (x = a → P tg) ∧ (¬ x = a → rs_swp P x r dt)
def rs_swl (pc : Nat) : List (Int × Int) → List (Int32 × Nat) → Bool
  | [], [] => true
  | (a, o) :: r, (b, tg) :: s => decide (b.toInt = a) && decide ((pc : Int) + o = (tg : Int)) && rs_swl pc r s
  | _, _ => false
theorem rs_swl_off (P : Nat → Prop) (x : Int32) (pc dt : Nat) (df : Int) (hdt : (pc : Int) + df = (dt : Int)) : ∀ (ps : List (Int × Int)) (cs : List (Int32 × Nat)), rs_swl pc ps cs = true → rs_swp P x cs dt → ∃ tg : Nat, (pc : Int) + Op.lookupswitch.offset ps df x.toInt = (tg : Int) ∧ P tg
  | [], [], _, h => ⟨dt, by rw [Op.lookupswitch.offset_nil]; exact hdt, h⟩
  | [], _ :: _, h, _ => by simp [rs_swl] at h
  | _ :: _, [], h, _ => by simp [rs_swl] at h
  | (a, o) :: r, (b, tg) :: s, h, k => by
    simp only [rs_swl, Bool.and_eq_true, decide_eq_true_eq] at h
    obtain ⟨⟨h1, h2⟩, h3⟩ := h
    by_cases e : x = b
    · refine ⟨tg, ?_, k.1 e⟩
      rw [Op.lookupswitch.offset_cons, if_pos (by rw [e, h1])]
      exact h2
    · obtain ⟨tg2, i1, i2⟩ := rs_swl_off P x pc dt df hdt r s h3 (k.2 e)
      refine ⟨tg2, ?_, i2⟩
      rw [Op.lookupswitch.offset_cons, if_neg (fun q => e (Int32.toInt_inj.mp (by rw [← q, h1])))]
      exact i1
def rs_swt (pc : Nat) : Int → List Int → List (Int32 × Nat) → Bool
  | _, [], [] => true
  | lo, o :: r, (b, tg) :: s => decide (b.toInt = lo) && decide ((pc : Int) + o = (tg : Int)) && rs_swt pc (lo + 1) r s
  | _, _, _ => false
theorem rs_swt_out (P : Nat → Prop) (x : Int32) (pc dt : Nat) : ∀ (offs : List Int) (cs : List (Int32 × Nat)) (lo : Int), rs_swt pc lo offs cs = true → (x.toInt < lo ∨ lo + offs.length ≤ x.toInt) → rs_swp P x cs dt → P dt
  | [], [], _, _, _, k => k
  | [], _ :: _, _, h, _, _ => by simp [rs_swt] at h
  | _ :: _, [], _, h, _, _ => by simp [rs_swt] at h
  | o :: r, (b, tg) :: s, lo, h, hx, k => by
    simp only [rs_swt, Bool.and_eq_true, decide_eq_true_eq] at h
    obtain ⟨⟨h1, h2⟩, h3⟩ := h
    simp only [List.length_cons] at hx
    exact rs_swt_out P x pc dt r s (lo + 1) h3 (by omega) (k.2 (fun e => by rw [e, h1] at hx; omega))
theorem rs_swt_in (P : Nat → Prop) (x : Int32) (pc dt : Nat) : ∀ (offs : List Int) (cs : List (Int32 × Nat)) (lo : Int), rs_swt pc lo offs cs = true → ¬ x.toInt < lo → x.toInt < lo + offs.length → rs_swp P x cs dt → ∃ (o : Int) (tg : Nat), offs[(x.toInt - lo).toNat]? = some o ∧ (pc : Int) + o = (tg : Int) ∧ P tg
  | [], [], _, _, h1, h2, _ => by simp at h2; omega
  | [], _ :: _, _, h, _, _, _ => by simp [rs_swt] at h
  | _ :: _, [], _, h, _, _, _ => by simp [rs_swt] at h
  | o :: r, (b, tg) :: s, lo, h, hx1, hx2, k => by
    simp only [rs_swt, Bool.and_eq_true, decide_eq_true_eq] at h
    obtain ⟨⟨h1, h2⟩, h3⟩ := h
    simp only [List.length_cons] at hx2
    by_cases e : x = b
    · exact ⟨o, tg, by rw [e, h1]; simp, h2, k.1 e⟩
    · have hne : x.toInt ≠ lo := fun q => e (Int32.toInt_inj.mp (by rw [q, h1]))
      obtain ⟨o2, tg2, i1, i2, i3⟩ := rs_swt_in P x pc dt r s (lo + 1) h3 (by omega) (by omega) (k.2 e)
      refine ⟨o2, tg2, ?_, i2, i3⟩
      rw [show (x.toInt - lo).toNat = (x.toInt - (lo + 1)).toNat + 1 by omega, List.getElem?_cons_succ]
      exact i1
theorem r_lookup {l : Launch} {g : rs_G} {kd : List rs_k} {t : Nat × Nat} {cc : ByteArray} {nL : Nat} {own : String} {d : Nat} {Y : rs_Y} (K : rs_K l g kd t cc nL own d Y) {M : rs_M} {pc : Nat} {lv : List (Nat × Value)} {rest : List Value} {x : Int32} {df : Int} {ps : Array (Int × Int)} {len : Nat} (cs : List (Int32 × Nat)) (dt : Nat) (hd : decode cc pc = .ok (.lookupswitch df ps, len)) (hp : (ps.toList.zip (ps.toList.drop 1)).all (fun (a, next) => a.1 < next.1) = true) (hdt : (pc : Int) + df = (dt : Int)) (hs : rs_swl pc ps.toList cs = true) (k : rs_swp (fun tg => Y M tg lv rest) x cs dt) : Y M pc lv (.int x :: rest) := by
  obtain ⟨p, e, s, m, args, below, meth, cd, Q, rfl, hx, hb, hml, hown, hts, hN, hZ⟩ := K
  intro H locs ls hI hl
  obtain ⟨tg, h1, h2⟩ := rs_swl_off _ x pc dt df hdt ps.toList cs hs k
  exact lv_lookup hx hb hd hp rfl h1 (h2 H locs ls hI hl)
theorem r_table {l : Launch} {g : rs_G} {kd : List rs_k} {t : Nat × Nat} {cc : ByteArray} {nL : Nat} {own : String} {d : Nat} {Y : rs_Y} (K : rs_K l g kd t cc nL own d Y) {M : rs_M} {pc : Nat} {lv : List (Nat × Value)} {rest : List Value} {x : Int32} {df lo hi : Int} {offs : Array Int} {len : Nat} (cs : List (Int32 × Nat)) (dt : Nat) (hd : decode cc pc = .ok (.tableswitch df lo hi offs, len)) (hdt : (pc : Int) + df = (dt : Int)) (hh : hi + 1 = lo + offs.toList.length) (hs : rs_swt pc lo offs.toList cs = true) (k : rs_swp (fun tg => Y M tg lv rest) x cs dt) : Y M pc lv (.int x :: rest) := by
  obtain ⟨p, e, s, m, args, below, meth, cd, Q, rfl, hx, hb, hml, hown, hts, hN, hZ⟩ := K
  intro H locs ls hI hl
  by_cases ho : x.toInt < lo ∨ hi < x.toInt
  · exact lv_tableOut hx hb hd ho hdt (rs_swt_out (fun tg => rs_J p l e d s m args below meth cd Q g kd nL M tg lv rest) x pc dt offs.toList cs lo hs (by omega) k H locs ls hI hl)
  · obtain ⟨o, tg, h1, h2, h3⟩ := rs_swt_in _ x pc dt offs.toList cs lo hs (by omega) (by omega) k
    rw [Array.getElem?_toList] at h1
    exact lv_tableIn hx hb hd (by omega) (by omega) h1 h2 (h3 H locs ls hI hl)
theorem r_mabs {l : Launch} {g : rs_G} {kd : List rs_k} {t : Nat × Nat} {cc : ByteArray} {nL : Nat} {own : String} {d : Nat} {Y : rs_Y} (K : rs_K l g kd t cc nL own d Y) {M : rs_M} {pc : Nat} {lv : List (Nat × Value)} {rest : List Value} {idx : Nat} {x : Int32} (hd : decode cc pc = .ok (.invokestatic idx, 3)) (hq : Cond.methodLink own idx Lib.Math.abs.name ∈ rs_T) (h1 : Cond.static Lib.Math.abs.name ∈ rs_T) (h2 : Cond.initialized "java/lang/Math" ∈ rs_T) (h3 : Cond.code Lib.Math.abs.name Lib.Math.abs.code 1 (some .int) ∈ rs_T) (hd0 : 1 ≤ d) (hc0 : (rest.map fun v => v.category).sum ≤ 8) (k : Y M (pc + 3) lv (.int (if 0 ≤ x then x else 0 - x) :: rest)) : Y M pc lv (.int x :: rest) := by
  obtain ⟨p, e, s, m, args, below, meth, cd, Q, rfl, hx, hb, hml, hown, hts, hN, hZ⟩ := K
  intro H locs ls hI hl
  exact va_mabs hx hb (hml.trans hl.1.symm) hown (hts _ hq) (hts _ h1) (hts _ h2) (hts _ h3) hd0 (by show _ ≤ 40 * d; omega) (Nat.le_refl 0) (Nat.le_refl 0) hd (k H locs ls hI hl)
theorem r_mmax {l : Launch} {g : rs_G} {kd : List rs_k} {t : Nat × Nat} {cc : ByteArray} {nL : Nat} {own : String} {d : Nat} {Y : rs_Y} (K : rs_K l g kd t cc nL own d Y) {M : rs_M} {pc : Nat} {lv : List (Nat × Value)} {rest : List Value} {idx : Nat} {x y : Int32} (hd : decode cc pc = .ok (.invokestatic idx, 3)) (hq : Cond.methodLink own idx Lib.Math.max.name ∈ rs_T) (h1 : Cond.static Lib.Math.max.name ∈ rs_T) (h2 : Cond.initialized "java/lang/Math" ∈ rs_T) (h3 : Cond.code Lib.Math.max.name Lib.Math.max.code 2 (some .int) ∈ rs_T) (hd0 : 1 ≤ d) (hc0 : (rest.map fun v => v.category).sum ≤ 8) (k : Y M (pc + 3) lv (.int (if x < y then y else x) :: rest)) : Y M pc lv (.int y :: .int x :: rest) := by
  obtain ⟨p, e, s, m, args, below, meth, cd, Q, rfl, hx, hb, hml, hown, hts, hN, hZ⟩ := K
  intro H locs ls hI hl
  exact va_mmax hx hb (hml.trans hl.1.symm) hown (hts _ hq) (hts _ h1) (hts _ h2) (hts _ h3) hd0 (by show _ ≤ 40 * d; omega) (Nat.le_refl 0) (Nat.le_refl 0) hd (k H locs ls hI hl)
theorem r_mmin {l : Launch} {g : rs_G} {kd : List rs_k} {t : Nat × Nat} {cc : ByteArray} {nL : Nat} {own : String} {d : Nat} {Y : rs_Y} (K : rs_K l g kd t cc nL own d Y) {M : rs_M} {pc : Nat} {lv : List (Nat × Value)} {rest : List Value} {idx : Nat} {x y : Int32} (hd : decode cc pc = .ok (.invokestatic idx, 3)) (hq : Cond.methodLink own idx Lib.Math.min.name ∈ rs_T) (h1 : Cond.static Lib.Math.min.name ∈ rs_T) (h2 : Cond.initialized "java/lang/Math" ∈ rs_T) (h3 : Cond.code Lib.Math.min.name Lib.Math.min.code 2 (some .int) ∈ rs_T) (hd0 : 1 ≤ d) (hc0 : (rest.map fun v => v.category).sum ≤ 8) (k : Y M (pc + 3) lv (.int (if y < x then y else x) :: rest)) : Y M pc lv (.int y :: .int x :: rest) := by
  obtain ⟨p, e, s, m, args, below, meth, cd, Q, rfl, hx, hb, hml, hown, hts, hN, hZ⟩ := K
  intro H locs ls hI hl
  exact va_mmin hx hb (hml.trans hl.1.symm) hown (hts _ hq) (hts _ h1) (hts _ h2) (hts _ h3) hd0 (by show _ ≤ 40 * d; omega) (Nat.le_refl 0) (Nat.le_refl 0) hd (k H locs ls hI hl)
