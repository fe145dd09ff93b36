/-! the abstract line: keys in their order, wishes x and y, bar, way, tail -/
abbrev ab_L : Type := List Nat × (Nat → Int32) × (Nat → Int32) × Nat × Nat × Nat
abbrev ab_ks (L : ab_L) : List Nat := L.1
abbrev ab_wx (L : ab_L) : Nat → Int32 := L.2.1
abbrev ab_wy (L : ab_L) : Nat → Int32 := L.2.2.1
abbrev ab_bar (L : ab_L) : Nat := L.2.2.2.1
abbrev ab_way (L : ab_L) : Nat := L.2.2.2.2.1
abbrev ab_tail (L : ab_L) : Nat := L.2.2.2.2.2
abbrev ab_abs (x : Int32) : Int32 := if 0 ≤ x then x else 0 - x
/-- slope x, slope y, place x, place y -/
abbrev ab_P : Type := Int32 × Int32 × Int32 × Int32
def ab_step (tp : Int32) (q : ab_P) (k : Nat) : ab_P := (q.1 + tp * rs_lX k, q.2.1 + tp * rs_lY k, q.2.2.1 + (q.1 + tp * rs_lX k), q.2.2.2 + (q.2.1 + tp * rs_lY k))
def ab_geo (tp : Int32) (ks : List Nat) : ab_P := ks.foldl (ab_step tp) (0, 0, 0, 0)
theorem ab_geo_app (tp : Int32) (ks : List Nat) (k : Nat) : ab_geo tp (ks ++ [k]) = ab_step tp (ab_geo tp ks) k := by simp [ab_geo, List.foldl_append]
theorem ab_geo_nil (tp : Int32) : ab_geo tp [] = (0, 0, 0, 0) := rfl
/-- the last key, -9 without one -/
def ab_last (ks : List Nat) : Int32 := match ks.getLast? with
  | none => -9
  | some k => nI k
theorem ab_last_app (ks : List Nat) (k : Nat) : ab_last (ks ++ [k]) = nI k := by simp [ab_last]
def ab_way_cost (way : Nat) (dx dy : Int32) : Int32 := match way with
  | 1 => if dx < dy then dy else dx
  | 2 => dx * dx + dy * dy
  | _ => dx + dy
/-- what a ring i costs at a place -/
def ab_cost (L : ab_L) (i : Nat) (px py : Int32) : Int32 := ab_way_cost (ab_way L) (ab_abs (px - ab_wx L i)) (ab_abs (py - ab_wy L i))
def ab_apart (last key : Nat) : Nat := (key + 8 - last) % 8
def ab_barred (bar last key : Nat) : Prop := (0 < bar ∧ ab_apart last key = 0) ∨ (bar = 2 ∧ ab_apart last key = 4) ∨ (bar = 3 ∧ (ab_apart last key = 1 ∨ ab_apart last key = 7))
/-- room in the tail: i the next ring, sx sy the slope behind it -/
def ab_room (L : ab_L) (i : Nat) (sx sy : Int32) : Prop := ab_tail L = 0 ∨ (ab_abs (sx - (ab_wx L i - ab_wx L (i - 1))) ≤ nI (ab_tail L) ∧ ab_abs (sy - (ab_wy L i - ab_wy L (i - 1))) ≤ nI (ab_tail L))
/-- key k may be next behind the keys ks -/
def ab_may (tp : Int32) (L : ab_L) (ks : List Nat) (k : Nat) : Prop := (∀ j, ks.getLast? = some j → ¬ ab_barred (ab_bar L) j k) ∧ ab_room L (ks.length + 1) (ab_step tp (ab_geo tp ks) k).1 (ab_step tp (ab_geo tp ks) k).2.1
def ab_b01 (r : Int32) (P : Prop) : Prop := (r = 1 ∧ P) ∨ (r = 0 ∧ ¬ P)
/-- an abstract line is as the document says -/
def ab_ok (L : ab_L) : Prop := (ab_ks L).length ≤ 12 ∧ (∀ k ∈ ab_ks L, k < 8) ∧ ab_bar L ≤ 3 ∧ ab_way L ≤ 2 ∧ ab_tail L ≤ 20 ∧ (∀ p, p ≤ 17 → -99 ≤ (ab_wx L p).toInt ∧ (ab_wx L p).toInt ≤ 99 ∧ -99 ≤ (ab_wy L p).toInt ∧ (ab_wy L p).toInt ≤ 99) ∧ ab_wx L 0 = 0 ∧ ab_wy L 0 = 0
