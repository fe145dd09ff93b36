section
-- ===== PART A: goes FIRST, ahead of the names: the tables' words, and 'selects' of the private methods out of them =====
/-- a private method of a class that the tables say can be made, by its rows of tables_1 -/
def lw_okq (q : MethodName × Nat) : Prop := (q.1.cls ≠ "java/lang/invoke/MethodHandle" ∧ q.1.cls ≠ "java/lang/invoke/VarHandle") ∧ Cond.instantiable q.1.cls q.2 ∈ tables_1 ∧ Cond.privateMethod q.1 ∈ tables_1 ∧ Cond.instanceMethod q.1 ∈ tables_1
theorem lw_p0 : lw_okq (⟨"RingSteer$Script", "toNextToken", "()V"⟩, 9) := ⟨⟨by decide +kernel, by decide +kernel⟩, List.mem_of_getElem? (i := 101) (by decide +kernel), List.mem_of_getElem? (i := 252) (by decide +kernel), List.mem_of_getElem? (i := 253) (by decide +kernel)⟩
theorem lw_p1 : lw_okq (⟨"RingSteer$Script", "kindAt", "(I)I"⟩, 9) := ⟨⟨by decide +kernel, by decide +kernel⟩, List.mem_of_getElem? (i := 101) (by decide +kernel), List.mem_of_getElem? (i := 256) (by decide +kernel), List.mem_of_getElem? (i := 257) (by decide +kernel)⟩
theorem lw_p2 : lw_okq (⟨"RingSteer$Script", "digitAt", "(I)I"⟩, 9) := ⟨⟨by decide +kernel, by decide +kernel⟩, List.mem_of_getElem? (i := 101) (by decide +kernel), List.mem_of_getElem? (i := 260) (by decide +kernel), List.mem_of_getElem? (i := 261) (by decide +kernel)⟩
theorem lw_p3 : lw_okq (⟨"RingSteer$Script", "readItem", "(LRingSteer$Line;)Z"⟩, 9) := ⟨⟨by decide +kernel, by decide +kernel⟩, List.mem_of_getElem? (i := 101) (by decide +kernel), List.mem_of_getElem? (i := 267) (by decide +kernel), List.mem_of_getElem? (i := 268) (by decide +kernel)⟩
theorem lw_p4 : lw_okq (⟨"RingSteer$Script", "readTaper", "(LRingSteer$Line;)Z"⟩, 9) := ⟨⟨by decide +kernel, by decide +kernel⟩, List.mem_of_getElem? (i := 101) (by decide +kernel), List.mem_of_getElem? (i := 271) (by decide +kernel), List.mem_of_getElem? (i := 272) (by decide +kernel)⟩
theorem lw_p5 : lw_okq (⟨"RingSteer$Script", "readRule", "(LRingSteer$Line;I)Z"⟩, 9) := ⟨⟨by decide +kernel, by decide +kernel⟩, List.mem_of_getElem? (i := 101) (by decide +kernel), List.mem_of_getElem? (i := 275) (by decide +kernel), List.mem_of_getElem? (i := 276) (by decide +kernel)⟩
theorem lw_p6 : lw_okq (⟨"RingSteer$Script", "readWish", "(LRingSteer$Line;)Z"⟩, 9) := ⟨⟨by decide +kernel, by decide +kernel⟩, List.mem_of_getElem? (i := 101) (by decide +kernel), List.mem_of_getElem? (i := 286) (by decide +kernel), List.mem_of_getElem? (i := 287) (by decide +kernel)⟩
theorem lw_p7 : lw_okq (⟨"RingSteer$Script", "readSigned", "()Z"⟩, 9) := ⟨⟨by decide +kernel, by decide +kernel⟩, List.mem_of_getElem? (i := 101) (by decide +kernel), List.mem_of_getElem? (i := 290) (by decide +kernel), List.mem_of_getElem? (i := 291) (by decide +kernel)⟩
theorem lw_p8 : lw_okq (⟨"RingSteer$Script", "readKey", "(LRingSteer$Line;)Z"⟩, 9) := ⟨⟨by decide +kernel, by decide +kernel⟩, List.mem_of_getElem? (i := 101) (by decide +kernel), List.mem_of_getElem? (i := 299) (by decide +kernel), List.mem_of_getElem? (i := 300) (by decide +kernel)⟩
theorem lw_p9 : lw_okq (⟨"RingSteer$Line", "isBarred", "(II)Z"⟩, 8) := ⟨⟨by decide +kernel, by decide +kernel⟩, List.mem_of_getElem? (i := 19) (by decide +kernel), List.mem_of_getElem? (i := 314) (by decide +kernel), List.mem_of_getElem? (i := 315) (by decide +kernel)⟩
theorem lw_p10 : lw_okq (⟨"RingSteer$Line", "hasRoom", "(LRingSteer$Spot;I)Z"⟩, 8) := ⟨⟨by decide +kernel, by decide +kernel⟩, List.mem_of_getElem? (i := 19) (by decide +kernel), List.mem_of_getElem? (i := 321) (by decide +kernel), List.mem_of_getElem? (i := 322) (by decide +kernel)⟩
theorem lw_p11 : lw_okq (⟨"RingSteer", "lineChanged", "()V"⟩, 11) := ⟨⟨by decide +kernel, by decide +kernel⟩, List.mem_of_getElem? (i := 11) (by decide +kernel), List.mem_of_getElem? (i := 357) (by decide +kernel), List.mem_of_getElem? (i := 358) (by decide +kernel)⟩
theorem lw_p12 : lw_okq (⟨"RingSteer", "buildKnown", "(I)V"⟩, 11) := ⟨⟨by decide +kernel, by decide +kernel⟩, List.mem_of_getElem? (i := 11) (by decide +kernel), List.mem_of_getElem? (i := 368) (by decide +kernel), List.mem_of_getElem? (i := 369) (by decide +kernel)⟩
theorem lw_p13 : lw_okq (⟨"RingSteer$Deeds", "loseOldest", "()V"⟩, 5) := ⟨⟨by decide +kernel, by decide +kernel⟩, List.mem_of_getElem? (i := 137) (by decide +kernel), List.mem_of_getElem? (i := 376) (by decide +kernel), List.mem_of_getElem? (i := 377) (by decide +kernel)⟩
theorem lw_p14 : lw_okq (⟨"RingSteer$Search", "note", "(I)V"⟩, 5) := ⟨⟨by decide +kernel, by decide +kernel⟩, List.mem_of_getElem? (i := 160) (by decide +kernel), List.mem_of_getElem? (i := 404) (by decide +kernel), List.mem_of_getElem? (i := 405) (by decide +kernel)⟩
theorem lw_p15 : lw_okq (⟨"RingSteer", "explainsAllSeen", "(II)Z"⟩, 11) := ⟨⟨by decide +kernel, by decide +kernel⟩, List.mem_of_getElem? (i := 11) (by decide +kernel), List.mem_of_getElem? (i := 484) (by decide +kernel), List.mem_of_getElem? (i := 485) (by decide +kernel)⟩
def lw_privs_1 : List (MethodName × Nat) := [(⟨"RingSteer$Script", "toNextToken", "()V"⟩, 9), (⟨"RingSteer$Script", "kindAt", "(I)I"⟩, 9), (⟨"RingSteer$Script", "digitAt", "(I)I"⟩, 9), (⟨"RingSteer$Script", "readItem", "(LRingSteer$Line;)Z"⟩, 9), (⟨"RingSteer$Script", "readTaper", "(LRingSteer$Line;)Z"⟩, 9), (⟨"RingSteer$Script", "readRule", "(LRingSteer$Line;I)Z"⟩, 9), (⟨"RingSteer$Script", "readWish", "(LRingSteer$Line;)Z"⟩, 9), (⟨"RingSteer$Script", "readSigned", "()Z"⟩, 9), (⟨"RingSteer$Script", "readKey", "(LRingSteer$Line;)Z"⟩, 9), (⟨"RingSteer$Line", "isBarred", "(II)Z"⟩, 8), (⟨"RingSteer$Line", "hasRoom", "(LRingSteer$Spot;I)Z"⟩, 8), (⟨"RingSteer", "lineChanged", "()V"⟩, 11), (⟨"RingSteer", "buildKnown", "(I)V"⟩, 11), (⟨"RingSteer$Deeds", "loseOldest", "()V"⟩, 5), (⟨"RingSteer$Search", "note", "(I)V"⟩, 5), (⟨"RingSteer", "explainsAllSeen", "(II)Z"⟩, 11)]
theorem lw_r1 : ∀ q ∈ lw_privs_1, lw_okq q := List.forall_mem_cons.mpr ⟨lw_p0, List.forall_mem_cons.mpr ⟨lw_p1, List.forall_mem_cons.mpr ⟨lw_p2, List.forall_mem_cons.mpr ⟨lw_p3, List.forall_mem_cons.mpr ⟨lw_p4, List.forall_mem_cons.mpr ⟨lw_p5, List.forall_mem_cons.mpr ⟨lw_p6, List.forall_mem_cons.mpr ⟨lw_p7, List.forall_mem_cons.mpr ⟨lw_p8, List.forall_mem_cons.mpr ⟨lw_p9, List.forall_mem_cons.mpr ⟨lw_p10, List.forall_mem_cons.mpr ⟨lw_p11, List.forall_mem_cons.mpr ⟨lw_p12, List.forall_mem_cons.mpr ⟨lw_p13, List.forall_mem_cons.mpr ⟨lw_p14, List.forall_mem_cons.mpr ⟨lw_p15, fun _ h => absurd h List.not_mem_nil⟩⟩⟩⟩⟩⟩⟩⟩⟩⟩⟩⟩⟩⟩⟩⟩
theorem lw_p16 : lw_okq (⟨"RingSteer", "nearParts", "(III)I"⟩, 11) := ⟨⟨by decide +kernel, by decide +kernel⟩, List.mem_of_getElem? (i := 11) (by decide +kernel), List.mem_of_getElem? (i := 495) (by decide +kernel), List.mem_of_getElem? (i := 496) (by decide +kernel)⟩
theorem lw_p17 : lw_okq (⟨"RingSteer", "slip", "(II)V"⟩, 11) := ⟨⟨by decide +kernel, by decide +kernel⟩, List.mem_of_getElem? (i := 11) (by decide +kernel), List.mem_of_getElem? (i := 499) (by decide +kernel), List.mem_of_getElem? (i := 500) (by decide +kernel)⟩
theorem lw_p18 : lw_okq (⟨"RingSteerModel", "blanks", "()V"⟩, 29) := ⟨⟨by decide +kernel, by decide +kernel⟩, List.mem_of_getElem? (i := 536) (by decide +kernel), List.mem_of_getElem? (i := 648) (by decide +kernel), List.mem_of_getElem? (i := 649) (by decide +kernel)⟩
theorem lw_p19 : lw_okq (⟨"RingSteerModel", "readsItem", "()Z"⟩, 29) := ⟨⟨by decide +kernel, by decide +kernel⟩, List.mem_of_getElem? (i := 536) (by decide +kernel), List.mem_of_getElem? (i := 652) (by decide +kernel), List.mem_of_getElem? (i := 653) (by decide +kernel)⟩
theorem lw_p20 : lw_okq (⟨"RingSteerModel", "next", "()V"⟩, 29) := ⟨⟨by decide +kernel, by decide +kernel⟩, List.mem_of_getElem? (i := 536) (by decide +kernel), List.mem_of_getElem? (i := 656) (by decide +kernel), List.mem_of_getElem? (i := 657) (by decide +kernel)⟩
theorem lw_p21 : lw_okq (⟨"RingSteerModel", "isFigure", "()Z"⟩, 29) := ⟨⟨by decide +kernel, by decide +kernel⟩, List.mem_of_getElem? (i := 536) (by decide +kernel), List.mem_of_getElem? (i := 660) (by decide +kernel), List.mem_of_getElem? (i := 661) (by decide +kernel)⟩
theorem lw_p22 : lw_okq (⟨"RingSteerModel", "readsOnce", "(III)Z"⟩, 29) := ⟨⟨by decide +kernel, by decide +kernel⟩, List.mem_of_getElem? (i := 536) (by decide +kernel), List.mem_of_getElem? (i := 667) (by decide +kernel), List.mem_of_getElem? (i := 668) (by decide +kernel)⟩
theorem lw_p23 : lw_okq (⟨"RingSteerModel", "fails", "()Z"⟩, 29) := ⟨⟨by decide +kernel, by decide +kernel⟩, List.mem_of_getElem? (i := 536) (by decide +kernel), List.mem_of_getElem? (i := 674) (by decide +kernel), List.mem_of_getElem? (i := 675) (by decide +kernel)⟩
theorem lw_p24 : lw_okq (⟨"RingSteerModel", "number", "(II)Z"⟩, 29) := ⟨⟨by decide +kernel, by decide +kernel⟩, List.mem_of_getElem? (i := 536) (by decide +kernel), List.mem_of_getElem? (i := 678) (by decide +kernel), List.mem_of_getElem? (i := 679) (by decide +kernel)⟩
theorem lw_p25 : lw_okq (⟨"RingSteerModel", "ends", "()Z"⟩, 29) := ⟨⟨by decide +kernel, by decide +kernel⟩, List.mem_of_getElem? (i := 536) (by decide +kernel), List.mem_of_getElem? (i := 682) (by decide +kernel), List.mem_of_getElem? (i := 683) (by decide +kernel)⟩
theorem lw_p26 : lw_okq (⟨"RingSteerModel", "readsWish", "()Z"⟩, 29) := ⟨⟨by decide +kernel, by decide +kernel⟩, List.mem_of_getElem? (i := 536) (by decide +kernel), List.mem_of_getElem? (i := 686) (by decide +kernel), List.mem_of_getElem? (i := 687) (by decide +kernel)⟩
theorem lw_p27 : lw_okq (⟨"RingSteerModel", "whole", "()Z"⟩, 29) := ⟨⟨by decide +kernel, by decide +kernel⟩, List.mem_of_getElem? (i := 536) (by decide +kernel), List.mem_of_getElem? (i := 690) (by decide +kernel), List.mem_of_getElem? (i := 691) (by decide +kernel)⟩
theorem lw_p28 : lw_okq (⟨"RingSteerModel", "readsRing", "()Z"⟩, 29) := ⟨⟨by decide +kernel, by decide +kernel⟩, List.mem_of_getElem? (i := 536) (by decide +kernel), List.mem_of_getElem? (i := 694) (by decide +kernel), List.mem_of_getElem? (i := 695) (by decide +kernel)⟩
theorem lw_p29 : lw_okq (⟨"RingSteerModel", "layRings", "([II)V"⟩, 29) := ⟨⟨by decide +kernel, by decide +kernel⟩, List.mem_of_getElem? (i := 536) (by decide +kernel), List.mem_of_getElem? (i := 698) (by decide +kernel), List.mem_of_getElem? (i := 699) (by decide +kernel)⟩
theorem lw_p30 : lw_okq (⟨"RingSteerModel", "lays", "(II)V"⟩, 29) := ⟨⟨by decide +kernel, by decide +kernel⟩, List.mem_of_getElem? (i := 536) (by decide +kernel), List.mem_of_getElem? (i := 702) (by decide +kernel), List.mem_of_getElem? (i := 703) (by decide +kernel)⟩
theorem lw_p31 : lw_okq (⟨"RingSteerModel", "mayBe", "([IIII)Z"⟩, 29) := ⟨⟨by decide +kernel, by decide +kernel⟩, List.mem_of_getElem? (i := 536) (by decide +kernel), List.mem_of_getElem? (i := 712) (by decide +kernel), List.mem_of_getElem? (i := 713) (by decide +kernel)⟩
def lw_privs_2 : List (MethodName × Nat) := [(⟨"RingSteer", "nearParts", "(III)I"⟩, 11), (⟨"RingSteer", "slip", "(II)V"⟩, 11), (⟨"RingSteerModel", "blanks", "()V"⟩, 29), (⟨"RingSteerModel", "readsItem", "()Z"⟩, 29), (⟨"RingSteerModel", "next", "()V"⟩, 29), (⟨"RingSteerModel", "isFigure", "()Z"⟩, 29), (⟨"RingSteerModel", "readsOnce", "(III)Z"⟩, 29), (⟨"RingSteerModel", "fails", "()Z"⟩, 29), (⟨"RingSteerModel", "number", "(II)Z"⟩, 29), (⟨"RingSteerModel", "ends", "()Z"⟩, 29), (⟨"RingSteerModel", "readsWish", "()Z"⟩, 29), (⟨"RingSteerModel", "whole", "()Z"⟩, 29), (⟨"RingSteerModel", "readsRing", "()Z"⟩, 29), (⟨"RingSteerModel", "layRings", "([II)V"⟩, 29), (⟨"RingSteerModel", "lays", "(II)V"⟩, 29), (⟨"RingSteerModel", "mayBe", "([IIII)Z"⟩, 29)]
theorem lw_r2 : ∀ q ∈ lw_privs_2, lw_okq q := List.forall_mem_cons.mpr ⟨lw_p16, List.forall_mem_cons.mpr ⟨lw_p17, List.forall_mem_cons.mpr ⟨lw_p18, List.forall_mem_cons.mpr ⟨lw_p19, List.forall_mem_cons.mpr ⟨lw_p20, List.forall_mem_cons.mpr ⟨lw_p21, List.forall_mem_cons.mpr ⟨lw_p22, List.forall_mem_cons.mpr ⟨lw_p23, List.forall_mem_cons.mpr ⟨lw_p24, List.forall_mem_cons.mpr ⟨lw_p25, List.forall_mem_cons.mpr ⟨lw_p26, List.forall_mem_cons.mpr ⟨lw_p27, List.forall_mem_cons.mpr ⟨lw_p28, List.forall_mem_cons.mpr ⟨lw_p29, List.forall_mem_cons.mpr ⟨lw_p30, List.forall_mem_cons.mpr ⟨lw_p31, fun _ h => absurd h List.not_mem_nil⟩⟩⟩⟩⟩⟩⟩⟩⟩⟩⟩⟩⟩⟩⟩⟩
theorem lw_p32 : lw_okq (⟨"RingSteerModel", "mayBeNext", "(I)Z"⟩, 29) := ⟨⟨by decide +kernel, by decide +kernel⟩, List.mem_of_getElem? (i := 536) (by decide +kernel), List.mem_of_getElem? (i := 726) (by decide +kernel), List.mem_of_getElem? (i := 727) (by decide +kernel)⟩
theorem lw_p33 : lw_okq (⟨"RingSteerModel", "laysKey", "(I)V"⟩, 29) := ⟨⟨by decide +kernel, by decide +kernel⟩, List.mem_of_getElem? (i := 536) (by decide +kernel), List.mem_of_getElem? (i := 730) (by decide +kernel), List.mem_of_getElem? (i := 731) (by decide +kernel)⟩
theorem lw_p34 : lw_okq (⟨"RingSteerModel", "remember", "()V"⟩, 29) := ⟨⟨by decide +kernel, by decide +kernel⟩, List.mem_of_getElem? (i := 536) (by decide +kernel), List.mem_of_getElem? (i := 734) (by decide +kernel), List.mem_of_getElem? (i := 735) (by decide +kernel)⟩
theorem lw_p35 : lw_okq (⟨"RingSteerModel", "costOf", "(I)I"⟩, 29) := ⟨⟨by decide +kernel, by decide +kernel⟩, List.mem_of_getElem? (i := 536) (by decide +kernel), List.mem_of_getElem? (i := 738) (by decide +kernel), List.mem_of_getElem? (i := 739) (by decide +kernel)⟩
theorem lw_p36 : lw_okq (⟨"RingSteerModel", "layPlan", "(I)V"⟩, 29) := ⟨⟨by decide +kernel, by decide +kernel⟩, List.mem_of_getElem? (i := 536) (by decide +kernel), List.mem_of_getElem? (i := 746) (by decide +kernel), List.mem_of_getElem? (i := 747) (by decide +kernel)⟩
theorem lw_p37 : lw_okq (⟨"RingSteerModel", "layAgain", "(I)V"⟩, 29) := ⟨⟨by decide +kernel, by decide +kernel⟩, List.mem_of_getElem? (i := 536) (by decide +kernel), List.mem_of_getElem? (i := 798) (by decide +kernel), List.mem_of_getElem? (i := 799) (by decide +kernel)⟩
theorem lw_p38 : lw_okq (⟨"RingSteerModel", "nextKeys", "()I"⟩, 29) := ⟨⟨by decide +kernel, by decide +kernel⟩, List.mem_of_getElem? (i := 536) (by decide +kernel), List.mem_of_getElem? (i := 819) (by decide +kernel), List.mem_of_getElem? (i := 820) (by decide +kernel)⟩
theorem lw_p39 : lw_okq (⟨"RingSteerModel", "allCosts", "()I"⟩, 29) := ⟨⟨by decide +kernel, by decide +kernel⟩, List.mem_of_getElem? (i := 536) (by decide +kernel), List.mem_of_getElem? (i := 823) (by decide +kernel), List.mem_of_getElem? (i := 824) (by decide +kernel)⟩
def lw_privs_3 : List (MethodName × Nat) := [(⟨"RingSteerModel", "mayBeNext", "(I)Z"⟩, 29), (⟨"RingSteerModel", "laysKey", "(I)V"⟩, 29), (⟨"RingSteerModel", "remember", "()V"⟩, 29), (⟨"RingSteerModel", "costOf", "(I)I"⟩, 29), (⟨"RingSteerModel", "layPlan", "(I)V"⟩, 29), (⟨"RingSteerModel", "layAgain", "(I)V"⟩, 29), (⟨"RingSteerModel", "nextKeys", "()I"⟩, 29), (⟨"RingSteerModel", "allCosts", "()I"⟩, 29)]
theorem lw_r3 : ∀ q ∈ lw_privs_3, lw_okq q := List.forall_mem_cons.mpr ⟨lw_p32, List.forall_mem_cons.mpr ⟨lw_p33, List.forall_mem_cons.mpr ⟨lw_p34, List.forall_mem_cons.mpr ⟨lw_p35, List.forall_mem_cons.mpr ⟨lw_p36, List.forall_mem_cons.mpr ⟨lw_p37, List.forall_mem_cons.mpr ⟨lw_p38, List.forall_mem_cons.mpr ⟨lw_p39, fun _ h => absurd h List.not_mem_nil⟩⟩⟩⟩⟩⟩⟩⟩
def lw_privs : List (MethodName × Nat) := lw_privs_1 ++ (lw_privs_2 ++ (lw_privs_3))
def lw_tbl : List Cond := k2_sels lw_privs ++ tables_1
theorem lw_privs_ok : ∀ q ∈ lw_privs, lw_okq q := by
  show ∀ q ∈ lw_privs_1 ++ (lw_privs_2 ++ (lw_privs_3)), lw_okq q
  exact List.forall_mem_append.mpr ⟨lw_r1, List.forall_mem_append.mpr ⟨lw_r2, lw_r3⟩⟩
end
section
/-! ===== BEGIN words of one list among another's, by their places ===== -/
theorem goodIn_r {big : List Cond} (ws : List Cond) (ps : List Nat) (hp : ws = ps.filterMap (fun i => big[i]?)) (h : ws.all goodWord = true) : GoodIn big ws := by
  intro w hw
  have h1 := List.all_eq_true.mp h w hw
  rw [hp] at hw
  obtain ⟨i, -, hi⟩ := List.mem_filterMap.mp hw
  have hm : w ∈ big := by first | exact List.mem_of_getElem? hi | exact List.getElem?_mem hi
  exact ⟨hm, good_of_word h1⟩
theorem goodIn_app {big a b : List Cond} (ha : GoodIn big a) (hb : GoodIn big b) : GoodIn big (a ++ b) := fun w h => (List.mem_append.mp h).elim (ha w) (hb w)
theorem goodIn_ca {big a b : List Cond} {c : Cond} (ha : GoodIn big (c :: a)) (hb : GoodIn big b) : GoodIn big (c :: (a ++ b)) := fun w h => (List.mem_cons.mp h).elim (fun e => ha w (List.mem_cons.mpr (Or.inl e))) (fun h => (List.mem_append.mp h).elim (fun h => ha w (List.mem_cons.mpr (Or.inr h))) (hb w))
theorem goodIn_sub {big ws : List Cond} (hm : ∀ w ∈ ws, w ∈ big) (h : ws.all goodWord = true) : GoodIn big ws := fun w hw => ⟨hm w hw, good_of_word (List.all_eq_true.mp h w hw)⟩
/-! ===== END ===== -/

/-! ===== BEGIN printed: names, fields, word lists, decode rows ===== -/
def RX0 : String := "RingSteer$Deeds"
def TX0 : u_T := fun k => match k with
  | 0 => ("RingSteer$Deeds", "kinds", "[I", true)
  | 1 => ("RingSteer$Deeds", "which", "[I", true)
  | 2 => ("RingSteer$Deeds", "wasFirst", "[I", true)
  | 3 => ("RingSteer$Deeds", "wasSecond", "[I", true)
  | _ => ("RingSteer$Deeds", "size", "I", false)
def tyX0 : Nat → FieldType := fun k => match k with
  | 0 => .array .int
  | 1 => .array .int
  | 2 => .array .int
  | 3 => .array .int
  | _ => .int
abbrev wsX00 : List Cond := u_ws RX0 TX0 5
theorem nmX0 : ∀ a, a < 5 → ∀ b, b < 5 → a ≠ b → (TX0 a).2.1 ≠ (TX0 b).2.1 := by decide +kernel
theorem tyX0_ok : ∀ k, k < 5 → parseFieldDescriptor (TX0 k).2.2.1 = some (tyX0 k) := by decide +kernel
abbrev cX0_init : ByteArray := prog_2_method_1_code
def yX0_init : MethodName := ⟨RX0, "<init>", "()V"⟩
abbrev cX0_add : ByteArray := prog_2_method_2_code
def yX0_add : MethodName := ⟨RX0, "add", "(IIII)V"⟩
abbrev cX0_loseOldest : ByteArray := prog_2_method_3_code
def yX0_loseOldest : MethodName := ⟨RX0, "loseOldest", "()V"⟩
abbrev cX0_takeBack : ByteArray := prog_2_method_4_code
def yX0_takeBack : MethodName := ⟨RX0, "takeBack", "(LRingSteer$Line;)V"⟩
def RX1 : String := "RingSteer$Line"
def TX1 : u_T := fun k => match k with
  | 0 => ("RingSteer$Line", "spots", "[LRingSteer$Spot;", true)
  | 1 => ("RingSteer$Line", "wishX", "[I", true)
  | 2 => ("RingSteer$Line", "wishY", "[I", true)
  | 3 => ("RingSteer$Line", "rings", "I", false)
  | 4 => ("RingSteer$Line", "taper", "I", false)
  | 5 => ("RingSteer$Line", "bar", "I", false)
  | 6 => ("RingSteer$Line", "way", "I", false)
  | _ => ("RingSteer$Line", "tail", "I", false)
def tyX1 : Nat → FieldType := fun k => match k with
  | 0 => .array (.object "RingSteer$Spot")
  | 1 => .array .int
  | 2 => .array .int
  | 3 => .int
  | 4 => .int
  | 5 => .int
  | 6 => .int
  | _ => .int
abbrev wsX10 : List Cond := u_ws RX1 TX1 8
theorem nmX1 : ∀ a, a < 8 → ∀ b, b < 8 → a ≠ b → (TX1 a).2.1 ≠ (TX1 b).2.1 := by decide +kernel
theorem tyX1_ok : ∀ k, k < 8 → parseFieldDescriptor (TX1 k).2.2.1 = some (tyX1 k) := by decide +kernel
abbrev cX1_init : ByteArray := prog_3_method_1_code
def yX1_init : MethodName := ⟨RX1, "<init>", "()V"⟩
abbrev cX1_reset : ByteArray := prog_3_method_2_code
def yX1_reset : MethodName := ⟨RX1, "reset", "()V"⟩
abbrev cX1_copy : ByteArray := prog_3_method_3_code
def yX1_copy : MethodName := ⟨RX1, "copy", "(LRingSteer$Line;)V"⟩
abbrev cX1_last : ByteArray := prog_3_method_4_code
def yX1_last : MethodName := ⟨RX1, "last", "()LRingSteer$Spot;"⟩
abbrev cX1_build : ByteArray := prog_3_method_5_code
def yX1_build : MethodName := ⟨RX1, "build", "(I)V"⟩
abbrev cX1_dropLast : ByteArray := prog_3_method_6_code
def yX1_dropLast : MethodName := ⟨RX1, "dropLast", "()V"⟩
abbrev cX1_setWish : ByteArray := prog_3_method_7_code
def yX1_setWish : MethodName := ⟨RX1, "setWish", "(III)V"⟩
abbrev cX1_rule : ByteArray := prog_3_method_8_code
def yX1_rule : MethodName := ⟨RX1, "rule", "(I)I"⟩
abbrev cX1_setRule : ByteArray := prog_3_method_9_code
def yX1_setRule : MethodName := ⟨RX1, "setRule", "(II)V"⟩
abbrev cX1_mayFollow : ByteArray := prog_3_method_10_code
def yX1_mayFollow : MethodName := ⟨RX1, "mayFollow", "(LRingSteer$Spot;I)Z"⟩
abbrev cX1_isBarred : ByteArray := prog_3_method_11_code
def yX1_isBarred : MethodName := ⟨RX1, "isBarred", "(II)Z"⟩
abbrev cX1_hasRoom : ByteArray := prog_3_method_12_code
def yX1_hasRoom : MethodName := ⟨RX1, "hasRoom", "(LRingSteer$Spot;I)Z"⟩
abbrev cX1_cost : ByteArray := prog_3_method_13_code
def yX1_cost : MethodName := ⟨RX1, "cost", "(LRingSteer$Spot;)I"⟩
abbrev cX1_wholeCost : ByteArray := prog_3_method_14_code
def yX1_wholeCost : MethodName := ⟨RX1, "wholeCost", "()I"⟩
abbrev cX1_nextKeys : ByteArray := prog_3_method_15_code
def yX1_nextKeys : MethodName := ⟨RX1, "nextKeys", "()I"⟩
abbrev cX1_worseThan : ByteArray := prog_3_method_16_code
def yX1_worseThan : MethodName := ⟨RX1, "worseThan", "(I)I"⟩
def RX2 : String := "RingSteer$Script"
def TX2 : u_T := fun k => match k with
  | 0 => ("RingSteer$Script", "letters", "[I", true)
  | 1 => ("RingSteer$Script", "length", "I", false)
  | 2 => ("RingSteer$Script", "start", "I", false)
  | 3 => ("RingSteer$Script", "kind", "I", false)
  | 4 => ("RingSteer$Script", "number", "I", false)
  | 5 => ("RingSteer$Script", "behind", "I", false)
  | 6 => ("RingSteer$Script", "wishesTold", "I", false)
  | 7 => ("RingSteer$Script", "taperTold", "Z", false)
  | _ => ("RingSteer$Script", "ruleTold", "[Z", true)
def tyX2 : Nat → FieldType := fun k => match k with
  | 0 => .array .int
  | 1 => .int
  | 2 => .int
  | 3 => .int
  | 4 => .int
  | 5 => .int
  | 6 => .int
  | 7 => .boolean
  | _ => .array .boolean
abbrev wsX20 : List Cond := u_ws RX2 TX2 9
theorem nmX2 : ∀ a, a < 9 → ∀ b, b < 9 → a ≠ b → (TX2 a).2.1 ≠ (TX2 b).2.1 := by decide +kernel
theorem tyX2_ok : ∀ k, k < 9 → parseFieldDescriptor (TX2 k).2.2.1 = some (tyX2 k) := by decide +kernel
abbrev cX2_init : ByteArray := prog_4_method_1_code
def yX2_init : MethodName := ⟨RX2, "<init>", "()V"⟩
abbrev cX2_add : ByteArray := prog_4_method_2_code
def yX2_add : MethodName := ⟨RX2, "add", "(I)Z"⟩
abbrev cX2_readInto : ByteArray := prog_4_method_3_code
def yX2_readInto : MethodName := ⟨RX2, "readInto", "(LRingSteer$Line;)I"⟩
abbrev cX2_readItem : ByteArray := prog_4_method_4_code
def yX2_readItem : MethodName := ⟨RX2, "readItem", "(LRingSteer$Line;)Z"⟩
abbrev cX2_readTaper : ByteArray := prog_4_method_5_code
def yX2_readTaper : MethodName := ⟨RX2, "readTaper", "(LRingSteer$Line;)Z"⟩
abbrev cX2_readRule : ByteArray := prog_4_method_6_code
def yX2_readRule : MethodName := ⟨RX2, "readRule", "(LRingSteer$Line;I)Z"⟩
abbrev cX2_readWish : ByteArray := prog_4_method_7_code
def yX2_readWish : MethodName := ⟨RX2, "readWish", "(LRingSteer$Line;)Z"⟩
abbrev cX2_readSigned : ByteArray := prog_4_method_8_code
def yX2_readSigned : MethodName := ⟨RX2, "readSigned", "()Z"⟩
abbrev cX2_readKey : ByteArray := prog_4_method_9_code
def yX2_readKey : MethodName := ⟨RX2, "readKey", "(LRingSteer$Line;)Z"⟩
abbrev cX2_toNextToken : ByteArray := prog_4_method_10_code
def yX2_toNextToken : MethodName := ⟨RX2, "toNextToken", "()V"⟩
abbrev cX2_kindAt : ByteArray := prog_4_method_11_code
def yX2_kindAt : MethodName := ⟨RX2, "kindAt", "(I)I"⟩
abbrev cX2_digitAt : ByteArray := prog_4_method_12_code
def yX2_digitAt : MethodName := ⟨RX2, "digitAt", "(I)I"⟩
abbrev cX2_isNumber : ByteArray := prog_4_method_13_code
def yX2_isNumber : MethodName := ⟨RX2, "isNumber", "(II)Z"⟩
def RX3 : String := "RingSteer$Search"
def TX3 : u_T := fun k => match k with
  | 0 => ("RingSteer$Search", "spots", "[LRingSteer$Spot;", true)
  | 1 => ("RingSteer$Search", "firstRow", "[I", true)
  | 2 => ("RingSteer$Search", "ahead", "I", false)
  | 3 => ("RingSteer$Search", "rows", "I", false)
  | _ => ("RingSteer$Search", "least", "I", false)
def tyX3 : Nat → FieldType := fun k => match k with
  | 0 => .array (.object "RingSteer$Spot")
  | 1 => .array .int
  | 2 => .int
  | 3 => .int
  | _ => .int
abbrev wsX30 : List Cond := u_ws RX3 TX3 5
theorem nmX3 : ∀ a, a < 5 → ∀ b, b < 5 → a ≠ b → (TX3 a).2.1 ≠ (TX3 b).2.1 := by decide +kernel
theorem tyX3_ok : ∀ k, k < 5 → parseFieldDescriptor (TX3 k).2.2.1 = some (tyX3 k) := by decide +kernel
abbrev cX3_init : ByteArray := prog_5_method_1_code
def yX3_init : MethodName := ⟨RX3, "<init>", "()V"⟩
abbrev cX3_look : ByteArray := prog_5_method_2_code
def yX3_look : MethodName := ⟨RX3, "look", "(LRingSteer$Line;I)V"⟩
abbrev cX3_extend : ByteArray := prog_5_method_3_code
def yX3_extend : MethodName := ⟨RX3, "extend", "(LRingSteer$Search;LRingSteer$Line;II)V"⟩
abbrev cX3_note : ByteArray := prog_5_method_4_code
def yX3_note : MethodName := ⟨RX3, "note", "(I)V"⟩
def RX4 : String := "RingSteer$Spot"
def TX4 : u_T := fun k => match k with
  | 0 => ("RingSteer$Spot", "ringNumber", "I", false)
  | 1 => ("RingSteer$Spot", "key", "I", false)
  | 2 => ("RingSteer$Spot", "slopeX", "I", false)
  | 3 => ("RingSteer$Spot", "slopeY", "I", false)
  | 4 => ("RingSteer$Spot", "placeX", "I", false)
  | _ => ("RingSteer$Spot", "placeY", "I", false)
def tyX4 : Nat → FieldType := fun k => match k with
  | 0 => .int
  | 1 => .int
  | 2 => .int
  | 3 => .int
  | 4 => .int
  | _ => .int
abbrev wsX40 : List Cond := u_ws RX4 TX4 6
theorem nmX4 : ∀ a, a < 6 → ∀ b, b < 6 → a ≠ b → (TX4 a).2.1 ≠ (TX4 b).2.1 := by decide +kernel
theorem tyX4_ok : ∀ k, k < 6 → parseFieldDescriptor (TX4 k).2.2.1 = some (tyX4 k) := by decide +kernel
abbrev cX4_init : ByteArray := prog_6_method_1_code
def yX4_init : MethodName := ⟨RX4, "<init>", "()V"⟩
abbrev cX4_copy : ByteArray := prog_6_method_2_code
def yX4_copy : MethodName := ⟨RX4, "copy", "(LRingSteer$Spot;)V"⟩
abbrev cX4_advance : ByteArray := prog_6_method_3_code
def yX4_advance : MethodName := ⟨RX4, "advance", "(II)V"⟩
def RX5 : String := "RingSteer"
def TX5 : u_T := fun k => match k with
  | 0 => ("RingSteer", "line", "LRingSteer$Line;", true)
  | 1 => ("RingSteer", "draft", "LRingSteer$Line;", true)
  | 2 => ("RingSteer", "images", "[LRingSteer$Line;", true)
  | 3 => ("RingSteer", "kept", "[Z", true)
  | 4 => ("RingSteer", "script", "LRingSteer$Script;", true)
  | 5 => ("RingSteer", "deeds", "LRingSteer$Deeds;", true)
  | 6 => ("RingSteer", "search", "LRingSteer$Search;", true)
  | 7 => ("RingSteer", "probe", "LRingSteer$Spot;", true)
  | 8 => ("RingSteer", "seenX", "[I", true)
  | 9 => ("RingSteer", "seenY", "[I", true)
  | _ => ("RingSteer", "seen", "I", false)
def tyX5 : Nat → FieldType := fun k => match k with
  | 0 => .object "RingSteer$Line"
  | 1 => .object "RingSteer$Line"
  | 2 => .array (.object "RingSteer$Line")
  | 3 => .array .boolean
  | 4 => .object "RingSteer$Script"
  | 5 => .object "RingSteer$Deeds"
  | 6 => .object "RingSteer$Search"
  | 7 => .object "RingSteer$Spot"
  | 8 => .array .int
  | 9 => .array .int
  | _ => .int
abbrev wsX50 : List Cond := u_ws RX5 TX5 11
theorem nmX5 : ∀ a, a < 11 → ∀ b, b < 11 → a ≠ b → (TX5 a).2.1 ≠ (TX5 b).2.1 := by decide +kernel
theorem tyX5_ok : ∀ k, k < 11 → parseFieldDescriptor (TX5 k).2.2.1 = some (tyX5 k) := by decide +kernel
abbrev cX5_init : ByteArray := prog_1_method_1_code
def yX5_init : MethodName := ⟨RX5, "<init>", "()V"⟩
abbrev cX5_type : ByteArray := prog_1_method_2_code
def yX5_type : MethodName := ⟨RX5, "type", "(I)I"⟩
abbrev cX5_clear : ByteArray := prog_1_method_3_code
def yX5_clear : MethodName := ⟨RX5, "clear", "()I"⟩
abbrev cX5_tunnel : ByteArray := prog_1_method_4_code
def yX5_tunnel : MethodName := ⟨RX5, "tunnel", "()I"⟩
abbrev cX5_builds : ByteArray := prog_1_method_5_code
def yX5_builds : MethodName := ⟨RX5, "builds", "(I)I"⟩
abbrev cX5_follows : ByteArray := prog_1_method_6_code
def yX5_follows : MethodName := ⟨RX5, "follows", "(I)I"⟩
abbrev cX5_wishes : ByteArray := prog_1_method_7_code
def yX5_wishes : MethodName := ⟨RX5, "wishes", "(III)I"⟩
abbrev cX5_rules : ByteArray := prog_1_method_8_code
def yX5_rules : MethodName := ⟨RX5, "rules", "(II)I"⟩
abbrev cX5_undo : ByteArray := prog_1_method_9_code
def yX5_undo : MethodName := ⟨RX5, "undo", "()I"⟩
abbrev cX5_ring : ByteArray := prog_1_method_10_code
def yX5_ring : MethodName := ⟨RX5, "ring", "(II)I"⟩
abbrev cX5_wish : ByteArray := prog_1_method_11_code
def yX5_wish : MethodName := ⟨RX5, "wish", "(II)I"⟩
abbrev cX5_worst : ByteArray := prog_1_method_12_code
def yX5_worst : MethodName := ⟨RX5, "worst", "(I)I"⟩
abbrev cX5_plan : ByteArray := prog_1_method_13_code
def yX5_plan : MethodName := ⟨RX5, "plan", "(II)I"⟩
abbrev cX5_trying : ByteArray := prog_1_method_14_code
def yX5_trying : MethodName := ⟨RX5, "trying", "(I)I"⟩
abbrev cX5_sees : ByteArray := prog_1_method_15_code
def yX5_sees : MethodName := ⟨RX5, "sees", "(II)I"⟩
abbrev cX5_forget : ByteArray := prog_1_method_16_code
def yX5_forget : MethodName := ⟨RX5, "forget", "()I"⟩
abbrev cX5_unseen : ByteArray := prog_1_method_17_code
def yX5_unseen : MethodName := ⟨RX5, "unseen", "(I)I"⟩
abbrev cX5_odds : ByteArray := prog_1_method_18_code
def yX5_odds : MethodName := ⟨RX5, "odds", "(III)I"⟩
abbrev cX5_keep : ByteArray := prog_1_method_19_code
def yX5_keep : MethodName := ⟨RX5, "keep", "(I)I"⟩
abbrev cX5_back : ByteArray := prog_1_method_20_code
def yX5_back : MethodName := ⟨RX5, "back", "(I)I"⟩
abbrev cX5_count : ByteArray := prog_1_method_21_code
def yX5_count : MethodName := ⟨RX5, "count", "(I)I"⟩
abbrev cX5_lineChanged : ByteArray := prog_1_method_22_code
def yX5_lineChanged : MethodName := ⟨RX5, "lineChanged", "()V"⟩
abbrev cX5_buildKnown : ByteArray := prog_1_method_23_code
def yX5_buildKnown : MethodName := ⟨RX5, "buildKnown", "(I)V"⟩
abbrev cX5_explainsAllSeen : ByteArray := prog_1_method_24_code
def yX5_explainsAllSeen : MethodName := ⟨RX5, "explainsAllSeen", "(II)Z"⟩
abbrev cX5_nearParts : ByteArray := prog_1_method_25_code
def yX5_nearParts : MethodName := ⟨RX5, "nearParts", "(III)I"⟩
abbrev cX5_slip : ByteArray := prog_1_method_26_code
def yX5_slip : MethodName := ⟨RX5, "slip", "(II)V"⟩
abbrev cX5_power : ByteArray := prog_1_method_27_code
def yX5_power : MethodName := ⟨RX5, "power", "(II)I"⟩
abbrev cX5_commonDivisor : ByteArray := prog_1_method_28_code
def yX5_commonDivisor : MethodName := ⟨RX5, "commonDivisor", "(II)I"⟩
abbrev cX5_isWithin : ByteArray := prog_1_method_29_code
def yX5_isWithin : MethodName := ⟨RX5, "isWithin", "(III)Z"⟩
abbrev cX5_isKey : ByteArray := prog_1_method_30_code
def yX5_isKey : MethodName := ⟨RX5, "isKey", "(I)Z"⟩
abbrev cX5_isWish : ByteArray := prog_1_method_31_code
def yX5_isWish : MethodName := ⟨RX5, "isWish", "(I)Z"⟩
abbrev cX5_isRule : ByteArray := prog_1_method_32_code
def yX5_isRule : MethodName := ⟨RX5, "isRule", "(II)Z"⟩
abbrev cX5_leanX : ByteArray := prog_1_method_33_code
def yX5_leanX : MethodName := ⟨RX5, "leanX", "(I)I"⟩
abbrev cX5_leanY : ByteArray := prog_1_method_34_code
def yX5_leanY : MethodName := ⟨RX5, "leanY", "(I)I"⟩
def RX6 : String := "RingSteerModel"
def TX6 : u_T := fun k => match k with
  | 0 => ("RingSteerModel", "taper", "I", false)
  | 1 => ("RingSteerModel", "now", "[I", true)
  | 2 => ("RingSteerModel", "undoMany", "I", false)
  | 3 => ("RingSteerModel", "undoAt", "I", false)
  | 4 => ("RingSteerModel", "undos", "[I", true)
  | 5 => ("RingSteerModel", "seenMany", "I", false)
  | 6 => ("RingSteerModel", "seenX", "[I", true)
  | 7 => ("RingSteerModel", "seenY", "[I", true)
  | 8 => ("RingSteerModel", "isKept", "[Z", true)
  | 9 => ("RingSteerModel", "kept", "[I", true)
  | 10 => ("RingSteerModel", "keys", "[I", true)
  | 11 => ("RingSteerModel", "slopeX", "[I", true)
  | 12 => ("RingSteerModel", "slopeY", "[I", true)
  | 13 => ("RingSteerModel", "placeX", "[I", true)
  | 14 => ("RingSteerModel", "placeY", "[I", true)
  | 15 => ("RingSteerModel", "letterMany", "I", false)
  | 16 => ("RingSteerModel", "text", "[I", true)
  | 17 => ("RingSteerModel", "readAt", "I", false)
  | 18 => ("RingSteerModel", "tokenAt", "I", false)
  | 19 => ("RingSteerModel", "token", "I", false)
  | 20 => ("RingSteerModel", "value", "I", false)
  | 21 => ("RingSteerModel", "faultAt", "I", false)
  | 22 => ("RingSteerModel", "readOnce", "I", false)
  | 23 => ("RingSteerModel", "readTaper", "I", false)
  | 24 => ("RingSteerModel", "readWishes", "I", false)
  | 25 => ("RingSteerModel", "read", "[I", true)
  | 26 => ("RingSteerModel", "planMany", "I", false)
  | 27 => ("RingSteerModel", "planFirst", "I", false)
  | _ => ("RingSteerModel", "planCost", "I", false)
def tyX6 : Nat → FieldType := fun k => match k with
  | 0 => .int
  | 1 => .array .int
  | 2 => .int
  | 3 => .int
  | 4 => .array .int
  | 5 => .int
  | 6 => .array .int
  | 7 => .array .int
  | 8 => .array .boolean
  | 9 => .array .int
  | 10 => .array .int
  | 11 => .array .int
  | 12 => .array .int
  | 13 => .array .int
  | 14 => .array .int
  | 15 => .int
  | 16 => .array .int
  | 17 => .int
  | 18 => .int
  | 19 => .int
  | 20 => .int
  | 21 => .int
  | 22 => .int
  | 23 => .int
  | 24 => .int
  | 25 => .array .int
  | 26 => .int
  | 27 => .int
  | _ => .int
abbrev wsX60 : List Cond := u_ws RX6 TX6 29
theorem nmX6 : ∀ a, a < 29 → ∀ b, b < 29 → a ≠ b → (TX6 a).2.1 ≠ (TX6 b).2.1 := by decide +kernel
theorem tyX6_ok : ∀ k, k < 29 → parseFieldDescriptor (TX6 k).2.2.1 = some (tyX6 k) := by decide +kernel
abbrev cX6_init : ByteArray := prog_8_method_1_code
def yX6_init : MethodName := ⟨RX6, "<init>", "()V"⟩
abbrev cX6_in : ByteArray := prog_8_method_2_code
def yX6_in : MethodName := ⟨RX6, "in", "(III)Z"⟩
abbrev cX6_has : ByteArray := prog_8_method_3_code
def yX6_has : MethodName := ⟨RX6, "has", "(II)Z"⟩
abbrev cX6_begins : ByteArray := prog_8_method_4_code
def yX6_begins : MethodName := ⟨RX6, "begins", "([I)V"⟩
abbrev cX6_leanX : ByteArray := prog_8_method_5_code
def yX6_leanX : MethodName := ⟨RX6, "leanX", "(I)I"⟩
abbrev cX6_leanY : ByteArray := prog_8_method_6_code
def yX6_leanY : MethodName := ⟨RX6, "leanY", "(I)I"⟩
abbrev cX6_lays : ByteArray := prog_8_method_7_code
def yX6_lays : MethodName := ⟨RX6, "lays", "(II)V"⟩
abbrev cX6_layRings : ByteArray := prog_8_method_8_code
def yX6_layRings : MethodName := ⟨RX6, "layRings", "([II)V"⟩
abbrev cX6_far : ByteArray := prog_8_method_9_code
def yX6_far : MethodName := ⟨RX6, "far", "(I)I"⟩
abbrev cX6_costOf : ByteArray := prog_8_method_10_code
def yX6_costOf : MethodName := ⟨RX6, "costOf", "(I)I"⟩
abbrev cX6_isBarred : ByteArray := prog_8_method_11_code
def yX6_isBarred : MethodName := ⟨RX6, "isBarred", "(III)Z"⟩
abbrev cX6_mayBe : ByteArray := prog_8_method_12_code
def yX6_mayBe : MethodName := ⟨RX6, "mayBe", "([IIII)Z"⟩
abbrev cX6_type : ByteArray := prog_8_method_13_code
def yX6_type : MethodName := ⟨RX6, "type", "(I)I"⟩
abbrev cX6_clear : ByteArray := prog_8_method_14_code
def yX6_clear : MethodName := ⟨RX6, "clear", "()I"⟩
abbrev cX6_isFigure : ByteArray := prog_8_method_15_code
def yX6_isFigure : MethodName := ⟨RX6, "isFigure", "()Z"⟩
abbrev cX6_blanks : ByteArray := prog_8_method_16_code
def yX6_blanks : MethodName := ⟨RX6, "blanks", "()V"⟩
abbrev cX6_isToken : ByteArray := prog_8_method_17_code
def yX6_isToken : MethodName := ⟨RX6, "isToken", "(I)Z"⟩
abbrev cX6_next : ByteArray := prog_8_method_18_code
def yX6_next : MethodName := ⟨RX6, "next", "()V"⟩
abbrev cX6_fails : ByteArray := prog_8_method_19_code
def yX6_fails : MethodName := ⟨RX6, "fails", "()Z"⟩
abbrev cX6_number : ByteArray := prog_8_method_20_code
def yX6_number : MethodName := ⟨RX6, "number", "(II)Z"⟩
abbrev cX6_ends : ByteArray := prog_8_method_21_code
def yX6_ends : MethodName := ⟨RX6, "ends", "()Z"⟩
abbrev cX6_readsOnce : ByteArray := prog_8_method_22_code
def yX6_readsOnce : MethodName := ⟨RX6, "readsOnce", "(III)Z"⟩
abbrev cX6_whole : ByteArray := prog_8_method_23_code
def yX6_whole : MethodName := ⟨RX6, "whole", "()Z"⟩
abbrev cX6_readsWish : ByteArray := prog_8_method_24_code
def yX6_readsWish : MethodName := ⟨RX6, "readsWish", "()Z"⟩
abbrev cX6_readsRing : ByteArray := prog_8_method_25_code
def yX6_readsRing : MethodName := ⟨RX6, "readsRing", "()Z"⟩
abbrev cX6_readsItem : ByteArray := prog_8_method_26_code
def yX6_readsItem : MethodName := ⟨RX6, "readsItem", "()Z"⟩
abbrev cX6_tunnel : ByteArray := prog_8_method_27_code
def yX6_tunnel : MethodName := ⟨RX6, "tunnel", "()I"⟩
abbrev cX6_remember : ByteArray := prog_8_method_28_code
def yX6_remember : MethodName := ⟨RX6, "remember", "()V"⟩
abbrev cX6_mayBeNext : ByteArray := prog_8_method_29_code
def yX6_mayBeNext : MethodName := ⟨RX6, "mayBeNext", "(I)Z"⟩
abbrev cX6_laysKey : ByteArray := prog_8_method_30_code
def yX6_laysKey : MethodName := ⟨RX6, "laysKey", "(I)V"⟩
abbrev cX6_builds : ByteArray := prog_8_method_31_code
def yX6_builds : MethodName := ⟨RX6, "builds", "(I)I"⟩
abbrev cX6_follows : ByteArray := prog_8_method_32_code
def yX6_follows : MethodName := ⟨RX6, "follows", "(I)I"⟩
abbrev cX6_wishes : ByteArray := prog_8_method_33_code
def yX6_wishes : MethodName := ⟨RX6, "wishes", "(III)I"⟩
abbrev cX6_rules : ByteArray := prog_8_method_34_code
def yX6_rules : MethodName := ⟨RX6, "rules", "(II)I"⟩
abbrev cX6_undo : ByteArray := prog_8_method_35_code
def yX6_undo : MethodName := ⟨RX6, "undo", "()I"⟩
abbrev cX6_ring : ByteArray := prog_8_method_36_code
def yX6_ring : MethodName := ⟨RX6, "ring", "(II)I"⟩
abbrev cX6_wish : ByteArray := prog_8_method_37_code
def yX6_wish : MethodName := ⟨RX6, "wish", "(II)I"⟩
abbrev cX6_worst : ByteArray := prog_8_method_38_code
def yX6_worst : MethodName := ⟨RX6, "worst", "(I)I"⟩
abbrev cX6_keyOf : ByteArray := prog_8_method_39_code
def yX6_keyOf : MethodName := ⟨RX6, "keyOf", "(III)I"⟩
abbrev cX6_layPlan : ByteArray := prog_8_method_40_code
def yX6_layPlan : MethodName := ⟨RX6, "layPlan", "(I)V"⟩
abbrev cX6_plan : ByteArray := prog_8_method_41_code
def yX6_plan : MethodName := ⟨RX6, "plan", "(II)I"⟩
abbrev cX6_trying : ByteArray := prog_8_method_42_code
def yX6_trying : MethodName := ⟨RX6, "trying", "(I)I"⟩
abbrev cX6_sees : ByteArray := prog_8_method_43_code
def yX6_sees : MethodName := ⟨RX6, "sees", "(II)I"⟩
abbrev cX6_forget : ByteArray := prog_8_method_44_code
def yX6_forget : MethodName := ⟨RX6, "forget", "()I"⟩
abbrev cX6_layAgain : ByteArray := prog_8_method_45_code
def yX6_layAgain : MethodName := ⟨RX6, "layAgain", "(I)V"⟩
abbrev cX6_unseen : ByteArray := prog_8_method_46_code
def yX6_unseen : MethodName := ⟨RX6, "unseen", "(I)I"⟩
abbrev cX6_odds : ByteArray := prog_8_method_47_code
def yX6_odds : MethodName := ⟨RX6, "odds", "(III)I"⟩
abbrev cX6_keep : ByteArray := prog_8_method_48_code
def yX6_keep : MethodName := ⟨RX6, "keep", "(I)I"⟩
abbrev cX6_back : ByteArray := prog_8_method_49_code
def yX6_back : MethodName := ⟨RX6, "back", "(I)I"⟩
abbrev cX6_nextKeys : ByteArray := prog_8_method_50_code
def yX6_nextKeys : MethodName := ⟨RX6, "nextKeys", "()I"⟩
abbrev cX6_allCosts : ByteArray := prog_8_method_51_code
def yX6_allCosts : MethodName := ⟨RX6, "allCosts", "()I"⟩
abbrev cX6_count : ByteArray := prog_8_method_52_code
def yX6_count : MethodName := ⟨RX6, "count", "(I)I"⟩
def RJ6 : String := "java/lang/Integer"
def TJ6 : u_T := fun k => match k with
  | _ => ("", "", "", false)
def tyJ6 : Nat → FieldType := fun k => match k with
  | _ => .int
abbrev wsJ60 : List Cond := u_ws RJ6 TJ6 0
theorem nmJ6 : ∀ a, a < 0 → ∀ b, b < 0 → a ≠ b → (TJ6 a).2.1 ≠ (TJ6 b).2.1 := by decide +kernel
theorem tyJ6_ok : ∀ k, k < 0 → parseFieldDescriptor (TJ6 k).2.2.1 = some (tyJ6 k) := by decide +kernel
abbrev cJ6_bitCount_0f7a4 : ByteArray := prog_9_method_49_code
def yJ6_bitCount_0f7a4 : MethodName := ⟨RJ6, "bitCount", "(I)I"⟩
def RJ9 : String := "java/lang/Math"
def TJ9 : u_T := fun k => match k with
  | _ => ("", "", "", false)
def tyJ9 : Nat → FieldType := fun k => match k with
  | _ => .int
abbrev wsJ90 : List Cond := u_ws RJ9 TJ9 0
theorem nmJ9 : ∀ a, a < 0 → ∀ b, b < 0 → a ≠ b → (TJ9 a).2.1 ≠ (TJ9 b).2.1 := by decide +kernel
theorem tyJ9_ok : ∀ k, k < 0 → parseFieldDescriptor (TJ9 k).2.2.1 = some (tyJ9 k) := by decide +kernel
abbrev cJ9_floorMod_7cf53 : ByteArray := prog_10_method_50_code
def yJ9_floorMod_7cf53 : MethodName := ⟨RJ9, "floorMod", "(II)I"⟩
abbrev cJ9_abs_0f7a4 : ByteArray := prog_10_method_59_code
def yJ9_abs_0f7a4 : MethodName := ⟨RJ9, "abs", "(I)I"⟩
abbrev cJ9_max_7cf53 : ByteArray := prog_10_method_65_code
def yJ9_max_7cf53 : MethodName := ⟨RJ9, "max", "(II)I"⟩
abbrev cJ9_min_7cf53 : ByteArray := prog_10_method_69_code
def yJ9_min_7cf53 : MethodName := ⟨RJ9, "min", "(II)I"⟩
def RL : String := "RingSteerLaw"
abbrev cL_law : ByteArray := code
def yL_law : MethodName := ⟨RL, "law", "([I)Z"⟩
theorem inJ6 : ∀ w ∈ wsJ60, w ∈ lw_tbl := by decide +kernel
theorem inJ9 : ∀ w ∈ wsJ90, w ∈ lw_tbl := by decide +kernel
abbrev vwCl : List vw_C := [(RX0, TX0, 5), (RX1, TX1, 8), (RX2, TX2, 9), (RX3, TX3, 5), (RX4, TX4, 6), (RX5, TX5, 11), (RX6, TX6, 29)]
end
section
theorem dX0_init_0 : decode cX0_init 0 = .ok (.aload_n 0, 1) := by decide +kernel
theorem dX0_init_1 : decode cX0_init 1 = .ok (.invokespecial 3, 3) := by decide +kernel
theorem dX0_init_4 : decode cX0_init 4 = .ok (.aload_n 0, 1) := by decide +kernel
theorem dX0_init_5 : decode cX0_init 5 = .ok (.bipush 12, 2) := by decide +kernel
theorem dX0_init_7 : decode cX0_init 7 = .ok (.newarray .int, 2) := by decide +kernel
theorem dX0_init_9 : decode cX0_init 9 = .ok (.putfield 9, 3) := by decide +kernel
theorem dX0_init_12 : decode cX0_init 12 = .ok (.aload_n 0, 1) := by decide +kernel
theorem dX0_init_13 : decode cX0_init 13 = .ok (.bipush 12, 2) := by decide +kernel
theorem dX0_init_15 : decode cX0_init 15 = .ok (.newarray .int, 2) := by decide +kernel
theorem dX0_init_17 : decode cX0_init 17 = .ok (.putfield 15, 3) := by decide +kernel
theorem dX0_init_20 : decode cX0_init 20 = .ok (.aload_n 0, 1) := by decide +kernel
theorem dX0_init_21 : decode cX0_init 21 = .ok (.bipush 12, 2) := by decide +kernel
theorem dX0_init_23 : decode cX0_init 23 = .ok (.newarray .int, 2) := by decide +kernel
theorem dX0_init_25 : decode cX0_init 25 = .ok (.putfield 18, 3) := by decide +kernel
theorem dX0_init_28 : decode cX0_init 28 = .ok (.aload_n 0, 1) := by decide +kernel
theorem dX0_init_29 : decode cX0_init 29 = .ok (.bipush 12, 2) := by decide +kernel
theorem dX0_init_31 : decode cX0_init 31 = .ok (.newarray .int, 2) := by decide +kernel
theorem dX0_init_33 : decode cX0_init 33 = .ok (.putfield 21, 3) := by decide +kernel
theorem dX0_init_36 : decode cX0_init 36 = .ok (.aload_n 0, 1) := by decide +kernel
theorem dX0_init_37 : decode cX0_init 37 = .ok (.iconst 0, 1) := by decide +kernel
theorem dX0_init_38 : decode cX0_init 38 = .ok (.putfield 24, 3) := by decide +kernel
theorem dX0_init_41 : decode cX0_init 41 = .ok (.return_, 1) := by decide +kernel
theorem dX0_add_0 : decode cX0_add 0 = .ok (.aload_n 0, 1) := by decide +kernel
theorem dX0_add_1 : decode cX0_add 1 = .ok (.getfield 24, 3) := by decide +kernel
theorem dX0_add_4 : decode cX0_add 4 = .ok (.bipush 12, 2) := by decide +kernel
theorem dX0_add_6 : decode cX0_add 6 = .ok (.if_icmp .lt 7, 3) := by decide +kernel
theorem dX0_add_9 : decode cX0_add 9 = .ok (.aload_n 0, 1) := by decide +kernel
theorem dX0_add_10 : decode cX0_add 10 = .ok (.invokevirtual 28, 3) := by decide +kernel
theorem dX0_add_13 : decode cX0_add 13 = .ok (.aload_n 0, 1) := by decide +kernel
theorem dX0_add_14 : decode cX0_add 14 = .ok (.getfield 9, 3) := by decide +kernel
theorem dX0_add_17 : decode cX0_add 17 = .ok (.aload_n 0, 1) := by decide +kernel
theorem dX0_add_18 : decode cX0_add 18 = .ok (.getfield 24, 3) := by decide +kernel
theorem dX0_add_21 : decode cX0_add 21 = .ok (.iload_n 1, 1) := by decide +kernel
theorem dX0_add_22 : decode cX0_add 22 = .ok (.iastore, 1) := by decide +kernel
theorem dX0_add_23 : decode cX0_add 23 = .ok (.aload_n 0, 1) := by decide +kernel
theorem dX0_add_24 : decode cX0_add 24 = .ok (.getfield 15, 3) := by decide +kernel
theorem dX0_add_27 : decode cX0_add 27 = .ok (.aload_n 0, 1) := by decide +kernel
theorem dX0_add_28 : decode cX0_add 28 = .ok (.getfield 24, 3) := by decide +kernel
theorem dX0_add_31 : decode cX0_add 31 = .ok (.iload_n 2, 1) := by decide +kernel
theorem dX0_add_32 : decode cX0_add 32 = .ok (.iastore, 1) := by decide +kernel
theorem dX0_add_33 : decode cX0_add 33 = .ok (.aload_n 0, 1) := by decide +kernel
theorem dX0_add_34 : decode cX0_add 34 = .ok (.getfield 18, 3) := by decide +kernel
theorem dX0_add_37 : decode cX0_add 37 = .ok (.aload_n 0, 1) := by decide +kernel
theorem dX0_add_38 : decode cX0_add 38 = .ok (.getfield 24, 3) := by decide +kernel
theorem dX0_add_41 : decode cX0_add 41 = .ok (.iload_n 3, 1) := by decide +kernel
theorem dX0_add_42 : decode cX0_add 42 = .ok (.iastore, 1) := by decide +kernel
theorem dX0_add_43 : decode cX0_add 43 = .ok (.aload_n 0, 1) := by decide +kernel
theorem dX0_add_44 : decode cX0_add 44 = .ok (.getfield 21, 3) := by decide +kernel
theorem dX0_add_47 : decode cX0_add 47 = .ok (.aload_n 0, 1) := by decide +kernel
theorem dX0_add_48 : decode cX0_add 48 = .ok (.getfield 24, 3) := by decide +kernel
theorem dX0_add_51 : decode cX0_add 51 = .ok (.iload 4, 2) := by decide +kernel
theorem dX0_add_53 : decode cX0_add 53 = .ok (.iastore, 1) := by decide +kernel
theorem dX0_add_54 : decode cX0_add 54 = .ok (.aload_n 0, 1) := by decide +kernel
theorem dX0_add_55 : decode cX0_add 55 = .ok (.dup, 1) := by decide +kernel
theorem dX0_add_56 : decode cX0_add 56 = .ok (.getfield 24, 3) := by decide +kernel
theorem dX0_add_59 : decode cX0_add 59 = .ok (.iconst 1, 1) := by decide +kernel
theorem dX0_add_60 : decode cX0_add 60 = .ok (.iadd, 1) := by decide +kernel
theorem dX0_add_61 : decode cX0_add 61 = .ok (.putfield 24, 3) := by decide +kernel
theorem dX0_add_64 : decode cX0_add 64 = .ok (.return_, 1) := by decide +kernel
theorem dX0_loseOldest_0 : decode cX0_loseOldest 0 = .ok (.iconst 1, 1) := by decide +kernel
theorem dX0_loseOldest_1 : decode cX0_loseOldest 1 = .ok (.istore_n 1, 1) := by decide +kernel
theorem dX0_loseOldest_2 : decode cX0_loseOldest 2 = .ok (.iload_n 1, 1) := by decide +kernel
theorem dX0_loseOldest_3 : decode cX0_loseOldest 3 = .ok (.bipush 12, 2) := by decide +kernel
theorem dX0_loseOldest_5 : decode cX0_loseOldest 5 = .ok (.if_icmp .ge 65, 3) := by decide +kernel
theorem dX0_loseOldest_8 : decode cX0_loseOldest 8 = .ok (.aload_n 0, 1) := by decide +kernel
theorem dX0_loseOldest_9 : decode cX0_loseOldest 9 = .ok (.getfield 9, 3) := by decide +kernel
theorem dX0_loseOldest_12 : decode cX0_loseOldest 12 = .ok (.iload_n 1, 1) := by decide +kernel
theorem dX0_loseOldest_13 : decode cX0_loseOldest 13 = .ok (.iconst 1, 1) := by decide +kernel
theorem dX0_loseOldest_14 : decode cX0_loseOldest 14 = .ok (.isub, 1) := by decide +kernel
theorem dX0_loseOldest_15 : decode cX0_loseOldest 15 = .ok (.aload_n 0, 1) := by decide +kernel
theorem dX0_loseOldest_16 : decode cX0_loseOldest 16 = .ok (.getfield 9, 3) := by decide +kernel
theorem dX0_loseOldest_19 : decode cX0_loseOldest 19 = .ok (.iload_n 1, 1) := by decide +kernel
theorem dX0_loseOldest_20 : decode cX0_loseOldest 20 = .ok (.iaload, 1) := by decide +kernel
theorem dX0_loseOldest_21 : decode cX0_loseOldest 21 = .ok (.iastore, 1) := by decide +kernel
theorem dX0_loseOldest_22 : decode cX0_loseOldest 22 = .ok (.aload_n 0, 1) := by decide +kernel
theorem dX0_loseOldest_23 : decode cX0_loseOldest 23 = .ok (.getfield 15, 3) := by decide +kernel
theorem dX0_loseOldest_26 : decode cX0_loseOldest 26 = .ok (.iload_n 1, 1) := by decide +kernel
theorem dX0_loseOldest_27 : decode cX0_loseOldest 27 = .ok (.iconst 1, 1) := by decide +kernel
theorem dX0_loseOldest_28 : decode cX0_loseOldest 28 = .ok (.isub, 1) := by decide +kernel
theorem dX0_loseOldest_29 : decode cX0_loseOldest 29 = .ok (.aload_n 0, 1) := by decide +kernel
theorem dX0_loseOldest_30 : decode cX0_loseOldest 30 = .ok (.getfield 15, 3) := by decide +kernel
theorem dX0_loseOldest_33 : decode cX0_loseOldest 33 = .ok (.iload_n 1, 1) := by decide +kernel
theorem dX0_loseOldest_34 : decode cX0_loseOldest 34 = .ok (.iaload, 1) := by decide +kernel
theorem dX0_loseOldest_35 : decode cX0_loseOldest 35 = .ok (.iastore, 1) := by decide +kernel
theorem dX0_loseOldest_36 : decode cX0_loseOldest 36 = .ok (.aload_n 0, 1) := by decide +kernel
theorem dX0_loseOldest_37 : decode cX0_loseOldest 37 = .ok (.getfield 18, 3) := by decide +kernel
theorem dX0_loseOldest_40 : decode cX0_loseOldest 40 = .ok (.iload_n 1, 1) := by decide +kernel
theorem dX0_loseOldest_41 : decode cX0_loseOldest 41 = .ok (.iconst 1, 1) := by decide +kernel
theorem dX0_loseOldest_42 : decode cX0_loseOldest 42 = .ok (.isub, 1) := by decide +kernel
theorem dX0_loseOldest_43 : decode cX0_loseOldest 43 = .ok (.aload_n 0, 1) := by decide +kernel
theorem dX0_loseOldest_44 : decode cX0_loseOldest 44 = .ok (.getfield 18, 3) := by decide +kernel
theorem dX0_loseOldest_47 : decode cX0_loseOldest 47 = .ok (.iload_n 1, 1) := by decide +kernel
theorem dX0_loseOldest_48 : decode cX0_loseOldest 48 = .ok (.iaload, 1) := by decide +kernel
theorem dX0_loseOldest_49 : decode cX0_loseOldest 49 = .ok (.iastore, 1) := by decide +kernel
theorem dX0_loseOldest_50 : decode cX0_loseOldest 50 = .ok (.aload_n 0, 1) := by decide +kernel
theorem dX0_loseOldest_51 : decode cX0_loseOldest 51 = .ok (.getfield 21, 3) := by decide +kernel
theorem dX0_loseOldest_54 : decode cX0_loseOldest 54 = .ok (.iload_n 1, 1) := by decide +kernel
theorem dX0_loseOldest_55 : decode cX0_loseOldest 55 = .ok (.iconst 1, 1) := by decide +kernel
theorem dX0_loseOldest_56 : decode cX0_loseOldest 56 = .ok (.isub, 1) := by decide +kernel
theorem dX0_loseOldest_57 : decode cX0_loseOldest 57 = .ok (.aload_n 0, 1) := by decide +kernel
theorem dX0_loseOldest_58 : decode cX0_loseOldest 58 = .ok (.getfield 21, 3) := by decide +kernel
theorem dX0_loseOldest_61 : decode cX0_loseOldest 61 = .ok (.iload_n 1, 1) := by decide +kernel
theorem dX0_loseOldest_62 : decode cX0_loseOldest 62 = .ok (.iaload, 1) := by decide +kernel
theorem dX0_loseOldest_63 : decode cX0_loseOldest 63 = .ok (.iastore, 1) := by decide +kernel
theorem dX0_loseOldest_64 : decode cX0_loseOldest 64 = .ok (.iinc 1 1, 3) := by decide +kernel
theorem dX0_loseOldest_67 : decode cX0_loseOldest 67 = .ok (.goto (-65), 3) := by decide +kernel
theorem dX0_loseOldest_70 : decode cX0_loseOldest 70 = .ok (.aload_n 0, 1) := by decide +kernel
theorem dX0_loseOldest_71 : decode cX0_loseOldest 71 = .ok (.bipush 11, 2) := by decide +kernel
theorem dX0_loseOldest_73 : decode cX0_loseOldest 73 = .ok (.putfield 24, 3) := by decide +kernel
theorem dX0_loseOldest_76 : decode cX0_loseOldest 76 = .ok (.return_, 1) := by decide +kernel
theorem dX0_takeBack_0 : decode cX0_takeBack 0 = .ok (.aload_n 0, 1) := by decide +kernel
theorem dX0_takeBack_1 : decode cX0_takeBack 1 = .ok (.getfield 24, 3) := by decide +kernel
theorem dX0_takeBack_4 : decode cX0_takeBack 4 = .ok (.iconst 1, 1) := by decide +kernel
theorem dX0_takeBack_5 : decode cX0_takeBack 5 = .ok (.bipush 12, 2) := by decide +kernel
theorem dX0_takeBack_7 : decode cX0_takeBack 7 = .ok (.invokestatic 31, 3) := by decide +kernel
theorem dX0_takeBack_10 : decode cX0_takeBack 10 = .ok (.ifCond .ne 4, 3) := by decide +kernel
theorem dX0_takeBack_13 : decode cX0_takeBack 13 = .ok (.return_, 1) := by decide +kernel
theorem dX0_takeBack_14 : decode cX0_takeBack 14 = .ok (.aload_n 0, 1) := by decide +kernel
theorem dX0_takeBack_15 : decode cX0_takeBack 15 = .ok (.dup, 1) := by decide +kernel
theorem dX0_takeBack_16 : decode cX0_takeBack 16 = .ok (.getfield 24, 3) := by decide +kernel
theorem dX0_takeBack_19 : decode cX0_takeBack 19 = .ok (.iconst 1, 1) := by decide +kernel
theorem dX0_takeBack_20 : decode cX0_takeBack 20 = .ok (.isub, 1) := by decide +kernel
theorem dX0_takeBack_21 : decode cX0_takeBack 21 = .ok (.putfield 24, 3) := by decide +kernel
theorem dX0_takeBack_24 : decode cX0_takeBack 24 = .ok (.aload_n 0, 1) := by decide +kernel
theorem dX0_takeBack_25 : decode cX0_takeBack 25 = .ok (.getfield 9, 3) := by decide +kernel
theorem dX0_takeBack_28 : decode cX0_takeBack 28 = .ok (.aload_n 0, 1) := by decide +kernel
theorem dX0_takeBack_29 : decode cX0_takeBack 29 = .ok (.getfield 24, 3) := by decide +kernel
theorem dX0_takeBack_32 : decode cX0_takeBack 32 = .ok (.iaload, 1) := by decide +kernel
theorem dX0_takeBack_33 : decode cX0_takeBack 33 = .ok (.lookupswitch 68 #[(0, 27), (1, 34)], 27) := by decide +kernel
theorem dX0_takeBack_60 : decode cX0_takeBack 60 = .ok (.aload_n 1, 1) := by decide +kernel
theorem dX0_takeBack_61 : decode cX0_takeBack 61 = .ok (.invokevirtual 35, 3) := by decide +kernel
theorem dX0_takeBack_64 : decode cX0_takeBack 64 = .ok (.goto 59, 3) := by decide +kernel
theorem dX0_takeBack_67 : decode cX0_takeBack 67 = .ok (.aload_n 1, 1) := by decide +kernel
theorem dX0_takeBack_68 : decode cX0_takeBack 68 = .ok (.aload_n 0, 1) := by decide +kernel
theorem dX0_takeBack_69 : decode cX0_takeBack 69 = .ok (.getfield 15, 3) := by decide +kernel
theorem dX0_takeBack_72 : decode cX0_takeBack 72 = .ok (.aload_n 0, 1) := by decide +kernel
theorem dX0_takeBack_73 : decode cX0_takeBack 73 = .ok (.getfield 24, 3) := by decide +kernel
theorem dX0_takeBack_76 : decode cX0_takeBack 76 = .ok (.iaload, 1) := by decide +kernel
theorem dX0_takeBack_77 : decode cX0_takeBack 77 = .ok (.aload_n 0, 1) := by decide +kernel
theorem dX0_takeBack_78 : decode cX0_takeBack 78 = .ok (.getfield 18, 3) := by decide +kernel
theorem dX0_takeBack_81 : decode cX0_takeBack 81 = .ok (.aload_n 0, 1) := by decide +kernel
theorem dX0_takeBack_82 : decode cX0_takeBack 82 = .ok (.getfield 24, 3) := by decide +kernel
theorem dX0_takeBack_85 : decode cX0_takeBack 85 = .ok (.iaload, 1) := by decide +kernel
theorem dX0_takeBack_86 : decode cX0_takeBack 86 = .ok (.aload_n 0, 1) := by decide +kernel
theorem dX0_takeBack_87 : decode cX0_takeBack 87 = .ok (.getfield 21, 3) := by decide +kernel
theorem dX0_takeBack_90 : decode cX0_takeBack 90 = .ok (.aload_n 0, 1) := by decide +kernel
theorem dX0_takeBack_91 : decode cX0_takeBack 91 = .ok (.getfield 24, 3) := by decide +kernel
theorem dX0_takeBack_94 : decode cX0_takeBack 94 = .ok (.iaload, 1) := by decide +kernel
theorem dX0_takeBack_95 : decode cX0_takeBack 95 = .ok (.invokevirtual 40, 3) := by decide +kernel
theorem dX0_takeBack_98 : decode cX0_takeBack 98 = .ok (.goto 25, 3) := by decide +kernel
theorem dX0_takeBack_101 : decode cX0_takeBack 101 = .ok (.aload_n 1, 1) := by decide +kernel
theorem dX0_takeBack_102 : decode cX0_takeBack 102 = .ok (.aload_n 0, 1) := by decide +kernel
theorem dX0_takeBack_103 : decode cX0_takeBack 103 = .ok (.getfield 15, 3) := by decide +kernel
theorem dX0_takeBack_106 : decode cX0_takeBack 106 = .ok (.aload_n 0, 1) := by decide +kernel
theorem dX0_takeBack_107 : decode cX0_takeBack 107 = .ok (.getfield 24, 3) := by decide +kernel
theorem dX0_takeBack_110 : decode cX0_takeBack 110 = .ok (.iaload, 1) := by decide +kernel
theorem dX0_takeBack_111 : decode cX0_takeBack 111 = .ok (.aload_n 0, 1) := by decide +kernel
theorem dX0_takeBack_112 : decode cX0_takeBack 112 = .ok (.getfield 18, 3) := by decide +kernel
theorem dX0_takeBack_115 : decode cX0_takeBack 115 = .ok (.aload_n 0, 1) := by decide +kernel
theorem dX0_takeBack_116 : decode cX0_takeBack 116 = .ok (.getfield 24, 3) := by decide +kernel
theorem dX0_takeBack_119 : decode cX0_takeBack 119 = .ok (.iaload, 1) := by decide +kernel
theorem dX0_takeBack_120 : decode cX0_takeBack 120 = .ok (.invokevirtual 44, 3) := by decide +kernel
theorem dX0_takeBack_123 : decode cX0_takeBack 123 = .ok (.return_, 1) := by decide +kernel
theorem dX1_init_0 : decode cX1_init 0 = .ok (.aload_n 0, 1) := by decide +kernel
theorem dX1_init_1 : decode cX1_init 1 = .ok (.invokespecial 3, 3) := by decide +kernel
theorem dX1_init_4 : decode cX1_init 4 = .ok (.aload_n 0, 1) := by decide +kernel
theorem dX1_init_5 : decode cX1_init 5 = .ok (.bipush 13, 2) := by decide +kernel
theorem dX1_init_7 : decode cX1_init 7 = .ok (.anewarray 9, 3) := by decide +kernel
theorem dX1_init_10 : decode cX1_init 10 = .ok (.putfield 11, 3) := by decide +kernel
theorem dX1_init_13 : decode cX1_init 13 = .ok (.aload_n 0, 1) := by decide +kernel
theorem dX1_init_14 : decode cX1_init 14 = .ok (.bipush 18, 2) := by decide +kernel
theorem dX1_init_16 : decode cX1_init 16 = .ok (.newarray .int, 2) := by decide +kernel
theorem dX1_init_18 : decode cX1_init 18 = .ok (.putfield 17, 3) := by decide +kernel
theorem dX1_init_21 : decode cX1_init 21 = .ok (.aload_n 0, 1) := by decide +kernel
theorem dX1_init_22 : decode cX1_init 22 = .ok (.bipush 18, 2) := by decide +kernel
theorem dX1_init_24 : decode cX1_init 24 = .ok (.newarray .int, 2) := by decide +kernel
theorem dX1_init_26 : decode cX1_init 26 = .ok (.putfield 21, 3) := by decide +kernel
theorem dX1_init_29 : decode cX1_init 29 = .ok (.aload_n 0, 1) := by decide +kernel
theorem dX1_init_30 : decode cX1_init 30 = .ok (.iconst 0, 1) := by decide +kernel
theorem dX1_init_31 : decode cX1_init 31 = .ok (.putfield 24, 3) := by decide +kernel
theorem dX1_init_34 : decode cX1_init 34 = .ok (.aload_n 0, 1) := by decide +kernel
theorem dX1_init_35 : decode cX1_init 35 = .ok (.iconst 1, 1) := by decide +kernel
theorem dX1_init_36 : decode cX1_init 36 = .ok (.putfield 28, 3) := by decide +kernel
theorem dX1_init_39 : decode cX1_init 39 = .ok (.aload_n 0, 1) := by decide +kernel
theorem dX1_init_40 : decode cX1_init 40 = .ok (.iconst 1, 1) := by decide +kernel
theorem dX1_init_41 : decode cX1_init 41 = .ok (.putfield 31, 3) := by decide +kernel
theorem dX1_init_44 : decode cX1_init 44 = .ok (.aload_n 0, 1) := by decide +kernel
theorem dX1_init_45 : decode cX1_init 45 = .ok (.iconst 0, 1) := by decide +kernel
theorem dX1_init_46 : decode cX1_init 46 = .ok (.putfield 34, 3) := by decide +kernel
theorem dX1_init_49 : decode cX1_init 49 = .ok (.aload_n 0, 1) := by decide +kernel
theorem dX1_init_50 : decode cX1_init 50 = .ok (.iconst 0, 1) := by decide +kernel
theorem dX1_init_51 : decode cX1_init 51 = .ok (.putfield 37, 3) := by decide +kernel
theorem dX1_init_54 : decode cX1_init 54 = .ok (.iconst 0, 1) := by decide +kernel
theorem dX1_init_55 : decode cX1_init 55 = .ok (.istore_n 1, 1) := by decide +kernel
theorem dX1_init_56 : decode cX1_init 56 = .ok (.iload_n 1, 1) := by decide +kernel
theorem dX1_init_57 : decode cX1_init 57 = .ok (.bipush 12, 2) := by decide +kernel
theorem dX1_init_59 : decode cX1_init 59 = .ok (.if_icmp .gt 22, 3) := by decide +kernel
theorem dX1_init_62 : decode cX1_init 62 = .ok (.aload_n 0, 1) := by decide +kernel
theorem dX1_init_63 : decode cX1_init 63 = .ok (.getfield 11, 3) := by decide +kernel
theorem dX1_init_66 : decode cX1_init 66 = .ok (.iload_n 1, 1) := by decide +kernel
theorem dX1_init_67 : decode cX1_init 67 = .ok (.new 9, 3) := by decide +kernel
theorem dX1_init_70 : decode cX1_init 70 = .ok (.dup, 1) := by decide +kernel
theorem dX1_init_71 : decode cX1_init 71 = .ok (.invokespecial 40, 3) := by decide +kernel
theorem dX1_init_74 : decode cX1_init 74 = .ok (.aastore, 1) := by decide +kernel
theorem dX1_init_75 : decode cX1_init 75 = .ok (.iinc 1 1, 3) := by decide +kernel
theorem dX1_init_78 : decode cX1_init 78 = .ok (.goto (-22), 3) := by decide +kernel
theorem dX1_init_81 : decode cX1_init 81 = .ok (.return_, 1) := by decide +kernel
theorem dX1_reset_0 : decode cX1_reset 0 = .ok (.aload_n 0, 1) := by decide +kernel
theorem dX1_reset_1 : decode cX1_reset 1 = .ok (.iconst 0, 1) := by decide +kernel
theorem dX1_reset_2 : decode cX1_reset 2 = .ok (.putfield 24, 3) := by decide +kernel
theorem dX1_reset_5 : decode cX1_reset 5 = .ok (.aload_n 0, 1) := by decide +kernel
theorem dX1_reset_6 : decode cX1_reset 6 = .ok (.iconst 1, 1) := by decide +kernel
theorem dX1_reset_7 : decode cX1_reset 7 = .ok (.putfield 28, 3) := by decide +kernel
theorem dX1_reset_10 : decode cX1_reset 10 = .ok (.aload_n 0, 1) := by decide +kernel
theorem dX1_reset_11 : decode cX1_reset 11 = .ok (.iconst 1, 1) := by decide +kernel
theorem dX1_reset_12 : decode cX1_reset 12 = .ok (.putfield 31, 3) := by decide +kernel
theorem dX1_reset_15 : decode cX1_reset 15 = .ok (.aload_n 0, 1) := by decide +kernel
theorem dX1_reset_16 : decode cX1_reset 16 = .ok (.iconst 0, 1) := by decide +kernel
theorem dX1_reset_17 : decode cX1_reset 17 = .ok (.putfield 34, 3) := by decide +kernel
theorem dX1_reset_20 : decode cX1_reset 20 = .ok (.aload_n 0, 1) := by decide +kernel
theorem dX1_reset_21 : decode cX1_reset 21 = .ok (.iconst 0, 1) := by decide +kernel
theorem dX1_reset_22 : decode cX1_reset 22 = .ok (.putfield 37, 3) := by decide +kernel
theorem dX1_reset_25 : decode cX1_reset 25 = .ok (.iconst 0, 1) := by decide +kernel
theorem dX1_reset_26 : decode cX1_reset 26 = .ok (.istore_n 1, 1) := by decide +kernel
theorem dX1_reset_27 : decode cX1_reset 27 = .ok (.iload_n 1, 1) := by decide +kernel
theorem dX1_reset_28 : decode cX1_reset 28 = .ok (.bipush 17, 2) := by decide +kernel
theorem dX1_reset_30 : decode cX1_reset 30 = .ok (.if_icmp .gt 23, 3) := by decide +kernel
theorem dX1_reset_33 : decode cX1_reset 33 = .ok (.aload_n 0, 1) := by decide +kernel
theorem dX1_reset_34 : decode cX1_reset 34 = .ok (.getfield 17, 3) := by decide +kernel
theorem dX1_reset_37 : decode cX1_reset 37 = .ok (.iload_n 1, 1) := by decide +kernel
theorem dX1_reset_38 : decode cX1_reset 38 = .ok (.iconst 0, 1) := by decide +kernel
theorem dX1_reset_39 : decode cX1_reset 39 = .ok (.iastore, 1) := by decide +kernel
theorem dX1_reset_40 : decode cX1_reset 40 = .ok (.aload_n 0, 1) := by decide +kernel
theorem dX1_reset_41 : decode cX1_reset 41 = .ok (.getfield 21, 3) := by decide +kernel
theorem dX1_reset_44 : decode cX1_reset 44 = .ok (.iload_n 1, 1) := by decide +kernel
theorem dX1_reset_45 : decode cX1_reset 45 = .ok (.iconst 0, 1) := by decide +kernel
theorem dX1_reset_46 : decode cX1_reset 46 = .ok (.iastore, 1) := by decide +kernel
theorem dX1_reset_47 : decode cX1_reset 47 = .ok (.iinc 1 1, 3) := by decide +kernel
theorem dX1_reset_50 : decode cX1_reset 50 = .ok (.goto (-23), 3) := by decide +kernel
theorem dX1_reset_53 : decode cX1_reset 53 = .ok (.return_, 1) := by decide +kernel
theorem dX1_copy_0 : decode cX1_copy 0 = .ok (.aload_n 0, 1) := by decide +kernel
theorem dX1_copy_1 : decode cX1_copy 1 = .ok (.aload_n 1, 1) := by decide +kernel
theorem dX1_copy_2 : decode cX1_copy 2 = .ok (.getfield 24, 3) := by decide +kernel
theorem dX1_copy_5 : decode cX1_copy 5 = .ok (.putfield 24, 3) := by decide +kernel
theorem dX1_copy_8 : decode cX1_copy 8 = .ok (.aload_n 0, 1) := by decide +kernel
theorem dX1_copy_9 : decode cX1_copy 9 = .ok (.aload_n 1, 1) := by decide +kernel
theorem dX1_copy_10 : decode cX1_copy 10 = .ok (.getfield 28, 3) := by decide +kernel
theorem dX1_copy_13 : decode cX1_copy 13 = .ok (.putfield 28, 3) := by decide +kernel
theorem dX1_copy_16 : decode cX1_copy 16 = .ok (.aload_n 0, 1) := by decide +kernel
theorem dX1_copy_17 : decode cX1_copy 17 = .ok (.aload_n 1, 1) := by decide +kernel
theorem dX1_copy_18 : decode cX1_copy 18 = .ok (.getfield 31, 3) := by decide +kernel
theorem dX1_copy_21 : decode cX1_copy 21 = .ok (.putfield 31, 3) := by decide +kernel
theorem dX1_copy_24 : decode cX1_copy 24 = .ok (.aload_n 0, 1) := by decide +kernel
theorem dX1_copy_25 : decode cX1_copy 25 = .ok (.aload_n 1, 1) := by decide +kernel
theorem dX1_copy_26 : decode cX1_copy 26 = .ok (.getfield 34, 3) := by decide +kernel
theorem dX1_copy_29 : decode cX1_copy 29 = .ok (.putfield 34, 3) := by decide +kernel
theorem dX1_copy_32 : decode cX1_copy 32 = .ok (.aload_n 0, 1) := by decide +kernel
theorem dX1_copy_33 : decode cX1_copy 33 = .ok (.aload_n 1, 1) := by decide +kernel
theorem dX1_copy_34 : decode cX1_copy 34 = .ok (.getfield 37, 3) := by decide +kernel
theorem dX1_copy_37 : decode cX1_copy 37 = .ok (.putfield 37, 3) := by decide +kernel
theorem dX1_copy_40 : decode cX1_copy 40 = .ok (.iconst 0, 1) := by decide +kernel
theorem dX1_copy_41 : decode cX1_copy 41 = .ok (.istore_n 2, 1) := by decide +kernel
theorem dX1_copy_42 : decode cX1_copy 42 = .ok (.iload_n 2, 1) := by decide +kernel
theorem dX1_copy_43 : decode cX1_copy 43 = .ok (.aload_n 0, 1) := by decide +kernel
theorem dX1_copy_44 : decode cX1_copy 44 = .ok (.getfield 24, 3) := by decide +kernel
theorem dX1_copy_47 : decode cX1_copy 47 = .ok (.if_icmp .gt 30, 3) := by decide +kernel
theorem dX1_copy_50 : decode cX1_copy 50 = .ok (.iload_n 2, 1) := by decide +kernel
theorem dX1_copy_51 : decode cX1_copy 51 = .ok (.bipush 12, 2) := by decide +kernel
theorem dX1_copy_53 : decode cX1_copy 53 = .ok (.if_icmp .gt 24, 3) := by decide +kernel
theorem dX1_copy_56 : decode cX1_copy 56 = .ok (.aload_n 0, 1) := by decide +kernel
theorem dX1_copy_57 : decode cX1_copy 57 = .ok (.getfield 11, 3) := by decide +kernel
theorem dX1_copy_60 : decode cX1_copy 60 = .ok (.iload_n 2, 1) := by decide +kernel
theorem dX1_copy_61 : decode cX1_copy 61 = .ok (.aaload, 1) := by decide +kernel
theorem dX1_copy_62 : decode cX1_copy 62 = .ok (.aload_n 1, 1) := by decide +kernel
theorem dX1_copy_63 : decode cX1_copy 63 = .ok (.getfield 11, 3) := by decide +kernel
theorem dX1_copy_66 : decode cX1_copy 66 = .ok (.iload_n 2, 1) := by decide +kernel
theorem dX1_copy_67 : decode cX1_copy 67 = .ok (.aaload, 1) := by decide +kernel
theorem dX1_copy_68 : decode cX1_copy 68 = .ok (.invokevirtual 41, 3) := by decide +kernel
theorem dX1_copy_71 : decode cX1_copy 71 = .ok (.iinc 2 1, 3) := by decide +kernel
theorem dX1_copy_74 : decode cX1_copy 74 = .ok (.goto (-32), 3) := by decide +kernel
theorem dX1_copy_77 : decode cX1_copy 77 = .ok (.iconst 0, 1) := by decide +kernel
theorem dX1_copy_78 : decode cX1_copy 78 = .ok (.istore_n 2, 1) := by decide +kernel
theorem dX1_copy_79 : decode cX1_copy 79 = .ok (.iload_n 2, 1) := by decide +kernel
theorem dX1_copy_80 : decode cX1_copy 80 = .ok (.bipush 17, 2) := by decide +kernel
theorem dX1_copy_82 : decode cX1_copy 82 = .ok (.if_icmp .gt 33, 3) := by decide +kernel
theorem dX1_copy_85 : decode cX1_copy 85 = .ok (.aload_n 0, 1) := by decide +kernel
theorem dX1_copy_86 : decode cX1_copy 86 = .ok (.getfield 17, 3) := by decide +kernel
theorem dX1_copy_89 : decode cX1_copy 89 = .ok (.iload_n 2, 1) := by decide +kernel
theorem dX1_copy_90 : decode cX1_copy 90 = .ok (.aload_n 1, 1) := by decide +kernel
theorem dX1_copy_91 : decode cX1_copy 91 = .ok (.getfield 17, 3) := by decide +kernel
theorem dX1_copy_94 : decode cX1_copy 94 = .ok (.iload_n 2, 1) := by decide +kernel
theorem dX1_copy_95 : decode cX1_copy 95 = .ok (.iaload, 1) := by decide +kernel
theorem dX1_copy_96 : decode cX1_copy 96 = .ok (.iastore, 1) := by decide +kernel
theorem dX1_copy_97 : decode cX1_copy 97 = .ok (.aload_n 0, 1) := by decide +kernel
theorem dX1_copy_98 : decode cX1_copy 98 = .ok (.getfield 21, 3) := by decide +kernel
theorem dX1_copy_101 : decode cX1_copy 101 = .ok (.iload_n 2, 1) := by decide +kernel
theorem dX1_copy_102 : decode cX1_copy 102 = .ok (.aload_n 1, 1) := by decide +kernel
theorem dX1_copy_103 : decode cX1_copy 103 = .ok (.getfield 21, 3) := by decide +kernel
theorem dX1_copy_106 : decode cX1_copy 106 = .ok (.iload_n 2, 1) := by decide +kernel
theorem dX1_copy_107 : decode cX1_copy 107 = .ok (.iaload, 1) := by decide +kernel
theorem dX1_copy_108 : decode cX1_copy 108 = .ok (.iastore, 1) := by decide +kernel
theorem dX1_copy_109 : decode cX1_copy 109 = .ok (.iinc 2 1, 3) := by decide +kernel
theorem dX1_copy_112 : decode cX1_copy 112 = .ok (.goto (-33), 3) := by decide +kernel
theorem dX1_copy_115 : decode cX1_copy 115 = .ok (.return_, 1) := by decide +kernel
theorem dX1_last_0 : decode cX1_last 0 = .ok (.aload_n 0, 1) := by decide +kernel
theorem dX1_last_1 : decode cX1_last 1 = .ok (.getfield 11, 3) := by decide +kernel
theorem dX1_last_4 : decode cX1_last 4 = .ok (.aload_n 0, 1) := by decide +kernel
theorem dX1_last_5 : decode cX1_last 5 = .ok (.getfield 24, 3) := by decide +kernel
theorem dX1_last_8 : decode cX1_last 8 = .ok (.iconst 0, 1) := by decide +kernel
theorem dX1_last_9 : decode cX1_last 9 = .ok (.bipush 12, 2) := by decide +kernel
theorem dX1_last_11 : decode cX1_last 11 = .ok (.invokestatic 45, 3) := by decide +kernel
theorem dX1_last_14 : decode cX1_last 14 = .ok (.ifCond .eq 10, 3) := by decide +kernel
theorem dX1_last_17 : decode cX1_last 17 = .ok (.aload_n 0, 1) := by decide +kernel
theorem dX1_last_18 : decode cX1_last 18 = .ok (.getfield 24, 3) := by decide +kernel
theorem dX1_last_21 : decode cX1_last 21 = .ok (.goto 4, 3) := by decide +kernel
theorem dX1_last_24 : decode cX1_last 24 = .ok (.iconst 0, 1) := by decide +kernel
theorem dX1_last_25 : decode cX1_last 25 = .ok (.aaload, 1) := by decide +kernel
theorem dX1_last_26 : decode cX1_last 26 = .ok (.areturn, 1) := by decide +kernel
theorem dX1_build_0 : decode cX1_build 0 = .ok (.aload_n 0, 1) := by decide +kernel
theorem dX1_build_1 : decode cX1_build 1 = .ok (.getfield 24, 3) := by decide +kernel
theorem dX1_build_4 : decode cX1_build 4 = .ok (.bipush 12, 2) := by decide +kernel
theorem dX1_build_6 : decode cX1_build 6 = .ok (.if_icmp .lt 4, 3) := by decide +kernel
theorem dX1_build_9 : decode cX1_build 9 = .ok (.return_, 1) := by decide +kernel
theorem dX1_build_10 : decode cX1_build 10 = .ok (.aload_n 0, 1) := by decide +kernel
theorem dX1_build_11 : decode cX1_build 11 = .ok (.getfield 11, 3) := by decide +kernel
theorem dX1_build_14 : decode cX1_build 14 = .ok (.aload_n 0, 1) := by decide +kernel
theorem dX1_build_15 : decode cX1_build 15 = .ok (.getfield 24, 3) := by decide +kernel
theorem dX1_build_18 : decode cX1_build 18 = .ok (.iconst 1, 1) := by decide +kernel
theorem dX1_build_19 : decode cX1_build 19 = .ok (.iadd, 1) := by decide +kernel
theorem dX1_build_20 : decode cX1_build 20 = .ok (.aaload, 1) := by decide +kernel
theorem dX1_build_21 : decode cX1_build 21 = .ok (.astore_n 2, 1) := by decide +kernel
theorem dX1_build_22 : decode cX1_build 22 = .ok (.aload_n 2, 1) := by decide +kernel
theorem dX1_build_23 : decode cX1_build 23 = .ok (.aload_n 0, 1) := by decide +kernel
theorem dX1_build_24 : decode cX1_build 24 = .ok (.invokevirtual 49, 3) := by decide +kernel
theorem dX1_build_27 : decode cX1_build 27 = .ok (.invokevirtual 41, 3) := by decide +kernel
theorem dX1_build_30 : decode cX1_build 30 = .ok (.aload_n 2, 1) := by decide +kernel
theorem dX1_build_31 : decode cX1_build 31 = .ok (.iload_n 1, 1) := by decide +kernel
theorem dX1_build_32 : decode cX1_build 32 = .ok (.aload_n 0, 1) := by decide +kernel
theorem dX1_build_33 : decode cX1_build 33 = .ok (.getfield 28, 3) := by decide +kernel
theorem dX1_build_36 : decode cX1_build 36 = .ok (.invokevirtual 53, 3) := by decide +kernel
theorem dX1_build_39 : decode cX1_build 39 = .ok (.aload_n 0, 1) := by decide +kernel
theorem dX1_build_40 : decode cX1_build 40 = .ok (.dup, 1) := by decide +kernel
theorem dX1_build_41 : decode cX1_build 41 = .ok (.getfield 24, 3) := by decide +kernel
theorem dX1_build_44 : decode cX1_build 44 = .ok (.iconst 1, 1) := by decide +kernel
theorem dX1_build_45 : decode cX1_build 45 = .ok (.iadd, 1) := by decide +kernel
theorem dX1_build_46 : decode cX1_build 46 = .ok (.putfield 24, 3) := by decide +kernel
theorem dX1_build_49 : decode cX1_build 49 = .ok (.return_, 1) := by decide +kernel
theorem dX1_dropLast_0 : decode cX1_dropLast 0 = .ok (.aload_n 0, 1) := by decide +kernel
theorem dX1_dropLast_1 : decode cX1_dropLast 1 = .ok (.getfield 24, 3) := by decide +kernel
theorem dX1_dropLast_4 : decode cX1_dropLast 4 = .ok (.ifCond .le 13, 3) := by decide +kernel
theorem dX1_dropLast_7 : decode cX1_dropLast 7 = .ok (.aload_n 0, 1) := by decide +kernel
theorem dX1_dropLast_8 : decode cX1_dropLast 8 = .ok (.dup, 1) := by decide +kernel
theorem dX1_dropLast_9 : decode cX1_dropLast 9 = .ok (.getfield 24, 3) := by decide +kernel
theorem dX1_dropLast_12 : decode cX1_dropLast 12 = .ok (.iconst 1, 1) := by decide +kernel
theorem dX1_dropLast_13 : decode cX1_dropLast 13 = .ok (.isub, 1) := by decide +kernel
theorem dX1_dropLast_14 : decode cX1_dropLast 14 = .ok (.putfield 24, 3) := by decide +kernel
theorem dX1_dropLast_17 : decode cX1_dropLast 17 = .ok (.return_, 1) := by decide +kernel
theorem dX1_setWish_0 : decode cX1_setWish 0 = .ok (.iload_n 1, 1) := by decide +kernel
theorem dX1_setWish_1 : decode cX1_setWish 1 = .ok (.iconst 1, 1) := by decide +kernel
theorem dX1_setWish_2 : decode cX1_setWish 2 = .ok (.bipush 17, 2) := by decide +kernel
theorem dX1_setWish_4 : decode cX1_setWish 4 = .ok (.invokestatic 45, 3) := by decide +kernel
theorem dX1_setWish_7 : decode cX1_setWish 7 = .ok (.ifCond .eq 17, 3) := by decide +kernel
theorem dX1_setWish_10 : decode cX1_setWish 10 = .ok (.aload_n 0, 1) := by decide +kernel
theorem dX1_setWish_11 : decode cX1_setWish 11 = .ok (.getfield 17, 3) := by decide +kernel
theorem dX1_setWish_14 : decode cX1_setWish 14 = .ok (.iload_n 1, 1) := by decide +kernel
theorem dX1_setWish_15 : decode cX1_setWish 15 = .ok (.iload_n 2, 1) := by decide +kernel
theorem dX1_setWish_16 : decode cX1_setWish 16 = .ok (.iastore, 1) := by decide +kernel
theorem dX1_setWish_17 : decode cX1_setWish 17 = .ok (.aload_n 0, 1) := by decide +kernel
theorem dX1_setWish_18 : decode cX1_setWish 18 = .ok (.getfield 21, 3) := by decide +kernel
theorem dX1_setWish_21 : decode cX1_setWish 21 = .ok (.iload_n 1, 1) := by decide +kernel
theorem dX1_setWish_22 : decode cX1_setWish 22 = .ok (.iload_n 3, 1) := by decide +kernel
theorem dX1_setWish_23 : decode cX1_setWish 23 = .ok (.iastore, 1) := by decide +kernel
theorem dX1_setWish_24 : decode cX1_setWish 24 = .ok (.return_, 1) := by decide +kernel
theorem dX1_rule_0 : decode cX1_rule 0 = .ok (.iload_n 1, 1) := by decide +kernel
theorem dX1_rule_1 : decode cX1_rule 1 = .ok (.lookupswitch 37 #[(0, 27), (1, 32)], 27) := by decide +kernel
theorem dX1_rule_28 : decode cX1_rule 28 = .ok (.aload_n 0, 1) := by decide +kernel
theorem dX1_rule_29 : decode cX1_rule 29 = .ok (.getfield 31, 3) := by decide +kernel
theorem dX1_rule_32 : decode cX1_rule 32 = .ok (.ireturn, 1) := by decide +kernel
theorem dX1_rule_33 : decode cX1_rule 33 = .ok (.aload_n 0, 1) := by decide +kernel
theorem dX1_rule_34 : decode cX1_rule 34 = .ok (.getfield 34, 3) := by decide +kernel
theorem dX1_rule_37 : decode cX1_rule 37 = .ok (.ireturn, 1) := by decide +kernel
theorem dX1_rule_38 : decode cX1_rule 38 = .ok (.aload_n 0, 1) := by decide +kernel
theorem dX1_rule_39 : decode cX1_rule 39 = .ok (.getfield 37, 3) := by decide +kernel
theorem dX1_rule_42 : decode cX1_rule 42 = .ok (.ireturn, 1) := by decide +kernel
theorem dX1_setRule_0 : decode cX1_setRule 0 = .ok (.iload_n 1, 1) := by decide +kernel
theorem dX1_setRule_1 : decode cX1_setRule 1 = .ok (.lookupswitch 43 #[(0, 27), (1, 35)], 27) := by decide +kernel
theorem dX1_setRule_28 : decode cX1_setRule 28 = .ok (.aload_n 0, 1) := by decide +kernel
theorem dX1_setRule_29 : decode cX1_setRule 29 = .ok (.iload_n 2, 1) := by decide +kernel
theorem dX1_setRule_30 : decode cX1_setRule 30 = .ok (.putfield 31, 3) := by decide +kernel
theorem dX1_setRule_33 : decode cX1_setRule 33 = .ok (.goto 16, 3) := by decide +kernel
theorem dX1_setRule_36 : decode cX1_setRule 36 = .ok (.aload_n 0, 1) := by decide +kernel
theorem dX1_setRule_37 : decode cX1_setRule 37 = .ok (.iload_n 2, 1) := by decide +kernel
theorem dX1_setRule_38 : decode cX1_setRule 38 = .ok (.putfield 34, 3) := by decide +kernel
theorem dX1_setRule_41 : decode cX1_setRule 41 = .ok (.goto 8, 3) := by decide +kernel
theorem dX1_setRule_44 : decode cX1_setRule 44 = .ok (.aload_n 0, 1) := by decide +kernel
theorem dX1_setRule_45 : decode cX1_setRule 45 = .ok (.iload_n 2, 1) := by decide +kernel
theorem dX1_setRule_46 : decode cX1_setRule 46 = .ok (.putfield 37, 3) := by decide +kernel
theorem dX1_setRule_49 : decode cX1_setRule 49 = .ok (.return_, 1) := by decide +kernel
theorem dX1_mayFollow_0 : decode cX1_mayFollow 0 = .ok (.aload_n 0, 1) := by decide +kernel
theorem dX1_mayFollow_1 : decode cX1_mayFollow 1 = .ok (.aload_n 1, 1) := by decide +kernel
theorem dX1_mayFollow_2 : decode cX1_mayFollow 2 = .ok (.getfield 57, 3) := by decide +kernel
theorem dX1_mayFollow_5 : decode cX1_mayFollow 5 = .ok (.iload_n 2, 1) := by decide +kernel
theorem dX1_mayFollow_6 : decode cX1_mayFollow 6 = .ok (.invokevirtual 60, 3) := by decide +kernel
theorem dX1_mayFollow_9 : decode cX1_mayFollow 9 = .ok (.ifCond .ne 16, 3) := by decide +kernel
theorem dX1_mayFollow_12 : decode cX1_mayFollow 12 = .ok (.aload_n 0, 1) := by decide +kernel
theorem dX1_mayFollow_13 : decode cX1_mayFollow 13 = .ok (.aload_n 1, 1) := by decide +kernel
theorem dX1_mayFollow_14 : decode cX1_mayFollow 14 = .ok (.iload_n 2, 1) := by decide +kernel
theorem dX1_mayFollow_15 : decode cX1_mayFollow 15 = .ok (.invokevirtual 64, 3) := by decide +kernel
theorem dX1_mayFollow_18 : decode cX1_mayFollow 18 = .ok (.ifCond .eq 7, 3) := by decide +kernel
theorem dX1_mayFollow_21 : decode cX1_mayFollow 21 = .ok (.iconst 1, 1) := by decide +kernel
theorem dX1_mayFollow_22 : decode cX1_mayFollow 22 = .ok (.goto 4, 3) := by decide +kernel
theorem dX1_mayFollow_25 : decode cX1_mayFollow 25 = .ok (.iconst 0, 1) := by decide +kernel
theorem dX1_mayFollow_26 : decode cX1_mayFollow 26 = .ok (.ireturn, 1) := by decide +kernel
theorem dX1_isBarred_0 : decode cX1_isBarred 0 = .ok (.iload_n 1, 1) := by decide +kernel
theorem dX1_isBarred_1 : decode cX1_isBarred 1 = .ok (.bipush (-9), 2) := by decide +kernel
theorem dX1_isBarred_3 : decode cX1_isBarred 3 = .ok (.if_icmp .ne 5, 3) := by decide +kernel
theorem dX1_isBarred_6 : decode cX1_isBarred 6 = .ok (.iconst 0, 1) := by decide +kernel
theorem dX1_isBarred_7 : decode cX1_isBarred 7 = .ok (.ireturn, 1) := by decide +kernel
theorem dX1_isBarred_8 : decode cX1_isBarred 8 = .ok (.iload_n 2, 1) := by decide +kernel
theorem dX1_isBarred_9 : decode cX1_isBarred 9 = .ok (.iload_n 1, 1) := by decide +kernel
theorem dX1_isBarred_10 : decode cX1_isBarred 10 = .ok (.isub, 1) := by decide +kernel
theorem dX1_isBarred_11 : decode cX1_isBarred 11 = .ok (.bipush 8, 2) := by decide +kernel
theorem dX1_isBarred_13 : decode cX1_isBarred 13 = .ok (.invokestatic 68, 3) := by decide +kernel
theorem dX1_isBarred_16 : decode cX1_isBarred 16 = .ok (.istore_n 3, 1) := by decide +kernel
theorem dX1_isBarred_17 : decode cX1_isBarred 17 = .ok (.aload_n 0, 1) := by decide +kernel
theorem dX1_isBarred_18 : decode cX1_isBarred 18 = .ok (.getfield 31, 3) := by decide +kernel
theorem dX1_isBarred_21 : decode cX1_isBarred 21 = .ok (.tableswitch 73 1 3 #[27, 37, 52], 27) := by decide +kernel
theorem dX1_isBarred_48 : decode cX1_isBarred 48 = .ok (.iload_n 3, 1) := by decide +kernel
theorem dX1_isBarred_49 : decode cX1_isBarred 49 = .ok (.ifCond .ne 7, 3) := by decide +kernel
theorem dX1_isBarred_52 : decode cX1_isBarred 52 = .ok (.iconst 1, 1) := by decide +kernel
theorem dX1_isBarred_53 : decode cX1_isBarred 53 = .ok (.goto 4, 3) := by decide +kernel
theorem dX1_isBarred_56 : decode cX1_isBarred 56 = .ok (.iconst 0, 1) := by decide +kernel
theorem dX1_isBarred_57 : decode cX1_isBarred 57 = .ok (.ireturn, 1) := by decide +kernel
theorem dX1_isBarred_58 : decode cX1_isBarred 58 = .ok (.iload_n 3, 1) := by decide +kernel
theorem dX1_isBarred_59 : decode cX1_isBarred 59 = .ok (.ifCond .eq 8, 3) := by decide +kernel
theorem dX1_isBarred_62 : decode cX1_isBarred 62 = .ok (.iload_n 3, 1) := by decide +kernel
theorem dX1_isBarred_63 : decode cX1_isBarred 63 = .ok (.iconst 4, 1) := by decide +kernel
theorem dX1_isBarred_64 : decode cX1_isBarred 64 = .ok (.if_icmp .ne 7, 3) := by decide +kernel
theorem dX1_isBarred_67 : decode cX1_isBarred 67 = .ok (.iconst 1, 1) := by decide +kernel
theorem dX1_isBarred_68 : decode cX1_isBarred 68 = .ok (.goto 4, 3) := by decide +kernel
theorem dX1_isBarred_71 : decode cX1_isBarred 71 = .ok (.iconst 0, 1) := by decide +kernel
theorem dX1_isBarred_72 : decode cX1_isBarred 72 = .ok (.ireturn, 1) := by decide +kernel
theorem dX1_isBarred_73 : decode cX1_isBarred 73 = .ok (.iload_n 3, 1) := by decide +kernel
theorem dX1_isBarred_74 : decode cX1_isBarred 74 = .ok (.ifCond .eq 14, 3) := by decide +kernel
theorem dX1_isBarred_77 : decode cX1_isBarred 77 = .ok (.iload_n 3, 1) := by decide +kernel
theorem dX1_isBarred_78 : decode cX1_isBarred 78 = .ok (.iconst 1, 1) := by decide +kernel
theorem dX1_isBarred_79 : decode cX1_isBarred 79 = .ok (.if_icmp .eq 9, 3) := by decide +kernel
theorem dX1_isBarred_82 : decode cX1_isBarred 82 = .ok (.iload_n 3, 1) := by decide +kernel
theorem dX1_isBarred_83 : decode cX1_isBarred 83 = .ok (.bipush 7, 2) := by decide +kernel
theorem dX1_isBarred_85 : decode cX1_isBarred 85 = .ok (.if_icmp .ne 7, 3) := by decide +kernel
theorem dX1_isBarred_88 : decode cX1_isBarred 88 = .ok (.iconst 1, 1) := by decide +kernel
theorem dX1_isBarred_89 : decode cX1_isBarred 89 = .ok (.goto 4, 3) := by decide +kernel
theorem dX1_isBarred_92 : decode cX1_isBarred 92 = .ok (.iconst 0, 1) := by decide +kernel
theorem dX1_isBarred_93 : decode cX1_isBarred 93 = .ok (.ireturn, 1) := by decide +kernel
theorem dX1_isBarred_94 : decode cX1_isBarred 94 = .ok (.iconst 0, 1) := by decide +kernel
theorem dX1_isBarred_95 : decode cX1_isBarred 95 = .ok (.ireturn, 1) := by decide +kernel
theorem dX1_hasRoom_0 : decode cX1_hasRoom 0 = .ok (.aload_n 0, 1) := by decide +kernel
theorem dX1_hasRoom_1 : decode cX1_hasRoom 1 = .ok (.getfield 37, 3) := by decide +kernel
theorem dX1_hasRoom_4 : decode cX1_hasRoom 4 = .ok (.ifCond .ne 5, 3) := by decide +kernel
theorem dX1_hasRoom_7 : decode cX1_hasRoom 7 = .ok (.iconst 1, 1) := by decide +kernel
theorem dX1_hasRoom_8 : decode cX1_hasRoom 8 = .ok (.ireturn, 1) := by decide +kernel
theorem dX1_hasRoom_9 : decode cX1_hasRoom 9 = .ok (.aload_n 1, 1) := by decide +kernel
theorem dX1_hasRoom_10 : decode cX1_hasRoom 10 = .ok (.getfield 74, 3) := by decide +kernel
theorem dX1_hasRoom_13 : decode cX1_hasRoom 13 = .ok (.iconst 1, 1) := by decide +kernel
theorem dX1_hasRoom_14 : decode cX1_hasRoom 14 = .ok (.iadd, 1) := by decide +kernel
theorem dX1_hasRoom_15 : decode cX1_hasRoom 15 = .ok (.istore_n 3, 1) := by decide +kernel
theorem dX1_hasRoom_16 : decode cX1_hasRoom 16 = .ok (.iload_n 3, 1) := by decide +kernel
theorem dX1_hasRoom_17 : decode cX1_hasRoom 17 = .ok (.iconst 1, 1) := by decide +kernel
theorem dX1_hasRoom_18 : decode cX1_hasRoom 18 = .ok (.bipush 17, 2) := by decide +kernel
theorem dX1_hasRoom_20 : decode cX1_hasRoom 20 = .ok (.invokestatic 45, 3) := by decide +kernel
theorem dX1_hasRoom_23 : decode cX1_hasRoom 23 = .ok (.ifCond .ne 5, 3) := by decide +kernel
theorem dX1_hasRoom_26 : decode cX1_hasRoom 26 = .ok (.iconst 0, 1) := by decide +kernel
theorem dX1_hasRoom_27 : decode cX1_hasRoom 27 = .ok (.ireturn, 1) := by decide +kernel
theorem dX1_hasRoom_28 : decode cX1_hasRoom 28 = .ok (.aload_n 0, 1) := by decide +kernel
theorem dX1_hasRoom_29 : decode cX1_hasRoom 29 = .ok (.getfield 17, 3) := by decide +kernel
theorem dX1_hasRoom_32 : decode cX1_hasRoom 32 = .ok (.iload_n 3, 1) := by decide +kernel
theorem dX1_hasRoom_33 : decode cX1_hasRoom 33 = .ok (.iaload, 1) := by decide +kernel
theorem dX1_hasRoom_34 : decode cX1_hasRoom 34 = .ok (.aload_n 0, 1) := by decide +kernel
theorem dX1_hasRoom_35 : decode cX1_hasRoom 35 = .ok (.getfield 17, 3) := by decide +kernel
theorem dX1_hasRoom_38 : decode cX1_hasRoom 38 = .ok (.iload_n 3, 1) := by decide +kernel
theorem dX1_hasRoom_39 : decode cX1_hasRoom 39 = .ok (.iconst 1, 1) := by decide +kernel
theorem dX1_hasRoom_40 : decode cX1_hasRoom 40 = .ok (.isub, 1) := by decide +kernel
theorem dX1_hasRoom_41 : decode cX1_hasRoom 41 = .ok (.iaload, 1) := by decide +kernel
theorem dX1_hasRoom_42 : decode cX1_hasRoom 42 = .ok (.isub, 1) := by decide +kernel
theorem dX1_hasRoom_43 : decode cX1_hasRoom 43 = .ok (.istore 4, 2) := by decide +kernel
theorem dX1_hasRoom_45 : decode cX1_hasRoom 45 = .ok (.aload_n 0, 1) := by decide +kernel
theorem dX1_hasRoom_46 : decode cX1_hasRoom 46 = .ok (.getfield 21, 3) := by decide +kernel
theorem dX1_hasRoom_49 : decode cX1_hasRoom 49 = .ok (.iload_n 3, 1) := by decide +kernel
theorem dX1_hasRoom_50 : decode cX1_hasRoom 50 = .ok (.iaload, 1) := by decide +kernel
theorem dX1_hasRoom_51 : decode cX1_hasRoom 51 = .ok (.aload_n 0, 1) := by decide +kernel
theorem dX1_hasRoom_52 : decode cX1_hasRoom 52 = .ok (.getfield 21, 3) := by decide +kernel
theorem dX1_hasRoom_55 : decode cX1_hasRoom 55 = .ok (.iload_n 3, 1) := by decide +kernel
theorem dX1_hasRoom_56 : decode cX1_hasRoom 56 = .ok (.iconst 1, 1) := by decide +kernel
theorem dX1_hasRoom_57 : decode cX1_hasRoom 57 = .ok (.isub, 1) := by decide +kernel
theorem dX1_hasRoom_58 : decode cX1_hasRoom 58 = .ok (.iaload, 1) := by decide +kernel
theorem dX1_hasRoom_59 : decode cX1_hasRoom 59 = .ok (.isub, 1) := by decide +kernel
theorem dX1_hasRoom_60 : decode cX1_hasRoom 60 = .ok (.istore 5, 2) := by decide +kernel
theorem dX1_hasRoom_62 : decode cX1_hasRoom 62 = .ok (.aload_n 1, 1) := by decide +kernel
theorem dX1_hasRoom_63 : decode cX1_hasRoom 63 = .ok (.getfield 77, 3) := by decide +kernel
theorem dX1_hasRoom_66 : decode cX1_hasRoom 66 = .ok (.aload_n 0, 1) := by decide +kernel
theorem dX1_hasRoom_67 : decode cX1_hasRoom 67 = .ok (.getfield 28, 3) := by decide +kernel
theorem dX1_hasRoom_70 : decode cX1_hasRoom 70 = .ok (.iload_n 2, 1) := by decide +kernel
theorem dX1_hasRoom_71 : decode cX1_hasRoom 71 = .ok (.invokestatic 80, 3) := by decide +kernel
theorem dX1_hasRoom_74 : decode cX1_hasRoom 74 = .ok (.imul, 1) := by decide +kernel
theorem dX1_hasRoom_75 : decode cX1_hasRoom 75 = .ok (.iadd, 1) := by decide +kernel
theorem dX1_hasRoom_76 : decode cX1_hasRoom 76 = .ok (.iload 4, 2) := by decide +kernel
theorem dX1_hasRoom_78 : decode cX1_hasRoom 78 = .ok (.isub, 1) := by decide +kernel
theorem dX1_hasRoom_79 : decode cX1_hasRoom 79 = .ok (.invokestatic 84, 3) := by decide +kernel
theorem dX1_hasRoom_82 : decode cX1_hasRoom 82 = .ok (.aload_n 0, 1) := by decide +kernel
theorem dX1_hasRoom_83 : decode cX1_hasRoom 83 = .ok (.getfield 37, 3) := by decide +kernel
theorem dX1_hasRoom_86 : decode cX1_hasRoom 86 = .ok (.if_icmp .gt 34, 3) := by decide +kernel
theorem dX1_hasRoom_89 : decode cX1_hasRoom 89 = .ok (.aload_n 1, 1) := by decide +kernel
theorem dX1_hasRoom_90 : decode cX1_hasRoom 90 = .ok (.getfield 87, 3) := by decide +kernel
theorem dX1_hasRoom_93 : decode cX1_hasRoom 93 = .ok (.aload_n 0, 1) := by decide +kernel
theorem dX1_hasRoom_94 : decode cX1_hasRoom 94 = .ok (.getfield 28, 3) := by decide +kernel
theorem dX1_hasRoom_97 : decode cX1_hasRoom 97 = .ok (.iload_n 2, 1) := by decide +kernel
theorem dX1_hasRoom_98 : decode cX1_hasRoom 98 = .ok (.invokestatic 90, 3) := by decide +kernel
theorem dX1_hasRoom_101 : decode cX1_hasRoom 101 = .ok (.imul, 1) := by decide +kernel
theorem dX1_hasRoom_102 : decode cX1_hasRoom 102 = .ok (.iadd, 1) := by decide +kernel
theorem dX1_hasRoom_103 : decode cX1_hasRoom 103 = .ok (.iload 5, 2) := by decide +kernel
theorem dX1_hasRoom_105 : decode cX1_hasRoom 105 = .ok (.isub, 1) := by decide +kernel
theorem dX1_hasRoom_106 : decode cX1_hasRoom 106 = .ok (.invokestatic 84, 3) := by decide +kernel
theorem dX1_hasRoom_109 : decode cX1_hasRoom 109 = .ok (.aload_n 0, 1) := by decide +kernel
theorem dX1_hasRoom_110 : decode cX1_hasRoom 110 = .ok (.getfield 37, 3) := by decide +kernel
theorem dX1_hasRoom_113 : decode cX1_hasRoom 113 = .ok (.if_icmp .gt 7, 3) := by decide +kernel
theorem dX1_hasRoom_116 : decode cX1_hasRoom 116 = .ok (.iconst 1, 1) := by decide +kernel
theorem dX1_hasRoom_117 : decode cX1_hasRoom 117 = .ok (.goto 4, 3) := by decide +kernel
theorem dX1_hasRoom_120 : decode cX1_hasRoom 120 = .ok (.iconst 0, 1) := by decide +kernel
theorem dX1_hasRoom_121 : decode cX1_hasRoom 121 = .ok (.ireturn, 1) := by decide +kernel
theorem dX1_cost_0 : decode cX1_cost 0 = .ok (.aload_n 1, 1) := by decide +kernel
theorem dX1_cost_1 : decode cX1_cost 1 = .ok (.getfield 74, 3) := by decide +kernel
theorem dX1_cost_4 : decode cX1_cost 4 = .ok (.istore_n 2, 1) := by decide +kernel
theorem dX1_cost_5 : decode cX1_cost 5 = .ok (.iload_n 2, 1) := by decide +kernel
theorem dX1_cost_6 : decode cX1_cost 6 = .ok (.iconst 0, 1) := by decide +kernel
theorem dX1_cost_7 : decode cX1_cost 7 = .ok (.bipush 17, 2) := by decide +kernel
theorem dX1_cost_9 : decode cX1_cost 9 = .ok (.invokestatic 45, 3) := by decide +kernel
theorem dX1_cost_12 : decode cX1_cost 12 = .ok (.ifCond .ne 5, 3) := by decide +kernel
theorem dX1_cost_15 : decode cX1_cost 15 = .ok (.iconst 0, 1) := by decide +kernel
theorem dX1_cost_16 : decode cX1_cost 16 = .ok (.ireturn, 1) := by decide +kernel
theorem dX1_cost_17 : decode cX1_cost 17 = .ok (.aload_n 1, 1) := by decide +kernel
theorem dX1_cost_18 : decode cX1_cost 18 = .ok (.getfield 93, 3) := by decide +kernel
theorem dX1_cost_21 : decode cX1_cost 21 = .ok (.aload_n 0, 1) := by decide +kernel
theorem dX1_cost_22 : decode cX1_cost 22 = .ok (.getfield 17, 3) := by decide +kernel
theorem dX1_cost_25 : decode cX1_cost 25 = .ok (.iload_n 2, 1) := by decide +kernel
theorem dX1_cost_26 : decode cX1_cost 26 = .ok (.iaload, 1) := by decide +kernel
theorem dX1_cost_27 : decode cX1_cost 27 = .ok (.isub, 1) := by decide +kernel
theorem dX1_cost_28 : decode cX1_cost 28 = .ok (.invokestatic 84, 3) := by decide +kernel
theorem dX1_cost_31 : decode cX1_cost 31 = .ok (.istore_n 3, 1) := by decide +kernel
theorem dX1_cost_32 : decode cX1_cost 32 = .ok (.aload_n 1, 1) := by decide +kernel
theorem dX1_cost_33 : decode cX1_cost 33 = .ok (.getfield 96, 3) := by decide +kernel
theorem dX1_cost_36 : decode cX1_cost 36 = .ok (.aload_n 0, 1) := by decide +kernel
theorem dX1_cost_37 : decode cX1_cost 37 = .ok (.getfield 21, 3) := by decide +kernel
theorem dX1_cost_40 : decode cX1_cost 40 = .ok (.iload_n 2, 1) := by decide +kernel
theorem dX1_cost_41 : decode cX1_cost 41 = .ok (.iaload, 1) := by decide +kernel
theorem dX1_cost_42 : decode cX1_cost 42 = .ok (.isub, 1) := by decide +kernel
theorem dX1_cost_43 : decode cX1_cost 43 = .ok (.invokestatic 84, 3) := by decide +kernel
theorem dX1_cost_46 : decode cX1_cost 46 = .ok (.istore 4, 2) := by decide +kernel
theorem dX1_cost_48 : decode cX1_cost 48 = .ok (.aload_n 0, 1) := by decide +kernel
theorem dX1_cost_49 : decode cX1_cost 49 = .ok (.getfield 34, 3) := by decide +kernel
theorem dX1_cost_52 : decode cX1_cost 52 = .ok (.lookupswitch 45 #[(1, 28), (2, 35)], 28) := by decide +kernel
theorem dX1_cost_80 : decode cX1_cost 80 = .ok (.iload_n 3, 1) := by decide +kernel
theorem dX1_cost_81 : decode cX1_cost 81 = .ok (.iload 4, 2) := by decide +kernel
theorem dX1_cost_83 : decode cX1_cost 83 = .ok (.invokestatic 99, 3) := by decide +kernel
theorem dX1_cost_86 : decode cX1_cost 86 = .ok (.ireturn, 1) := by decide +kernel
theorem dX1_cost_87 : decode cX1_cost 87 = .ok (.iload_n 3, 1) := by decide +kernel
theorem dX1_cost_88 : decode cX1_cost 88 = .ok (.iload_n 3, 1) := by decide +kernel
theorem dX1_cost_89 : decode cX1_cost 89 = .ok (.imul, 1) := by decide +kernel
theorem dX1_cost_90 : decode cX1_cost 90 = .ok (.iload 4, 2) := by decide +kernel
theorem dX1_cost_92 : decode cX1_cost 92 = .ok (.iload 4, 2) := by decide +kernel
theorem dX1_cost_94 : decode cX1_cost 94 = .ok (.imul, 1) := by decide +kernel
theorem dX1_cost_95 : decode cX1_cost 95 = .ok (.iadd, 1) := by decide +kernel
theorem dX1_cost_96 : decode cX1_cost 96 = .ok (.ireturn, 1) := by decide +kernel
theorem dX1_cost_97 : decode cX1_cost 97 = .ok (.iload_n 3, 1) := by decide +kernel
theorem dX1_cost_98 : decode cX1_cost 98 = .ok (.iload 4, 2) := by decide +kernel
theorem dX1_cost_100 : decode cX1_cost 100 = .ok (.iadd, 1) := by decide +kernel
theorem dX1_cost_101 : decode cX1_cost 101 = .ok (.ireturn, 1) := by decide +kernel
theorem dX1_wholeCost_0 : decode cX1_wholeCost 0 = .ok (.iconst 0, 1) := by decide +kernel
theorem dX1_wholeCost_1 : decode cX1_wholeCost 1 = .ok (.istore_n 1, 1) := by decide +kernel
theorem dX1_wholeCost_2 : decode cX1_wholeCost 2 = .ok (.iconst 1, 1) := by decide +kernel
theorem dX1_wholeCost_3 : decode cX1_wholeCost 3 = .ok (.istore_n 2, 1) := by decide +kernel
theorem dX1_wholeCost_4 : decode cX1_wholeCost 4 = .ok (.iload_n 2, 1) := by decide +kernel
theorem dX1_wholeCost_5 : decode cX1_wholeCost 5 = .ok (.aload_n 0, 1) := by decide +kernel
theorem dX1_wholeCost_6 : decode cX1_wholeCost 6 = .ok (.getfield 24, 3) := by decide +kernel
theorem dX1_wholeCost_9 : decode cX1_wholeCost 9 = .ok (.if_icmp .gt 28, 3) := by decide +kernel
theorem dX1_wholeCost_12 : decode cX1_wholeCost 12 = .ok (.iload_n 2, 1) := by decide +kernel
theorem dX1_wholeCost_13 : decode cX1_wholeCost 13 = .ok (.bipush 12, 2) := by decide +kernel
theorem dX1_wholeCost_15 : decode cX1_wholeCost 15 = .ok (.if_icmp .gt 22, 3) := by decide +kernel
theorem dX1_wholeCost_18 : decode cX1_wholeCost 18 = .ok (.iload_n 1, 1) := by decide +kernel
theorem dX1_wholeCost_19 : decode cX1_wholeCost 19 = .ok (.aload_n 0, 1) := by decide +kernel
theorem dX1_wholeCost_20 : decode cX1_wholeCost 20 = .ok (.aload_n 0, 1) := by decide +kernel
theorem dX1_wholeCost_21 : decode cX1_wholeCost 21 = .ok (.getfield 11, 3) := by decide +kernel
theorem dX1_wholeCost_24 : decode cX1_wholeCost 24 = .ok (.iload_n 2, 1) := by decide +kernel
theorem dX1_wholeCost_25 : decode cX1_wholeCost 25 = .ok (.aaload, 1) := by decide +kernel
theorem dX1_wholeCost_26 : decode cX1_wholeCost 26 = .ok (.invokevirtual 102, 3) := by decide +kernel
theorem dX1_wholeCost_29 : decode cX1_wholeCost 29 = .ok (.iadd, 1) := by decide +kernel
theorem dX1_wholeCost_30 : decode cX1_wholeCost 30 = .ok (.istore_n 1, 1) := by decide +kernel
theorem dX1_wholeCost_31 : decode cX1_wholeCost 31 = .ok (.iinc 2 1, 3) := by decide +kernel
theorem dX1_wholeCost_34 : decode cX1_wholeCost 34 = .ok (.goto (-30), 3) := by decide +kernel
theorem dX1_wholeCost_37 : decode cX1_wholeCost 37 = .ok (.iload_n 1, 1) := by decide +kernel
theorem dX1_wholeCost_38 : decode cX1_wholeCost 38 = .ok (.ireturn, 1) := by decide +kernel
theorem dX1_nextKeys_0 : decode cX1_nextKeys 0 = .ok (.iconst 0, 1) := by decide +kernel
theorem dX1_nextKeys_1 : decode cX1_nextKeys 1 = .ok (.istore_n 1, 1) := by decide +kernel
theorem dX1_nextKeys_2 : decode cX1_nextKeys 2 = .ok (.iconst 0, 1) := by decide +kernel
theorem dX1_nextKeys_3 : decode cX1_nextKeys 3 = .ok (.istore_n 2, 1) := by decide +kernel
theorem dX1_nextKeys_4 : decode cX1_nextKeys 4 = .ok (.iload_n 2, 1) := by decide +kernel
theorem dX1_nextKeys_5 : decode cX1_nextKeys 5 = .ok (.bipush 8, 2) := by decide +kernel
theorem dX1_nextKeys_7 : decode cX1_nextKeys 7 = .ok (.if_icmp .ge 27, 3) := by decide +kernel
theorem dX1_nextKeys_10 : decode cX1_nextKeys 10 = .ok (.aload_n 0, 1) := by decide +kernel
theorem dX1_nextKeys_11 : decode cX1_nextKeys 11 = .ok (.aload_n 0, 1) := by decide +kernel
theorem dX1_nextKeys_12 : decode cX1_nextKeys 12 = .ok (.invokevirtual 49, 3) := by decide +kernel
theorem dX1_nextKeys_15 : decode cX1_nextKeys 15 = .ok (.iload_n 2, 1) := by decide +kernel
theorem dX1_nextKeys_16 : decode cX1_nextKeys 16 = .ok (.invokevirtual 106, 3) := by decide +kernel
theorem dX1_nextKeys_19 : decode cX1_nextKeys 19 = .ok (.ifCond .eq 9, 3) := by decide +kernel
theorem dX1_nextKeys_22 : decode cX1_nextKeys 22 = .ok (.iload_n 1, 1) := by decide +kernel
theorem dX1_nextKeys_23 : decode cX1_nextKeys 23 = .ok (.iconst 1, 1) := by decide +kernel
theorem dX1_nextKeys_24 : decode cX1_nextKeys 24 = .ok (.iload_n 2, 1) := by decide +kernel
theorem dX1_nextKeys_25 : decode cX1_nextKeys 25 = .ok (.ishl, 1) := by decide +kernel
theorem dX1_nextKeys_26 : decode cX1_nextKeys 26 = .ok (.ior, 1) := by decide +kernel
theorem dX1_nextKeys_27 : decode cX1_nextKeys 27 = .ok (.istore_n 1, 1) := by decide +kernel
theorem dX1_nextKeys_28 : decode cX1_nextKeys 28 = .ok (.iinc 2 1, 3) := by decide +kernel
theorem dX1_nextKeys_31 : decode cX1_nextKeys 31 = .ok (.goto (-27), 3) := by decide +kernel
theorem dX1_nextKeys_34 : decode cX1_nextKeys 34 = .ok (.iload_n 1, 1) := by decide +kernel
theorem dX1_nextKeys_35 : decode cX1_nextKeys 35 = .ok (.ireturn, 1) := by decide +kernel
theorem dX1_worseThan_0 : decode cX1_worseThan 0 = .ok (.iload_n 1, 1) := by decide +kernel
theorem dX1_worseThan_1 : decode cX1_worseThan 1 = .ok (.iconst 1, 1) := by decide +kernel
theorem dX1_worseThan_2 : decode cX1_worseThan 2 = .ok (.aload_n 0, 1) := by decide +kernel
theorem dX1_worseThan_3 : decode cX1_worseThan 3 = .ok (.getfield 24, 3) := by decide +kernel
theorem dX1_worseThan_6 : decode cX1_worseThan 6 = .ok (.invokestatic 45, 3) := by decide +kernel
theorem dX1_worseThan_9 : decode cX1_worseThan 9 = .ok (.ifCond .ne 5, 3) := by decide +kernel
theorem dX1_worseThan_12 : decode cX1_worseThan 12 = .ok (.iconst 0, 1) := by decide +kernel
theorem dX1_worseThan_13 : decode cX1_worseThan 13 = .ok (.ireturn, 1) := by decide +kernel
theorem dX1_worseThan_14 : decode cX1_worseThan 14 = .ok (.aload_n 0, 1) := by decide +kernel
theorem dX1_worseThan_15 : decode cX1_worseThan 15 = .ok (.aload_n 0, 1) := by decide +kernel
theorem dX1_worseThan_16 : decode cX1_worseThan 16 = .ok (.getfield 11, 3) := by decide +kernel
theorem dX1_worseThan_19 : decode cX1_worseThan 19 = .ok (.iload_n 1, 1) := by decide +kernel
theorem dX1_worseThan_20 : decode cX1_worseThan 20 = .ok (.aaload, 1) := by decide +kernel
theorem dX1_worseThan_21 : decode cX1_worseThan 21 = .ok (.invokevirtual 102, 3) := by decide +kernel
theorem dX1_worseThan_24 : decode cX1_worseThan 24 = .ok (.istore_n 2, 1) := by decide +kernel
theorem dX1_worseThan_25 : decode cX1_worseThan 25 = .ok (.iconst 0, 1) := by decide +kernel
theorem dX1_worseThan_26 : decode cX1_worseThan 26 = .ok (.istore_n 3, 1) := by decide +kernel
theorem dX1_worseThan_27 : decode cX1_worseThan 27 = .ok (.iconst 1, 1) := by decide +kernel
theorem dX1_worseThan_28 : decode cX1_worseThan 28 = .ok (.istore 4, 2) := by decide +kernel
theorem dX1_worseThan_30 : decode cX1_worseThan 30 = .ok (.iload 4, 2) := by decide +kernel
theorem dX1_worseThan_32 : decode cX1_worseThan 32 = .ok (.aload_n 0, 1) := by decide +kernel
theorem dX1_worseThan_33 : decode cX1_worseThan 33 = .ok (.getfield 24, 3) := by decide +kernel
theorem dX1_worseThan_36 : decode cX1_worseThan 36 = .ok (.if_icmp .gt 50, 3) := by decide +kernel
theorem dX1_worseThan_39 : decode cX1_worseThan 39 = .ok (.iload 4, 2) := by decide +kernel
theorem dX1_worseThan_41 : decode cX1_worseThan 41 = .ok (.bipush 12, 2) := by decide +kernel
theorem dX1_worseThan_43 : decode cX1_worseThan 43 = .ok (.if_icmp .gt 43, 3) := by decide +kernel
theorem dX1_worseThan_46 : decode cX1_worseThan 46 = .ok (.aload_n 0, 1) := by decide +kernel
theorem dX1_worseThan_47 : decode cX1_worseThan 47 = .ok (.aload_n 0, 1) := by decide +kernel
theorem dX1_worseThan_48 : decode cX1_worseThan 48 = .ok (.getfield 11, 3) := by decide +kernel
theorem dX1_worseThan_51 : decode cX1_worseThan 51 = .ok (.iload 4, 2) := by decide +kernel
theorem dX1_worseThan_53 : decode cX1_worseThan 53 = .ok (.aaload, 1) := by decide +kernel
theorem dX1_worseThan_54 : decode cX1_worseThan 54 = .ok (.invokevirtual 102, 3) := by decide +kernel
theorem dX1_worseThan_57 : decode cX1_worseThan 57 = .ok (.istore 5, 2) := by decide +kernel
theorem dX1_worseThan_59 : decode cX1_worseThan 59 = .ok (.iload 5, 2) := by decide +kernel
theorem dX1_worseThan_61 : decode cX1_worseThan 61 = .ok (.iload_n 2, 1) := by decide +kernel
theorem dX1_worseThan_62 : decode cX1_worseThan 62 = .ok (.if_icmp .gt 15, 3) := by decide +kernel
theorem dX1_worseThan_65 : decode cX1_worseThan 65 = .ok (.iload 5, 2) := by decide +kernel
theorem dX1_worseThan_67 : decode cX1_worseThan 67 = .ok (.iload_n 2, 1) := by decide +kernel
theorem dX1_worseThan_68 : decode cX1_worseThan 68 = .ok (.if_icmp .ne 12, 3) := by decide +kernel
theorem dX1_worseThan_71 : decode cX1_worseThan 71 = .ok (.iload 4, 2) := by decide +kernel
theorem dX1_worseThan_73 : decode cX1_worseThan 73 = .ok (.iload_n 1, 1) := by decide +kernel
theorem dX1_worseThan_74 : decode cX1_worseThan 74 = .ok (.if_icmp .ge 6, 3) := by decide +kernel
theorem dX1_worseThan_77 : decode cX1_worseThan 77 = .ok (.iinc 3 1, 3) := by decide +kernel
theorem dX1_worseThan_80 : decode cX1_worseThan 80 = .ok (.iinc 4 1, 3) := by decide +kernel
theorem dX1_worseThan_83 : decode cX1_worseThan 83 = .ok (.goto (-53), 3) := by decide +kernel
theorem dX1_worseThan_86 : decode cX1_worseThan 86 = .ok (.iload_n 3, 1) := by decide +kernel
theorem dX1_worseThan_87 : decode cX1_worseThan 87 = .ok (.ireturn, 1) := by decide +kernel
theorem dX2_init_0 : decode cX2_init 0 = .ok (.aload_n 0, 1) := by decide +kernel
theorem dX2_init_1 : decode cX2_init 1 = .ok (.invokespecial 3, 3) := by decide +kernel
theorem dX2_init_4 : decode cX2_init 4 = .ok (.aload_n 0, 1) := by decide +kernel
theorem dX2_init_5 : decode cX2_init 5 = .ok (.bipush 120, 2) := by decide +kernel
theorem dX2_init_7 : decode cX2_init 7 = .ok (.newarray .int, 2) := by decide +kernel
theorem dX2_init_9 : decode cX2_init 9 = .ok (.putfield 9, 3) := by decide +kernel
theorem dX2_init_12 : decode cX2_init 12 = .ok (.aload_n 0, 1) := by decide +kernel
theorem dX2_init_13 : decode cX2_init 13 = .ok (.iconst 0, 1) := by decide +kernel
theorem dX2_init_14 : decode cX2_init 14 = .ok (.putfield 15, 3) := by decide +kernel
theorem dX2_init_17 : decode cX2_init 17 = .ok (.aload_n 0, 1) := by decide +kernel
theorem dX2_init_18 : decode cX2_init 18 = .ok (.iconst 0, 1) := by decide +kernel
theorem dX2_init_19 : decode cX2_init 19 = .ok (.putfield 19, 3) := by decide +kernel
theorem dX2_init_22 : decode cX2_init 22 = .ok (.aload_n 0, 1) := by decide +kernel
theorem dX2_init_23 : decode cX2_init 23 = .ok (.iconst (-1), 1) := by decide +kernel
theorem dX2_init_24 : decode cX2_init 24 = .ok (.putfield 22, 3) := by decide +kernel
theorem dX2_init_27 : decode cX2_init 27 = .ok (.aload_n 0, 1) := by decide +kernel
theorem dX2_init_28 : decode cX2_init 28 = .ok (.iconst 0, 1) := by decide +kernel
theorem dX2_init_29 : decode cX2_init 29 = .ok (.putfield 25, 3) := by decide +kernel
theorem dX2_init_32 : decode cX2_init 32 = .ok (.aload_n 0, 1) := by decide +kernel
theorem dX2_init_33 : decode cX2_init 33 = .ok (.iconst 0, 1) := by decide +kernel
theorem dX2_init_34 : decode cX2_init 34 = .ok (.putfield 28, 3) := by decide +kernel
theorem dX2_init_37 : decode cX2_init 37 = .ok (.aload_n 0, 1) := by decide +kernel
theorem dX2_init_38 : decode cX2_init 38 = .ok (.iconst 0, 1) := by decide +kernel
theorem dX2_init_39 : decode cX2_init 39 = .ok (.putfield 31, 3) := by decide +kernel
theorem dX2_init_42 : decode cX2_init 42 = .ok (.aload_n 0, 1) := by decide +kernel
theorem dX2_init_43 : decode cX2_init 43 = .ok (.iconst 0, 1) := by decide +kernel
theorem dX2_init_44 : decode cX2_init 44 = .ok (.putfield 34, 3) := by decide +kernel
theorem dX2_init_47 : decode cX2_init 47 = .ok (.aload_n 0, 1) := by decide +kernel
theorem dX2_init_48 : decode cX2_init 48 = .ok (.iconst 3, 1) := by decide +kernel
theorem dX2_init_49 : decode cX2_init 49 = .ok (.newarray .boolean, 2) := by decide +kernel
theorem dX2_init_51 : decode cX2_init 51 = .ok (.putfield 38, 3) := by decide +kernel
theorem dX2_init_54 : decode cX2_init 54 = .ok (.return_, 1) := by decide +kernel
theorem dX2_add_0 : decode cX2_add 0 = .ok (.aload_n 0, 1) := by decide +kernel
theorem dX2_add_1 : decode cX2_add 1 = .ok (.getfield 15, 3) := by decide +kernel
theorem dX2_add_4 : decode cX2_add 4 = .ok (.iconst 0, 1) := by decide +kernel
theorem dX2_add_5 : decode cX2_add 5 = .ok (.bipush 119, 2) := by decide +kernel
theorem dX2_add_7 : decode cX2_add 7 = .ok (.invokestatic 42, 3) := by decide +kernel
theorem dX2_add_10 : decode cX2_add 10 = .ok (.ifCond .ne 5, 3) := by decide +kernel
theorem dX2_add_13 : decode cX2_add 13 = .ok (.iconst 0, 1) := by decide +kernel
theorem dX2_add_14 : decode cX2_add 14 = .ok (.ireturn, 1) := by decide +kernel
theorem dX2_add_15 : decode cX2_add 15 = .ok (.aload_n 0, 1) := by decide +kernel
theorem dX2_add_16 : decode cX2_add 16 = .ok (.getfield 9, 3) := by decide +kernel
theorem dX2_add_19 : decode cX2_add 19 = .ok (.aload_n 0, 1) := by decide +kernel
theorem dX2_add_20 : decode cX2_add 20 = .ok (.getfield 15, 3) := by decide +kernel
theorem dX2_add_23 : decode cX2_add 23 = .ok (.iload_n 1, 1) := by decide +kernel
theorem dX2_add_24 : decode cX2_add 24 = .ok (.iastore, 1) := by decide +kernel
theorem dX2_add_25 : decode cX2_add 25 = .ok (.aload_n 0, 1) := by decide +kernel
theorem dX2_add_26 : decode cX2_add 26 = .ok (.dup, 1) := by decide +kernel
theorem dX2_add_27 : decode cX2_add 27 = .ok (.getfield 15, 3) := by decide +kernel
theorem dX2_add_30 : decode cX2_add 30 = .ok (.iconst 1, 1) := by decide +kernel
theorem dX2_add_31 : decode cX2_add 31 = .ok (.iadd, 1) := by decide +kernel
theorem dX2_add_32 : decode cX2_add 32 = .ok (.putfield 15, 3) := by decide +kernel
theorem dX2_add_35 : decode cX2_add 35 = .ok (.iconst 1, 1) := by decide +kernel
theorem dX2_add_36 : decode cX2_add 36 = .ok (.ireturn, 1) := by decide +kernel
theorem dX2_readInto_0 : decode cX2_readInto 0 = .ok (.aload_n 0, 1) := by decide +kernel
theorem dX2_readInto_1 : decode cX2_readInto 1 = .ok (.iconst 0, 1) := by decide +kernel
theorem dX2_readInto_2 : decode cX2_readInto 2 = .ok (.putfield 28, 3) := by decide +kernel
theorem dX2_readInto_5 : decode cX2_readInto 5 = .ok (.aload_n 0, 1) := by decide +kernel
theorem dX2_readInto_6 : decode cX2_readInto 6 = .ok (.iconst 0, 1) := by decide +kernel
theorem dX2_readInto_7 : decode cX2_readInto 7 = .ok (.putfield 31, 3) := by decide +kernel
theorem dX2_readInto_10 : decode cX2_readInto 10 = .ok (.aload_n 0, 1) := by decide +kernel
theorem dX2_readInto_11 : decode cX2_readInto 11 = .ok (.iconst 0, 1) := by decide +kernel
theorem dX2_readInto_12 : decode cX2_readInto 12 = .ok (.putfield 34, 3) := by decide +kernel
theorem dX2_readInto_15 : decode cX2_readInto 15 = .ok (.iconst 0, 1) := by decide +kernel
theorem dX2_readInto_16 : decode cX2_readInto 16 = .ok (.istore_n 2, 1) := by decide +kernel
theorem dX2_readInto_17 : decode cX2_readInto 17 = .ok (.iload_n 2, 1) := by decide +kernel
theorem dX2_readInto_18 : decode cX2_readInto 18 = .ok (.iconst 2, 1) := by decide +kernel
theorem dX2_readInto_19 : decode cX2_readInto 19 = .ok (.if_icmp .gt 16, 3) := by decide +kernel
theorem dX2_readInto_22 : decode cX2_readInto 22 = .ok (.aload_n 0, 1) := by decide +kernel
theorem dX2_readInto_23 : decode cX2_readInto 23 = .ok (.getfield 38, 3) := by decide +kernel
theorem dX2_readInto_26 : decode cX2_readInto 26 = .ok (.iload_n 2, 1) := by decide +kernel
theorem dX2_readInto_27 : decode cX2_readInto 27 = .ok (.iconst 0, 1) := by decide +kernel
theorem dX2_readInto_28 : decode cX2_readInto 28 = .ok (.bastore, 1) := by decide +kernel
theorem dX2_readInto_29 : decode cX2_readInto 29 = .ok (.iinc 2 1, 3) := by decide +kernel
theorem dX2_readInto_32 : decode cX2_readInto 32 = .ok (.goto (-15), 3) := by decide +kernel
theorem dX2_readInto_35 : decode cX2_readInto 35 = .ok (.iconst 0, 1) := by decide +kernel
theorem dX2_readInto_36 : decode cX2_readInto 36 = .ok (.istore_n 2, 1) := by decide +kernel
theorem dX2_readInto_37 : decode cX2_readInto 37 = .ok (.aload_n 0, 1) := by decide +kernel
theorem dX2_readInto_38 : decode cX2_readInto 38 = .ok (.invokevirtual 46, 3) := by decide +kernel
theorem dX2_readInto_41 : decode cX2_readInto 41 = .ok (.aload_n 0, 1) := by decide +kernel
theorem dX2_readInto_42 : decode cX2_readInto 42 = .ok (.getfield 22, 3) := by decide +kernel
theorem dX2_readInto_45 : decode cX2_readInto 45 = .ok (.iconst (-1), 1) := by decide +kernel
theorem dX2_readInto_46 : decode cX2_readInto 46 = .ok (.if_icmp .eq 44, 3) := by decide +kernel
theorem dX2_readInto_49 : decode cX2_readInto 49 = .ok (.iload_n 2, 1) := by decide +kernel
theorem dX2_readInto_50 : decode cX2_readInto 50 = .ok (.bipush 120, 2) := by decide +kernel
theorem dX2_readInto_52 : decode cX2_readInto 52 = .ok (.if_icmp .gt 38, 3) := by decide +kernel
theorem dX2_readInto_55 : decode cX2_readInto 55 = .ok (.aload_n 0, 1) := by decide +kernel
theorem dX2_readInto_56 : decode cX2_readInto 56 = .ok (.aload_n 1, 1) := by decide +kernel
theorem dX2_readInto_57 : decode cX2_readInto 57 = .ok (.invokevirtual 49, 3) := by decide +kernel
theorem dX2_readInto_60 : decode cX2_readInto 60 = .ok (.ifCond .eq 12, 3) := by decide +kernel
theorem dX2_readInto_63 : decode cX2_readInto 63 = .ok (.aload_n 0, 1) := by decide +kernel
theorem dX2_readInto_64 : decode cX2_readInto 64 = .ok (.getfield 22, 3) := by decide +kernel
theorem dX2_readInto_67 : decode cX2_readInto 67 = .ok (.bipush 59, 2) := by decide +kernel
theorem dX2_readInto_69 : decode cX2_readInto 69 = .ok (.if_icmp .eq 11, 3) := by decide +kernel
theorem dX2_readInto_72 : decode cX2_readInto 72 = .ok (.bipush (-10), 2) := by decide +kernel
theorem dX2_readInto_74 : decode cX2_readInto 74 = .ok (.aload_n 0, 1) := by decide +kernel
theorem dX2_readInto_75 : decode cX2_readInto 75 = .ok (.getfield 19, 3) := by decide +kernel
theorem dX2_readInto_78 : decode cX2_readInto 78 = .ok (.isub, 1) := by decide +kernel
theorem dX2_readInto_79 : decode cX2_readInto 79 = .ok (.ireturn, 1) := by decide +kernel
theorem dX2_readInto_80 : decode cX2_readInto 80 = .ok (.iinc 2 1, 3) := by decide +kernel
theorem dX2_readInto_83 : decode cX2_readInto 83 = .ok (.aload_n 0, 1) := by decide +kernel
theorem dX2_readInto_84 : decode cX2_readInto 84 = .ok (.invokevirtual 46, 3) := by decide +kernel
theorem dX2_readInto_87 : decode cX2_readInto 87 = .ok (.goto (-46), 3) := by decide +kernel
theorem dX2_readInto_90 : decode cX2_readInto 90 = .ok (.iload_n 2, 1) := by decide +kernel
theorem dX2_readInto_91 : decode cX2_readInto 91 = .ok (.ireturn, 1) := by decide +kernel
theorem dX2_readItem_0 : decode cX2_readItem 0 = .ok (.aload_n 0, 1) := by decide +kernel
theorem dX2_readItem_1 : decode cX2_readItem 1 = .ok (.getfield 22, 3) := by decide +kernel
theorem dX2_readItem_4 : decode cX2_readItem 4 = .ok (.lookupswitch 99 #[(98, 66), (106, 73), (107, 93), (109, 80), (116, 60), (119, 87)], 60) := by decide +kernel
theorem dX2_readItem_64 : decode cX2_readItem 64 = .ok (.aload_n 0, 1) := by decide +kernel
theorem dX2_readItem_65 : decode cX2_readItem 65 = .ok (.aload_n 1, 1) := by decide +kernel
theorem dX2_readItem_66 : decode cX2_readItem 66 = .ok (.invokevirtual 53, 3) := by decide +kernel
theorem dX2_readItem_69 : decode cX2_readItem 69 = .ok (.ireturn, 1) := by decide +kernel
theorem dX2_readItem_70 : decode cX2_readItem 70 = .ok (.aload_n 0, 1) := by decide +kernel
theorem dX2_readItem_71 : decode cX2_readItem 71 = .ok (.aload_n 1, 1) := by decide +kernel
theorem dX2_readItem_72 : decode cX2_readItem 72 = .ok (.iconst 0, 1) := by decide +kernel
theorem dX2_readItem_73 : decode cX2_readItem 73 = .ok (.invokevirtual 56, 3) := by decide +kernel
theorem dX2_readItem_76 : decode cX2_readItem 76 = .ok (.ireturn, 1) := by decide +kernel
theorem dX2_readItem_77 : decode cX2_readItem 77 = .ok (.aload_n 0, 1) := by decide +kernel
theorem dX2_readItem_78 : decode cX2_readItem 78 = .ok (.aload_n 1, 1) := by decide +kernel
theorem dX2_readItem_79 : decode cX2_readItem 79 = .ok (.iconst 1, 1) := by decide +kernel
theorem dX2_readItem_80 : decode cX2_readItem 80 = .ok (.invokevirtual 56, 3) := by decide +kernel
theorem dX2_readItem_83 : decode cX2_readItem 83 = .ok (.ireturn, 1) := by decide +kernel
theorem dX2_readItem_84 : decode cX2_readItem 84 = .ok (.aload_n 0, 1) := by decide +kernel
theorem dX2_readItem_85 : decode cX2_readItem 85 = .ok (.aload_n 1, 1) := by decide +kernel
theorem dX2_readItem_86 : decode cX2_readItem 86 = .ok (.iconst 2, 1) := by decide +kernel
theorem dX2_readItem_87 : decode cX2_readItem 87 = .ok (.invokevirtual 56, 3) := by decide +kernel
theorem dX2_readItem_90 : decode cX2_readItem 90 = .ok (.ireturn, 1) := by decide +kernel
theorem dX2_readItem_91 : decode cX2_readItem 91 = .ok (.aload_n 0, 1) := by decide +kernel
theorem dX2_readItem_92 : decode cX2_readItem 92 = .ok (.aload_n 1, 1) := by decide +kernel
theorem dX2_readItem_93 : decode cX2_readItem 93 = .ok (.invokevirtual 60, 3) := by decide +kernel
theorem dX2_readItem_96 : decode cX2_readItem 96 = .ok (.ireturn, 1) := by decide +kernel
theorem dX2_readItem_97 : decode cX2_readItem 97 = .ok (.aload_n 0, 1) := by decide +kernel
theorem dX2_readItem_98 : decode cX2_readItem 98 = .ok (.aload_n 1, 1) := by decide +kernel
theorem dX2_readItem_99 : decode cX2_readItem 99 = .ok (.invokevirtual 63, 3) := by decide +kernel
theorem dX2_readItem_102 : decode cX2_readItem 102 = .ok (.ireturn, 1) := by decide +kernel
theorem dX2_readItem_103 : decode cX2_readItem 103 = .ok (.iconst 0, 1) := by decide +kernel
theorem dX2_readItem_104 : decode cX2_readItem 104 = .ok (.ireturn, 1) := by decide +kernel
theorem dX2_readTaper_0 : decode cX2_readTaper 0 = .ok (.aload_n 0, 1) := by decide +kernel
theorem dX2_readTaper_1 : decode cX2_readTaper 1 = .ok (.getfield 34, 3) := by decide +kernel
theorem dX2_readTaper_4 : decode cX2_readTaper 4 = .ok (.ifCond .ne 10, 3) := by decide +kernel
theorem dX2_readTaper_7 : decode cX2_readTaper 7 = .ok (.aload_n 1, 1) := by decide +kernel
theorem dX2_readTaper_8 : decode cX2_readTaper 8 = .ok (.getfield 66, 3) := by decide +kernel
theorem dX2_readTaper_11 : decode cX2_readTaper 11 = .ok (.ifCond .le 5, 3) := by decide +kernel
theorem dX2_readTaper_14 : decode cX2_readTaper 14 = .ok (.iconst 0, 1) := by decide +kernel
theorem dX2_readTaper_15 : decode cX2_readTaper 15 = .ok (.ireturn, 1) := by decide +kernel
theorem dX2_readTaper_16 : decode cX2_readTaper 16 = .ok (.aload_n 0, 1) := by decide +kernel
theorem dX2_readTaper_17 : decode cX2_readTaper 17 = .ok (.iconst 1, 1) := by decide +kernel
theorem dX2_readTaper_18 : decode cX2_readTaper 18 = .ok (.putfield 34, 3) := by decide +kernel
theorem dX2_readTaper_21 : decode cX2_readTaper 21 = .ok (.aload_n 0, 1) := by decide +kernel
theorem dX2_readTaper_22 : decode cX2_readTaper 22 = .ok (.invokevirtual 46, 3) := by decide +kernel
theorem dX2_readTaper_25 : decode cX2_readTaper 25 = .ok (.aload_n 0, 1) := by decide +kernel
theorem dX2_readTaper_26 : decode cX2_readTaper 26 = .ok (.getfield 22, 3) := by decide +kernel
theorem dX2_readTaper_29 : decode cX2_readTaper 29 = .ok (.bipush (-2), 2) := by decide +kernel
theorem dX2_readTaper_31 : decode cX2_readTaper 31 = .ok (.if_icmp .ne 15, 3) := by decide +kernel
theorem dX2_readTaper_34 : decode cX2_readTaper 34 = .ok (.aload_n 0, 1) := by decide +kernel
theorem dX2_readTaper_35 : decode cX2_readTaper 35 = .ok (.getfield 25, 3) := by decide +kernel
theorem dX2_readTaper_38 : decode cX2_readTaper 38 = .ok (.iconst 1, 1) := by decide +kernel
theorem dX2_readTaper_39 : decode cX2_readTaper 39 = .ok (.iconst 3, 1) := by decide +kernel
theorem dX2_readTaper_40 : decode cX2_readTaper 40 = .ok (.invokestatic 42, 3) := by decide +kernel
theorem dX2_readTaper_43 : decode cX2_readTaper 43 = .ok (.ifCond .ne 5, 3) := by decide +kernel
theorem dX2_readTaper_46 : decode cX2_readTaper 46 = .ok (.iconst 0, 1) := by decide +kernel
theorem dX2_readTaper_47 : decode cX2_readTaper 47 = .ok (.ireturn, 1) := by decide +kernel
theorem dX2_readTaper_48 : decode cX2_readTaper 48 = .ok (.aload_n 1, 1) := by decide +kernel
theorem dX2_readTaper_49 : decode cX2_readTaper 49 = .ok (.aload_n 0, 1) := by decide +kernel
theorem dX2_readTaper_50 : decode cX2_readTaper 50 = .ok (.getfield 25, 3) := by decide +kernel
theorem dX2_readTaper_53 : decode cX2_readTaper 53 = .ok (.putfield 71, 3) := by decide +kernel
theorem dX2_readTaper_56 : decode cX2_readTaper 56 = .ok (.aload_n 0, 1) := by decide +kernel
theorem dX2_readTaper_57 : decode cX2_readTaper 57 = .ok (.invokevirtual 46, 3) := by decide +kernel
theorem dX2_readTaper_60 : decode cX2_readTaper 60 = .ok (.iconst 1, 1) := by decide +kernel
theorem dX2_readTaper_61 : decode cX2_readTaper 61 = .ok (.ireturn, 1) := by decide +kernel
theorem dX2_readRule_0 : decode cX2_readRule 0 = .ok (.aload_n 0, 1) := by decide +kernel
theorem dX2_readRule_1 : decode cX2_readRule 1 = .ok (.getfield 38, 3) := by decide +kernel
theorem dX2_readRule_4 : decode cX2_readRule 4 = .ok (.iload_n 2, 1) := by decide +kernel
theorem dX2_readRule_5 : decode cX2_readRule 5 = .ok (.baload, 1) := by decide +kernel
theorem dX2_readRule_6 : decode cX2_readRule 6 = .ok (.ifCond .ne 10, 3) := by decide +kernel
theorem dX2_readRule_9 : decode cX2_readRule 9 = .ok (.aload_n 1, 1) := by decide +kernel
theorem dX2_readRule_10 : decode cX2_readRule 10 = .ok (.getfield 66, 3) := by decide +kernel
theorem dX2_readRule_13 : decode cX2_readRule 13 = .ok (.ifCond .le 5, 3) := by decide +kernel
theorem dX2_readRule_16 : decode cX2_readRule 16 = .ok (.iconst 0, 1) := by decide +kernel
theorem dX2_readRule_17 : decode cX2_readRule 17 = .ok (.ireturn, 1) := by decide +kernel
theorem dX2_readRule_18 : decode cX2_readRule 18 = .ok (.aload_n 0, 1) := by decide +kernel
theorem dX2_readRule_19 : decode cX2_readRule 19 = .ok (.getfield 38, 3) := by decide +kernel
theorem dX2_readRule_22 : decode cX2_readRule 22 = .ok (.iload_n 2, 1) := by decide +kernel
theorem dX2_readRule_23 : decode cX2_readRule 23 = .ok (.iconst 1, 1) := by decide +kernel
theorem dX2_readRule_24 : decode cX2_readRule 24 = .ok (.bastore, 1) := by decide +kernel
theorem dX2_readRule_25 : decode cX2_readRule 25 = .ok (.aload_n 0, 1) := by decide +kernel
theorem dX2_readRule_26 : decode cX2_readRule 26 = .ok (.invokevirtual 46, 3) := by decide +kernel
theorem dX2_readRule_29 : decode cX2_readRule 29 = .ok (.aload_n 0, 1) := by decide +kernel
theorem dX2_readRule_30 : decode cX2_readRule 30 = .ok (.getfield 22, 3) := by decide +kernel
theorem dX2_readRule_33 : decode cX2_readRule 33 = .ok (.bipush (-2), 2) := by decide +kernel
theorem dX2_readRule_35 : decode cX2_readRule 35 = .ok (.if_icmp .ne 14, 3) := by decide +kernel
theorem dX2_readRule_38 : decode cX2_readRule 38 = .ok (.iload_n 2, 1) := by decide +kernel
theorem dX2_readRule_39 : decode cX2_readRule 39 = .ok (.aload_n 0, 1) := by decide +kernel
theorem dX2_readRule_40 : decode cX2_readRule 40 = .ok (.getfield 25, 3) := by decide +kernel
theorem dX2_readRule_43 : decode cX2_readRule 43 = .ok (.invokestatic 74, 3) := by decide +kernel
theorem dX2_readRule_46 : decode cX2_readRule 46 = .ok (.ifCond .ne 5, 3) := by decide +kernel
theorem dX2_readRule_49 : decode cX2_readRule 49 = .ok (.iconst 0, 1) := by decide +kernel
theorem dX2_readRule_50 : decode cX2_readRule 50 = .ok (.ireturn, 1) := by decide +kernel
theorem dX2_readRule_51 : decode cX2_readRule 51 = .ok (.aload_n 1, 1) := by decide +kernel
theorem dX2_readRule_52 : decode cX2_readRule 52 = .ok (.iload_n 2, 1) := by decide +kernel
theorem dX2_readRule_53 : decode cX2_readRule 53 = .ok (.aload_n 0, 1) := by decide +kernel
theorem dX2_readRule_54 : decode cX2_readRule 54 = .ok (.getfield 25, 3) := by decide +kernel
theorem dX2_readRule_57 : decode cX2_readRule 57 = .ok (.invokevirtual 78, 3) := by decide +kernel
theorem dX2_readRule_60 : decode cX2_readRule 60 = .ok (.aload_n 0, 1) := by decide +kernel
theorem dX2_readRule_61 : decode cX2_readRule 61 = .ok (.invokevirtual 46, 3) := by decide +kernel
theorem dX2_readRule_64 : decode cX2_readRule 64 = .ok (.iconst 1, 1) := by decide +kernel
theorem dX2_readRule_65 : decode cX2_readRule 65 = .ok (.ireturn, 1) := by decide +kernel
theorem dX2_readWish_0 : decode cX2_readWish 0 = .ok (.aload_n 0, 1) := by decide +kernel
theorem dX2_readWish_1 : decode cX2_readWish 1 = .ok (.getfield 31, 3) := by decide +kernel
theorem dX2_readWish_4 : decode cX2_readWish 4 = .ok (.bipush 17, 2) := by decide +kernel
theorem dX2_readWish_6 : decode cX2_readWish 6 = .ok (.if_icmp .lt 5, 3) := by decide +kernel
theorem dX2_readWish_9 : decode cX2_readWish 9 = .ok (.iconst 0, 1) := by decide +kernel
theorem dX2_readWish_10 : decode cX2_readWish 10 = .ok (.ireturn, 1) := by decide +kernel
theorem dX2_readWish_11 : decode cX2_readWish 11 = .ok (.aload_n 0, 1) := by decide +kernel
theorem dX2_readWish_12 : decode cX2_readWish 12 = .ok (.invokevirtual 46, 3) := by decide +kernel
theorem dX2_readWish_15 : decode cX2_readWish 15 = .ok (.aload_n 0, 1) := by decide +kernel
theorem dX2_readWish_16 : decode cX2_readWish 16 = .ok (.invokevirtual 82, 3) := by decide +kernel
theorem dX2_readWish_19 : decode cX2_readWish 19 = .ok (.ifCond .ne 5, 3) := by decide +kernel
theorem dX2_readWish_22 : decode cX2_readWish 22 = .ok (.iconst 0, 1) := by decide +kernel
theorem dX2_readWish_23 : decode cX2_readWish 23 = .ok (.ireturn, 1) := by decide +kernel
theorem dX2_readWish_24 : decode cX2_readWish 24 = .ok (.aload_n 0, 1) := by decide +kernel
theorem dX2_readWish_25 : decode cX2_readWish 25 = .ok (.getfield 25, 3) := by decide +kernel
theorem dX2_readWish_28 : decode cX2_readWish 28 = .ok (.istore_n 2, 1) := by decide +kernel
theorem dX2_readWish_29 : decode cX2_readWish 29 = .ok (.aload_n 0, 1) := by decide +kernel
theorem dX2_readWish_30 : decode cX2_readWish 30 = .ok (.invokevirtual 46, 3) := by decide +kernel
theorem dX2_readWish_33 : decode cX2_readWish 33 = .ok (.aload_n 0, 1) := by decide +kernel
theorem dX2_readWish_34 : decode cX2_readWish 34 = .ok (.invokevirtual 82, 3) := by decide +kernel
theorem dX2_readWish_37 : decode cX2_readWish 37 = .ok (.ifCond .ne 5, 3) := by decide +kernel
theorem dX2_readWish_40 : decode cX2_readWish 40 = .ok (.iconst 0, 1) := by decide +kernel
theorem dX2_readWish_41 : decode cX2_readWish 41 = .ok (.ireturn, 1) := by decide +kernel
theorem dX2_readWish_42 : decode cX2_readWish 42 = .ok (.aload_n 0, 1) := by decide +kernel
theorem dX2_readWish_43 : decode cX2_readWish 43 = .ok (.dup, 1) := by decide +kernel
theorem dX2_readWish_44 : decode cX2_readWish 44 = .ok (.getfield 31, 3) := by decide +kernel
theorem dX2_readWish_47 : decode cX2_readWish 47 = .ok (.iconst 1, 1) := by decide +kernel
theorem dX2_readWish_48 : decode cX2_readWish 48 = .ok (.iadd, 1) := by decide +kernel
theorem dX2_readWish_49 : decode cX2_readWish 49 = .ok (.putfield 31, 3) := by decide +kernel
theorem dX2_readWish_52 : decode cX2_readWish 52 = .ok (.aload_n 1, 1) := by decide +kernel
theorem dX2_readWish_53 : decode cX2_readWish 53 = .ok (.aload_n 0, 1) := by decide +kernel
theorem dX2_readWish_54 : decode cX2_readWish 54 = .ok (.getfield 31, 3) := by decide +kernel
theorem dX2_readWish_57 : decode cX2_readWish 57 = .ok (.iload_n 2, 1) := by decide +kernel
theorem dX2_readWish_58 : decode cX2_readWish 58 = .ok (.aload_n 0, 1) := by decide +kernel
theorem dX2_readWish_59 : decode cX2_readWish 59 = .ok (.getfield 25, 3) := by decide +kernel
theorem dX2_readWish_62 : decode cX2_readWish 62 = .ok (.invokevirtual 86, 3) := by decide +kernel
theorem dX2_readWish_65 : decode cX2_readWish 65 = .ok (.aload_n 0, 1) := by decide +kernel
theorem dX2_readWish_66 : decode cX2_readWish 66 = .ok (.invokevirtual 46, 3) := by decide +kernel
theorem dX2_readWish_69 : decode cX2_readWish 69 = .ok (.iconst 1, 1) := by decide +kernel
theorem dX2_readWish_70 : decode cX2_readWish 70 = .ok (.ireturn, 1) := by decide +kernel
theorem dX2_readSigned_0 : decode cX2_readSigned 0 = .ok (.aload_n 0, 1) := by decide +kernel
theorem dX2_readSigned_1 : decode cX2_readSigned 1 = .ok (.getfield 22, 3) := by decide +kernel
theorem dX2_readSigned_4 : decode cX2_readSigned 4 = .ok (.bipush 45, 2) := by decide +kernel
theorem dX2_readSigned_6 : decode cX2_readSigned 6 = .ok (.if_icmp .ne 7, 3) := by decide +kernel
theorem dX2_readSigned_9 : decode cX2_readSigned 9 = .ok (.iconst 1, 1) := by decide +kernel
theorem dX2_readSigned_10 : decode cX2_readSigned 10 = .ok (.goto 4, 3) := by decide +kernel
theorem dX2_readSigned_13 : decode cX2_readSigned 13 = .ok (.iconst 0, 1) := by decide +kernel
theorem dX2_readSigned_14 : decode cX2_readSigned 14 = .ok (.istore_n 1, 1) := by decide +kernel
theorem dX2_readSigned_15 : decode cX2_readSigned 15 = .ok (.iload_n 1, 1) := by decide +kernel
theorem dX2_readSigned_16 : decode cX2_readSigned 16 = .ok (.ifCond .eq 7, 3) := by decide +kernel
theorem dX2_readSigned_19 : decode cX2_readSigned 19 = .ok (.aload_n 0, 1) := by decide +kernel
theorem dX2_readSigned_20 : decode cX2_readSigned 20 = .ok (.invokevirtual 46, 3) := by decide +kernel
theorem dX2_readSigned_23 : decode cX2_readSigned 23 = .ok (.aload_n 0, 1) := by decide +kernel
theorem dX2_readSigned_24 : decode cX2_readSigned 24 = .ok (.getfield 22, 3) := by decide +kernel
theorem dX2_readSigned_27 : decode cX2_readSigned 27 = .ok (.bipush (-2), 2) := by decide +kernel
theorem dX2_readSigned_29 : decode cX2_readSigned 29 = .ok (.if_icmp .eq 5, 3) := by decide +kernel
theorem dX2_readSigned_32 : decode cX2_readSigned 32 = .ok (.iconst 0, 1) := by decide +kernel
theorem dX2_readSigned_33 : decode cX2_readSigned 33 = .ok (.ireturn, 1) := by decide +kernel
theorem dX2_readSigned_34 : decode cX2_readSigned 34 = .ok (.iload_n 1, 1) := by decide +kernel
theorem dX2_readSigned_35 : decode cX2_readSigned 35 = .ok (.ifCond .eq 12, 3) := by decide +kernel
theorem dX2_readSigned_38 : decode cX2_readSigned 38 = .ok (.aload_n 0, 1) := by decide +kernel
theorem dX2_readSigned_39 : decode cX2_readSigned 39 = .ok (.aload_n 0, 1) := by decide +kernel
theorem dX2_readSigned_40 : decode cX2_readSigned 40 = .ok (.getfield 25, 3) := by decide +kernel
theorem dX2_readSigned_43 : decode cX2_readSigned 43 = .ok (.ineg, 1) := by decide +kernel
theorem dX2_readSigned_44 : decode cX2_readSigned 44 = .ok (.putfield 25, 3) := by decide +kernel
theorem dX2_readSigned_47 : decode cX2_readSigned 47 = .ok (.iconst 1, 1) := by decide +kernel
theorem dX2_readSigned_48 : decode cX2_readSigned 48 = .ok (.ireturn, 1) := by decide +kernel
theorem dX2_readKey_0 : decode cX2_readKey 0 = .ok (.aload_n 1, 1) := by decide +kernel
theorem dX2_readKey_1 : decode cX2_readKey 1 = .ok (.getfield 66, 3) := by decide +kernel
theorem dX2_readKey_4 : decode cX2_readKey 4 = .ok (.bipush 12, 2) := by decide +kernel
theorem dX2_readKey_6 : decode cX2_readKey 6 = .ok (.if_icmp .lt 5, 3) := by decide +kernel
theorem dX2_readKey_9 : decode cX2_readKey 9 = .ok (.iconst 0, 1) := by decide +kernel
theorem dX2_readKey_10 : decode cX2_readKey 10 = .ok (.ireturn, 1) := by decide +kernel
theorem dX2_readKey_11 : decode cX2_readKey 11 = .ok (.aload_n 0, 1) := by decide +kernel
theorem dX2_readKey_12 : decode cX2_readKey 12 = .ok (.invokevirtual 46, 3) := by decide +kernel
theorem dX2_readKey_15 : decode cX2_readKey 15 = .ok (.aload_n 0, 1) := by decide +kernel
theorem dX2_readKey_16 : decode cX2_readKey 16 = .ok (.getfield 22, 3) := by decide +kernel
theorem dX2_readKey_19 : decode cX2_readKey 19 = .ok (.bipush (-2), 2) := by decide +kernel
theorem dX2_readKey_21 : decode cX2_readKey 21 = .ok (.if_icmp .ne 28, 3) := by decide +kernel
theorem dX2_readKey_24 : decode cX2_readKey 24 = .ok (.aload_n 0, 1) := by decide +kernel
theorem dX2_readKey_25 : decode cX2_readKey 25 = .ok (.getfield 25, 3) := by decide +kernel
theorem dX2_readKey_28 : decode cX2_readKey 28 = .ok (.invokestatic 90, 3) := by decide +kernel
theorem dX2_readKey_31 : decode cX2_readKey 31 = .ok (.ifCond .eq 18, 3) := by decide +kernel
theorem dX2_readKey_34 : decode cX2_readKey 34 = .ok (.aload_n 1, 1) := by decide +kernel
theorem dX2_readKey_35 : decode cX2_readKey 35 = .ok (.aload_n 1, 1) := by decide +kernel
theorem dX2_readKey_36 : decode cX2_readKey 36 = .ok (.invokevirtual 94, 3) := by decide +kernel
theorem dX2_readKey_39 : decode cX2_readKey 39 = .ok (.aload_n 0, 1) := by decide +kernel
theorem dX2_readKey_40 : decode cX2_readKey 40 = .ok (.getfield 25, 3) := by decide +kernel
theorem dX2_readKey_43 : decode cX2_readKey 43 = .ok (.invokevirtual 98, 3) := by decide +kernel
theorem dX2_readKey_46 : decode cX2_readKey 46 = .ok (.ifCond .ne 5, 3) := by decide +kernel
theorem dX2_readKey_49 : decode cX2_readKey 49 = .ok (.iconst 0, 1) := by decide +kernel
theorem dX2_readKey_50 : decode cX2_readKey 50 = .ok (.ireturn, 1) := by decide +kernel
theorem dX2_readKey_51 : decode cX2_readKey 51 = .ok (.aload_n 1, 1) := by decide +kernel
theorem dX2_readKey_52 : decode cX2_readKey 52 = .ok (.aload_n 0, 1) := by decide +kernel
theorem dX2_readKey_53 : decode cX2_readKey 53 = .ok (.getfield 25, 3) := by decide +kernel
theorem dX2_readKey_56 : decode cX2_readKey 56 = .ok (.invokevirtual 102, 3) := by decide +kernel
theorem dX2_readKey_59 : decode cX2_readKey 59 = .ok (.aload_n 0, 1) := by decide +kernel
theorem dX2_readKey_60 : decode cX2_readKey 60 = .ok (.invokevirtual 46, 3) := by decide +kernel
theorem dX2_readKey_63 : decode cX2_readKey 63 = .ok (.iconst 1, 1) := by decide +kernel
theorem dX2_readKey_64 : decode cX2_readKey 64 = .ok (.ireturn, 1) := by decide +kernel
theorem dX2_toNextToken_0 : decode cX2_toNextToken 0 = .ok (.aload_n 0, 1) := by decide +kernel
theorem dX2_toNextToken_1 : decode cX2_toNextToken 1 = .ok (.aload_n 0, 1) := by decide +kernel
theorem dX2_toNextToken_2 : decode cX2_toNextToken 2 = .ok (.getfield 28, 3) := by decide +kernel
theorem dX2_toNextToken_5 : decode cX2_toNextToken 5 = .ok (.putfield 19, 3) := by decide +kernel
theorem dX2_toNextToken_8 : decode cX2_toNextToken 8 = .ok (.aload_n 0, 1) := by decide +kernel
theorem dX2_toNextToken_9 : decode cX2_toNextToken 9 = .ok (.getfield 19, 3) := by decide +kernel
theorem dX2_toNextToken_12 : decode cX2_toNextToken 12 = .ok (.aload_n 0, 1) := by decide +kernel
theorem dX2_toNextToken_13 : decode cX2_toNextToken 13 = .ok (.getfield 15, 3) := by decide +kernel
theorem dX2_toNextToken_16 : decode cX2_toNextToken 16 = .ok (.if_icmp .ge 29, 3) := by decide +kernel
theorem dX2_toNextToken_19 : decode cX2_toNextToken 19 = .ok (.aload_n 0, 1) := by decide +kernel
theorem dX2_toNextToken_20 : decode cX2_toNextToken 20 = .ok (.aload_n 0, 1) := by decide +kernel
theorem dX2_toNextToken_21 : decode cX2_toNextToken 21 = .ok (.getfield 19, 3) := by decide +kernel
theorem dX2_toNextToken_24 : decode cX2_toNextToken 24 = .ok (.invokevirtual 106, 3) := by decide +kernel
theorem dX2_toNextToken_27 : decode cX2_toNextToken 27 = .ok (.bipush 32, 2) := by decide +kernel
theorem dX2_toNextToken_29 : decode cX2_toNextToken 29 = .ok (.if_icmp .ne 16, 3) := by decide +kernel
theorem dX2_toNextToken_32 : decode cX2_toNextToken 32 = .ok (.aload_n 0, 1) := by decide +kernel
theorem dX2_toNextToken_33 : decode cX2_toNextToken 33 = .ok (.dup, 1) := by decide +kernel
theorem dX2_toNextToken_34 : decode cX2_toNextToken 34 = .ok (.getfield 19, 3) := by decide +kernel
theorem dX2_toNextToken_37 : decode cX2_toNextToken 37 = .ok (.iconst 1, 1) := by decide +kernel
theorem dX2_toNextToken_38 : decode cX2_toNextToken 38 = .ok (.iadd, 1) := by decide +kernel
theorem dX2_toNextToken_39 : decode cX2_toNextToken 39 = .ok (.putfield 19, 3) := by decide +kernel
theorem dX2_toNextToken_42 : decode cX2_toNextToken 42 = .ok (.goto (-34), 3) := by decide +kernel
theorem dX2_toNextToken_45 : decode cX2_toNextToken 45 = .ok (.aload_n 0, 1) := by decide +kernel
theorem dX2_toNextToken_46 : decode cX2_toNextToken 46 = .ok (.aload_n 0, 1) := by decide +kernel
theorem dX2_toNextToken_47 : decode cX2_toNextToken 47 = .ok (.getfield 19, 3) := by decide +kernel
theorem dX2_toNextToken_50 : decode cX2_toNextToken 50 = .ok (.putfield 28, 3) := by decide +kernel
theorem dX2_toNextToken_53 : decode cX2_toNextToken 53 = .ok (.aload_n 0, 1) := by decide +kernel
theorem dX2_toNextToken_54 : decode cX2_toNextToken 54 = .ok (.iconst 0, 1) := by decide +kernel
theorem dX2_toNextToken_55 : decode cX2_toNextToken 55 = .ok (.putfield 25, 3) := by decide +kernel
theorem dX2_toNextToken_58 : decode cX2_toNextToken 58 = .ok (.aload_n 0, 1) := by decide +kernel
theorem dX2_toNextToken_59 : decode cX2_toNextToken 59 = .ok (.getfield 28, 3) := by decide +kernel
theorem dX2_toNextToken_62 : decode cX2_toNextToken 62 = .ok (.aload_n 0, 1) := by decide +kernel
theorem dX2_toNextToken_63 : decode cX2_toNextToken 63 = .ok (.getfield 15, 3) := by decide +kernel
theorem dX2_toNextToken_66 : decode cX2_toNextToken 66 = .ok (.if_icmp .ge 47, 3) := by decide +kernel
theorem dX2_toNextToken_69 : decode cX2_toNextToken 69 = .ok (.aload_n 0, 1) := by decide +kernel
theorem dX2_toNextToken_70 : decode cX2_toNextToken 70 = .ok (.aload_n 0, 1) := by decide +kernel
theorem dX2_toNextToken_71 : decode cX2_toNextToken 71 = .ok (.getfield 28, 3) := by decide +kernel
theorem dX2_toNextToken_74 : decode cX2_toNextToken 74 = .ok (.invokevirtual 110, 3) := by decide +kernel
theorem dX2_toNextToken_77 : decode cX2_toNextToken 77 = .ok (.ifCond .lt 36, 3) := by decide +kernel
theorem dX2_toNextToken_80 : decode cX2_toNextToken 80 = .ok (.aload_n 0, 1) := by decide +kernel
theorem dX2_toNextToken_81 : decode cX2_toNextToken 81 = .ok (.aload_n 0, 1) := by decide +kernel
theorem dX2_toNextToken_82 : decode cX2_toNextToken 82 = .ok (.getfield 25, 3) := by decide +kernel
theorem dX2_toNextToken_85 : decode cX2_toNextToken 85 = .ok (.bipush 10, 2) := by decide +kernel
theorem dX2_toNextToken_87 : decode cX2_toNextToken 87 = .ok (.imul, 1) := by decide +kernel
theorem dX2_toNextToken_88 : decode cX2_toNextToken 88 = .ok (.aload_n 0, 1) := by decide +kernel
theorem dX2_toNextToken_89 : decode cX2_toNextToken 89 = .ok (.aload_n 0, 1) := by decide +kernel
theorem dX2_toNextToken_90 : decode cX2_toNextToken 90 = .ok (.getfield 28, 3) := by decide +kernel
theorem dX2_toNextToken_93 : decode cX2_toNextToken 93 = .ok (.invokevirtual 110, 3) := by decide +kernel
theorem dX2_toNextToken_96 : decode cX2_toNextToken 96 = .ok (.iadd, 1) := by decide +kernel
theorem dX2_toNextToken_97 : decode cX2_toNextToken 97 = .ok (.putfield 25, 3) := by decide +kernel
theorem dX2_toNextToken_100 : decode cX2_toNextToken 100 = .ok (.aload_n 0, 1) := by decide +kernel
theorem dX2_toNextToken_101 : decode cX2_toNextToken 101 = .ok (.dup, 1) := by decide +kernel
theorem dX2_toNextToken_102 : decode cX2_toNextToken 102 = .ok (.getfield 28, 3) := by decide +kernel
theorem dX2_toNextToken_105 : decode cX2_toNextToken 105 = .ok (.iconst 1, 1) := by decide +kernel
theorem dX2_toNextToken_106 : decode cX2_toNextToken 106 = .ok (.iadd, 1) := by decide +kernel
theorem dX2_toNextToken_107 : decode cX2_toNextToken 107 = .ok (.putfield 28, 3) := by decide +kernel
theorem dX2_toNextToken_110 : decode cX2_toNextToken 110 = .ok (.goto (-52), 3) := by decide +kernel
theorem dX2_toNextToken_113 : decode cX2_toNextToken 113 = .ok (.aload_n 0, 1) := by decide +kernel
theorem dX2_toNextToken_114 : decode cX2_toNextToken 114 = .ok (.getfield 28, 3) := by decide +kernel
theorem dX2_toNextToken_117 : decode cX2_toNextToken 117 = .ok (.aload_n 0, 1) := by decide +kernel
theorem dX2_toNextToken_118 : decode cX2_toNextToken 118 = .ok (.getfield 19, 3) := by decide +kernel
theorem dX2_toNextToken_121 : decode cX2_toNextToken 121 = .ok (.if_icmp .le 34, 3) := by decide +kernel
theorem dX2_toNextToken_124 : decode cX2_toNextToken 124 = .ok (.aload_n 0, 1) := by decide +kernel
theorem dX2_toNextToken_125 : decode cX2_toNextToken 125 = .ok (.aload_n 0, 1) := by decide +kernel
theorem dX2_toNextToken_126 : decode cX2_toNextToken 126 = .ok (.getfield 25, 3) := by decide +kernel
theorem dX2_toNextToken_129 : decode cX2_toNextToken 129 = .ok (.aload_n 0, 1) := by decide +kernel
theorem dX2_toNextToken_130 : decode cX2_toNextToken 130 = .ok (.getfield 28, 3) := by decide +kernel
theorem dX2_toNextToken_133 : decode cX2_toNextToken 133 = .ok (.aload_n 0, 1) := by decide +kernel
theorem dX2_toNextToken_134 : decode cX2_toNextToken 134 = .ok (.getfield 19, 3) := by decide +kernel
theorem dX2_toNextToken_137 : decode cX2_toNextToken 137 = .ok (.isub, 1) := by decide +kernel
theorem dX2_toNextToken_138 : decode cX2_toNextToken 138 = .ok (.invokestatic 113, 3) := by decide +kernel
theorem dX2_toNextToken_141 : decode cX2_toNextToken 141 = .ok (.ifCond .eq 8, 3) := by decide +kernel
theorem dX2_toNextToken_144 : decode cX2_toNextToken 144 = .ok (.bipush (-2), 2) := by decide +kernel
theorem dX2_toNextToken_146 : decode cX2_toNextToken 146 = .ok (.goto 5, 3) := by decide +kernel
theorem dX2_toNextToken_149 : decode cX2_toNextToken 149 = .ok (.bipush (-3), 2) := by decide +kernel
theorem dX2_toNextToken_151 : decode cX2_toNextToken 151 = .ok (.putfield 22, 3) := by decide +kernel
theorem dX2_toNextToken_154 : decode cX2_toNextToken 154 = .ok (.return_, 1) := by decide +kernel
theorem dX2_toNextToken_155 : decode cX2_toNextToken 155 = .ok (.aload_n 0, 1) := by decide +kernel
theorem dX2_toNextToken_156 : decode cX2_toNextToken 156 = .ok (.aload_n 0, 1) := by decide +kernel
theorem dX2_toNextToken_157 : decode cX2_toNextToken 157 = .ok (.aload_n 0, 1) := by decide +kernel
theorem dX2_toNextToken_158 : decode cX2_toNextToken 158 = .ok (.getfield 19, 3) := by decide +kernel
theorem dX2_toNextToken_161 : decode cX2_toNextToken 161 = .ok (.invokevirtual 106, 3) := by decide +kernel
theorem dX2_toNextToken_164 : decode cX2_toNextToken 164 = .ok (.putfield 22, 3) := by decide +kernel
theorem dX2_toNextToken_167 : decode cX2_toNextToken 167 = .ok (.aload_n 0, 1) := by decide +kernel
theorem dX2_toNextToken_168 : decode cX2_toNextToken 168 = .ok (.getfield 22, 3) := by decide +kernel
theorem dX2_toNextToken_171 : decode cX2_toNextToken 171 = .ok (.iconst (-1), 1) := by decide +kernel
theorem dX2_toNextToken_172 : decode cX2_toNextToken 172 = .ok (.if_icmp .eq 13, 3) := by decide +kernel
theorem dX2_toNextToken_175 : decode cX2_toNextToken 175 = .ok (.aload_n 0, 1) := by decide +kernel
theorem dX2_toNextToken_176 : decode cX2_toNextToken 176 = .ok (.dup, 1) := by decide +kernel
theorem dX2_toNextToken_177 : decode cX2_toNextToken 177 = .ok (.getfield 28, 3) := by decide +kernel
theorem dX2_toNextToken_180 : decode cX2_toNextToken 180 = .ok (.iconst 1, 1) := by decide +kernel
theorem dX2_toNextToken_181 : decode cX2_toNextToken 181 = .ok (.iadd, 1) := by decide +kernel
theorem dX2_toNextToken_182 : decode cX2_toNextToken 182 = .ok (.putfield 28, 3) := by decide +kernel
theorem dX2_toNextToken_185 : decode cX2_toNextToken 185 = .ok (.return_, 1) := by decide +kernel
theorem dX2_kindAt_0 : decode cX2_kindAt 0 = .ok (.iload_n 1, 1) := by decide +kernel
theorem dX2_kindAt_1 : decode cX2_kindAt 1 = .ok (.ifCond .lt 17, 3) := by decide +kernel
theorem dX2_kindAt_4 : decode cX2_kindAt 4 = .ok (.iload_n 1, 1) := by decide +kernel
theorem dX2_kindAt_5 : decode cX2_kindAt 5 = .ok (.aload_n 0, 1) := by decide +kernel
theorem dX2_kindAt_6 : decode cX2_kindAt 6 = .ok (.getfield 15, 3) := by decide +kernel
theorem dX2_kindAt_9 : decode cX2_kindAt 9 = .ok (.if_icmp .ge 9, 3) := by decide +kernel
theorem dX2_kindAt_12 : decode cX2_kindAt 12 = .ok (.iload_n 1, 1) := by decide +kernel
theorem dX2_kindAt_13 : decode cX2_kindAt 13 = .ok (.bipush 120, 2) := by decide +kernel
theorem dX2_kindAt_15 : decode cX2_kindAt 15 = .ok (.if_icmp .lt 5, 3) := by decide +kernel
theorem dX2_kindAt_18 : decode cX2_kindAt 18 = .ok (.iconst (-1), 1) := by decide +kernel
theorem dX2_kindAt_19 : decode cX2_kindAt 19 = .ok (.ireturn, 1) := by decide +kernel
theorem dX2_kindAt_20 : decode cX2_kindAt 20 = .ok (.aload_n 0, 1) := by decide +kernel
theorem dX2_kindAt_21 : decode cX2_kindAt 21 = .ok (.getfield 9, 3) := by decide +kernel
theorem dX2_kindAt_24 : decode cX2_kindAt 24 = .ok (.iload_n 1, 1) := by decide +kernel
theorem dX2_kindAt_25 : decode cX2_kindAt 25 = .ok (.iaload, 1) := by decide +kernel
theorem dX2_kindAt_26 : decode cX2_kindAt 26 = .ok (.istore_n 2, 1) := by decide +kernel
theorem dX2_kindAt_27 : decode cX2_kindAt 27 = .ok (.iload_n 2, 1) := by decide +kernel
theorem dX2_kindAt_28 : decode cX2_kindAt 28 = .ok (.lookupswitch 86 #[(32, 84), (45, 84), (59, 84), (98, 84), (106, 84), (107, 84), (109, 84), (116, 84), (119, 84)], 84) := by decide +kernel
theorem dX2_kindAt_112 : decode cX2_kindAt 112 = .ok (.iload_n 2, 1) := by decide +kernel
theorem dX2_kindAt_113 : decode cX2_kindAt 113 = .ok (.ireturn, 1) := by decide +kernel
theorem dX2_kindAt_114 : decode cX2_kindAt 114 = .ok (.bipush (-3), 2) := by decide +kernel
theorem dX2_kindAt_116 : decode cX2_kindAt 116 = .ok (.ireturn, 1) := by decide +kernel
theorem dX2_digitAt_0 : decode cX2_digitAt 0 = .ok (.iload_n 1, 1) := by decide +kernel
theorem dX2_digitAt_1 : decode cX2_digitAt 1 = .ok (.ifCond .lt 17, 3) := by decide +kernel
theorem dX2_digitAt_4 : decode cX2_digitAt 4 = .ok (.iload_n 1, 1) := by decide +kernel
theorem dX2_digitAt_5 : decode cX2_digitAt 5 = .ok (.aload_n 0, 1) := by decide +kernel
theorem dX2_digitAt_6 : decode cX2_digitAt 6 = .ok (.getfield 15, 3) := by decide +kernel
theorem dX2_digitAt_9 : decode cX2_digitAt 9 = .ok (.if_icmp .ge 9, 3) := by decide +kernel
theorem dX2_digitAt_12 : decode cX2_digitAt 12 = .ok (.iload_n 1, 1) := by decide +kernel
theorem dX2_digitAt_13 : decode cX2_digitAt 13 = .ok (.bipush 120, 2) := by decide +kernel
theorem dX2_digitAt_15 : decode cX2_digitAt 15 = .ok (.if_icmp .lt 6, 3) := by decide +kernel
theorem dX2_digitAt_18 : decode cX2_digitAt 18 = .ok (.bipush (-9), 2) := by decide +kernel
theorem dX2_digitAt_20 : decode cX2_digitAt 20 = .ok (.ireturn, 1) := by decide +kernel
theorem dX2_digitAt_21 : decode cX2_digitAt 21 = .ok (.aload_n 0, 1) := by decide +kernel
theorem dX2_digitAt_22 : decode cX2_digitAt 22 = .ok (.getfield 9, 3) := by decide +kernel
theorem dX2_digitAt_25 : decode cX2_digitAt 25 = .ok (.iload_n 1, 1) := by decide +kernel
theorem dX2_digitAt_26 : decode cX2_digitAt 26 = .ok (.iaload, 1) := by decide +kernel
theorem dX2_digitAt_27 : decode cX2_digitAt 27 = .ok (.istore_n 2, 1) := by decide +kernel
theorem dX2_digitAt_28 : decode cX2_digitAt 28 = .ok (.iload_n 2, 1) := by decide +kernel
theorem dX2_digitAt_29 : decode cX2_digitAt 29 = .ok (.bipush 48, 2) := by decide +kernel
theorem dX2_digitAt_31 : decode cX2_digitAt 31 = .ok (.if_icmp .lt 16, 3) := by decide +kernel
theorem dX2_digitAt_34 : decode cX2_digitAt 34 = .ok (.iload_n 2, 1) := by decide +kernel
theorem dX2_digitAt_35 : decode cX2_digitAt 35 = .ok (.bipush 57, 2) := by decide +kernel
theorem dX2_digitAt_37 : decode cX2_digitAt 37 = .ok (.if_icmp .gt 10, 3) := by decide +kernel
theorem dX2_digitAt_40 : decode cX2_digitAt 40 = .ok (.iload_n 2, 1) := by decide +kernel
theorem dX2_digitAt_41 : decode cX2_digitAt 41 = .ok (.bipush 48, 2) := by decide +kernel
theorem dX2_digitAt_43 : decode cX2_digitAt 43 = .ok (.isub, 1) := by decide +kernel
theorem dX2_digitAt_44 : decode cX2_digitAt 44 = .ok (.goto 5, 3) := by decide +kernel
theorem dX2_digitAt_47 : decode cX2_digitAt 47 = .ok (.bipush (-9), 2) := by decide +kernel
theorem dX2_digitAt_49 : decode cX2_digitAt 49 = .ok (.ireturn, 1) := by decide +kernel
theorem dX2_isNumber_0 : decode cX2_isNumber 0 = .ok (.iload_n 1, 1) := by decide +kernel
theorem dX2_isNumber_1 : decode cX2_isNumber 1 = .ok (.iconst 1, 1) := by decide +kernel
theorem dX2_isNumber_2 : decode cX2_isNumber 2 = .ok (.if_icmp .eq 14, 3) := by decide +kernel
theorem dX2_isNumber_5 : decode cX2_isNumber 5 = .ok (.iload_n 1, 1) := by decide +kernel
theorem dX2_isNumber_6 : decode cX2_isNumber 6 = .ok (.iconst 2, 1) := by decide +kernel
theorem dX2_isNumber_7 : decode cX2_isNumber 7 = .ok (.if_icmp .ne 13, 3) := by decide +kernel
theorem dX2_isNumber_10 : decode cX2_isNumber 10 = .ok (.iload_n 0, 1) := by decide +kernel
theorem dX2_isNumber_11 : decode cX2_isNumber 11 = .ok (.bipush 10, 2) := by decide +kernel
theorem dX2_isNumber_13 : decode cX2_isNumber 13 = .ok (.if_icmp .lt 7, 3) := by decide +kernel
theorem dX2_isNumber_16 : decode cX2_isNumber 16 = .ok (.iconst 1, 1) := by decide +kernel
theorem dX2_isNumber_17 : decode cX2_isNumber 17 = .ok (.goto 4, 3) := by decide +kernel
theorem dX2_isNumber_20 : decode cX2_isNumber 20 = .ok (.iconst 0, 1) := by decide +kernel
theorem dX2_isNumber_21 : decode cX2_isNumber 21 = .ok (.ireturn, 1) := by decide +kernel
theorem dX3_init_0 : decode cX3_init 0 = .ok (.aload_n 0, 1) := by decide +kernel
theorem dX3_init_1 : decode cX3_init 1 = .ok (.invokespecial 3, 3) := by decide +kernel
theorem dX3_init_4 : decode cX3_init 4 = .ok (.aload_n 0, 1) := by decide +kernel
theorem dX3_init_5 : decode cX3_init 5 = .ok (.bipush 6, 2) := by decide +kernel
theorem dX3_init_7 : decode cX3_init 7 = .ok (.anewarray 9, 3) := by decide +kernel
theorem dX3_init_10 : decode cX3_init 10 = .ok (.putfield 11, 3) := by decide +kernel
theorem dX3_init_13 : decode cX3_init 13 = .ok (.aload_n 0, 1) := by decide +kernel
theorem dX3_init_14 : decode cX3_init 14 = .ok (.iconst 5, 1) := by decide +kernel
theorem dX3_init_15 : decode cX3_init 15 = .ok (.newarray .int, 2) := by decide +kernel
theorem dX3_init_17 : decode cX3_init 17 = .ok (.putfield 17, 3) := by decide +kernel
theorem dX3_init_20 : decode cX3_init 20 = .ok (.aload_n 0, 1) := by decide +kernel
theorem dX3_init_21 : decode cX3_init 21 = .ok (.iconst 0, 1) := by decide +kernel
theorem dX3_init_22 : decode cX3_init 22 = .ok (.putfield 21, 3) := by decide +kernel
theorem dX3_init_25 : decode cX3_init 25 = .ok (.aload_n 0, 1) := by decide +kernel
theorem dX3_init_26 : decode cX3_init 26 = .ok (.iconst 0, 1) := by decide +kernel
theorem dX3_init_27 : decode cX3_init 27 = .ok (.putfield 25, 3) := by decide +kernel
theorem dX3_init_30 : decode cX3_init 30 = .ok (.aload_n 0, 1) := by decide +kernel
theorem dX3_init_31 : decode cX3_init 31 = .ok (.iconst 0, 1) := by decide +kernel
theorem dX3_init_32 : decode cX3_init 32 = .ok (.putfield 28, 3) := by decide +kernel
theorem dX3_init_35 : decode cX3_init 35 = .ok (.iconst 0, 1) := by decide +kernel
theorem dX3_init_36 : decode cX3_init 36 = .ok (.istore_n 1, 1) := by decide +kernel
theorem dX3_init_37 : decode cX3_init 37 = .ok (.iload_n 1, 1) := by decide +kernel
theorem dX3_init_38 : decode cX3_init 38 = .ok (.iconst 5, 1) := by decide +kernel
theorem dX3_init_39 : decode cX3_init 39 = .ok (.if_icmp .gt 22, 3) := by decide +kernel
theorem dX3_init_42 : decode cX3_init 42 = .ok (.aload_n 0, 1) := by decide +kernel
theorem dX3_init_43 : decode cX3_init 43 = .ok (.getfield 11, 3) := by decide +kernel
theorem dX3_init_46 : decode cX3_init 46 = .ok (.iload_n 1, 1) := by decide +kernel
theorem dX3_init_47 : decode cX3_init 47 = .ok (.new 9, 3) := by decide +kernel
theorem dX3_init_50 : decode cX3_init 50 = .ok (.dup, 1) := by decide +kernel
theorem dX3_init_51 : decode cX3_init 51 = .ok (.invokespecial 31, 3) := by decide +kernel
theorem dX3_init_54 : decode cX3_init 54 = .ok (.aastore, 1) := by decide +kernel
theorem dX3_init_55 : decode cX3_init 55 = .ok (.iinc 1 1, 3) := by decide +kernel
theorem dX3_init_58 : decode cX3_init 58 = .ok (.goto (-21), 3) := by decide +kernel
theorem dX3_init_61 : decode cX3_init 61 = .ok (.return_, 1) := by decide +kernel
theorem dX3_look_0 : decode cX3_look 0 = .ok (.aload_n 0, 1) := by decide +kernel
theorem dX3_look_1 : decode cX3_look 1 = .ok (.getfield 21, 3) := by decide +kernel
theorem dX3_look_4 : decode cX3_look 4 = .ok (.iload_n 2, 1) := by decide +kernel
theorem dX3_look_5 : decode cX3_look 5 = .ok (.if_icmp .ne 4, 3) := by decide +kernel
theorem dX3_look_8 : decode cX3_look 8 = .ok (.return_, 1) := by decide +kernel
theorem dX3_look_9 : decode cX3_look 9 = .ok (.aload_n 0, 1) := by decide +kernel
theorem dX3_look_10 : decode cX3_look 10 = .ok (.iload_n 2, 1) := by decide +kernel
theorem dX3_look_11 : decode cX3_look 11 = .ok (.iconst 5, 1) := by decide +kernel
theorem dX3_look_12 : decode cX3_look 12 = .ok (.invokestatic 32, 3) := by decide +kernel
theorem dX3_look_15 : decode cX3_look 15 = .ok (.putfield 21, 3) := by decide +kernel
theorem dX3_look_18 : decode cX3_look 18 = .ok (.aload_n 0, 1) := by decide +kernel
theorem dX3_look_19 : decode cX3_look 19 = .ok (.iconst 0, 1) := by decide +kernel
theorem dX3_look_20 : decode cX3_look 20 = .ok (.putfield 25, 3) := by decide +kernel
theorem dX3_look_23 : decode cX3_look 23 = .ok (.aload_n 0, 1) := by decide +kernel
theorem dX3_look_24 : decode cX3_look 24 = .ok (.iconst 0, 1) := by decide +kernel
theorem dX3_look_25 : decode cX3_look 25 = .ok (.putfield 28, 3) := by decide +kernel
theorem dX3_look_28 : decode cX3_look 28 = .ok (.aload_n 0, 1) := by decide +kernel
theorem dX3_look_29 : decode cX3_look 29 = .ok (.getfield 11, 3) := by decide +kernel
theorem dX3_look_32 : decode cX3_look 32 = .ok (.iconst 0, 1) := by decide +kernel
theorem dX3_look_33 : decode cX3_look 33 = .ok (.aaload, 1) := by decide +kernel
theorem dX3_look_34 : decode cX3_look 34 = .ok (.aload_n 1, 1) := by decide +kernel
theorem dX3_look_35 : decode cX3_look 35 = .ok (.invokevirtual 38, 3) := by decide +kernel
theorem dX3_look_38 : decode cX3_look 38 = .ok (.invokevirtual 44, 3) := by decide +kernel
theorem dX3_look_41 : decode cX3_look 41 = .ok (.aload_n 0, 1) := by decide +kernel
theorem dX3_look_42 : decode cX3_look 42 = .ok (.aload_n 1, 1) := by decide +kernel
theorem dX3_look_43 : decode cX3_look 43 = .ok (.iconst 0, 1) := by decide +kernel
theorem dX3_look_44 : decode cX3_look 44 = .ok (.iconst 0, 1) := by decide +kernel
theorem dX3_look_45 : decode cX3_look 45 = .ok (.invokestatic 48, 3) := by decide +kernel
theorem dX3_look_48 : decode cX3_look 48 = .ok (.return_, 1) := by decide +kernel
theorem dX3_extend_0 : decode cX3_extend 0 = .ok (.iload_n 2, 1) := by decide +kernel
theorem dX3_extend_1 : decode cX3_extend 1 = .ok (.ifCond .lt 16, 3) := by decide +kernel
theorem dX3_extend_4 : decode cX3_extend 4 = .ok (.iload_n 2, 1) := by decide +kernel
theorem dX3_extend_5 : decode cX3_extend 5 = .ok (.aload_n 0, 1) := by decide +kernel
theorem dX3_extend_6 : decode cX3_extend 6 = .ok (.getfield 21, 3) := by decide +kernel
theorem dX3_extend_9 : decode cX3_extend 9 = .ok (.if_icmp .ge 8, 3) := by decide +kernel
theorem dX3_extend_12 : decode cX3_extend 12 = .ok (.iload_n 2, 1) := by decide +kernel
theorem dX3_extend_13 : decode cX3_extend 13 = .ok (.iconst 5, 1) := by decide +kernel
theorem dX3_extend_14 : decode cX3_extend 14 = .ok (.if_icmp .lt 9, 3) := by decide +kernel
theorem dX3_extend_17 : decode cX3_extend 17 = .ok (.aload_n 0, 1) := by decide +kernel
theorem dX3_extend_18 : decode cX3_extend 18 = .ok (.iload_n 3, 1) := by decide +kernel
theorem dX3_extend_19 : decode cX3_extend 19 = .ok (.invokevirtual 52, 3) := by decide +kernel
theorem dX3_extend_22 : decode cX3_extend 22 = .ok (.return_, 1) := by decide +kernel
theorem dX3_extend_23 : decode cX3_extend 23 = .ok (.aload_n 0, 1) := by decide +kernel
theorem dX3_extend_24 : decode cX3_extend 24 = .ok (.getfield 11, 3) := by decide +kernel
theorem dX3_extend_27 : decode cX3_extend 27 = .ok (.iload_n 2, 1) := by decide +kernel
theorem dX3_extend_28 : decode cX3_extend 28 = .ok (.aaload, 1) := by decide +kernel
theorem dX3_extend_29 : decode cX3_extend 29 = .ok (.astore 4, 2) := by decide +kernel
theorem dX3_extend_31 : decode cX3_extend 31 = .ok (.aload_n 0, 1) := by decide +kernel
theorem dX3_extend_32 : decode cX3_extend 32 = .ok (.getfield 11, 3) := by decide +kernel
theorem dX3_extend_35 : decode cX3_extend 35 = .ok (.iload_n 2, 1) := by decide +kernel
theorem dX3_extend_36 : decode cX3_extend 36 = .ok (.iconst 1, 1) := by decide +kernel
theorem dX3_extend_37 : decode cX3_extend 37 = .ok (.iadd, 1) := by decide +kernel
theorem dX3_extend_38 : decode cX3_extend 38 = .ok (.aaload, 1) := by decide +kernel
theorem dX3_extend_39 : decode cX3_extend 39 = .ok (.astore 5, 2) := by decide +kernel
theorem dX3_extend_41 : decode cX3_extend 41 = .ok (.iconst 0, 1) := by decide +kernel
theorem dX3_extend_42 : decode cX3_extend 42 = .ok (.istore 6, 2) := by decide +kernel
theorem dX3_extend_44 : decode cX3_extend 44 = .ok (.iload 6, 2) := by decide +kernel
theorem dX3_extend_46 : decode cX3_extend 46 = .ok (.bipush 8, 2) := by decide +kernel
theorem dX3_extend_48 : decode cX3_extend 48 = .ok (.if_icmp .ge 74, 3) := by decide +kernel
theorem dX3_extend_51 : decode cX3_extend 51 = .ok (.aload_n 1, 1) := by decide +kernel
theorem dX3_extend_52 : decode cX3_extend 52 = .ok (.aload 4, 2) := by decide +kernel
theorem dX3_extend_54 : decode cX3_extend 54 = .ok (.iload 6, 2) := by decide +kernel
theorem dX3_extend_56 : decode cX3_extend 56 = .ok (.invokevirtual 56, 3) := by decide +kernel
theorem dX3_extend_59 : decode cX3_extend 59 = .ok (.ifCond .eq 57, 3) := by decide +kernel
theorem dX3_extend_62 : decode cX3_extend 62 = .ok (.aload 5, 2) := by decide +kernel
theorem dX3_extend_64 : decode cX3_extend 64 = .ok (.aload 4, 2) := by decide +kernel
theorem dX3_extend_66 : decode cX3_extend 66 = .ok (.invokevirtual 44, 3) := by decide +kernel
theorem dX3_extend_69 : decode cX3_extend 69 = .ok (.aload 5, 2) := by decide +kernel
theorem dX3_extend_71 : decode cX3_extend 71 = .ok (.iload 6, 2) := by decide +kernel
theorem dX3_extend_73 : decode cX3_extend 73 = .ok (.aload_n 1, 1) := by decide +kernel
theorem dX3_extend_74 : decode cX3_extend 74 = .ok (.getfield 60, 3) := by decide +kernel
theorem dX3_extend_77 : decode cX3_extend 77 = .ok (.invokevirtual 63, 3) := by decide +kernel
theorem dX3_extend_80 : decode cX3_extend 80 = .ok (.iload_n 3, 1) := by decide +kernel
theorem dX3_extend_81 : decode cX3_extend 81 = .ok (.aload_n 1, 1) := by decide +kernel
theorem dX3_extend_82 : decode cX3_extend 82 = .ok (.aload 5, 2) := by decide +kernel
theorem dX3_extend_84 : decode cX3_extend 84 = .ok (.invokevirtual 67, 3) := by decide +kernel
theorem dX3_extend_87 : decode cX3_extend 87 = .ok (.iadd, 1) := by decide +kernel
theorem dX3_extend_88 : decode cX3_extend 88 = .ok (.istore 7, 2) := by decide +kernel
theorem dX3_extend_90 : decode cX3_extend 90 = .ok (.aload_n 0, 1) := by decide +kernel
theorem dX3_extend_91 : decode cX3_extend 91 = .ok (.getfield 25, 3) := by decide +kernel
theorem dX3_extend_94 : decode cX3_extend 94 = .ok (.ifCond .eq 12, 3) := by decide +kernel
theorem dX3_extend_97 : decode cX3_extend 97 = .ok (.iload 7, 2) := by decide +kernel
theorem dX3_extend_99 : decode cX3_extend 99 = .ok (.aload_n 0, 1) := by decide +kernel
theorem dX3_extend_100 : decode cX3_extend 100 = .ok (.getfield 28, 3) := by decide +kernel
theorem dX3_extend_103 : decode cX3_extend 103 = .ok (.if_icmp .gt 13, 3) := by decide +kernel
theorem dX3_extend_106 : decode cX3_extend 106 = .ok (.aload_n 0, 1) := by decide +kernel
theorem dX3_extend_107 : decode cX3_extend 107 = .ok (.aload_n 1, 1) := by decide +kernel
theorem dX3_extend_108 : decode cX3_extend 108 = .ok (.iload_n 2, 1) := by decide +kernel
theorem dX3_extend_109 : decode cX3_extend 109 = .ok (.iconst 1, 1) := by decide +kernel
theorem dX3_extend_110 : decode cX3_extend 110 = .ok (.iadd, 1) := by decide +kernel
theorem dX3_extend_111 : decode cX3_extend 111 = .ok (.iload 7, 2) := by decide +kernel
theorem dX3_extend_113 : decode cX3_extend 113 = .ok (.invokestatic 48, 3) := by decide +kernel
theorem dX3_extend_116 : decode cX3_extend 116 = .ok (.iinc 6 1, 3) := by decide +kernel
theorem dX3_extend_119 : decode cX3_extend 119 = .ok (.goto (-75), 3) := by decide +kernel
theorem dX3_extend_122 : decode cX3_extend 122 = .ok (.return_, 1) := by decide +kernel
theorem dX3_note_0 : decode cX3_note 0 = .ok (.aload_n 0, 1) := by decide +kernel
theorem dX3_note_1 : decode cX3_note 1 = .ok (.getfield 25, 3) := by decide +kernel
theorem dX3_note_4 : decode cX3_note 4 = .ok (.ifCond .le 22, 3) := by decide +kernel
theorem dX3_note_7 : decode cX3_note 7 = .ok (.iload_n 1, 1) := by decide +kernel
theorem dX3_note_8 : decode cX3_note 8 = .ok (.aload_n 0, 1) := by decide +kernel
theorem dX3_note_9 : decode cX3_note 9 = .ok (.getfield 28, 3) := by decide +kernel
theorem dX3_note_12 : decode cX3_note 12 = .ok (.if_icmp .ne 14, 3) := by decide +kernel
theorem dX3_note_15 : decode cX3_note 15 = .ok (.aload_n 0, 1) := by decide +kernel
theorem dX3_note_16 : decode cX3_note 16 = .ok (.dup, 1) := by decide +kernel
theorem dX3_note_17 : decode cX3_note 17 = .ok (.getfield 25, 3) := by decide +kernel
theorem dX3_note_20 : decode cX3_note 20 = .ok (.iconst 1, 1) := by decide +kernel
theorem dX3_note_21 : decode cX3_note 21 = .ok (.iadd, 1) := by decide +kernel
theorem dX3_note_22 : decode cX3_note 22 = .ok (.putfield 25, 3) := by decide +kernel
theorem dX3_note_25 : decode cX3_note 25 = .ok (.return_, 1) := by decide +kernel
theorem dX3_note_26 : decode cX3_note 26 = .ok (.aload_n 0, 1) := by decide +kernel
theorem dX3_note_27 : decode cX3_note 27 = .ok (.iconst 1, 1) := by decide +kernel
theorem dX3_note_28 : decode cX3_note 28 = .ok (.putfield 25, 3) := by decide +kernel
theorem dX3_note_31 : decode cX3_note 31 = .ok (.aload_n 0, 1) := by decide +kernel
theorem dX3_note_32 : decode cX3_note 32 = .ok (.iload_n 1, 1) := by decide +kernel
theorem dX3_note_33 : decode cX3_note 33 = .ok (.putfield 28, 3) := by decide +kernel
theorem dX3_note_36 : decode cX3_note 36 = .ok (.iconst 0, 1) := by decide +kernel
theorem dX3_note_37 : decode cX3_note 37 = .ok (.istore_n 2, 1) := by decide +kernel
theorem dX3_note_38 : decode cX3_note 38 = .ok (.iload_n 2, 1) := by decide +kernel
theorem dX3_note_39 : decode cX3_note 39 = .ok (.aload_n 0, 1) := by decide +kernel
theorem dX3_note_40 : decode cX3_note 40 = .ok (.getfield 21, 3) := by decide +kernel
theorem dX3_note_43 : decode cX3_note 43 = .ok (.if_icmp .ge 31, 3) := by decide +kernel
theorem dX3_note_46 : decode cX3_note 46 = .ok (.iload_n 2, 1) := by decide +kernel
theorem dX3_note_47 : decode cX3_note 47 = .ok (.iconst 5, 1) := by decide +kernel
theorem dX3_note_48 : decode cX3_note 48 = .ok (.if_icmp .ge 26, 3) := by decide +kernel
theorem dX3_note_51 : decode cX3_note 51 = .ok (.aload_n 0, 1) := by decide +kernel
theorem dX3_note_52 : decode cX3_note 52 = .ok (.getfield 17, 3) := by decide +kernel
theorem dX3_note_55 : decode cX3_note 55 = .ok (.iload_n 2, 1) := by decide +kernel
theorem dX3_note_56 : decode cX3_note 56 = .ok (.aload_n 0, 1) := by decide +kernel
theorem dX3_note_57 : decode cX3_note 57 = .ok (.getfield 11, 3) := by decide +kernel
theorem dX3_note_60 : decode cX3_note 60 = .ok (.iload_n 2, 1) := by decide +kernel
theorem dX3_note_61 : decode cX3_note 61 = .ok (.iconst 1, 1) := by decide +kernel
theorem dX3_note_62 : decode cX3_note 62 = .ok (.iadd, 1) := by decide +kernel
theorem dX3_note_63 : decode cX3_note 63 = .ok (.aaload, 1) := by decide +kernel
theorem dX3_note_64 : decode cX3_note 64 = .ok (.getfield 71, 3) := by decide +kernel
theorem dX3_note_67 : decode cX3_note 67 = .ok (.iastore, 1) := by decide +kernel
theorem dX3_note_68 : decode cX3_note 68 = .ok (.iinc 2 1, 3) := by decide +kernel
theorem dX3_note_71 : decode cX3_note 71 = .ok (.goto (-33), 3) := by decide +kernel
theorem dX3_note_74 : decode cX3_note 74 = .ok (.return_, 1) := by decide +kernel
theorem dX4_init_0 : decode cX4_init 0 = .ok (.aload_n 0, 1) := by decide +kernel
theorem dX4_init_1 : decode cX4_init 1 = .ok (.invokespecial 3, 3) := by decide +kernel
theorem dX4_init_4 : decode cX4_init 4 = .ok (.aload_n 0, 1) := by decide +kernel
theorem dX4_init_5 : decode cX4_init 5 = .ok (.iconst 0, 1) := by decide +kernel
theorem dX4_init_6 : decode cX4_init 6 = .ok (.putfield 9, 3) := by decide +kernel
theorem dX4_init_9 : decode cX4_init 9 = .ok (.aload_n 0, 1) := by decide +kernel
theorem dX4_init_10 : decode cX4_init 10 = .ok (.bipush (-9), 2) := by decide +kernel
theorem dX4_init_12 : decode cX4_init 12 = .ok (.putfield 15, 3) := by decide +kernel
theorem dX4_init_15 : decode cX4_init 15 = .ok (.aload_n 0, 1) := by decide +kernel
theorem dX4_init_16 : decode cX4_init 16 = .ok (.iconst 0, 1) := by decide +kernel
theorem dX4_init_17 : decode cX4_init 17 = .ok (.putfield 18, 3) := by decide +kernel
theorem dX4_init_20 : decode cX4_init 20 = .ok (.aload_n 0, 1) := by decide +kernel
theorem dX4_init_21 : decode cX4_init 21 = .ok (.iconst 0, 1) := by decide +kernel
theorem dX4_init_22 : decode cX4_init 22 = .ok (.putfield 21, 3) := by decide +kernel
theorem dX4_init_25 : decode cX4_init 25 = .ok (.aload_n 0, 1) := by decide +kernel
theorem dX4_init_26 : decode cX4_init 26 = .ok (.iconst 0, 1) := by decide +kernel
theorem dX4_init_27 : decode cX4_init 27 = .ok (.putfield 24, 3) := by decide +kernel
theorem dX4_init_30 : decode cX4_init 30 = .ok (.aload_n 0, 1) := by decide +kernel
theorem dX4_init_31 : decode cX4_init 31 = .ok (.iconst 0, 1) := by decide +kernel
theorem dX4_init_32 : decode cX4_init 32 = .ok (.putfield 27, 3) := by decide +kernel
theorem dX4_init_35 : decode cX4_init 35 = .ok (.return_, 1) := by decide +kernel
theorem dX4_copy_0 : decode cX4_copy 0 = .ok (.aload_n 0, 1) := by decide +kernel
theorem dX4_copy_1 : decode cX4_copy 1 = .ok (.aload_n 1, 1) := by decide +kernel
theorem dX4_copy_2 : decode cX4_copy 2 = .ok (.getfield 9, 3) := by decide +kernel
theorem dX4_copy_5 : decode cX4_copy 5 = .ok (.putfield 9, 3) := by decide +kernel
theorem dX4_copy_8 : decode cX4_copy 8 = .ok (.aload_n 0, 1) := by decide +kernel
theorem dX4_copy_9 : decode cX4_copy 9 = .ok (.aload_n 1, 1) := by decide +kernel
theorem dX4_copy_10 : decode cX4_copy 10 = .ok (.getfield 15, 3) := by decide +kernel
theorem dX4_copy_13 : decode cX4_copy 13 = .ok (.putfield 15, 3) := by decide +kernel
theorem dX4_copy_16 : decode cX4_copy 16 = .ok (.aload_n 0, 1) := by decide +kernel
theorem dX4_copy_17 : decode cX4_copy 17 = .ok (.aload_n 1, 1) := by decide +kernel
theorem dX4_copy_18 : decode cX4_copy 18 = .ok (.getfield 18, 3) := by decide +kernel
theorem dX4_copy_21 : decode cX4_copy 21 = .ok (.putfield 18, 3) := by decide +kernel
theorem dX4_copy_24 : decode cX4_copy 24 = .ok (.aload_n 0, 1) := by decide +kernel
theorem dX4_copy_25 : decode cX4_copy 25 = .ok (.aload_n 1, 1) := by decide +kernel
theorem dX4_copy_26 : decode cX4_copy 26 = .ok (.getfield 21, 3) := by decide +kernel
theorem dX4_copy_29 : decode cX4_copy 29 = .ok (.putfield 21, 3) := by decide +kernel
theorem dX4_copy_32 : decode cX4_copy 32 = .ok (.aload_n 0, 1) := by decide +kernel
theorem dX4_copy_33 : decode cX4_copy 33 = .ok (.aload_n 1, 1) := by decide +kernel
theorem dX4_copy_34 : decode cX4_copy 34 = .ok (.getfield 24, 3) := by decide +kernel
theorem dX4_copy_37 : decode cX4_copy 37 = .ok (.putfield 24, 3) := by decide +kernel
theorem dX4_copy_40 : decode cX4_copy 40 = .ok (.aload_n 0, 1) := by decide +kernel
theorem dX4_copy_41 : decode cX4_copy 41 = .ok (.aload_n 1, 1) := by decide +kernel
theorem dX4_copy_42 : decode cX4_copy 42 = .ok (.getfield 27, 3) := by decide +kernel
theorem dX4_copy_45 : decode cX4_copy 45 = .ok (.putfield 27, 3) := by decide +kernel
theorem dX4_copy_48 : decode cX4_copy 48 = .ok (.return_, 1) := by decide +kernel
theorem dX4_advance_0 : decode cX4_advance 0 = .ok (.aload_n 0, 1) := by decide +kernel
theorem dX4_advance_1 : decode cX4_advance 1 = .ok (.dup, 1) := by decide +kernel
theorem dX4_advance_2 : decode cX4_advance 2 = .ok (.getfield 9, 3) := by decide +kernel
theorem dX4_advance_5 : decode cX4_advance 5 = .ok (.iconst 1, 1) := by decide +kernel
theorem dX4_advance_6 : decode cX4_advance 6 = .ok (.iadd, 1) := by decide +kernel
theorem dX4_advance_7 : decode cX4_advance 7 = .ok (.putfield 9, 3) := by decide +kernel
theorem dX4_advance_10 : decode cX4_advance 10 = .ok (.aload_n 0, 1) := by decide +kernel
theorem dX4_advance_11 : decode cX4_advance 11 = .ok (.iload_n 1, 1) := by decide +kernel
theorem dX4_advance_12 : decode cX4_advance 12 = .ok (.putfield 15, 3) := by decide +kernel
theorem dX4_advance_15 : decode cX4_advance 15 = .ok (.aload_n 0, 1) := by decide +kernel
theorem dX4_advance_16 : decode cX4_advance 16 = .ok (.dup, 1) := by decide +kernel
theorem dX4_advance_17 : decode cX4_advance 17 = .ok (.getfield 18, 3) := by decide +kernel
theorem dX4_advance_20 : decode cX4_advance 20 = .ok (.iload_n 2, 1) := by decide +kernel
theorem dX4_advance_21 : decode cX4_advance 21 = .ok (.iload_n 1, 1) := by decide +kernel
theorem dX4_advance_22 : decode cX4_advance 22 = .ok (.invokestatic 30, 3) := by decide +kernel
theorem dX4_advance_25 : decode cX4_advance 25 = .ok (.imul, 1) := by decide +kernel
theorem dX4_advance_26 : decode cX4_advance 26 = .ok (.iadd, 1) := by decide +kernel
theorem dX4_advance_27 : decode cX4_advance 27 = .ok (.putfield 18, 3) := by decide +kernel
theorem dX4_advance_30 : decode cX4_advance 30 = .ok (.aload_n 0, 1) := by decide +kernel
theorem dX4_advance_31 : decode cX4_advance 31 = .ok (.dup, 1) := by decide +kernel
theorem dX4_advance_32 : decode cX4_advance 32 = .ok (.getfield 21, 3) := by decide +kernel
theorem dX4_advance_35 : decode cX4_advance 35 = .ok (.iload_n 2, 1) := by decide +kernel
theorem dX4_advance_36 : decode cX4_advance 36 = .ok (.iload_n 1, 1) := by decide +kernel
theorem dX4_advance_37 : decode cX4_advance 37 = .ok (.invokestatic 34, 3) := by decide +kernel
theorem dX4_advance_40 : decode cX4_advance 40 = .ok (.imul, 1) := by decide +kernel
theorem dX4_advance_41 : decode cX4_advance 41 = .ok (.iadd, 1) := by decide +kernel
theorem dX4_advance_42 : decode cX4_advance 42 = .ok (.putfield 21, 3) := by decide +kernel
theorem dX4_advance_45 : decode cX4_advance 45 = .ok (.aload_n 0, 1) := by decide +kernel
theorem dX4_advance_46 : decode cX4_advance 46 = .ok (.dup, 1) := by decide +kernel
theorem dX4_advance_47 : decode cX4_advance 47 = .ok (.getfield 24, 3) := by decide +kernel
theorem dX4_advance_50 : decode cX4_advance 50 = .ok (.aload_n 0, 1) := by decide +kernel
theorem dX4_advance_51 : decode cX4_advance 51 = .ok (.getfield 18, 3) := by decide +kernel
theorem dX4_advance_54 : decode cX4_advance 54 = .ok (.iadd, 1) := by decide +kernel
theorem dX4_advance_55 : decode cX4_advance 55 = .ok (.putfield 24, 3) := by decide +kernel
theorem dX4_advance_58 : decode cX4_advance 58 = .ok (.aload_n 0, 1) := by decide +kernel
theorem dX4_advance_59 : decode cX4_advance 59 = .ok (.dup, 1) := by decide +kernel
theorem dX4_advance_60 : decode cX4_advance 60 = .ok (.getfield 27, 3) := by decide +kernel
theorem dX4_advance_63 : decode cX4_advance 63 = .ok (.aload_n 0, 1) := by decide +kernel
theorem dX4_advance_64 : decode cX4_advance 64 = .ok (.getfield 21, 3) := by decide +kernel
theorem dX4_advance_67 : decode cX4_advance 67 = .ok (.iadd, 1) := by decide +kernel
theorem dX4_advance_68 : decode cX4_advance 68 = .ok (.putfield 27, 3) := by decide +kernel
theorem dX4_advance_71 : decode cX4_advance 71 = .ok (.return_, 1) := by decide +kernel
end
section
theorem dX5_init_0 : decode cX5_init 0 = .ok (.aload_n 0, 1) := by decide +kernel
theorem dX5_init_1 : decode cX5_init 1 = .ok (.invokespecial 3, 3) := by decide +kernel
theorem dX5_init_4 : decode cX5_init 4 = .ok (.aload_n 0, 1) := by decide +kernel
theorem dX5_init_5 : decode cX5_init 5 = .ok (.new 9, 3) := by decide +kernel
theorem dX5_init_8 : decode cX5_init 8 = .ok (.dup, 1) := by decide +kernel
theorem dX5_init_9 : decode cX5_init 9 = .ok (.invokespecial 11, 3) := by decide +kernel
theorem dX5_init_12 : decode cX5_init 12 = .ok (.putfield 12, 3) := by decide +kernel
theorem dX5_init_15 : decode cX5_init 15 = .ok (.aload_n 0, 1) := by decide +kernel
theorem dX5_init_16 : decode cX5_init 16 = .ok (.new 9, 3) := by decide +kernel
theorem dX5_init_19 : decode cX5_init 19 = .ok (.dup, 1) := by decide +kernel
theorem dX5_init_20 : decode cX5_init 20 = .ok (.invokespecial 11, 3) := by decide +kernel
theorem dX5_init_23 : decode cX5_init 23 = .ok (.putfield 16, 3) := by decide +kernel
theorem dX5_init_26 : decode cX5_init 26 = .ok (.aload_n 0, 1) := by decide +kernel
theorem dX5_init_27 : decode cX5_init 27 = .ok (.iconst 2, 1) := by decide +kernel
theorem dX5_init_28 : decode cX5_init 28 = .ok (.anewarray 9, 3) := by decide +kernel
theorem dX5_init_31 : decode cX5_init 31 = .ok (.putfield 19, 3) := by decide +kernel
theorem dX5_init_34 : decode cX5_init 34 = .ok (.aload_n 0, 1) := by decide +kernel
theorem dX5_init_35 : decode cX5_init 35 = .ok (.iconst 2, 1) := by decide +kernel
theorem dX5_init_36 : decode cX5_init 36 = .ok (.newarray .boolean, 2) := by decide +kernel
theorem dX5_init_38 : decode cX5_init 38 = .ok (.putfield 23, 3) := by decide +kernel
theorem dX5_init_41 : decode cX5_init 41 = .ok (.aload_n 0, 1) := by decide +kernel
theorem dX5_init_42 : decode cX5_init 42 = .ok (.new 27, 3) := by decide +kernel
theorem dX5_init_45 : decode cX5_init 45 = .ok (.dup, 1) := by decide +kernel
theorem dX5_init_46 : decode cX5_init 46 = .ok (.invokespecial 29, 3) := by decide +kernel
theorem dX5_init_49 : decode cX5_init 49 = .ok (.putfield 30, 3) := by decide +kernel
theorem dX5_init_52 : decode cX5_init 52 = .ok (.aload_n 0, 1) := by decide +kernel
theorem dX5_init_53 : decode cX5_init 53 = .ok (.new 34, 3) := by decide +kernel
theorem dX5_init_56 : decode cX5_init 56 = .ok (.dup, 1) := by decide +kernel
theorem dX5_init_57 : decode cX5_init 57 = .ok (.invokespecial 36, 3) := by decide +kernel
theorem dX5_init_60 : decode cX5_init 60 = .ok (.putfield 37, 3) := by decide +kernel
theorem dX5_init_63 : decode cX5_init 63 = .ok (.aload_n 0, 1) := by decide +kernel
theorem dX5_init_64 : decode cX5_init 64 = .ok (.new 41, 3) := by decide +kernel
theorem dX5_init_67 : decode cX5_init 67 = .ok (.dup, 1) := by decide +kernel
theorem dX5_init_68 : decode cX5_init 68 = .ok (.invokespecial 43, 3) := by decide +kernel
theorem dX5_init_71 : decode cX5_init 71 = .ok (.putfield 44, 3) := by decide +kernel
theorem dX5_init_74 : decode cX5_init 74 = .ok (.aload_n 0, 1) := by decide +kernel
theorem dX5_init_75 : decode cX5_init 75 = .ok (.new 48, 3) := by decide +kernel
theorem dX5_init_78 : decode cX5_init 78 = .ok (.dup, 1) := by decide +kernel
theorem dX5_init_79 : decode cX5_init 79 = .ok (.invokespecial 50, 3) := by decide +kernel
theorem dX5_init_82 : decode cX5_init 82 = .ok (.putfield 51, 3) := by decide +kernel
theorem dX5_init_85 : decode cX5_init 85 = .ok (.aload_n 0, 1) := by decide +kernel
theorem dX5_init_86 : decode cX5_init 86 = .ok (.iconst 4, 1) := by decide +kernel
theorem dX5_init_87 : decode cX5_init 87 = .ok (.newarray .int, 2) := by decide +kernel
theorem dX5_init_89 : decode cX5_init 89 = .ok (.putfield 55, 3) := by decide +kernel
theorem dX5_init_92 : decode cX5_init 92 = .ok (.aload_n 0, 1) := by decide +kernel
theorem dX5_init_93 : decode cX5_init 93 = .ok (.iconst 4, 1) := by decide +kernel
theorem dX5_init_94 : decode cX5_init 94 = .ok (.newarray .int, 2) := by decide +kernel
theorem dX5_init_96 : decode cX5_init 96 = .ok (.putfield 59, 3) := by decide +kernel
theorem dX5_init_99 : decode cX5_init 99 = .ok (.aload_n 0, 1) := by decide +kernel
theorem dX5_init_100 : decode cX5_init 100 = .ok (.iconst 0, 1) := by decide +kernel
theorem dX5_init_101 : decode cX5_init 101 = .ok (.putfield 62, 3) := by decide +kernel
theorem dX5_init_104 : decode cX5_init 104 = .ok (.iconst 0, 1) := by decide +kernel
theorem dX5_init_105 : decode cX5_init 105 = .ok (.istore_n 1, 1) := by decide +kernel
theorem dX5_init_106 : decode cX5_init 106 = .ok (.iload_n 1, 1) := by decide +kernel
theorem dX5_init_107 : decode cX5_init 107 = .ok (.iconst 2, 1) := by decide +kernel
theorem dX5_init_108 : decode cX5_init 108 = .ok (.if_icmp .ge 22, 3) := by decide +kernel
theorem dX5_init_111 : decode cX5_init 111 = .ok (.aload_n 0, 1) := by decide +kernel
theorem dX5_init_112 : decode cX5_init 112 = .ok (.getfield 19, 3) := by decide +kernel
theorem dX5_init_115 : decode cX5_init 115 = .ok (.iload_n 1, 1) := by decide +kernel
theorem dX5_init_116 : decode cX5_init 116 = .ok (.new 9, 3) := by decide +kernel
theorem dX5_init_119 : decode cX5_init 119 = .ok (.dup, 1) := by decide +kernel
theorem dX5_init_120 : decode cX5_init 120 = .ok (.invokespecial 11, 3) := by decide +kernel
theorem dX5_init_123 : decode cX5_init 123 = .ok (.aastore, 1) := by decide +kernel
theorem dX5_init_124 : decode cX5_init 124 = .ok (.iinc 1 1, 3) := by decide +kernel
theorem dX5_init_127 : decode cX5_init 127 = .ok (.goto (-21), 3) := by decide +kernel
theorem dX5_init_130 : decode cX5_init 130 = .ok (.return_, 1) := by decide +kernel
theorem dX5_type_0 : decode cX5_type 0 = .ok (.iload_n 1, 1) := by decide +kernel
theorem dX5_type_1 : decode cX5_type 1 = .ok (.iconst 0, 1) := by decide +kernel
theorem dX5_type_2 : decode cX5_type 2 = .ok (.sipush 255, 3) := by decide +kernel
theorem dX5_type_5 : decode cX5_type 5 = .ok (.invokestatic 66, 3) := by decide +kernel
theorem dX5_type_8 : decode cX5_type 8 = .ok (.ifCond .ne 5, 3) := by decide +kernel
theorem dX5_type_11 : decode cX5_type 11 = .ok (.iconst (-1), 1) := by decide +kernel
theorem dX5_type_12 : decode cX5_type 12 = .ok (.ireturn, 1) := by decide +kernel
theorem dX5_type_13 : decode cX5_type 13 = .ok (.aload_n 0, 1) := by decide +kernel
theorem dX5_type_14 : decode cX5_type 14 = .ok (.getfield 30, 3) := by decide +kernel
theorem dX5_type_17 : decode cX5_type 17 = .ok (.iload_n 1, 1) := by decide +kernel
theorem dX5_type_18 : decode cX5_type 18 = .ok (.invokevirtual 70, 3) := by decide +kernel
theorem dX5_type_21 : decode cX5_type 21 = .ok (.ifCond .eq 13, 3) := by decide +kernel
theorem dX5_type_24 : decode cX5_type 24 = .ok (.aload_n 0, 1) := by decide +kernel
theorem dX5_type_25 : decode cX5_type 25 = .ok (.getfield 30, 3) := by decide +kernel
theorem dX5_type_28 : decode cX5_type 28 = .ok (.getfield 74, 3) := by decide +kernel
theorem dX5_type_31 : decode cX5_type 31 = .ok (.goto 5, 3) := by decide +kernel
theorem dX5_type_34 : decode cX5_type 34 = .ok (.bipush (-3), 2) := by decide +kernel
theorem dX5_type_36 : decode cX5_type 36 = .ok (.ireturn, 1) := by decide +kernel
theorem dX5_clear_0 : decode cX5_clear 0 = .ok (.aload_n 0, 1) := by decide +kernel
theorem dX5_clear_1 : decode cX5_clear 1 = .ok (.getfield 30, 3) := by decide +kernel
theorem dX5_clear_4 : decode cX5_clear 4 = .ok (.getfield 74, 3) := by decide +kernel
theorem dX5_clear_7 : decode cX5_clear 7 = .ok (.istore_n 1, 1) := by decide +kernel
theorem dX5_clear_8 : decode cX5_clear 8 = .ok (.aload_n 0, 1) := by decide +kernel
theorem dX5_clear_9 : decode cX5_clear 9 = .ok (.getfield 30, 3) := by decide +kernel
theorem dX5_clear_12 : decode cX5_clear 12 = .ok (.iconst 0, 1) := by decide +kernel
theorem dX5_clear_13 : decode cX5_clear 13 = .ok (.putfield 74, 3) := by decide +kernel
theorem dX5_clear_16 : decode cX5_clear 16 = .ok (.iload_n 1, 1) := by decide +kernel
theorem dX5_clear_17 : decode cX5_clear 17 = .ok (.ireturn, 1) := by decide +kernel
theorem dX5_tunnel_0 : decode cX5_tunnel 0 = .ok (.aload_n 0, 1) := by decide +kernel
theorem dX5_tunnel_1 : decode cX5_tunnel 1 = .ok (.getfield 16, 3) := by decide +kernel
theorem dX5_tunnel_4 : decode cX5_tunnel 4 = .ok (.invokevirtual 77, 3) := by decide +kernel
theorem dX5_tunnel_7 : decode cX5_tunnel 7 = .ok (.aload_n 0, 1) := by decide +kernel
theorem dX5_tunnel_8 : decode cX5_tunnel 8 = .ok (.getfield 30, 3) := by decide +kernel
theorem dX5_tunnel_11 : decode cX5_tunnel 11 = .ok (.aload_n 0, 1) := by decide +kernel
theorem dX5_tunnel_12 : decode cX5_tunnel 12 = .ok (.getfield 16, 3) := by decide +kernel
theorem dX5_tunnel_15 : decode cX5_tunnel 15 = .ok (.invokevirtual 80, 3) := by decide +kernel
theorem dX5_tunnel_18 : decode cX5_tunnel 18 = .ok (.istore_n 1, 1) := by decide +kernel
theorem dX5_tunnel_19 : decode cX5_tunnel 19 = .ok (.iload_n 1, 1) := by decide +kernel
theorem dX5_tunnel_20 : decode cX5_tunnel 20 = .ok (.ifCond .ge 5, 3) := by decide +kernel
theorem dX5_tunnel_23 : decode cX5_tunnel 23 = .ok (.iload_n 1, 1) := by decide +kernel
theorem dX5_tunnel_24 : decode cX5_tunnel 24 = .ok (.ireturn, 1) := by decide +kernel
theorem dX5_tunnel_25 : decode cX5_tunnel 25 = .ok (.aload_n 0, 1) := by decide +kernel
theorem dX5_tunnel_26 : decode cX5_tunnel 26 = .ok (.getfield 12, 3) := by decide +kernel
theorem dX5_tunnel_29 : decode cX5_tunnel 29 = .ok (.aload_n 0, 1) := by decide +kernel
theorem dX5_tunnel_30 : decode cX5_tunnel 30 = .ok (.getfield 16, 3) := by decide +kernel
theorem dX5_tunnel_33 : decode cX5_tunnel 33 = .ok (.invokevirtual 84, 3) := by decide +kernel
theorem dX5_tunnel_36 : decode cX5_tunnel 36 = .ok (.aload_n 0, 1) := by decide +kernel
theorem dX5_tunnel_37 : decode cX5_tunnel 37 = .ok (.invokevirtual 88, 3) := by decide +kernel
theorem dX5_tunnel_40 : decode cX5_tunnel 40 = .ok (.aload_n 0, 1) := by decide +kernel
theorem dX5_tunnel_41 : decode cX5_tunnel 41 = .ok (.getfield 30, 3) := by decide +kernel
theorem dX5_tunnel_44 : decode cX5_tunnel 44 = .ok (.iconst 0, 1) := by decide +kernel
theorem dX5_tunnel_45 : decode cX5_tunnel 45 = .ok (.putfield 74, 3) := by decide +kernel
theorem dX5_tunnel_48 : decode cX5_tunnel 48 = .ok (.aload_n 0, 1) := by decide +kernel
theorem dX5_tunnel_49 : decode cX5_tunnel 49 = .ok (.getfield 37, 3) := by decide +kernel
theorem dX5_tunnel_52 : decode cX5_tunnel 52 = .ok (.iconst 0, 1) := by decide +kernel
theorem dX5_tunnel_53 : decode cX5_tunnel 53 = .ok (.putfield 91, 3) := by decide +kernel
theorem dX5_tunnel_56 : decode cX5_tunnel 56 = .ok (.aload_n 0, 1) := by decide +kernel
theorem dX5_tunnel_57 : decode cX5_tunnel 57 = .ok (.iconst 0, 1) := by decide +kernel
theorem dX5_tunnel_58 : decode cX5_tunnel 58 = .ok (.putfield 62, 3) := by decide +kernel
theorem dX5_tunnel_61 : decode cX5_tunnel 61 = .ok (.iconst 0, 1) := by decide +kernel
theorem dX5_tunnel_62 : decode cX5_tunnel 62 = .ok (.istore_n 2, 1) := by decide +kernel
theorem dX5_tunnel_63 : decode cX5_tunnel 63 = .ok (.iload_n 2, 1) := by decide +kernel
theorem dX5_tunnel_64 : decode cX5_tunnel 64 = .ok (.iconst 2, 1) := by decide +kernel
theorem dX5_tunnel_65 : decode cX5_tunnel 65 = .ok (.if_icmp .ge 16, 3) := by decide +kernel
theorem dX5_tunnel_68 : decode cX5_tunnel 68 = .ok (.aload_n 0, 1) := by decide +kernel
theorem dX5_tunnel_69 : decode cX5_tunnel 69 = .ok (.getfield 23, 3) := by decide +kernel
theorem dX5_tunnel_72 : decode cX5_tunnel 72 = .ok (.iload_n 2, 1) := by decide +kernel
theorem dX5_tunnel_73 : decode cX5_tunnel 73 = .ok (.iconst 0, 1) := by decide +kernel
theorem dX5_tunnel_74 : decode cX5_tunnel 74 = .ok (.bastore, 1) := by decide +kernel
theorem dX5_tunnel_75 : decode cX5_tunnel 75 = .ok (.iinc 2 1, 3) := by decide +kernel
theorem dX5_tunnel_78 : decode cX5_tunnel 78 = .ok (.goto (-15), 3) := by decide +kernel
theorem dX5_tunnel_81 : decode cX5_tunnel 81 = .ok (.iload_n 1, 1) := by decide +kernel
theorem dX5_tunnel_82 : decode cX5_tunnel 82 = .ok (.ireturn, 1) := by decide +kernel
theorem dX5_builds_0 : decode cX5_builds 0 = .ok (.iload_n 1, 1) := by decide +kernel
theorem dX5_builds_1 : decode cX5_builds 1 = .ok (.invokestatic 94, 3) := by decide +kernel
theorem dX5_builds_4 : decode cX5_builds 4 = .ok (.ifCond .ne 5, 3) := by decide +kernel
theorem dX5_builds_7 : decode cX5_builds 7 = .ok (.iconst (-1), 1) := by decide +kernel
theorem dX5_builds_8 : decode cX5_builds 8 = .ok (.ireturn, 1) := by decide +kernel
theorem dX5_builds_9 : decode cX5_builds 9 = .ok (.aload_n 0, 1) := by decide +kernel
theorem dX5_builds_10 : decode cX5_builds 10 = .ok (.getfield 12, 3) := by decide +kernel
theorem dX5_builds_13 : decode cX5_builds 13 = .ok (.getfield 97, 3) := by decide +kernel
theorem dX5_builds_16 : decode cX5_builds 16 = .ok (.bipush 12, 2) := by decide +kernel
theorem dX5_builds_18 : decode cX5_builds 18 = .ok (.if_icmp .lt 6, 3) := by decide +kernel
theorem dX5_builds_21 : decode cX5_builds 21 = .ok (.bipush (-3), 2) := by decide +kernel
theorem dX5_builds_23 : decode cX5_builds 23 = .ok (.ireturn, 1) := by decide +kernel
theorem dX5_builds_24 : decode cX5_builds 24 = .ok (.aload_n 0, 1) := by decide +kernel
theorem dX5_builds_25 : decode cX5_builds 25 = .ok (.getfield 12, 3) := by decide +kernel
theorem dX5_builds_28 : decode cX5_builds 28 = .ok (.aload_n 0, 1) := by decide +kernel
theorem dX5_builds_29 : decode cX5_builds 29 = .ok (.getfield 12, 3) := by decide +kernel
theorem dX5_builds_32 : decode cX5_builds 32 = .ok (.invokevirtual 100, 3) := by decide +kernel
theorem dX5_builds_35 : decode cX5_builds 35 = .ok (.iload_n 1, 1) := by decide +kernel
theorem dX5_builds_36 : decode cX5_builds 36 = .ok (.invokevirtual 104, 3) := by decide +kernel
theorem dX5_builds_39 : decode cX5_builds 39 = .ok (.ifCond .ne 6, 3) := by decide +kernel
theorem dX5_builds_42 : decode cX5_builds 42 = .ok (.bipush (-2), 2) := by decide +kernel
theorem dX5_builds_44 : decode cX5_builds 44 = .ok (.ireturn, 1) := by decide +kernel
theorem dX5_builds_45 : decode cX5_builds 45 = .ok (.aload_n 0, 1) := by decide +kernel
theorem dX5_builds_46 : decode cX5_builds 46 = .ok (.iload_n 1, 1) := by decide +kernel
theorem dX5_builds_47 : decode cX5_builds 47 = .ok (.invokevirtual 108, 3) := by decide +kernel
theorem dX5_builds_50 : decode cX5_builds 50 = .ok (.aload_n 0, 1) := by decide +kernel
theorem dX5_builds_51 : decode cX5_builds 51 = .ok (.getfield 12, 3) := by decide +kernel
theorem dX5_builds_54 : decode cX5_builds 54 = .ok (.aload_n 0, 1) := by decide +kernel
theorem dX5_builds_55 : decode cX5_builds 55 = .ok (.getfield 12, 3) := by decide +kernel
theorem dX5_builds_58 : decode cX5_builds 58 = .ok (.invokevirtual 100, 3) := by decide +kernel
theorem dX5_builds_61 : decode cX5_builds 61 = .ok (.invokevirtual 112, 3) := by decide +kernel
theorem dX5_builds_64 : decode cX5_builds 64 = .ok (.ireturn, 1) := by decide +kernel
theorem dX5_follows_0 : decode cX5_follows 0 = .ok (.iload_n 1, 1) := by decide +kernel
theorem dX5_follows_1 : decode cX5_follows 1 = .ok (.iconst 1, 1) := by decide +kernel
theorem dX5_follows_2 : decode cX5_follows 2 = .ok (.iconst 5, 1) := by decide +kernel
theorem dX5_follows_3 : decode cX5_follows 3 = .ok (.invokestatic 66, 3) := by decide +kernel
theorem dX5_follows_6 : decode cX5_follows 6 = .ok (.ifCond .ne 5, 3) := by decide +kernel
theorem dX5_follows_9 : decode cX5_follows 9 = .ok (.iconst (-1), 1) := by decide +kernel
theorem dX5_follows_10 : decode cX5_follows 10 = .ok (.ireturn, 1) := by decide +kernel
theorem dX5_follows_11 : decode cX5_follows 11 = .ok (.aload_n 0, 1) := by decide +kernel
theorem dX5_follows_12 : decode cX5_follows 12 = .ok (.getfield 12, 3) := by decide +kernel
theorem dX5_follows_15 : decode cX5_follows 15 = .ok (.getfield 97, 3) := by decide +kernel
theorem dX5_follows_18 : decode cX5_follows 18 = .ok (.bipush 12, 2) := by decide +kernel
theorem dX5_follows_20 : decode cX5_follows 20 = .ok (.if_icmp .lt 6, 3) := by decide +kernel
theorem dX5_follows_23 : decode cX5_follows 23 = .ok (.bipush (-3), 2) := by decide +kernel
theorem dX5_follows_25 : decode cX5_follows 25 = .ok (.ireturn, 1) := by decide +kernel
theorem dX5_follows_26 : decode cX5_follows 26 = .ok (.aload_n 0, 1) := by decide +kernel
theorem dX5_follows_27 : decode cX5_follows 27 = .ok (.getfield 44, 3) := by decide +kernel
theorem dX5_follows_30 : decode cX5_follows 30 = .ok (.aload_n 0, 1) := by decide +kernel
theorem dX5_follows_31 : decode cX5_follows 31 = .ok (.getfield 12, 3) := by decide +kernel
theorem dX5_follows_34 : decode cX5_follows 34 = .ok (.iload_n 1, 1) := by decide +kernel
theorem dX5_follows_35 : decode cX5_follows 35 = .ok (.invokevirtual 116, 3) := by decide +kernel
theorem dX5_follows_38 : decode cX5_follows 38 = .ok (.aload_n 0, 1) := by decide +kernel
theorem dX5_follows_39 : decode cX5_follows 39 = .ok (.getfield 44, 3) := by decide +kernel
theorem dX5_follows_42 : decode cX5_follows 42 = .ok (.getfield 120, 3) := by decide +kernel
theorem dX5_follows_45 : decode cX5_follows 45 = .ok (.ifCond .ne 6, 3) := by decide +kernel
theorem dX5_follows_48 : decode cX5_follows 48 = .ok (.bipush (-2), 2) := by decide +kernel
theorem dX5_follows_50 : decode cX5_follows 50 = .ok (.ireturn, 1) := by decide +kernel
theorem dX5_follows_51 : decode cX5_follows 51 = .ok (.aload_n 0, 1) := by decide +kernel
theorem dX5_follows_52 : decode cX5_follows 52 = .ok (.getfield 44, 3) := by decide +kernel
theorem dX5_follows_55 : decode cX5_follows 55 = .ok (.getfield 123, 3) := by decide +kernel
theorem dX5_follows_58 : decode cX5_follows 58 = .ok (.iconst 0, 1) := by decide +kernel
theorem dX5_follows_59 : decode cX5_follows 59 = .ok (.iaload, 1) := by decide +kernel
theorem dX5_follows_60 : decode cX5_follows 60 = .ok (.istore_n 2, 1) := by decide +kernel
theorem dX5_follows_61 : decode cX5_follows 61 = .ok (.aload_n 0, 1) := by decide +kernel
theorem dX5_follows_62 : decode cX5_follows 62 = .ok (.iload_n 2, 1) := by decide +kernel
theorem dX5_follows_63 : decode cX5_follows 63 = .ok (.invokevirtual 108, 3) := by decide +kernel
theorem dX5_follows_66 : decode cX5_follows 66 = .ok (.iload_n 2, 1) := by decide +kernel
theorem dX5_follows_67 : decode cX5_follows 67 = .ok (.ireturn, 1) := by decide +kernel
theorem dX5_wishes_0 : decode cX5_wishes 0 = .ok (.iload_n 1, 1) := by decide +kernel
theorem dX5_wishes_1 : decode cX5_wishes 1 = .ok (.iconst 1, 1) := by decide +kernel
theorem dX5_wishes_2 : decode cX5_wishes 2 = .ok (.bipush 17, 2) := by decide +kernel
theorem dX5_wishes_4 : decode cX5_wishes 4 = .ok (.invokestatic 66, 3) := by decide +kernel
theorem dX5_wishes_7 : decode cX5_wishes 7 = .ok (.ifCond .eq 17, 3) := by decide +kernel
theorem dX5_wishes_10 : decode cX5_wishes 10 = .ok (.iload_n 2, 1) := by decide +kernel
theorem dX5_wishes_11 : decode cX5_wishes 11 = .ok (.invokestatic 126, 3) := by decide +kernel
theorem dX5_wishes_14 : decode cX5_wishes 14 = .ok (.ifCond .eq 10, 3) := by decide +kernel
theorem dX5_wishes_17 : decode cX5_wishes 17 = .ok (.iload_n 3, 1) := by decide +kernel
theorem dX5_wishes_18 : decode cX5_wishes 18 = .ok (.invokestatic 126, 3) := by decide +kernel
theorem dX5_wishes_21 : decode cX5_wishes 21 = .ok (.ifCond .ne 5, 3) := by decide +kernel
theorem dX5_wishes_24 : decode cX5_wishes 24 = .ok (.iconst (-1), 1) := by decide +kernel
theorem dX5_wishes_25 : decode cX5_wishes 25 = .ok (.ireturn, 1) := by decide +kernel
theorem dX5_wishes_26 : decode cX5_wishes 26 = .ok (.aload_n 0, 1) := by decide +kernel
theorem dX5_wishes_27 : decode cX5_wishes 27 = .ok (.getfield 12, 3) := by decide +kernel
theorem dX5_wishes_30 : decode cX5_wishes 30 = .ok (.getfield 129, 3) := by decide +kernel
theorem dX5_wishes_33 : decode cX5_wishes 33 = .ok (.iload_n 1, 1) := by decide +kernel
theorem dX5_wishes_34 : decode cX5_wishes 34 = .ok (.iaload, 1) := by decide +kernel
theorem dX5_wishes_35 : decode cX5_wishes 35 = .ok (.iload_n 2, 1) := by decide +kernel
theorem dX5_wishes_36 : decode cX5_wishes 36 = .ok (.if_icmp .ne 19, 3) := by decide +kernel
theorem dX5_wishes_39 : decode cX5_wishes 39 = .ok (.aload_n 0, 1) := by decide +kernel
theorem dX5_wishes_40 : decode cX5_wishes 40 = .ok (.getfield 12, 3) := by decide +kernel
theorem dX5_wishes_43 : decode cX5_wishes 43 = .ok (.getfield 132, 3) := by decide +kernel
theorem dX5_wishes_46 : decode cX5_wishes 46 = .ok (.iload_n 1, 1) := by decide +kernel
theorem dX5_wishes_47 : decode cX5_wishes 47 = .ok (.iaload, 1) := by decide +kernel
theorem dX5_wishes_48 : decode cX5_wishes 48 = .ok (.iload_n 3, 1) := by decide +kernel
theorem dX5_wishes_49 : decode cX5_wishes 49 = .ok (.if_icmp .ne 6, 3) := by decide +kernel
theorem dX5_wishes_52 : decode cX5_wishes 52 = .ok (.bipush (-2), 2) := by decide +kernel
theorem dX5_wishes_54 : decode cX5_wishes 54 = .ok (.ireturn, 1) := by decide +kernel
theorem dX5_wishes_55 : decode cX5_wishes 55 = .ok (.aload_n 0, 1) := by decide +kernel
theorem dX5_wishes_56 : decode cX5_wishes 56 = .ok (.getfield 37, 3) := by decide +kernel
theorem dX5_wishes_59 : decode cX5_wishes 59 = .ok (.iconst 1, 1) := by decide +kernel
theorem dX5_wishes_60 : decode cX5_wishes 60 = .ok (.iload_n 1, 1) := by decide +kernel
theorem dX5_wishes_61 : decode cX5_wishes 61 = .ok (.aload_n 0, 1) := by decide +kernel
theorem dX5_wishes_62 : decode cX5_wishes 62 = .ok (.getfield 12, 3) := by decide +kernel
theorem dX5_wishes_65 : decode cX5_wishes 65 = .ok (.getfield 129, 3) := by decide +kernel
theorem dX5_wishes_68 : decode cX5_wishes 68 = .ok (.iload_n 1, 1) := by decide +kernel
theorem dX5_wishes_69 : decode cX5_wishes 69 = .ok (.iaload, 1) := by decide +kernel
theorem dX5_wishes_70 : decode cX5_wishes 70 = .ok (.aload_n 0, 1) := by decide +kernel
theorem dX5_wishes_71 : decode cX5_wishes 71 = .ok (.getfield 12, 3) := by decide +kernel
theorem dX5_wishes_74 : decode cX5_wishes 74 = .ok (.getfield 132, 3) := by decide +kernel
theorem dX5_wishes_77 : decode cX5_wishes 77 = .ok (.iload_n 1, 1) := by decide +kernel
theorem dX5_wishes_78 : decode cX5_wishes 78 = .ok (.iaload, 1) := by decide +kernel
theorem dX5_wishes_79 : decode cX5_wishes 79 = .ok (.invokevirtual 135, 3) := by decide +kernel
theorem dX5_wishes_82 : decode cX5_wishes 82 = .ok (.aload_n 0, 1) := by decide +kernel
theorem dX5_wishes_83 : decode cX5_wishes 83 = .ok (.getfield 12, 3) := by decide +kernel
theorem dX5_wishes_86 : decode cX5_wishes 86 = .ok (.iload_n 1, 1) := by decide +kernel
theorem dX5_wishes_87 : decode cX5_wishes 87 = .ok (.iload_n 2, 1) := by decide +kernel
theorem dX5_wishes_88 : decode cX5_wishes 88 = .ok (.iload_n 3, 1) := by decide +kernel
theorem dX5_wishes_89 : decode cX5_wishes 89 = .ok (.invokevirtual 138, 3) := by decide +kernel
theorem dX5_wishes_92 : decode cX5_wishes 92 = .ok (.aload_n 0, 1) := by decide +kernel
theorem dX5_wishes_93 : decode cX5_wishes 93 = .ok (.invokevirtual 88, 3) := by decide +kernel
theorem dX5_wishes_96 : decode cX5_wishes 96 = .ok (.iconst 1, 1) := by decide +kernel
theorem dX5_wishes_97 : decode cX5_wishes 97 = .ok (.ireturn, 1) := by decide +kernel
theorem dX5_rules_0 : decode cX5_rules 0 = .ok (.iload_n 1, 1) := by decide +kernel
theorem dX5_rules_1 : decode cX5_rules 1 = .ok (.iload_n 2, 1) := by decide +kernel
theorem dX5_rules_2 : decode cX5_rules 2 = .ok (.invokestatic 142, 3) := by decide +kernel
theorem dX5_rules_5 : decode cX5_rules 5 = .ok (.ifCond .ne 5, 3) := by decide +kernel
theorem dX5_rules_8 : decode cX5_rules 8 = .ok (.iconst (-1), 1) := by decide +kernel
theorem dX5_rules_9 : decode cX5_rules 9 = .ok (.ireturn, 1) := by decide +kernel
theorem dX5_rules_10 : decode cX5_rules 10 = .ok (.aload_n 0, 1) := by decide +kernel
theorem dX5_rules_11 : decode cX5_rules 11 = .ok (.getfield 12, 3) := by decide +kernel
theorem dX5_rules_14 : decode cX5_rules 14 = .ok (.iload_n 1, 1) := by decide +kernel
theorem dX5_rules_15 : decode cX5_rules 15 = .ok (.invokevirtual 146, 3) := by decide +kernel
theorem dX5_rules_18 : decode cX5_rules 18 = .ok (.istore_n 3, 1) := by decide +kernel
theorem dX5_rules_19 : decode cX5_rules 19 = .ok (.iload_n 3, 1) := by decide +kernel
theorem dX5_rules_20 : decode cX5_rules 20 = .ok (.iload_n 2, 1) := by decide +kernel
theorem dX5_rules_21 : decode cX5_rules 21 = .ok (.if_icmp .ne 6, 3) := by decide +kernel
theorem dX5_rules_24 : decode cX5_rules 24 = .ok (.bipush (-2), 2) := by decide +kernel
theorem dX5_rules_26 : decode cX5_rules 26 = .ok (.ireturn, 1) := by decide +kernel
theorem dX5_rules_27 : decode cX5_rules 27 = .ok (.aload_n 0, 1) := by decide +kernel
theorem dX5_rules_28 : decode cX5_rules 28 = .ok (.getfield 37, 3) := by decide +kernel
theorem dX5_rules_31 : decode cX5_rules 31 = .ok (.iconst 2, 1) := by decide +kernel
theorem dX5_rules_32 : decode cX5_rules 32 = .ok (.iload_n 1, 1) := by decide +kernel
theorem dX5_rules_33 : decode cX5_rules 33 = .ok (.iload_n 3, 1) := by decide +kernel
theorem dX5_rules_34 : decode cX5_rules 34 = .ok (.iconst 0, 1) := by decide +kernel
theorem dX5_rules_35 : decode cX5_rules 35 = .ok (.invokevirtual 135, 3) := by decide +kernel
theorem dX5_rules_38 : decode cX5_rules 38 = .ok (.aload_n 0, 1) := by decide +kernel
theorem dX5_rules_39 : decode cX5_rules 39 = .ok (.getfield 12, 3) := by decide +kernel
theorem dX5_rules_42 : decode cX5_rules 42 = .ok (.iload_n 1, 1) := by decide +kernel
theorem dX5_rules_43 : decode cX5_rules 43 = .ok (.iload_n 2, 1) := by decide +kernel
theorem dX5_rules_44 : decode cX5_rules 44 = .ok (.invokevirtual 150, 3) := by decide +kernel
theorem dX5_rules_47 : decode cX5_rules 47 = .ok (.aload_n 0, 1) := by decide +kernel
theorem dX5_rules_48 : decode cX5_rules 48 = .ok (.invokevirtual 88, 3) := by decide +kernel
theorem dX5_rules_51 : decode cX5_rules 51 = .ok (.iload_n 3, 1) := by decide +kernel
theorem dX5_rules_52 : decode cX5_rules 52 = .ok (.ireturn, 1) := by decide +kernel
theorem dX5_undo_0 : decode cX5_undo 0 = .ok (.aload_n 0, 1) := by decide +kernel
theorem dX5_undo_1 : decode cX5_undo 1 = .ok (.getfield 37, 3) := by decide +kernel
theorem dX5_undo_4 : decode cX5_undo 4 = .ok (.getfield 91, 3) := by decide +kernel
theorem dX5_undo_7 : decode cX5_undo 7 = .ok (.ifCond .gt 6, 3) := by decide +kernel
theorem dX5_undo_10 : decode cX5_undo 10 = .ok (.bipush (-2), 2) := by decide +kernel
theorem dX5_undo_12 : decode cX5_undo 12 = .ok (.ireturn, 1) := by decide +kernel
theorem dX5_undo_13 : decode cX5_undo 13 = .ok (.aload_n 0, 1) := by decide +kernel
theorem dX5_undo_14 : decode cX5_undo 14 = .ok (.getfield 37, 3) := by decide +kernel
theorem dX5_undo_17 : decode cX5_undo 17 = .ok (.aload_n 0, 1) := by decide +kernel
theorem dX5_undo_18 : decode cX5_undo 18 = .ok (.getfield 12, 3) := by decide +kernel
theorem dX5_undo_21 : decode cX5_undo 21 = .ok (.invokevirtual 154, 3) := by decide +kernel
theorem dX5_undo_24 : decode cX5_undo 24 = .ok (.aload_n 0, 1) := by decide +kernel
theorem dX5_undo_25 : decode cX5_undo 25 = .ok (.invokevirtual 88, 3) := by decide +kernel
theorem dX5_undo_28 : decode cX5_undo 28 = .ok (.aload_n 0, 1) := by decide +kernel
theorem dX5_undo_29 : decode cX5_undo 29 = .ok (.getfield 37, 3) := by decide +kernel
theorem dX5_undo_32 : decode cX5_undo 32 = .ok (.getfield 91, 3) := by decide +kernel
theorem dX5_undo_35 : decode cX5_undo 35 = .ok (.ireturn, 1) := by decide +kernel
theorem dX5_ring_0 : decode cX5_ring 0 = .ok (.iload_n 1, 1) := by decide +kernel
theorem dX5_ring_1 : decode cX5_ring 1 = .ok (.iconst 0, 1) := by decide +kernel
theorem dX5_ring_2 : decode cX5_ring 2 = .ok (.aload_n 0, 1) := by decide +kernel
theorem dX5_ring_3 : decode cX5_ring 3 = .ok (.getfield 12, 3) := by decide +kernel
theorem dX5_ring_6 : decode cX5_ring 6 = .ok (.getfield 97, 3) := by decide +kernel
theorem dX5_ring_9 : decode cX5_ring 9 = .ok (.invokestatic 66, 3) := by decide +kernel
theorem dX5_ring_12 : decode cX5_ring 12 = .ok (.ifCond .ne 6, 3) := by decide +kernel
theorem dX5_ring_15 : decode cX5_ring 15 = .ok (.ldc 157, 2) := by decide +kernel
theorem dX5_ring_17 : decode cX5_ring 17 = .ok (.ireturn, 1) := by decide +kernel
theorem dX5_ring_18 : decode cX5_ring 18 = .ok (.aload_n 0, 1) := by decide +kernel
theorem dX5_ring_19 : decode cX5_ring 19 = .ok (.getfield 12, 3) := by decide +kernel
theorem dX5_ring_22 : decode cX5_ring 22 = .ok (.getfield 158, 3) := by decide +kernel
theorem dX5_ring_25 : decode cX5_ring 25 = .ok (.iload_n 1, 1) := by decide +kernel
theorem dX5_ring_26 : decode cX5_ring 26 = .ok (.aaload, 1) := by decide +kernel
theorem dX5_ring_27 : decode cX5_ring 27 = .ok (.astore_n 3, 1) := by decide +kernel
theorem dX5_ring_28 : decode cX5_ring 28 = .ok (.iload_n 2, 1) := by decide +kernel
theorem dX5_ring_29 : decode cX5_ring 29 = .ok (.tableswitch 73 0 5 #[39, 44, 49, 54, 59, 64], 39) := by decide +kernel
theorem dX5_ring_68 : decode cX5_ring 68 = .ok (.aload_n 3, 1) := by decide +kernel
theorem dX5_ring_69 : decode cX5_ring 69 = .ok (.getfield 162, 3) := by decide +kernel
theorem dX5_ring_72 : decode cX5_ring 72 = .ok (.ireturn, 1) := by decide +kernel
theorem dX5_ring_73 : decode cX5_ring 73 = .ok (.aload_n 3, 1) := by decide +kernel
theorem dX5_ring_74 : decode cX5_ring 74 = .ok (.getfield 165, 3) := by decide +kernel
theorem dX5_ring_77 : decode cX5_ring 77 = .ok (.ireturn, 1) := by decide +kernel
theorem dX5_ring_78 : decode cX5_ring 78 = .ok (.aload_n 3, 1) := by decide +kernel
theorem dX5_ring_79 : decode cX5_ring 79 = .ok (.getfield 168, 3) := by decide +kernel
theorem dX5_ring_82 : decode cX5_ring 82 = .ok (.ireturn, 1) := by decide +kernel
theorem dX5_ring_83 : decode cX5_ring 83 = .ok (.aload_n 3, 1) := by decide +kernel
theorem dX5_ring_84 : decode cX5_ring 84 = .ok (.getfield 171, 3) := by decide +kernel
theorem dX5_ring_87 : decode cX5_ring 87 = .ok (.ireturn, 1) := by decide +kernel
theorem dX5_ring_88 : decode cX5_ring 88 = .ok (.aload_n 3, 1) := by decide +kernel
theorem dX5_ring_89 : decode cX5_ring 89 = .ok (.getfield 174, 3) := by decide +kernel
theorem dX5_ring_92 : decode cX5_ring 92 = .ok (.ireturn, 1) := by decide +kernel
theorem dX5_ring_93 : decode cX5_ring 93 = .ok (.aload_n 0, 1) := by decide +kernel
theorem dX5_ring_94 : decode cX5_ring 94 = .ok (.getfield 12, 3) := by decide +kernel
theorem dX5_ring_97 : decode cX5_ring 97 = .ok (.aload_n 3, 1) := by decide +kernel
theorem dX5_ring_98 : decode cX5_ring 98 = .ok (.invokevirtual 112, 3) := by decide +kernel
theorem dX5_ring_101 : decode cX5_ring 101 = .ok (.ireturn, 1) := by decide +kernel
theorem dX5_ring_102 : decode cX5_ring 102 = .ok (.ldc 157, 2) := by decide +kernel
theorem dX5_ring_104 : decode cX5_ring 104 = .ok (.ireturn, 1) := by decide +kernel
theorem dX5_wish_0 : decode cX5_wish 0 = .ok (.iload_n 1, 1) := by decide +kernel
theorem dX5_wish_1 : decode cX5_wish 1 = .ok (.iconst 0, 1) := by decide +kernel
theorem dX5_wish_2 : decode cX5_wish 2 = .ok (.bipush 17, 2) := by decide +kernel
theorem dX5_wish_4 : decode cX5_wish 4 = .ok (.invokestatic 66, 3) := by decide +kernel
theorem dX5_wish_7 : decode cX5_wish 7 = .ok (.ifCond .eq 12, 3) := by decide +kernel
theorem dX5_wish_10 : decode cX5_wish 10 = .ok (.iload_n 2, 1) := by decide +kernel
theorem dX5_wish_11 : decode cX5_wish 11 = .ok (.iconst 0, 1) := by decide +kernel
theorem dX5_wish_12 : decode cX5_wish 12 = .ok (.iconst 1, 1) := by decide +kernel
theorem dX5_wish_13 : decode cX5_wish 13 = .ok (.invokestatic 66, 3) := by decide +kernel
theorem dX5_wish_16 : decode cX5_wish 16 = .ok (.ifCond .ne 6, 3) := by decide +kernel
theorem dX5_wish_19 : decode cX5_wish 19 = .ok (.ldc 157, 2) := by decide +kernel
theorem dX5_wish_21 : decode cX5_wish 21 = .ok (.ireturn, 1) := by decide +kernel
theorem dX5_wish_22 : decode cX5_wish 22 = .ok (.iload_n 2, 1) := by decide +kernel
theorem dX5_wish_23 : decode cX5_wish 23 = .ok (.ifCond .ne 15, 3) := by decide +kernel
theorem dX5_wish_26 : decode cX5_wish 26 = .ok (.aload_n 0, 1) := by decide +kernel
theorem dX5_wish_27 : decode cX5_wish 27 = .ok (.getfield 12, 3) := by decide +kernel
theorem dX5_wish_30 : decode cX5_wish 30 = .ok (.getfield 129, 3) := by decide +kernel
theorem dX5_wish_33 : decode cX5_wish 33 = .ok (.iload_n 1, 1) := by decide +kernel
theorem dX5_wish_34 : decode cX5_wish 34 = .ok (.iaload, 1) := by decide +kernel
theorem dX5_wish_35 : decode cX5_wish 35 = .ok (.goto 12, 3) := by decide +kernel
theorem dX5_wish_38 : decode cX5_wish 38 = .ok (.aload_n 0, 1) := by decide +kernel
theorem dX5_wish_39 : decode cX5_wish 39 = .ok (.getfield 12, 3) := by decide +kernel
theorem dX5_wish_42 : decode cX5_wish 42 = .ok (.getfield 132, 3) := by decide +kernel
theorem dX5_wish_45 : decode cX5_wish 45 = .ok (.iload_n 1, 1) := by decide +kernel
theorem dX5_wish_46 : decode cX5_wish 46 = .ok (.iaload, 1) := by decide +kernel
theorem dX5_wish_47 : decode cX5_wish 47 = .ok (.ireturn, 1) := by decide +kernel
theorem dX5_worst_0 : decode cX5_worst 0 = .ok (.iload_n 1, 1) := by decide +kernel
theorem dX5_worst_1 : decode cX5_worst 1 = .ok (.ifCond .ge 5, 3) := by decide +kernel
theorem dX5_worst_4 : decode cX5_worst 4 = .ok (.iconst (-1), 1) := by decide +kernel
theorem dX5_worst_5 : decode cX5_worst 5 = .ok (.ireturn, 1) := by decide +kernel
theorem dX5_worst_6 : decode cX5_worst 6 = .ok (.iconst 1, 1) := by decide +kernel
theorem dX5_worst_7 : decode cX5_worst 7 = .ok (.istore_n 2, 1) := by decide +kernel
theorem dX5_worst_8 : decode cX5_worst 8 = .ok (.iload_n 2, 1) := by decide +kernel
theorem dX5_worst_9 : decode cX5_worst 9 = .ok (.aload_n 0, 1) := by decide +kernel
theorem dX5_worst_10 : decode cX5_worst 10 = .ok (.getfield 12, 3) := by decide +kernel
theorem dX5_worst_13 : decode cX5_worst 13 = .ok (.getfield 97, 3) := by decide +kernel
theorem dX5_worst_16 : decode cX5_worst 16 = .ok (.if_icmp .gt 23, 3) := by decide +kernel
theorem dX5_worst_19 : decode cX5_worst 19 = .ok (.aload_n 0, 1) := by decide +kernel
theorem dX5_worst_20 : decode cX5_worst 20 = .ok (.getfield 12, 3) := by decide +kernel
theorem dX5_worst_23 : decode cX5_worst 23 = .ok (.iload_n 2, 1) := by decide +kernel
theorem dX5_worst_24 : decode cX5_worst 24 = .ok (.invokevirtual 177, 3) := by decide +kernel
theorem dX5_worst_27 : decode cX5_worst 27 = .ok (.iload_n 1, 1) := by decide +kernel
theorem dX5_worst_28 : decode cX5_worst 28 = .ok (.if_icmp .ne 5, 3) := by decide +kernel
theorem dX5_worst_31 : decode cX5_worst 31 = .ok (.iload_n 2, 1) := by decide +kernel
theorem dX5_worst_32 : decode cX5_worst 32 = .ok (.ireturn, 1) := by decide +kernel
theorem dX5_worst_33 : decode cX5_worst 33 = .ok (.iinc 2 1, 3) := by decide +kernel
theorem dX5_worst_36 : decode cX5_worst 36 = .ok (.goto (-28), 3) := by decide +kernel
theorem dX5_worst_39 : decode cX5_worst 39 = .ok (.bipush (-9), 2) := by decide +kernel
theorem dX5_worst_41 : decode cX5_worst 41 = .ok (.ireturn, 1) := by decide +kernel
theorem dX5_plan_0 : decode cX5_plan 0 = .ok (.iload_n 1, 1) := by decide +kernel
theorem dX5_plan_1 : decode cX5_plan 1 = .ok (.iconst 1, 1) := by decide +kernel
theorem dX5_plan_2 : decode cX5_plan 2 = .ok (.iconst 5, 1) := by decide +kernel
theorem dX5_plan_3 : decode cX5_plan 3 = .ok (.invokestatic 66, 3) := by decide +kernel
theorem dX5_plan_6 : decode cX5_plan 6 = .ok (.ifCond .eq 9, 3) := by decide +kernel
theorem dX5_plan_9 : decode cX5_plan 9 = .ok (.iload_n 2, 1) := by decide +kernel
theorem dX5_plan_10 : decode cX5_plan 10 = .ok (.bipush (-2), 2) := by decide +kernel
theorem dX5_plan_12 : decode cX5_plan 12 = .ok (.if_icmp .ge 5, 3) := by decide +kernel
theorem dX5_plan_15 : decode cX5_plan 15 = .ok (.iconst (-1), 1) := by decide +kernel
theorem dX5_plan_16 : decode cX5_plan 16 = .ok (.ireturn, 1) := by decide +kernel
theorem dX5_plan_17 : decode cX5_plan 17 = .ok (.iload_n 2, 1) := by decide +kernel
theorem dX5_plan_18 : decode cX5_plan 18 = .ok (.iload_n 1, 1) := by decide +kernel
theorem dX5_plan_19 : decode cX5_plan 19 = .ok (.if_icmp .lt 6, 3) := by decide +kernel
theorem dX5_plan_22 : decode cX5_plan 22 = .ok (.bipush (-9), 2) := by decide +kernel
theorem dX5_plan_24 : decode cX5_plan 24 = .ok (.ireturn, 1) := by decide +kernel
theorem dX5_plan_25 : decode cX5_plan 25 = .ok (.aload_n 0, 1) := by decide +kernel
theorem dX5_plan_26 : decode cX5_plan 26 = .ok (.getfield 44, 3) := by decide +kernel
theorem dX5_plan_29 : decode cX5_plan 29 = .ok (.aload_n 0, 1) := by decide +kernel
theorem dX5_plan_30 : decode cX5_plan 30 = .ok (.getfield 12, 3) := by decide +kernel
theorem dX5_plan_33 : decode cX5_plan 33 = .ok (.iload_n 1, 1) := by decide +kernel
theorem dX5_plan_34 : decode cX5_plan 34 = .ok (.invokevirtual 116, 3) := by decide +kernel
theorem dX5_plan_37 : decode cX5_plan 37 = .ok (.aload_n 0, 1) := by decide +kernel
theorem dX5_plan_38 : decode cX5_plan 38 = .ok (.getfield 44, 3) := by decide +kernel
theorem dX5_plan_41 : decode cX5_plan 41 = .ok (.getfield 120, 3) := by decide +kernel
theorem dX5_plan_44 : decode cX5_plan 44 = .ok (.ifCond .ne 6, 3) := by decide +kernel
theorem dX5_plan_47 : decode cX5_plan 47 = .ok (.bipush (-9), 2) := by decide +kernel
theorem dX5_plan_49 : decode cX5_plan 49 = .ok (.ireturn, 1) := by decide +kernel
theorem dX5_plan_50 : decode cX5_plan 50 = .ok (.iload_n 2, 1) := by decide +kernel
theorem dX5_plan_51 : decode cX5_plan 51 = .ok (.iconst (-1), 1) := by decide +kernel
theorem dX5_plan_52 : decode cX5_plan 52 = .ok (.if_icmp .ne 11, 3) := by decide +kernel
theorem dX5_plan_55 : decode cX5_plan 55 = .ok (.aload_n 0, 1) := by decide +kernel
theorem dX5_plan_56 : decode cX5_plan 56 = .ok (.getfield 44, 3) := by decide +kernel
theorem dX5_plan_59 : decode cX5_plan 59 = .ok (.getfield 180, 3) := by decide +kernel
theorem dX5_plan_62 : decode cX5_plan 62 = .ok (.ireturn, 1) := by decide +kernel
theorem dX5_plan_63 : decode cX5_plan 63 = .ok (.iload_n 2, 1) := by decide +kernel
theorem dX5_plan_64 : decode cX5_plan 64 = .ok (.bipush (-2), 2) := by decide +kernel
theorem dX5_plan_66 : decode cX5_plan 66 = .ok (.if_icmp .ne 13, 3) := by decide +kernel
theorem dX5_plan_69 : decode cX5_plan 69 = .ok (.aload_n 0, 1) := by decide +kernel
theorem dX5_plan_70 : decode cX5_plan 70 = .ok (.getfield 44, 3) := by decide +kernel
theorem dX5_plan_73 : decode cX5_plan 73 = .ok (.getfield 120, 3) := by decide +kernel
theorem dX5_plan_76 : decode cX5_plan 76 = .ok (.goto 12, 3) := by decide +kernel
theorem dX5_plan_79 : decode cX5_plan 79 = .ok (.aload_n 0, 1) := by decide +kernel
theorem dX5_plan_80 : decode cX5_plan 80 = .ok (.getfield 44, 3) := by decide +kernel
theorem dX5_plan_83 : decode cX5_plan 83 = .ok (.getfield 123, 3) := by decide +kernel
theorem dX5_plan_86 : decode cX5_plan 86 = .ok (.iload_n 2, 1) := by decide +kernel
theorem dX5_plan_87 : decode cX5_plan 87 = .ok (.iaload, 1) := by decide +kernel
theorem dX5_plan_88 : decode cX5_plan 88 = .ok (.ireturn, 1) := by decide +kernel
theorem dX5_trying_0 : decode cX5_trying 0 = .ok (.iload_n 1, 1) := by decide +kernel
theorem dX5_trying_1 : decode cX5_trying 1 = .ok (.invokestatic 94, 3) := by decide +kernel
theorem dX5_trying_4 : decode cX5_trying 4 = .ok (.ifCond .ne 5, 3) := by decide +kernel
theorem dX5_trying_7 : decode cX5_trying 7 = .ok (.iconst (-1), 1) := by decide +kernel
theorem dX5_trying_8 : decode cX5_trying 8 = .ok (.ireturn, 1) := by decide +kernel
theorem dX5_trying_9 : decode cX5_trying 9 = .ok (.aload_n 0, 1) := by decide +kernel
theorem dX5_trying_10 : decode cX5_trying 10 = .ok (.getfield 12, 3) := by decide +kernel
theorem dX5_trying_13 : decode cX5_trying 13 = .ok (.aload_n 0, 1) := by decide +kernel
theorem dX5_trying_14 : decode cX5_trying 14 = .ok (.getfield 12, 3) := by decide +kernel
theorem dX5_trying_17 : decode cX5_trying 17 = .ok (.invokevirtual 100, 3) := by decide +kernel
theorem dX5_trying_20 : decode cX5_trying 20 = .ok (.iload_n 1, 1) := by decide +kernel
theorem dX5_trying_21 : decode cX5_trying 21 = .ok (.invokevirtual 104, 3) := by decide +kernel
theorem dX5_trying_24 : decode cX5_trying 24 = .ok (.ifCond .ne 6, 3) := by decide +kernel
theorem dX5_trying_27 : decode cX5_trying 27 = .ok (.bipush (-2), 2) := by decide +kernel
theorem dX5_trying_29 : decode cX5_trying 29 = .ok (.ireturn, 1) := by decide +kernel
theorem dX5_trying_30 : decode cX5_trying 30 = .ok (.aload_n 0, 1) := by decide +kernel
theorem dX5_trying_31 : decode cX5_trying 31 = .ok (.getfield 51, 3) := by decide +kernel
theorem dX5_trying_34 : decode cX5_trying 34 = .ok (.aload_n 0, 1) := by decide +kernel
theorem dX5_trying_35 : decode cX5_trying 35 = .ok (.getfield 12, 3) := by decide +kernel
theorem dX5_trying_38 : decode cX5_trying 38 = .ok (.invokevirtual 100, 3) := by decide +kernel
theorem dX5_trying_41 : decode cX5_trying 41 = .ok (.invokevirtual 183, 3) := by decide +kernel
theorem dX5_trying_44 : decode cX5_trying 44 = .ok (.aload_n 0, 1) := by decide +kernel
theorem dX5_trying_45 : decode cX5_trying 45 = .ok (.getfield 51, 3) := by decide +kernel
theorem dX5_trying_48 : decode cX5_trying 48 = .ok (.iload_n 1, 1) := by decide +kernel
theorem dX5_trying_49 : decode cX5_trying 49 = .ok (.aload_n 0, 1) := by decide +kernel
theorem dX5_trying_50 : decode cX5_trying 50 = .ok (.getfield 12, 3) := by decide +kernel
theorem dX5_trying_53 : decode cX5_trying 53 = .ok (.getfield 186, 3) := by decide +kernel
theorem dX5_trying_56 : decode cX5_trying 56 = .ok (.invokevirtual 189, 3) := by decide +kernel
theorem dX5_trying_59 : decode cX5_trying 59 = .ok (.aload_n 0, 1) := by decide +kernel
theorem dX5_trying_60 : decode cX5_trying 60 = .ok (.getfield 12, 3) := by decide +kernel
theorem dX5_trying_63 : decode cX5_trying 63 = .ok (.aload_n 0, 1) := by decide +kernel
theorem dX5_trying_64 : decode cX5_trying 64 = .ok (.getfield 51, 3) := by decide +kernel
theorem dX5_trying_67 : decode cX5_trying 67 = .ok (.invokevirtual 112, 3) := by decide +kernel
theorem dX5_trying_70 : decode cX5_trying 70 = .ok (.ireturn, 1) := by decide +kernel
theorem dX5_sees_0 : decode cX5_sees 0 = .ok (.iload_n 1, 1) := by decide +kernel
theorem dX5_sees_1 : decode cX5_sees 1 = .ok (.sipush (-9999), 3) := by decide +kernel
theorem dX5_sees_4 : decode cX5_sees 4 = .ok (.sipush 9999, 3) := by decide +kernel
theorem dX5_sees_7 : decode cX5_sees 7 = .ok (.invokestatic 66, 3) := by decide +kernel
theorem dX5_sees_10 : decode cX5_sees 10 = .ok (.ifCond .eq 16, 3) := by decide +kernel
theorem dX5_sees_13 : decode cX5_sees 13 = .ok (.iload_n 2, 1) := by decide +kernel
theorem dX5_sees_14 : decode cX5_sees 14 = .ok (.sipush (-9999), 3) := by decide +kernel
theorem dX5_sees_17 : decode cX5_sees 17 = .ok (.sipush 9999, 3) := by decide +kernel
theorem dX5_sees_20 : decode cX5_sees 20 = .ok (.invokestatic 66, 3) := by decide +kernel
theorem dX5_sees_23 : decode cX5_sees 23 = .ok (.ifCond .ne 5, 3) := by decide +kernel
theorem dX5_sees_26 : decode cX5_sees 26 = .ok (.iconst (-1), 1) := by decide +kernel
theorem dX5_sees_27 : decode cX5_sees 27 = .ok (.ireturn, 1) := by decide +kernel
theorem dX5_sees_28 : decode cX5_sees 28 = .ok (.aload_n 0, 1) := by decide +kernel
theorem dX5_sees_29 : decode cX5_sees 29 = .ok (.getfield 62, 3) := by decide +kernel
theorem dX5_sees_32 : decode cX5_sees 32 = .ok (.iconst 4, 1) := by decide +kernel
theorem dX5_sees_33 : decode cX5_sees 33 = .ok (.if_icmp .lt 6, 3) := by decide +kernel
theorem dX5_sees_36 : decode cX5_sees 36 = .ok (.bipush (-3), 2) := by decide +kernel
theorem dX5_sees_38 : decode cX5_sees 38 = .ok (.ireturn, 1) := by decide +kernel
theorem dX5_sees_39 : decode cX5_sees 39 = .ok (.aload_n 0, 1) := by decide +kernel
theorem dX5_sees_40 : decode cX5_sees 40 = .ok (.getfield 55, 3) := by decide +kernel
theorem dX5_sees_43 : decode cX5_sees 43 = .ok (.aload_n 0, 1) := by decide +kernel
theorem dX5_sees_44 : decode cX5_sees 44 = .ok (.getfield 62, 3) := by decide +kernel
theorem dX5_sees_47 : decode cX5_sees 47 = .ok (.iload_n 1, 1) := by decide +kernel
theorem dX5_sees_48 : decode cX5_sees 48 = .ok (.iastore, 1) := by decide +kernel
theorem dX5_sees_49 : decode cX5_sees 49 = .ok (.aload_n 0, 1) := by decide +kernel
theorem dX5_sees_50 : decode cX5_sees 50 = .ok (.getfield 59, 3) := by decide +kernel
theorem dX5_sees_53 : decode cX5_sees 53 = .ok (.aload_n 0, 1) := by decide +kernel
theorem dX5_sees_54 : decode cX5_sees 54 = .ok (.getfield 62, 3) := by decide +kernel
theorem dX5_sees_57 : decode cX5_sees 57 = .ok (.iload_n 2, 1) := by decide +kernel
theorem dX5_sees_58 : decode cX5_sees 58 = .ok (.iastore, 1) := by decide +kernel
theorem dX5_sees_59 : decode cX5_sees 59 = .ok (.aload_n 0, 1) := by decide +kernel
theorem dX5_sees_60 : decode cX5_sees 60 = .ok (.dup, 1) := by decide +kernel
theorem dX5_sees_61 : decode cX5_sees 61 = .ok (.getfield 62, 3) := by decide +kernel
theorem dX5_sees_64 : decode cX5_sees 64 = .ok (.iconst 1, 1) := by decide +kernel
theorem dX5_sees_65 : decode cX5_sees 65 = .ok (.iadd, 1) := by decide +kernel
theorem dX5_sees_66 : decode cX5_sees 66 = .ok (.putfield 62, 3) := by decide +kernel
theorem dX5_sees_69 : decode cX5_sees 69 = .ok (.aload_n 0, 1) := by decide +kernel
theorem dX5_sees_70 : decode cX5_sees 70 = .ok (.getfield 62, 3) := by decide +kernel
theorem dX5_sees_73 : decode cX5_sees 73 = .ok (.ireturn, 1) := by decide +kernel
theorem dX5_forget_0 : decode cX5_forget 0 = .ok (.aload_n 0, 1) := by decide +kernel
theorem dX5_forget_1 : decode cX5_forget 1 = .ok (.getfield 62, 3) := by decide +kernel
theorem dX5_forget_4 : decode cX5_forget 4 = .ok (.istore_n 1, 1) := by decide +kernel
theorem dX5_forget_5 : decode cX5_forget 5 = .ok (.aload_n 0, 1) := by decide +kernel
theorem dX5_forget_6 : decode cX5_forget 6 = .ok (.iconst 0, 1) := by decide +kernel
theorem dX5_forget_7 : decode cX5_forget 7 = .ok (.putfield 62, 3) := by decide +kernel
theorem dX5_forget_10 : decode cX5_forget 10 = .ok (.iload_n 1, 1) := by decide +kernel
theorem dX5_forget_11 : decode cX5_forget 11 = .ok (.ireturn, 1) := by decide +kernel
theorem dX5_unseen_0 : decode cX5_unseen 0 = .ok (.iload_n 1, 1) := by decide +kernel
theorem dX5_unseen_1 : decode cX5_unseen 1 = .ok (.iconst 1, 1) := by decide +kernel
theorem dX5_unseen_2 : decode cX5_unseen 2 = .ok (.aload_n 0, 1) := by decide +kernel
theorem dX5_unseen_3 : decode cX5_unseen 3 = .ok (.getfield 12, 3) := by decide +kernel
theorem dX5_unseen_6 : decode cX5_unseen 6 = .ok (.getfield 97, 3) := by decide +kernel
theorem dX5_unseen_9 : decode cX5_unseen 9 = .ok (.invokestatic 66, 3) := by decide +kernel
theorem dX5_unseen_12 : decode cX5_unseen 12 = .ok (.ifCond .ne 5, 3) := by decide +kernel
theorem dX5_unseen_15 : decode cX5_unseen 15 = .ok (.iconst (-1), 1) := by decide +kernel
theorem dX5_unseen_16 : decode cX5_unseen 16 = .ok (.ireturn, 1) := by decide +kernel
theorem dX5_unseen_17 : decode cX5_unseen 17 = .ok (.iconst 0, 1) := by decide +kernel
theorem dX5_unseen_18 : decode cX5_unseen 18 = .ok (.istore_n 2, 1) := by decide +kernel
theorem dX5_unseen_19 : decode cX5_unseen 19 = .ok (.iconst 0, 1) := by decide +kernel
theorem dX5_unseen_20 : decode cX5_unseen 20 = .ok (.istore_n 3, 1) := by decide +kernel
theorem dX5_unseen_21 : decode cX5_unseen 21 = .ok (.iload_n 3, 1) := by decide +kernel
theorem dX5_unseen_22 : decode cX5_unseen 22 = .ok (.bipush 8, 2) := by decide +kernel
theorem dX5_unseen_24 : decode cX5_unseen 24 = .ok (.if_icmp .ge 40, 3) := by decide +kernel
theorem dX5_unseen_27 : decode cX5_unseen 27 = .ok (.iload_n 3, 1) := by decide +kernel
theorem dX5_unseen_28 : decode cX5_unseen 28 = .ok (.aload_n 0, 1) := by decide +kernel
theorem dX5_unseen_29 : decode cX5_unseen 29 = .ok (.getfield 12, 3) := by decide +kernel
theorem dX5_unseen_32 : decode cX5_unseen 32 = .ok (.getfield 158, 3) := by decide +kernel
theorem dX5_unseen_35 : decode cX5_unseen 35 = .ok (.iload_n 1, 1) := by decide +kernel
theorem dX5_unseen_36 : decode cX5_unseen 36 = .ok (.aaload, 1) := by decide +kernel
theorem dX5_unseen_37 : decode cX5_unseen 37 = .ok (.getfield 162, 3) := by decide +kernel
theorem dX5_unseen_40 : decode cX5_unseen 40 = .ok (.if_icmp .eq 18, 3) := by decide +kernel
theorem dX5_unseen_43 : decode cX5_unseen 43 = .ok (.aload_n 0, 1) := by decide +kernel
theorem dX5_unseen_44 : decode cX5_unseen 44 = .ok (.iload_n 1, 1) := by decide +kernel
theorem dX5_unseen_45 : decode cX5_unseen 45 = .ok (.iload_n 3, 1) := by decide +kernel
theorem dX5_unseen_46 : decode cX5_unseen 46 = .ok (.invokevirtual 192, 3) := by decide +kernel
theorem dX5_unseen_49 : decode cX5_unseen 49 = .ok (.ifCond .eq 9, 3) := by decide +kernel
theorem dX5_unseen_52 : decode cX5_unseen 52 = .ok (.iload_n 2, 1) := by decide +kernel
theorem dX5_unseen_53 : decode cX5_unseen 53 = .ok (.iconst 1, 1) := by decide +kernel
theorem dX5_unseen_54 : decode cX5_unseen 54 = .ok (.iload_n 3, 1) := by decide +kernel
theorem dX5_unseen_55 : decode cX5_unseen 55 = .ok (.ishl, 1) := by decide +kernel
theorem dX5_unseen_56 : decode cX5_unseen 56 = .ok (.ior, 1) := by decide +kernel
theorem dX5_unseen_57 : decode cX5_unseen 57 = .ok (.istore_n 2, 1) := by decide +kernel
theorem dX5_unseen_58 : decode cX5_unseen 58 = .ok (.iinc 3 1, 3) := by decide +kernel
theorem dX5_unseen_61 : decode cX5_unseen 61 = .ok (.goto (-40), 3) := by decide +kernel
theorem dX5_unseen_64 : decode cX5_unseen 64 = .ok (.iload_n 2, 1) := by decide +kernel
theorem dX5_unseen_65 : decode cX5_unseen 65 = .ok (.ireturn, 1) := by decide +kernel
theorem dX5_odds_0 : decode cX5_odds 0 = .ok (.iload_n 1, 1) := by decide +kernel
theorem dX5_odds_1 : decode cX5_odds 1 = .ok (.iconst 0, 1) := by decide +kernel
theorem dX5_odds_2 : decode cX5_odds 2 = .ok (.bipush 10, 2) := by decide +kernel
theorem dX5_odds_4 : decode cX5_odds 4 = .ok (.invokestatic 66, 3) := by decide +kernel
theorem dX5_odds_7 : decode cX5_odds 7 = .ok (.ifCond .eq 23, 3) := by decide +kernel
theorem dX5_odds_10 : decode cX5_odds 10 = .ok (.iload_n 2, 1) := by decide +kernel
theorem dX5_odds_11 : decode cX5_odds 11 = .ok (.iconst 0, 1) := by decide +kernel
theorem dX5_odds_12 : decode cX5_odds 12 = .ok (.sipush 9999, 3) := by decide +kernel
theorem dX5_odds_15 : decode cX5_odds 15 = .ok (.invokestatic 66, 3) := by decide +kernel
theorem dX5_odds_18 : decode cX5_odds 18 = .ok (.ifCond .eq 12, 3) := by decide +kernel
theorem dX5_odds_21 : decode cX5_odds 21 = .ok (.iload_n 3, 1) := by decide +kernel
theorem dX5_odds_22 : decode cX5_odds 22 = .ok (.iconst 0, 1) := by decide +kernel
theorem dX5_odds_23 : decode cX5_odds 23 = .ok (.iconst 1, 1) := by decide +kernel
theorem dX5_odds_24 : decode cX5_odds 24 = .ok (.invokestatic 66, 3) := by decide +kernel
theorem dX5_odds_27 : decode cX5_odds 27 = .ok (.ifCond .ne 5, 3) := by decide +kernel
theorem dX5_odds_30 : decode cX5_odds 30 = .ok (.iconst (-1), 1) := by decide +kernel
theorem dX5_odds_31 : decode cX5_odds 31 = .ok (.ireturn, 1) := by decide +kernel
theorem dX5_odds_32 : decode cX5_odds 32 = .ok (.aload_n 0, 1) := by decide +kernel
theorem dX5_odds_33 : decode cX5_odds 33 = .ok (.getfield 12, 3) := by decide +kernel
theorem dX5_odds_36 : decode cX5_odds 36 = .ok (.getfield 97, 3) := by decide +kernel
theorem dX5_odds_39 : decode cX5_odds 39 = .ok (.bipush 8, 2) := by decide +kernel
theorem dX5_odds_41 : decode cX5_odds 41 = .ok (.invokestatic 195, 3) := by decide +kernel
theorem dX5_odds_44 : decode cX5_odds 44 = .ok (.istore 4, 2) := by decide +kernel
theorem dX5_odds_46 : decode cX5_odds 46 = .ok (.aload_n 0, 1) := by decide +kernel
theorem dX5_odds_47 : decode cX5_odds 47 = .ok (.iload 4, 2) := by decide +kernel
theorem dX5_odds_49 : decode cX5_odds 49 = .ok (.iload_n 1, 1) := by decide +kernel
theorem dX5_odds_50 : decode cX5_odds 50 = .ok (.iload_n 2, 1) := by decide +kernel
theorem dX5_odds_51 : decode cX5_odds 51 = .ok (.invokevirtual 201, 3) := by decide +kernel
theorem dX5_odds_54 : decode cX5_odds 54 = .ok (.istore 5, 2) := by decide +kernel
theorem dX5_odds_56 : decode cX5_odds 56 = .ok (.bipush 10, 2) := by decide +kernel
theorem dX5_odds_58 : decode cX5_odds 58 = .ok (.iload 4, 2) := by decide +kernel
theorem dX5_odds_60 : decode cX5_odds 60 = .ok (.invokestatic 205, 3) := by decide +kernel
theorem dX5_odds_63 : decode cX5_odds 63 = .ok (.istore 6, 2) := by decide +kernel
theorem dX5_odds_65 : decode cX5_odds 65 = .ok (.iload 6, 2) := by decide +kernel
theorem dX5_odds_67 : decode cX5_odds 67 = .ok (.iload 5, 2) := by decide +kernel
theorem dX5_odds_69 : decode cX5_odds 69 = .ok (.invokestatic 208, 3) := by decide +kernel
theorem dX5_odds_72 : decode cX5_odds 72 = .ok (.istore 7, 2) := by decide +kernel
theorem dX5_odds_74 : decode cX5_odds 74 = .ok (.iload_n 3, 1) := by decide +kernel
theorem dX5_odds_75 : decode cX5_odds 75 = .ok (.ifCond .ne 8, 3) := by decide +kernel
theorem dX5_odds_78 : decode cX5_odds 78 = .ok (.iload 5, 2) := by decide +kernel
theorem dX5_odds_80 : decode cX5_odds 80 = .ok (.goto 5, 3) := by decide +kernel
theorem dX5_odds_83 : decode cX5_odds 83 = .ok (.iload 6, 2) := by decide +kernel
theorem dX5_odds_85 : decode cX5_odds 85 = .ok (.istore 8, 2) := by decide +kernel
theorem dX5_odds_87 : decode cX5_odds 87 = .ok (.iload 7, 2) := by decide +kernel
theorem dX5_odds_89 : decode cX5_odds 89 = .ok (.iconst 1, 1) := by decide +kernel
theorem dX5_odds_90 : decode cX5_odds 90 = .ok (.if_icmp .le 11, 3) := by decide +kernel
theorem dX5_odds_93 : decode cX5_odds 93 = .ok (.iload 8, 2) := by decide +kernel
theorem dX5_odds_95 : decode cX5_odds 95 = .ok (.iload 7, 2) := by decide +kernel
theorem dX5_odds_97 : decode cX5_odds 97 = .ok (.idiv, 1) := by decide +kernel
theorem dX5_odds_98 : decode cX5_odds 98 = .ok (.goto 5, 3) := by decide +kernel
theorem dX5_odds_101 : decode cX5_odds 101 = .ok (.iload 8, 2) := by decide +kernel
theorem dX5_odds_103 : decode cX5_odds 103 = .ok (.ireturn, 1) := by decide +kernel
theorem dX5_keep_0 : decode cX5_keep 0 = .ok (.iload_n 1, 1) := by decide +kernel
theorem dX5_keep_1 : decode cX5_keep 1 = .ok (.iconst 0, 1) := by decide +kernel
theorem dX5_keep_2 : decode cX5_keep 2 = .ok (.iconst 1, 1) := by decide +kernel
theorem dX5_keep_3 : decode cX5_keep 3 = .ok (.invokestatic 66, 3) := by decide +kernel
theorem dX5_keep_6 : decode cX5_keep 6 = .ok (.ifCond .ne 5, 3) := by decide +kernel
theorem dX5_keep_9 : decode cX5_keep 9 = .ok (.iconst (-1), 1) := by decide +kernel
theorem dX5_keep_10 : decode cX5_keep 10 = .ok (.ireturn, 1) := by decide +kernel
theorem dX5_keep_11 : decode cX5_keep 11 = .ok (.aload_n 0, 1) := by decide +kernel
theorem dX5_keep_12 : decode cX5_keep 12 = .ok (.getfield 19, 3) := by decide +kernel
theorem dX5_keep_15 : decode cX5_keep 15 = .ok (.iload_n 1, 1) := by decide +kernel
theorem dX5_keep_16 : decode cX5_keep 16 = .ok (.aaload, 1) := by decide +kernel
theorem dX5_keep_17 : decode cX5_keep 17 = .ok (.aload_n 0, 1) := by decide +kernel
theorem dX5_keep_18 : decode cX5_keep 18 = .ok (.getfield 12, 3) := by decide +kernel
theorem dX5_keep_21 : decode cX5_keep 21 = .ok (.invokevirtual 84, 3) := by decide +kernel
theorem dX5_keep_24 : decode cX5_keep 24 = .ok (.aload_n 0, 1) := by decide +kernel
theorem dX5_keep_25 : decode cX5_keep 25 = .ok (.getfield 23, 3) := by decide +kernel
theorem dX5_keep_28 : decode cX5_keep 28 = .ok (.iload_n 1, 1) := by decide +kernel
theorem dX5_keep_29 : decode cX5_keep 29 = .ok (.iconst 1, 1) := by decide +kernel
theorem dX5_keep_30 : decode cX5_keep 30 = .ok (.bastore, 1) := by decide +kernel
theorem dX5_keep_31 : decode cX5_keep 31 = .ok (.aload_n 0, 1) := by decide +kernel
theorem dX5_keep_32 : decode cX5_keep 32 = .ok (.getfield 12, 3) := by decide +kernel
theorem dX5_keep_35 : decode cX5_keep 35 = .ok (.getfield 97, 3) := by decide +kernel
theorem dX5_keep_38 : decode cX5_keep 38 = .ok (.ireturn, 1) := by decide +kernel
theorem dX5_back_0 : decode cX5_back 0 = .ok (.iload_n 1, 1) := by decide +kernel
theorem dX5_back_1 : decode cX5_back 1 = .ok (.iconst 0, 1) := by decide +kernel
theorem dX5_back_2 : decode cX5_back 2 = .ok (.iconst 1, 1) := by decide +kernel
theorem dX5_back_3 : decode cX5_back 3 = .ok (.invokestatic 66, 3) := by decide +kernel
theorem dX5_back_6 : decode cX5_back 6 = .ok (.ifCond .ne 5, 3) := by decide +kernel
theorem dX5_back_9 : decode cX5_back 9 = .ok (.iconst (-1), 1) := by decide +kernel
theorem dX5_back_10 : decode cX5_back 10 = .ok (.ireturn, 1) := by decide +kernel
theorem dX5_back_11 : decode cX5_back 11 = .ok (.aload_n 0, 1) := by decide +kernel
theorem dX5_back_12 : decode cX5_back 12 = .ok (.getfield 23, 3) := by decide +kernel
theorem dX5_back_15 : decode cX5_back 15 = .ok (.iload_n 1, 1) := by decide +kernel
theorem dX5_back_16 : decode cX5_back 16 = .ok (.baload, 1) := by decide +kernel
theorem dX5_back_17 : decode cX5_back 17 = .ok (.ifCond .ne 6, 3) := by decide +kernel
theorem dX5_back_20 : decode cX5_back 20 = .ok (.bipush (-2), 2) := by decide +kernel
theorem dX5_back_22 : decode cX5_back 22 = .ok (.ireturn, 1) := by decide +kernel
theorem dX5_back_23 : decode cX5_back 23 = .ok (.aload_n 0, 1) := by decide +kernel
theorem dX5_back_24 : decode cX5_back 24 = .ok (.getfield 12, 3) := by decide +kernel
theorem dX5_back_27 : decode cX5_back 27 = .ok (.aload_n 0, 1) := by decide +kernel
theorem dX5_back_28 : decode cX5_back 28 = .ok (.getfield 19, 3) := by decide +kernel
theorem dX5_back_31 : decode cX5_back 31 = .ok (.iload_n 1, 1) := by decide +kernel
theorem dX5_back_32 : decode cX5_back 32 = .ok (.aaload, 1) := by decide +kernel
theorem dX5_back_33 : decode cX5_back 33 = .ok (.invokevirtual 84, 3) := by decide +kernel
theorem dX5_back_36 : decode cX5_back 36 = .ok (.aload_n 0, 1) := by decide +kernel
theorem dX5_back_37 : decode cX5_back 37 = .ok (.invokevirtual 88, 3) := by decide +kernel
theorem dX5_back_40 : decode cX5_back 40 = .ok (.aload_n 0, 1) := by decide +kernel
theorem dX5_back_41 : decode cX5_back 41 = .ok (.getfield 37, 3) := by decide +kernel
theorem dX5_back_44 : decode cX5_back 44 = .ok (.iconst 0, 1) := by decide +kernel
theorem dX5_back_45 : decode cX5_back 45 = .ok (.putfield 91, 3) := by decide +kernel
theorem dX5_back_48 : decode cX5_back 48 = .ok (.aload_n 0, 1) := by decide +kernel
theorem dX5_back_49 : decode cX5_back 49 = .ok (.getfield 12, 3) := by decide +kernel
theorem dX5_back_52 : decode cX5_back 52 = .ok (.getfield 97, 3) := by decide +kernel
theorem dX5_back_55 : decode cX5_back 55 = .ok (.ireturn, 1) := by decide +kernel
theorem dX5_count_0 : decode cX5_count 0 = .ok (.iload_n 1, 1) := by decide +kernel
theorem dX5_count_1 : decode cX5_count 1 = .ok (.tableswitch 132 0 9 #[55, 63, 71, 79, 87, 95, 103, 111, 116, 124], 55) := by decide +kernel
theorem dX5_count_56 : decode cX5_count 56 = .ok (.aload_n 0, 1) := by decide +kernel
theorem dX5_count_57 : decode cX5_count 57 = .ok (.getfield 12, 3) := by decide +kernel
theorem dX5_count_60 : decode cX5_count 60 = .ok (.getfield 97, 3) := by decide +kernel
theorem dX5_count_63 : decode cX5_count 63 = .ok (.ireturn, 1) := by decide +kernel
theorem dX5_count_64 : decode cX5_count 64 = .ok (.aload_n 0, 1) := by decide +kernel
theorem dX5_count_65 : decode cX5_count 65 = .ok (.getfield 12, 3) := by decide +kernel
theorem dX5_count_68 : decode cX5_count 68 = .ok (.getfield 186, 3) := by decide +kernel
theorem dX5_count_71 : decode cX5_count 71 = .ok (.ireturn, 1) := by decide +kernel
theorem dX5_count_72 : decode cX5_count 72 = .ok (.aload_n 0, 1) := by decide +kernel
theorem dX5_count_73 : decode cX5_count 73 = .ok (.getfield 12, 3) := by decide +kernel
theorem dX5_count_76 : decode cX5_count 76 = .ok (.getfield 211, 3) := by decide +kernel
theorem dX5_count_79 : decode cX5_count 79 = .ok (.ireturn, 1) := by decide +kernel
theorem dX5_count_80 : decode cX5_count 80 = .ok (.aload_n 0, 1) := by decide +kernel
theorem dX5_count_81 : decode cX5_count 81 = .ok (.getfield 12, 3) := by decide +kernel
theorem dX5_count_84 : decode cX5_count 84 = .ok (.getfield 214, 3) := by decide +kernel
theorem dX5_count_87 : decode cX5_count 87 = .ok (.ireturn, 1) := by decide +kernel
theorem dX5_count_88 : decode cX5_count 88 = .ok (.aload_n 0, 1) := by decide +kernel
theorem dX5_count_89 : decode cX5_count 89 = .ok (.getfield 12, 3) := by decide +kernel
theorem dX5_count_92 : decode cX5_count 92 = .ok (.getfield 217, 3) := by decide +kernel
theorem dX5_count_95 : decode cX5_count 95 = .ok (.ireturn, 1) := by decide +kernel
theorem dX5_count_96 : decode cX5_count 96 = .ok (.aload_n 0, 1) := by decide +kernel
theorem dX5_count_97 : decode cX5_count 97 = .ok (.getfield 12, 3) := by decide +kernel
theorem dX5_count_100 : decode cX5_count 100 = .ok (.invokevirtual 220, 3) := by decide +kernel
theorem dX5_count_103 : decode cX5_count 103 = .ok (.ireturn, 1) := by decide +kernel
theorem dX5_count_104 : decode cX5_count 104 = .ok (.aload_n 0, 1) := by decide +kernel
theorem dX5_count_105 : decode cX5_count 105 = .ok (.getfield 12, 3) := by decide +kernel
theorem dX5_count_108 : decode cX5_count 108 = .ok (.invokevirtual 224, 3) := by decide +kernel
theorem dX5_count_111 : decode cX5_count 111 = .ok (.ireturn, 1) := by decide +kernel
theorem dX5_count_112 : decode cX5_count 112 = .ok (.aload_n 0, 1) := by decide +kernel
theorem dX5_count_113 : decode cX5_count 113 = .ok (.getfield 62, 3) := by decide +kernel
theorem dX5_count_116 : decode cX5_count 116 = .ok (.ireturn, 1) := by decide +kernel
theorem dX5_count_117 : decode cX5_count 117 = .ok (.aload_n 0, 1) := by decide +kernel
theorem dX5_count_118 : decode cX5_count 118 = .ok (.getfield 30, 3) := by decide +kernel
theorem dX5_count_121 : decode cX5_count 121 = .ok (.getfield 74, 3) := by decide +kernel
theorem dX5_count_124 : decode cX5_count 124 = .ok (.ireturn, 1) := by decide +kernel
theorem dX5_count_125 : decode cX5_count 125 = .ok (.aload_n 0, 1) := by decide +kernel
theorem dX5_count_126 : decode cX5_count 126 = .ok (.getfield 37, 3) := by decide +kernel
theorem dX5_count_129 : decode cX5_count 129 = .ok (.getfield 91, 3) := by decide +kernel
theorem dX5_count_132 : decode cX5_count 132 = .ok (.ireturn, 1) := by decide +kernel
theorem dX5_count_133 : decode cX5_count 133 = .ok (.iconst (-1), 1) := by decide +kernel
theorem dX5_count_134 : decode cX5_count 134 = .ok (.ireturn, 1) := by decide +kernel
theorem dX5_lineChanged_0 : decode cX5_lineChanged 0 = .ok (.aload_n 0, 1) := by decide +kernel
theorem dX5_lineChanged_1 : decode cX5_lineChanged 1 = .ok (.getfield 44, 3) := by decide +kernel
theorem dX5_lineChanged_4 : decode cX5_lineChanged 4 = .ok (.iconst 0, 1) := by decide +kernel
theorem dX5_lineChanged_5 : decode cX5_lineChanged 5 = .ok (.putfield 227, 3) := by decide +kernel
theorem dX5_lineChanged_8 : decode cX5_lineChanged 8 = .ok (.return_, 1) := by decide +kernel
theorem dX5_buildKnown_0 : decode cX5_buildKnown 0 = .ok (.aload_n 0, 1) := by decide +kernel
theorem dX5_buildKnown_1 : decode cX5_buildKnown 1 = .ok (.getfield 37, 3) := by decide +kernel
theorem dX5_buildKnown_4 : decode cX5_buildKnown 4 = .ok (.iconst 0, 1) := by decide +kernel
theorem dX5_buildKnown_5 : decode cX5_buildKnown 5 = .ok (.iconst 0, 1) := by decide +kernel
theorem dX5_buildKnown_6 : decode cX5_buildKnown 6 = .ok (.iconst 0, 1) := by decide +kernel
theorem dX5_buildKnown_7 : decode cX5_buildKnown 7 = .ok (.iconst 0, 1) := by decide +kernel
theorem dX5_buildKnown_8 : decode cX5_buildKnown 8 = .ok (.invokevirtual 135, 3) := by decide +kernel
theorem dX5_buildKnown_11 : decode cX5_buildKnown 11 = .ok (.aload_n 0, 1) := by decide +kernel
theorem dX5_buildKnown_12 : decode cX5_buildKnown 12 = .ok (.getfield 12, 3) := by decide +kernel
theorem dX5_buildKnown_15 : decode cX5_buildKnown 15 = .ok (.iload_n 1, 1) := by decide +kernel
theorem dX5_buildKnown_16 : decode cX5_buildKnown 16 = .ok (.invokevirtual 230, 3) := by decide +kernel
theorem dX5_buildKnown_19 : decode cX5_buildKnown 19 = .ok (.aload_n 0, 1) := by decide +kernel
theorem dX5_buildKnown_20 : decode cX5_buildKnown 20 = .ok (.invokevirtual 88, 3) := by decide +kernel
theorem dX5_buildKnown_23 : decode cX5_buildKnown 23 = .ok (.return_, 1) := by decide +kernel
theorem dX5_explainsAllSeen_0 : decode cX5_explainsAllSeen 0 = .ok (.aload_n 0, 1) := by decide +kernel
theorem dX5_explainsAllSeen_1 : decode cX5_explainsAllSeen 1 = .ok (.getfield 12, 3) := by decide +kernel
theorem dX5_explainsAllSeen_4 : decode cX5_explainsAllSeen 4 = .ok (.invokevirtual 100, 3) := by decide +kernel
theorem dX5_explainsAllSeen_7 : decode cX5_explainsAllSeen 7 = .ok (.astore_n 3, 1) := by decide +kernel
theorem dX5_explainsAllSeen_8 : decode cX5_explainsAllSeen 8 = .ok (.aload_n 0, 1) := by decide +kernel
theorem dX5_explainsAllSeen_9 : decode cX5_explainsAllSeen 9 = .ok (.getfield 12, 3) := by decide +kernel
theorem dX5_explainsAllSeen_12 : decode cX5_explainsAllSeen 12 = .ok (.getfield 158, 3) := by decide +kernel
theorem dX5_explainsAllSeen_15 : decode cX5_explainsAllSeen 15 = .ok (.iload_n 1, 1) := by decide +kernel
theorem dX5_explainsAllSeen_16 : decode cX5_explainsAllSeen 16 = .ok (.aaload, 1) := by decide +kernel
theorem dX5_explainsAllSeen_17 : decode cX5_explainsAllSeen 17 = .ok (.getfield 162, 3) := by decide +kernel
theorem dX5_explainsAllSeen_20 : decode cX5_explainsAllSeen 20 = .ok (.istore 4, 2) := by decide +kernel
theorem dX5_explainsAllSeen_22 : decode cX5_explainsAllSeen 22 = .ok (.aload_n 0, 1) := by decide +kernel
theorem dX5_explainsAllSeen_23 : decode cX5_explainsAllSeen 23 = .ok (.getfield 12, 3) := by decide +kernel
theorem dX5_explainsAllSeen_26 : decode cX5_explainsAllSeen 26 = .ok (.getfield 186, 3) := by decide +kernel
theorem dX5_explainsAllSeen_29 : decode cX5_explainsAllSeen 29 = .ok (.aload_n 0, 1) := by decide +kernel
theorem dX5_explainsAllSeen_30 : decode cX5_explainsAllSeen 30 = .ok (.getfield 12, 3) := by decide +kernel
theorem dX5_explainsAllSeen_33 : decode cX5_explainsAllSeen 33 = .ok (.getfield 97, 3) := by decide +kernel
theorem dX5_explainsAllSeen_36 : decode cX5_explainsAllSeen 36 = .ok (.iload_n 1, 1) := by decide +kernel
theorem dX5_explainsAllSeen_37 : decode cX5_explainsAllSeen 37 = .ok (.isub, 1) := by decide +kernel
theorem dX5_explainsAllSeen_38 : decode cX5_explainsAllSeen 38 = .ok (.iconst 1, 1) := by decide +kernel
theorem dX5_explainsAllSeen_39 : decode cX5_explainsAllSeen 39 = .ok (.iadd, 1) := by decide +kernel
theorem dX5_explainsAllSeen_40 : decode cX5_explainsAllSeen 40 = .ok (.imul, 1) := by decide +kernel
theorem dX5_explainsAllSeen_41 : decode cX5_explainsAllSeen 41 = .ok (.istore 5, 2) := by decide +kernel
theorem dX5_explainsAllSeen_43 : decode cX5_explainsAllSeen 43 = .ok (.aload_n 3, 1) := by decide +kernel
theorem dX5_explainsAllSeen_44 : decode cX5_explainsAllSeen 44 = .ok (.getfield 171, 3) := by decide +kernel
theorem dX5_explainsAllSeen_47 : decode cX5_explainsAllSeen 47 = .ok (.iload 5, 2) := by decide +kernel
theorem dX5_explainsAllSeen_49 : decode cX5_explainsAllSeen 49 = .ok (.iload_n 2, 1) := by decide +kernel
theorem dX5_explainsAllSeen_50 : decode cX5_explainsAllSeen 50 = .ok (.invokestatic 233, 3) := by decide +kernel
theorem dX5_explainsAllSeen_53 : decode cX5_explainsAllSeen 53 = .ok (.iload 4, 2) := by decide +kernel
theorem dX5_explainsAllSeen_55 : decode cX5_explainsAllSeen 55 = .ok (.invokestatic 233, 3) := by decide +kernel
theorem dX5_explainsAllSeen_58 : decode cX5_explainsAllSeen 58 = .ok (.isub, 1) := by decide +kernel
theorem dX5_explainsAllSeen_59 : decode cX5_explainsAllSeen 59 = .ok (.imul, 1) := by decide +kernel
theorem dX5_explainsAllSeen_60 : decode cX5_explainsAllSeen 60 = .ok (.iadd, 1) := by decide +kernel
theorem dX5_explainsAllSeen_61 : decode cX5_explainsAllSeen 61 = .ok (.istore 6, 2) := by decide +kernel
theorem dX5_explainsAllSeen_63 : decode cX5_explainsAllSeen 63 = .ok (.aload_n 3, 1) := by decide +kernel
theorem dX5_explainsAllSeen_64 : decode cX5_explainsAllSeen 64 = .ok (.getfield 174, 3) := by decide +kernel
theorem dX5_explainsAllSeen_67 : decode cX5_explainsAllSeen 67 = .ok (.iload 5, 2) := by decide +kernel
theorem dX5_explainsAllSeen_69 : decode cX5_explainsAllSeen 69 = .ok (.iload_n 2, 1) := by decide +kernel
theorem dX5_explainsAllSeen_70 : decode cX5_explainsAllSeen 70 = .ok (.invokestatic 236, 3) := by decide +kernel
theorem dX5_explainsAllSeen_73 : decode cX5_explainsAllSeen 73 = .ok (.iload 4, 2) := by decide +kernel
theorem dX5_explainsAllSeen_75 : decode cX5_explainsAllSeen 75 = .ok (.invokestatic 236, 3) := by decide +kernel
theorem dX5_explainsAllSeen_78 : decode cX5_explainsAllSeen 78 = .ok (.isub, 1) := by decide +kernel
theorem dX5_explainsAllSeen_79 : decode cX5_explainsAllSeen 79 = .ok (.imul, 1) := by decide +kernel
theorem dX5_explainsAllSeen_80 : decode cX5_explainsAllSeen 80 = .ok (.iadd, 1) := by decide +kernel
theorem dX5_explainsAllSeen_81 : decode cX5_explainsAllSeen 81 = .ok (.istore 7, 2) := by decide +kernel
theorem dX5_explainsAllSeen_83 : decode cX5_explainsAllSeen 83 = .ok (.iconst 0, 1) := by decide +kernel
theorem dX5_explainsAllSeen_84 : decode cX5_explainsAllSeen 84 = .ok (.istore 8, 2) := by decide +kernel
theorem dX5_explainsAllSeen_86 : decode cX5_explainsAllSeen 86 = .ok (.iload 8, 2) := by decide +kernel
theorem dX5_explainsAllSeen_88 : decode cX5_explainsAllSeen 88 = .ok (.aload_n 0, 1) := by decide +kernel
theorem dX5_explainsAllSeen_89 : decode cX5_explainsAllSeen 89 = .ok (.getfield 62, 3) := by decide +kernel
theorem dX5_explainsAllSeen_92 : decode cX5_explainsAllSeen 92 = .ok (.if_icmp .ge 41, 3) := by decide +kernel
theorem dX5_explainsAllSeen_95 : decode cX5_explainsAllSeen 95 = .ok (.iload 8, 2) := by decide +kernel
theorem dX5_explainsAllSeen_97 : decode cX5_explainsAllSeen 97 = .ok (.iconst 4, 1) := by decide +kernel
theorem dX5_explainsAllSeen_98 : decode cX5_explainsAllSeen 98 = .ok (.if_icmp .ge 35, 3) := by decide +kernel
theorem dX5_explainsAllSeen_101 : decode cX5_explainsAllSeen 101 = .ok (.aload_n 0, 1) := by decide +kernel
theorem dX5_explainsAllSeen_102 : decode cX5_explainsAllSeen 102 = .ok (.getfield 55, 3) := by decide +kernel
theorem dX5_explainsAllSeen_105 : decode cX5_explainsAllSeen 105 = .ok (.iload 8, 2) := by decide +kernel
theorem dX5_explainsAllSeen_107 : decode cX5_explainsAllSeen 107 = .ok (.iaload, 1) := by decide +kernel
theorem dX5_explainsAllSeen_108 : decode cX5_explainsAllSeen 108 = .ok (.iload 6, 2) := by decide +kernel
theorem dX5_explainsAllSeen_110 : decode cX5_explainsAllSeen 110 = .ok (.if_icmp .ne 15, 3) := by decide +kernel
theorem dX5_explainsAllSeen_113 : decode cX5_explainsAllSeen 113 = .ok (.aload_n 0, 1) := by decide +kernel
theorem dX5_explainsAllSeen_114 : decode cX5_explainsAllSeen 114 = .ok (.getfield 59, 3) := by decide +kernel
theorem dX5_explainsAllSeen_117 : decode cX5_explainsAllSeen 117 = .ok (.iload 8, 2) := by decide +kernel
theorem dX5_explainsAllSeen_119 : decode cX5_explainsAllSeen 119 = .ok (.iaload, 1) := by decide +kernel
theorem dX5_explainsAllSeen_120 : decode cX5_explainsAllSeen 120 = .ok (.iload 7, 2) := by decide +kernel
theorem dX5_explainsAllSeen_122 : decode cX5_explainsAllSeen 122 = .ok (.if_icmp .eq 5, 3) := by decide +kernel
theorem dX5_explainsAllSeen_125 : decode cX5_explainsAllSeen 125 = .ok (.iconst 0, 1) := by decide +kernel
theorem dX5_explainsAllSeen_126 : decode cX5_explainsAllSeen 126 = .ok (.ireturn, 1) := by decide +kernel
theorem dX5_explainsAllSeen_127 : decode cX5_explainsAllSeen 127 = .ok (.iinc 8 1, 3) := by decide +kernel
theorem dX5_explainsAllSeen_130 : decode cX5_explainsAllSeen 130 = .ok (.goto (-44), 3) := by decide +kernel
theorem dX5_explainsAllSeen_133 : decode cX5_explainsAllSeen 133 = .ok (.iconst 1, 1) := by decide +kernel
theorem dX5_explainsAllSeen_134 : decode cX5_explainsAllSeen 134 = .ok (.ireturn, 1) := by decide +kernel
theorem dX5_nearParts_0 : decode cX5_nearParts 0 = .ok (.iconst 0, 1) := by decide +kernel
theorem dX5_nearParts_1 : decode cX5_nearParts 1 = .ok (.istore 4, 2) := by decide +kernel
theorem dX5_nearParts_3 : decode cX5_nearParts 3 = .ok (.iconst 0, 1) := by decide +kernel
theorem dX5_nearParts_4 : decode cX5_nearParts 4 = .ok (.istore 5, 2) := by decide +kernel
theorem dX5_nearParts_6 : decode cX5_nearParts 6 = .ok (.iload 5, 2) := by decide +kernel
theorem dX5_nearParts_8 : decode cX5_nearParts 8 = .ok (.iconst 1, 1) := by decide +kernel
theorem dX5_nearParts_9 : decode cX5_nearParts 9 = .ok (.iload_n 1, 1) := by decide +kernel
theorem dX5_nearParts_10 : decode cX5_nearParts 10 = .ok (.ishl, 1) := by decide +kernel
theorem dX5_nearParts_11 : decode cX5_nearParts 11 = .ok (.if_icmp .ge 61, 3) := by decide +kernel
theorem dX5_nearParts_14 : decode cX5_nearParts 14 = .ok (.aload_n 0, 1) := by decide +kernel
theorem dX5_nearParts_15 : decode cX5_nearParts 15 = .ok (.iload 5, 2) := by decide +kernel
theorem dX5_nearParts_17 : decode cX5_nearParts 17 = .ok (.iload_n 1, 1) := by decide +kernel
theorem dX5_nearParts_18 : decode cX5_nearParts 18 = .ok (.invokevirtual 239, 3) := by decide +kernel
theorem dX5_nearParts_21 : decode cX5_nearParts 21 = .ok (.aload_n 0, 1) := by decide +kernel
theorem dX5_nearParts_22 : decode cX5_nearParts 22 = .ok (.getfield 12, 3) := by decide +kernel
theorem dX5_nearParts_25 : decode cX5_nearParts 25 = .ok (.aload_n 0, 1) := by decide +kernel
theorem dX5_nearParts_26 : decode cX5_nearParts 26 = .ok (.getfield 51, 3) := by decide +kernel
theorem dX5_nearParts_29 : decode cX5_nearParts 29 = .ok (.invokevirtual 112, 3) := by decide +kernel
theorem dX5_nearParts_32 : decode cX5_nearParts 32 = .ok (.iload_n 3, 1) := by decide +kernel
theorem dX5_nearParts_33 : decode cX5_nearParts 33 = .ok (.if_icmp .gt 33, 3) := by decide +kernel
theorem dX5_nearParts_36 : decode cX5_nearParts 36 = .ok (.iload 5, 2) := by decide +kernel
theorem dX5_nearParts_38 : decode cX5_nearParts 38 = .ok (.invokestatic 242, 3) := by decide +kernel
theorem dX5_nearParts_41 : decode cX5_nearParts 41 = .ok (.istore 6, 2) := by decide +kernel
theorem dX5_nearParts_43 : decode cX5_nearParts 43 = .ok (.iload 4, 2) := by decide +kernel
theorem dX5_nearParts_45 : decode cX5_nearParts 45 = .ok (.iload_n 2, 1) := by decide +kernel
theorem dX5_nearParts_46 : decode cX5_nearParts 46 = .ok (.iload 6, 2) := by decide +kernel
theorem dX5_nearParts_48 : decode cX5_nearParts 48 = .ok (.invokestatic 205, 3) := by decide +kernel
theorem dX5_nearParts_51 : decode cX5_nearParts 51 = .ok (.bipush 10, 2) := by decide +kernel
theorem dX5_nearParts_53 : decode cX5_nearParts 53 = .ok (.iload_n 2, 1) := by decide +kernel
theorem dX5_nearParts_54 : decode cX5_nearParts 54 = .ok (.isub, 1) := by decide +kernel
theorem dX5_nearParts_55 : decode cX5_nearParts 55 = .ok (.iload_n 1, 1) := by decide +kernel
theorem dX5_nearParts_56 : decode cX5_nearParts 56 = .ok (.iload 6, 2) := by decide +kernel
theorem dX5_nearParts_58 : decode cX5_nearParts 58 = .ok (.isub, 1) := by decide +kernel
theorem dX5_nearParts_59 : decode cX5_nearParts 59 = .ok (.invokestatic 205, 3) := by decide +kernel
theorem dX5_nearParts_62 : decode cX5_nearParts 62 = .ok (.imul, 1) := by decide +kernel
theorem dX5_nearParts_63 : decode cX5_nearParts 63 = .ok (.iadd, 1) := by decide +kernel
theorem dX5_nearParts_64 : decode cX5_nearParts 64 = .ok (.istore 4, 2) := by decide +kernel
theorem dX5_nearParts_66 : decode cX5_nearParts 66 = .ok (.iinc 5 1, 3) := by decide +kernel
theorem dX5_nearParts_69 : decode cX5_nearParts 69 = .ok (.goto (-63), 3) := by decide +kernel
theorem dX5_nearParts_72 : decode cX5_nearParts 72 = .ok (.iload 4, 2) := by decide +kernel
theorem dX5_nearParts_74 : decode cX5_nearParts 74 = .ok (.ireturn, 1) := by decide +kernel
theorem dX5_slip_0 : decode cX5_slip 0 = .ok (.aload_n 0, 1) := by decide +kernel
theorem dX5_slip_1 : decode cX5_slip 1 = .ok (.getfield 12, 3) := by decide +kernel
theorem dX5_slip_4 : decode cX5_slip 4 = .ok (.getfield 97, 3) := by decide +kernel
theorem dX5_slip_7 : decode cX5_slip 7 = .ok (.iload_n 2, 1) := by decide +kernel
theorem dX5_slip_8 : decode cX5_slip 8 = .ok (.isub, 1) := by decide +kernel
theorem dX5_slip_9 : decode cX5_slip 9 = .ok (.istore_n 3, 1) := by decide +kernel
theorem dX5_slip_10 : decode cX5_slip 10 = .ok (.iload_n 3, 1) := by decide +kernel
theorem dX5_slip_11 : decode cX5_slip 11 = .ok (.ifCond .ge 4, 3) := by decide +kernel
theorem dX5_slip_14 : decode cX5_slip 14 = .ok (.return_, 1) := by decide +kernel
theorem dX5_slip_15 : decode cX5_slip 15 = .ok (.aload_n 0, 1) := by decide +kernel
theorem dX5_slip_16 : decode cX5_slip 16 = .ok (.getfield 51, 3) := by decide +kernel
theorem dX5_slip_19 : decode cX5_slip 19 = .ok (.aload_n 0, 1) := by decide +kernel
theorem dX5_slip_20 : decode cX5_slip 20 = .ok (.getfield 12, 3) := by decide +kernel
theorem dX5_slip_23 : decode cX5_slip 23 = .ok (.getfield 158, 3) := by decide +kernel
theorem dX5_slip_26 : decode cX5_slip 26 = .ok (.iload_n 3, 1) := by decide +kernel
theorem dX5_slip_27 : decode cX5_slip 27 = .ok (.aaload, 1) := by decide +kernel
theorem dX5_slip_28 : decode cX5_slip 28 = .ok (.invokevirtual 183, 3) := by decide +kernel
theorem dX5_slip_31 : decode cX5_slip 31 = .ok (.iload_n 3, 1) := by decide +kernel
theorem dX5_slip_32 : decode cX5_slip 32 = .ok (.iconst 1, 1) := by decide +kernel
theorem dX5_slip_33 : decode cX5_slip 33 = .ok (.iadd, 1) := by decide +kernel
theorem dX5_slip_34 : decode cX5_slip 34 = .ok (.istore 4, 2) := by decide +kernel
theorem dX5_slip_36 : decode cX5_slip 36 = .ok (.iload 4, 2) := by decide +kernel
theorem dX5_slip_38 : decode cX5_slip 38 = .ok (.aload_n 0, 1) := by decide +kernel
theorem dX5_slip_39 : decode cX5_slip 39 = .ok (.getfield 12, 3) := by decide +kernel
theorem dX5_slip_42 : decode cX5_slip 42 = .ok (.getfield 97, 3) := by decide +kernel
theorem dX5_slip_45 : decode cX5_slip 45 = .ok (.if_icmp .gt 54, 3) := by decide +kernel
theorem dX5_slip_48 : decode cX5_slip 48 = .ok (.iload_n 1, 1) := by decide +kernel
theorem dX5_slip_49 : decode cX5_slip 49 = .ok (.iload 4, 2) := by decide +kernel
theorem dX5_slip_51 : decode cX5_slip 51 = .ok (.iload_n 3, 1) := by decide +kernel
theorem dX5_slip_52 : decode cX5_slip 52 = .ok (.isub, 1) := by decide +kernel
theorem dX5_slip_53 : decode cX5_slip 53 = .ok (.iconst 1, 1) := by decide +kernel
theorem dX5_slip_54 : decode cX5_slip 54 = .ok (.isub, 1) := by decide +kernel
theorem dX5_slip_55 : decode cX5_slip 55 = .ok (.ishr, 1) := by decide +kernel
theorem dX5_slip_56 : decode cX5_slip 56 = .ok (.iconst 1, 1) := by decide +kernel
theorem dX5_slip_57 : decode cX5_slip 57 = .ok (.iand, 1) := by decide +kernel
theorem dX5_slip_58 : decode cX5_slip 58 = .ok (.istore 5, 2) := by decide +kernel
theorem dX5_slip_60 : decode cX5_slip 60 = .ok (.aload_n 0, 1) := by decide +kernel
theorem dX5_slip_61 : decode cX5_slip 61 = .ok (.getfield 51, 3) := by decide +kernel
theorem dX5_slip_64 : decode cX5_slip 64 = .ok (.aload_n 0, 1) := by decide +kernel
theorem dX5_slip_65 : decode cX5_slip 65 = .ok (.getfield 12, 3) := by decide +kernel
theorem dX5_slip_68 : decode cX5_slip 68 = .ok (.getfield 158, 3) := by decide +kernel
theorem dX5_slip_71 : decode cX5_slip 71 = .ok (.iload 4, 2) := by decide +kernel
theorem dX5_slip_73 : decode cX5_slip 73 = .ok (.aaload, 1) := by decide +kernel
theorem dX5_slip_74 : decode cX5_slip 74 = .ok (.getfield 162, 3) := by decide +kernel
theorem dX5_slip_77 : decode cX5_slip 77 = .ok (.iload 5, 2) := by decide +kernel
theorem dX5_slip_79 : decode cX5_slip 79 = .ok (.iadd, 1) := by decide +kernel
theorem dX5_slip_80 : decode cX5_slip 80 = .ok (.bipush 8, 2) := by decide +kernel
theorem dX5_slip_82 : decode cX5_slip 82 = .ok (.irem, 1) := by decide +kernel
theorem dX5_slip_83 : decode cX5_slip 83 = .ok (.aload_n 0, 1) := by decide +kernel
theorem dX5_slip_84 : decode cX5_slip 84 = .ok (.getfield 12, 3) := by decide +kernel
theorem dX5_slip_87 : decode cX5_slip 87 = .ok (.getfield 186, 3) := by decide +kernel
theorem dX5_slip_90 : decode cX5_slip 90 = .ok (.invokevirtual 189, 3) := by decide +kernel
theorem dX5_slip_93 : decode cX5_slip 93 = .ok (.iinc 4 1, 3) := by decide +kernel
theorem dX5_slip_96 : decode cX5_slip 96 = .ok (.goto (-60), 3) := by decide +kernel
theorem dX5_slip_99 : decode cX5_slip 99 = .ok (.return_, 1) := by decide +kernel
theorem dX5_power_0 : decode cX5_power 0 = .ok (.iconst 1, 1) := by decide +kernel
theorem dX5_power_1 : decode cX5_power 1 = .ok (.istore_n 2, 1) := by decide +kernel
theorem dX5_power_2 : decode cX5_power 2 = .ok (.iconst 0, 1) := by decide +kernel
theorem dX5_power_3 : decode cX5_power 3 = .ok (.istore_n 3, 1) := by decide +kernel
theorem dX5_power_4 : decode cX5_power 4 = .ok (.iload_n 3, 1) := by decide +kernel
theorem dX5_power_5 : decode cX5_power 5 = .ok (.iload_n 1, 1) := by decide +kernel
theorem dX5_power_6 : decode cX5_power 6 = .ok (.if_icmp .ge 13, 3) := by decide +kernel
theorem dX5_power_9 : decode cX5_power 9 = .ok (.iload_n 2, 1) := by decide +kernel
theorem dX5_power_10 : decode cX5_power 10 = .ok (.iload_n 0, 1) := by decide +kernel
theorem dX5_power_11 : decode cX5_power 11 = .ok (.imul, 1) := by decide +kernel
theorem dX5_power_12 : decode cX5_power 12 = .ok (.istore_n 2, 1) := by decide +kernel
theorem dX5_power_13 : decode cX5_power 13 = .ok (.iinc 3 1, 3) := by decide +kernel
theorem dX5_power_16 : decode cX5_power 16 = .ok (.goto (-12), 3) := by decide +kernel
theorem dX5_power_19 : decode cX5_power 19 = .ok (.iload_n 2, 1) := by decide +kernel
theorem dX5_power_20 : decode cX5_power 20 = .ok (.ireturn, 1) := by decide +kernel
theorem dX5_commonDivisor_0 : decode cX5_commonDivisor 0 = .ok (.iload_n 0, 1) := by decide +kernel
theorem dX5_commonDivisor_1 : decode cX5_commonDivisor 1 = .ok (.istore_n 2, 1) := by decide +kernel
theorem dX5_commonDivisor_2 : decode cX5_commonDivisor 2 = .ok (.iload_n 1, 1) := by decide +kernel
theorem dX5_commonDivisor_3 : decode cX5_commonDivisor 3 = .ok (.istore_n 3, 1) := by decide +kernel
theorem dX5_commonDivisor_4 : decode cX5_commonDivisor 4 = .ok (.iconst 0, 1) := by decide +kernel
theorem dX5_commonDivisor_5 : decode cX5_commonDivisor 5 = .ok (.istore 4, 2) := by decide +kernel
theorem dX5_commonDivisor_7 : decode cX5_commonDivisor 7 = .ok (.iload 4, 2) := by decide +kernel
theorem dX5_commonDivisor_9 : decode cX5_commonDivisor 9 = .ok (.bipush 64, 2) := by decide +kernel
theorem dX5_commonDivisor_11 : decode cX5_commonDivisor 11 = .ok (.if_icmp .ge 23, 3) := by decide +kernel
theorem dX5_commonDivisor_14 : decode cX5_commonDivisor 14 = .ok (.iload_n 3, 1) := by decide +kernel
theorem dX5_commonDivisor_15 : decode cX5_commonDivisor 15 = .ok (.ifCond .eq 19, 3) := by decide +kernel
theorem dX5_commonDivisor_18 : decode cX5_commonDivisor 18 = .ok (.iload_n 2, 1) := by decide +kernel
theorem dX5_commonDivisor_19 : decode cX5_commonDivisor 19 = .ok (.iload_n 3, 1) := by decide +kernel
theorem dX5_commonDivisor_20 : decode cX5_commonDivisor 20 = .ok (.irem, 1) := by decide +kernel
theorem dX5_commonDivisor_21 : decode cX5_commonDivisor 21 = .ok (.istore 5, 2) := by decide +kernel
theorem dX5_commonDivisor_23 : decode cX5_commonDivisor 23 = .ok (.iload_n 3, 1) := by decide +kernel
theorem dX5_commonDivisor_24 : decode cX5_commonDivisor 24 = .ok (.istore_n 2, 1) := by decide +kernel
theorem dX5_commonDivisor_25 : decode cX5_commonDivisor 25 = .ok (.iload 5, 2) := by decide +kernel
theorem dX5_commonDivisor_27 : decode cX5_commonDivisor 27 = .ok (.istore_n 3, 1) := by decide +kernel
theorem dX5_commonDivisor_28 : decode cX5_commonDivisor 28 = .ok (.iinc 4 1, 3) := by decide +kernel
theorem dX5_commonDivisor_31 : decode cX5_commonDivisor 31 = .ok (.goto (-24), 3) := by decide +kernel
theorem dX5_commonDivisor_34 : decode cX5_commonDivisor 34 = .ok (.iload_n 2, 1) := by decide +kernel
theorem dX5_commonDivisor_35 : decode cX5_commonDivisor 35 = .ok (.ireturn, 1) := by decide +kernel
theorem dX5_isWithin_0 : decode cX5_isWithin 0 = .ok (.iload_n 0, 1) := by decide +kernel
theorem dX5_isWithin_1 : decode cX5_isWithin 1 = .ok (.iload_n 1, 1) := by decide +kernel
theorem dX5_isWithin_2 : decode cX5_isWithin 2 = .ok (.if_icmp .lt 12, 3) := by decide +kernel
theorem dX5_isWithin_5 : decode cX5_isWithin 5 = .ok (.iload_n 0, 1) := by decide +kernel
theorem dX5_isWithin_6 : decode cX5_isWithin 6 = .ok (.iload_n 2, 1) := by decide +kernel
theorem dX5_isWithin_7 : decode cX5_isWithin 7 = .ok (.if_icmp .gt 7, 3) := by decide +kernel
theorem dX5_isWithin_10 : decode cX5_isWithin 10 = .ok (.iconst 1, 1) := by decide +kernel
theorem dX5_isWithin_11 : decode cX5_isWithin 11 = .ok (.goto 4, 3) := by decide +kernel
theorem dX5_isWithin_14 : decode cX5_isWithin 14 = .ok (.iconst 0, 1) := by decide +kernel
theorem dX5_isWithin_15 : decode cX5_isWithin 15 = .ok (.ireturn, 1) := by decide +kernel
theorem dX5_isKey_0 : decode cX5_isKey 0 = .ok (.iload_n 0, 1) := by decide +kernel
theorem dX5_isKey_1 : decode cX5_isKey 1 = .ok (.iconst 0, 1) := by decide +kernel
theorem dX5_isKey_2 : decode cX5_isKey 2 = .ok (.bipush 7, 2) := by decide +kernel
theorem dX5_isKey_4 : decode cX5_isKey 4 = .ok (.invokestatic 66, 3) := by decide +kernel
theorem dX5_isKey_7 : decode cX5_isKey 7 = .ok (.ireturn, 1) := by decide +kernel
theorem dX5_isWish_0 : decode cX5_isWish 0 = .ok (.iload_n 0, 1) := by decide +kernel
theorem dX5_isWish_1 : decode cX5_isWish 1 = .ok (.bipush (-99), 2) := by decide +kernel
theorem dX5_isWish_3 : decode cX5_isWish 3 = .ok (.bipush 99, 2) := by decide +kernel
theorem dX5_isWish_5 : decode cX5_isWish 5 = .ok (.invokestatic 66, 3) := by decide +kernel
theorem dX5_isWish_8 : decode cX5_isWish 8 = .ok (.ireturn, 1) := by decide +kernel
theorem dX5_isRule_0 : decode cX5_isRule 0 = .ok (.iload_n 0, 1) := by decide +kernel
theorem dX5_isRule_1 : decode cX5_isRule 1 = .ok (.tableswitch 49 0 2 #[27, 34, 41], 27) := by decide +kernel
theorem dX5_isRule_28 : decode cX5_isRule 28 = .ok (.iload_n 1, 1) := by decide +kernel
theorem dX5_isRule_29 : decode cX5_isRule 29 = .ok (.iconst 0, 1) := by decide +kernel
theorem dX5_isRule_30 : decode cX5_isRule 30 = .ok (.iconst 3, 1) := by decide +kernel
theorem dX5_isRule_31 : decode cX5_isRule 31 = .ok (.invokestatic 66, 3) := by decide +kernel
theorem dX5_isRule_34 : decode cX5_isRule 34 = .ok (.ireturn, 1) := by decide +kernel
theorem dX5_isRule_35 : decode cX5_isRule 35 = .ok (.iload_n 1, 1) := by decide +kernel
theorem dX5_isRule_36 : decode cX5_isRule 36 = .ok (.iconst 0, 1) := by decide +kernel
theorem dX5_isRule_37 : decode cX5_isRule 37 = .ok (.iconst 2, 1) := by decide +kernel
theorem dX5_isRule_38 : decode cX5_isRule 38 = .ok (.invokestatic 66, 3) := by decide +kernel
theorem dX5_isRule_41 : decode cX5_isRule 41 = .ok (.ireturn, 1) := by decide +kernel
theorem dX5_isRule_42 : decode cX5_isRule 42 = .ok (.iload_n 1, 1) := by decide +kernel
theorem dX5_isRule_43 : decode cX5_isRule 43 = .ok (.iconst 0, 1) := by decide +kernel
theorem dX5_isRule_44 : decode cX5_isRule 44 = .ok (.bipush 20, 2) := by decide +kernel
theorem dX5_isRule_46 : decode cX5_isRule 46 = .ok (.invokestatic 66, 3) := by decide +kernel
theorem dX5_isRule_49 : decode cX5_isRule 49 = .ok (.ireturn, 1) := by decide +kernel
theorem dX5_isRule_50 : decode cX5_isRule 50 = .ok (.iconst 0, 1) := by decide +kernel
theorem dX5_isRule_51 : decode cX5_isRule 51 = .ok (.ireturn, 1) := by decide +kernel
theorem dX5_leanX_0 : decode cX5_leanX 0 = .ok (.iload_n 0, 1) := by decide +kernel
theorem dX5_leanX_1 : decode cX5_leanX 1 = .ok (.ifCond .lt 17, 3) := by decide +kernel
theorem dX5_leanX_4 : decode cX5_leanX 4 = .ok (.iload_n 0, 1) := by decide +kernel
theorem dX5_leanX_5 : decode cX5_leanX 5 = .ok (.bipush 8, 2) := by decide +kernel
theorem dX5_leanX_7 : decode cX5_leanX 7 = .ok (.if_icmp .ge 11, 3) := by decide +kernel
theorem dX5_leanX_10 : decode cX5_leanX 10 = .ok (.getstatic 247, 3) := by decide +kernel
theorem dX5_leanX_13 : decode cX5_leanX 13 = .ok (.iload_n 0, 1) := by decide +kernel
theorem dX5_leanX_14 : decode cX5_leanX 14 = .ok (.iaload, 1) := by decide +kernel
theorem dX5_leanX_15 : decode cX5_leanX 15 = .ok (.goto 4, 3) := by decide +kernel
theorem dX5_leanX_18 : decode cX5_leanX 18 = .ok (.iconst 0, 1) := by decide +kernel
theorem dX5_leanX_19 : decode cX5_leanX 19 = .ok (.ireturn, 1) := by decide +kernel
theorem dX5_leanY_0 : decode cX5_leanY 0 = .ok (.iload_n 0, 1) := by decide +kernel
theorem dX5_leanY_1 : decode cX5_leanY 1 = .ok (.ifCond .lt 17, 3) := by decide +kernel
theorem dX5_leanY_4 : decode cX5_leanY 4 = .ok (.iload_n 0, 1) := by decide +kernel
theorem dX5_leanY_5 : decode cX5_leanY 5 = .ok (.bipush 8, 2) := by decide +kernel
theorem dX5_leanY_7 : decode cX5_leanY 7 = .ok (.if_icmp .ge 11, 3) := by decide +kernel
theorem dX5_leanY_10 : decode cX5_leanY 10 = .ok (.getstatic 250, 3) := by decide +kernel
theorem dX5_leanY_13 : decode cX5_leanY 13 = .ok (.iload_n 0, 1) := by decide +kernel
theorem dX5_leanY_14 : decode cX5_leanY 14 = .ok (.iaload, 1) := by decide +kernel
theorem dX5_leanY_15 : decode cX5_leanY 15 = .ok (.goto 4, 3) := by decide +kernel
theorem dX5_leanY_18 : decode cX5_leanY 18 = .ok (.iconst 0, 1) := by decide +kernel
theorem dX5_leanY_19 : decode cX5_leanY 19 = .ok (.ireturn, 1) := by decide +kernel
theorem dJ6_bitCount_0f7a4_0 : decode cJ6_bitCount_0f7a4 0 = .ok (.iload_n 0, 1) := by decide +kernel
theorem dJ6_bitCount_0f7a4_1 : decode cJ6_bitCount_0f7a4 1 = .ok (.iload_n 0, 1) := by decide +kernel
theorem dJ6_bitCount_0f7a4_2 : decode cJ6_bitCount_0f7a4 2 = .ok (.iconst 1, 1) := by decide +kernel
theorem dJ6_bitCount_0f7a4_3 : decode cJ6_bitCount_0f7a4 3 = .ok (.iushr, 1) := by decide +kernel
theorem dJ6_bitCount_0f7a4_4 : decode cJ6_bitCount_0f7a4 4 = .ok (.ldc_w 265, 3) := by decide +kernel
theorem dJ6_bitCount_0f7a4_7 : decode cJ6_bitCount_0f7a4 7 = .ok (.iand, 1) := by decide +kernel
theorem dJ6_bitCount_0f7a4_8 : decode cJ6_bitCount_0f7a4 8 = .ok (.isub, 1) := by decide +kernel
theorem dJ6_bitCount_0f7a4_9 : decode cJ6_bitCount_0f7a4 9 = .ok (.istore_n 0, 1) := by decide +kernel
theorem dJ6_bitCount_0f7a4_10 : decode cJ6_bitCount_0f7a4 10 = .ok (.iload_n 0, 1) := by decide +kernel
theorem dJ6_bitCount_0f7a4_11 : decode cJ6_bitCount_0f7a4 11 = .ok (.ldc_w 266, 3) := by decide +kernel
theorem dJ6_bitCount_0f7a4_14 : decode cJ6_bitCount_0f7a4 14 = .ok (.iand, 1) := by decide +kernel
theorem dJ6_bitCount_0f7a4_15 : decode cJ6_bitCount_0f7a4 15 = .ok (.iload_n 0, 1) := by decide +kernel
theorem dJ6_bitCount_0f7a4_16 : decode cJ6_bitCount_0f7a4 16 = .ok (.iconst 2, 1) := by decide +kernel
theorem dJ6_bitCount_0f7a4_17 : decode cJ6_bitCount_0f7a4 17 = .ok (.iushr, 1) := by decide +kernel
theorem dJ6_bitCount_0f7a4_18 : decode cJ6_bitCount_0f7a4 18 = .ok (.ldc_w 266, 3) := by decide +kernel
theorem dJ6_bitCount_0f7a4_21 : decode cJ6_bitCount_0f7a4 21 = .ok (.iand, 1) := by decide +kernel
theorem dJ6_bitCount_0f7a4_22 : decode cJ6_bitCount_0f7a4 22 = .ok (.iadd, 1) := by decide +kernel
theorem dJ6_bitCount_0f7a4_23 : decode cJ6_bitCount_0f7a4 23 = .ok (.istore_n 0, 1) := by decide +kernel
theorem dJ6_bitCount_0f7a4_24 : decode cJ6_bitCount_0f7a4 24 = .ok (.iload_n 0, 1) := by decide +kernel
theorem dJ6_bitCount_0f7a4_25 : decode cJ6_bitCount_0f7a4 25 = .ok (.iload_n 0, 1) := by decide +kernel
theorem dJ6_bitCount_0f7a4_26 : decode cJ6_bitCount_0f7a4 26 = .ok (.iconst 4, 1) := by decide +kernel
theorem dJ6_bitCount_0f7a4_27 : decode cJ6_bitCount_0f7a4 27 = .ok (.iushr, 1) := by decide +kernel
theorem dJ6_bitCount_0f7a4_28 : decode cJ6_bitCount_0f7a4 28 = .ok (.iadd, 1) := by decide +kernel
theorem dJ6_bitCount_0f7a4_29 : decode cJ6_bitCount_0f7a4 29 = .ok (.ldc_w 267, 3) := by decide +kernel
theorem dJ6_bitCount_0f7a4_32 : decode cJ6_bitCount_0f7a4 32 = .ok (.iand, 1) := by decide +kernel
theorem dJ6_bitCount_0f7a4_33 : decode cJ6_bitCount_0f7a4 33 = .ok (.istore_n 0, 1) := by decide +kernel
theorem dJ6_bitCount_0f7a4_34 : decode cJ6_bitCount_0f7a4 34 = .ok (.iload_n 0, 1) := by decide +kernel
theorem dJ6_bitCount_0f7a4_35 : decode cJ6_bitCount_0f7a4 35 = .ok (.iload_n 0, 1) := by decide +kernel
theorem dJ6_bitCount_0f7a4_36 : decode cJ6_bitCount_0f7a4 36 = .ok (.bipush 8, 2) := by decide +kernel
theorem dJ6_bitCount_0f7a4_38 : decode cJ6_bitCount_0f7a4 38 = .ok (.iushr, 1) := by decide +kernel
theorem dJ6_bitCount_0f7a4_39 : decode cJ6_bitCount_0f7a4 39 = .ok (.iadd, 1) := by decide +kernel
theorem dJ6_bitCount_0f7a4_40 : decode cJ6_bitCount_0f7a4 40 = .ok (.istore_n 0, 1) := by decide +kernel
theorem dJ6_bitCount_0f7a4_41 : decode cJ6_bitCount_0f7a4 41 = .ok (.iload_n 0, 1) := by decide +kernel
theorem dJ6_bitCount_0f7a4_42 : decode cJ6_bitCount_0f7a4 42 = .ok (.iload_n 0, 1) := by decide +kernel
theorem dJ6_bitCount_0f7a4_43 : decode cJ6_bitCount_0f7a4 43 = .ok (.bipush 16, 2) := by decide +kernel
theorem dJ6_bitCount_0f7a4_45 : decode cJ6_bitCount_0f7a4 45 = .ok (.iushr, 1) := by decide +kernel
theorem dJ6_bitCount_0f7a4_46 : decode cJ6_bitCount_0f7a4 46 = .ok (.iadd, 1) := by decide +kernel
theorem dJ6_bitCount_0f7a4_47 : decode cJ6_bitCount_0f7a4 47 = .ok (.istore_n 0, 1) := by decide +kernel
theorem dJ6_bitCount_0f7a4_48 : decode cJ6_bitCount_0f7a4 48 = .ok (.iload_n 0, 1) := by decide +kernel
theorem dJ6_bitCount_0f7a4_49 : decode cJ6_bitCount_0f7a4 49 = .ok (.bipush 63, 2) := by decide +kernel
theorem dJ6_bitCount_0f7a4_51 : decode cJ6_bitCount_0f7a4 51 = .ok (.iand, 1) := by decide +kernel
theorem dJ6_bitCount_0f7a4_52 : decode cJ6_bitCount_0f7a4 52 = .ok (.ireturn, 1) := by decide +kernel
theorem dJ9_floorMod_7cf53_0 : decode cJ9_floorMod_7cf53 0 = .ok (.iload_n 0, 1) := by decide +kernel
theorem dJ9_floorMod_7cf53_1 : decode cJ9_floorMod_7cf53 1 = .ok (.iload_n 1, 1) := by decide +kernel
theorem dJ9_floorMod_7cf53_2 : decode cJ9_floorMod_7cf53 2 = .ok (.irem, 1) := by decide +kernel
theorem dJ9_floorMod_7cf53_3 : decode cJ9_floorMod_7cf53 3 = .ok (.istore_n 2, 1) := by decide +kernel
theorem dJ9_floorMod_7cf53_4 : decode cJ9_floorMod_7cf53 4 = .ok (.iload_n 0, 1) := by decide +kernel
theorem dJ9_floorMod_7cf53_5 : decode cJ9_floorMod_7cf53 5 = .ok (.iload_n 1, 1) := by decide +kernel
theorem dJ9_floorMod_7cf53_6 : decode cJ9_floorMod_7cf53 6 = .ok (.ixor, 1) := by decide +kernel
theorem dJ9_floorMod_7cf53_7 : decode cJ9_floorMod_7cf53 7 = .ok (.ifCond .ge 11, 3) := by decide +kernel
theorem dJ9_floorMod_7cf53_10 : decode cJ9_floorMod_7cf53 10 = .ok (.iload_n 2, 1) := by decide +kernel
theorem dJ9_floorMod_7cf53_11 : decode cJ9_floorMod_7cf53 11 = .ok (.ifCond .eq 7, 3) := by decide +kernel
theorem dJ9_floorMod_7cf53_14 : decode cJ9_floorMod_7cf53 14 = .ok (.iload_n 2, 1) := by decide +kernel
theorem dJ9_floorMod_7cf53_15 : decode cJ9_floorMod_7cf53 15 = .ok (.iload_n 1, 1) := by decide +kernel
theorem dJ9_floorMod_7cf53_16 : decode cJ9_floorMod_7cf53 16 = .ok (.iadd, 1) := by decide +kernel
theorem dJ9_floorMod_7cf53_17 : decode cJ9_floorMod_7cf53 17 = .ok (.ireturn, 1) := by decide +kernel
theorem dJ9_floorMod_7cf53_18 : decode cJ9_floorMod_7cf53 18 = .ok (.iload_n 2, 1) := by decide +kernel
theorem dJ9_floorMod_7cf53_19 : decode cJ9_floorMod_7cf53 19 = .ok (.ireturn, 1) := by decide +kernel
theorem dJ9_abs_0f7a4_0 : decode cJ9_abs_0f7a4 0 = .ok (.iload_n 0, 1) := by decide +kernel
theorem dJ9_abs_0f7a4_1 : decode cJ9_abs_0f7a4 1 = .ok (.ifCond .ge 8, 3) := by decide +kernel
theorem dJ9_abs_0f7a4_4 : decode cJ9_abs_0f7a4 4 = .ok (.iload_n 0, 1) := by decide +kernel
theorem dJ9_abs_0f7a4_5 : decode cJ9_abs_0f7a4 5 = .ok (.ineg, 1) := by decide +kernel
theorem dJ9_abs_0f7a4_6 : decode cJ9_abs_0f7a4 6 = .ok (.goto 4, 3) := by decide +kernel
theorem dJ9_abs_0f7a4_9 : decode cJ9_abs_0f7a4 9 = .ok (.iload_n 0, 1) := by decide +kernel
theorem dJ9_abs_0f7a4_10 : decode cJ9_abs_0f7a4 10 = .ok (.ireturn, 1) := by decide +kernel
theorem dJ9_max_7cf53_0 : decode cJ9_max_7cf53 0 = .ok (.iload_n 0, 1) := by decide +kernel
theorem dJ9_max_7cf53_1 : decode cJ9_max_7cf53 1 = .ok (.iload_n 1, 1) := by decide +kernel
theorem dJ9_max_7cf53_2 : decode cJ9_max_7cf53 2 = .ok (.if_icmp .lt 7, 3) := by decide +kernel
theorem dJ9_max_7cf53_5 : decode cJ9_max_7cf53 5 = .ok (.iload_n 0, 1) := by decide +kernel
theorem dJ9_max_7cf53_6 : decode cJ9_max_7cf53 6 = .ok (.goto 4, 3) := by decide +kernel
theorem dJ9_max_7cf53_9 : decode cJ9_max_7cf53 9 = .ok (.iload_n 1, 1) := by decide +kernel
theorem dJ9_max_7cf53_10 : decode cJ9_max_7cf53 10 = .ok (.ireturn, 1) := by decide +kernel
theorem dJ9_min_7cf53_0 : decode cJ9_min_7cf53 0 = .ok (.iload_n 0, 1) := by decide +kernel
theorem dJ9_min_7cf53_1 : decode cJ9_min_7cf53 1 = .ok (.iload_n 1, 1) := by decide +kernel
theorem dJ9_min_7cf53_2 : decode cJ9_min_7cf53 2 = .ok (.if_icmp .gt 7, 3) := by decide +kernel
theorem dJ9_min_7cf53_5 : decode cJ9_min_7cf53 5 = .ok (.iload_n 0, 1) := by decide +kernel
theorem dJ9_min_7cf53_6 : decode cJ9_min_7cf53 6 = .ok (.goto 4, 3) := by decide +kernel
theorem dJ9_min_7cf53_9 : decode cJ9_min_7cf53 9 = .ok (.iload_n 1, 1) := by decide +kernel
theorem dJ9_min_7cf53_10 : decode cJ9_min_7cf53 10 = .ok (.ireturn, 1) := by decide +kernel
end
section
theorem dX6_init_0 : decode cX6_init 0 = .ok (.aload_n 0, 1) := by decide +kernel
theorem dX6_init_1 : decode cX6_init 1 = .ok (.invokespecial 1, 3) := by decide +kernel
theorem dX6_init_4 : decode cX6_init 4 = .ok (.aload_n 0, 1) := by decide +kernel
theorem dX6_init_5 : decode cX6_init 5 = .ok (.bipush 53, 2) := by decide +kernel
theorem dX6_init_7 : decode cX6_init 7 = .ok (.newarray .int, 2) := by decide +kernel
theorem dX6_init_9 : decode cX6_init 9 = .ok (.putfield 7, 3) := by decide +kernel
theorem dX6_init_12 : decode cX6_init 12 = .ok (.aload_n 0, 1) := by decide +kernel
theorem dX6_init_13 : decode cX6_init 13 = .ok (.sipush 636, 3) := by decide +kernel
theorem dX6_init_16 : decode cX6_init 16 = .ok (.newarray .int, 2) := by decide +kernel
theorem dX6_init_18 : decode cX6_init 18 = .ok (.putfield 13, 3) := by decide +kernel
theorem dX6_init_21 : decode cX6_init 21 = .ok (.aload_n 0, 1) := by decide +kernel
theorem dX6_init_22 : decode cX6_init 22 = .ok (.iconst 4, 1) := by decide +kernel
theorem dX6_init_23 : decode cX6_init 23 = .ok (.newarray .int, 2) := by decide +kernel
theorem dX6_init_25 : decode cX6_init 25 = .ok (.putfield 16, 3) := by decide +kernel
theorem dX6_init_28 : decode cX6_init 28 = .ok (.aload_n 0, 1) := by decide +kernel
theorem dX6_init_29 : decode cX6_init 29 = .ok (.iconst 4, 1) := by decide +kernel
theorem dX6_init_30 : decode cX6_init 30 = .ok (.newarray .int, 2) := by decide +kernel
theorem dX6_init_32 : decode cX6_init 32 = .ok (.putfield 19, 3) := by decide +kernel
theorem dX6_init_35 : decode cX6_init 35 = .ok (.aload_n 0, 1) := by decide +kernel
theorem dX6_init_36 : decode cX6_init 36 = .ok (.iconst 2, 1) := by decide +kernel
theorem dX6_init_37 : decode cX6_init 37 = .ok (.newarray .boolean, 2) := by decide +kernel
theorem dX6_init_39 : decode cX6_init 39 = .ok (.putfield 22, 3) := by decide +kernel
theorem dX6_init_42 : decode cX6_init 42 = .ok (.aload_n 0, 1) := by decide +kernel
theorem dX6_init_43 : decode cX6_init 43 = .ok (.bipush 106, 2) := by decide +kernel
theorem dX6_init_45 : decode cX6_init 45 = .ok (.newarray .int, 2) := by decide +kernel
theorem dX6_init_47 : decode cX6_init 47 = .ok (.putfield 26, 3) := by decide +kernel
theorem dX6_init_50 : decode cX6_init 50 = .ok (.aload_n 0, 1) := by decide +kernel
theorem dX6_init_51 : decode cX6_init 51 = .ok (.bipush 18, 2) := by decide +kernel
theorem dX6_init_53 : decode cX6_init 53 = .ok (.newarray .int, 2) := by decide +kernel
theorem dX6_init_55 : decode cX6_init 55 = .ok (.putfield 29, 3) := by decide +kernel
theorem dX6_init_58 : decode cX6_init 58 = .ok (.aload_n 0, 1) := by decide +kernel
theorem dX6_init_59 : decode cX6_init 59 = .ok (.bipush 18, 2) := by decide +kernel
theorem dX6_init_61 : decode cX6_init 61 = .ok (.newarray .int, 2) := by decide +kernel
theorem dX6_init_63 : decode cX6_init 63 = .ok (.putfield 32, 3) := by decide +kernel
theorem dX6_init_66 : decode cX6_init 66 = .ok (.aload_n 0, 1) := by decide +kernel
theorem dX6_init_67 : decode cX6_init 67 = .ok (.bipush 18, 2) := by decide +kernel
theorem dX6_init_69 : decode cX6_init 69 = .ok (.newarray .int, 2) := by decide +kernel
theorem dX6_init_71 : decode cX6_init 71 = .ok (.putfield 35, 3) := by decide +kernel
theorem dX6_init_74 : decode cX6_init 74 = .ok (.aload_n 0, 1) := by decide +kernel
theorem dX6_init_75 : decode cX6_init 75 = .ok (.bipush 18, 2) := by decide +kernel
theorem dX6_init_77 : decode cX6_init 77 = .ok (.newarray .int, 2) := by decide +kernel
theorem dX6_init_79 : decode cX6_init 79 = .ok (.putfield 38, 3) := by decide +kernel
theorem dX6_init_82 : decode cX6_init 82 = .ok (.aload_n 0, 1) := by decide +kernel
theorem dX6_init_83 : decode cX6_init 83 = .ok (.bipush 18, 2) := by decide +kernel
theorem dX6_init_85 : decode cX6_init 85 = .ok (.newarray .int, 2) := by decide +kernel
theorem dX6_init_87 : decode cX6_init 87 = .ok (.putfield 41, 3) := by decide +kernel
theorem dX6_init_90 : decode cX6_init 90 = .ok (.aload_n 0, 1) := by decide +kernel
theorem dX6_init_91 : decode cX6_init 91 = .ok (.bipush 120, 2) := by decide +kernel
theorem dX6_init_93 : decode cX6_init 93 = .ok (.newarray .int, 2) := by decide +kernel
theorem dX6_init_95 : decode cX6_init 95 = .ok (.putfield 44, 3) := by decide +kernel
theorem dX6_init_98 : decode cX6_init 98 = .ok (.aload_n 0, 1) := by decide +kernel
theorem dX6_init_99 : decode cX6_init 99 = .ok (.bipush 53, 2) := by decide +kernel
theorem dX6_init_101 : decode cX6_init 101 = .ok (.newarray .int, 2) := by decide +kernel
theorem dX6_init_103 : decode cX6_init 103 = .ok (.putfield 47, 3) := by decide +kernel
theorem dX6_init_106 : decode cX6_init 106 = .ok (.aload_n 0, 1) := by decide +kernel
theorem dX6_init_107 : decode cX6_init 107 = .ok (.getfield 7, 3) := by decide +kernel
theorem dX6_init_110 : decode cX6_init 110 = .ok (.invokestatic 50, 3) := by decide +kernel
theorem dX6_init_113 : decode cX6_init 113 = .ok (.aload_n 0, 1) := by decide +kernel
theorem dX6_init_114 : decode cX6_init 114 = .ok (.iconst 1, 1) := by decide +kernel
theorem dX6_init_115 : decode cX6_init 115 = .ok (.putfield 54, 3) := by decide +kernel
theorem dX6_init_118 : decode cX6_init 118 = .ok (.return_, 1) := by decide +kernel
theorem dX6_in_0 : decode cX6_in 0 = .ok (.iload_n 0, 1) := by decide +kernel
theorem dX6_in_1 : decode cX6_in 1 = .ok (.iload_n 1, 1) := by decide +kernel
theorem dX6_in_2 : decode cX6_in 2 = .ok (.if_icmp .lt 12, 3) := by decide +kernel
theorem dX6_in_5 : decode cX6_in 5 = .ok (.iload_n 0, 1) := by decide +kernel
theorem dX6_in_6 : decode cX6_in 6 = .ok (.iload_n 2, 1) := by decide +kernel
theorem dX6_in_7 : decode cX6_in 7 = .ok (.if_icmp .gt 7, 3) := by decide +kernel
theorem dX6_in_10 : decode cX6_in 10 = .ok (.iconst 1, 1) := by decide +kernel
theorem dX6_in_11 : decode cX6_in 11 = .ok (.goto 4, 3) := by decide +kernel
theorem dX6_in_14 : decode cX6_in 14 = .ok (.iconst 0, 1) := by decide +kernel
theorem dX6_in_15 : decode cX6_in 15 = .ok (.ireturn, 1) := by decide +kernel
theorem dX6_has_0 : decode cX6_has 0 = .ok (.iload_n 0, 1) := by decide +kernel
theorem dX6_has_1 : decode cX6_has 1 = .ok (.iload_n 1, 1) := by decide +kernel
theorem dX6_has_2 : decode cX6_has 2 = .ok (.ishr, 1) := by decide +kernel
theorem dX6_has_3 : decode cX6_has 3 = .ok (.iconst 1, 1) := by decide +kernel
theorem dX6_has_4 : decode cX6_has 4 = .ok (.iand, 1) := by decide +kernel
theorem dX6_has_5 : decode cX6_has 5 = .ok (.iconst 1, 1) := by decide +kernel
theorem dX6_has_6 : decode cX6_has 6 = .ok (.if_icmp .ne 7, 3) := by decide +kernel
theorem dX6_has_9 : decode cX6_has 9 = .ok (.iconst 1, 1) := by decide +kernel
theorem dX6_has_10 : decode cX6_has 10 = .ok (.goto 4, 3) := by decide +kernel
theorem dX6_has_13 : decode cX6_has 13 = .ok (.iconst 0, 1) := by decide +kernel
theorem dX6_has_14 : decode cX6_has 14 = .ok (.ireturn, 1) := by decide +kernel
theorem dX6_begins_0 : decode cX6_begins 0 = .ok (.iconst 0, 1) := by decide +kernel
theorem dX6_begins_1 : decode cX6_begins 1 = .ok (.istore_n 1, 1) := by decide +kernel
theorem dX6_begins_2 : decode cX6_begins 2 = .ok (.iload_n 1, 1) := by decide +kernel
theorem dX6_begins_3 : decode cX6_begins 3 = .ok (.bipush 53, 2) := by decide +kernel
theorem dX6_begins_5 : decode cX6_begins 5 = .ok (.if_icmp .ge 13, 3) := by decide +kernel
theorem dX6_begins_8 : decode cX6_begins 8 = .ok (.aload_n 0, 1) := by decide +kernel
theorem dX6_begins_9 : decode cX6_begins 9 = .ok (.iload_n 1, 1) := by decide +kernel
theorem dX6_begins_10 : decode cX6_begins 10 = .ok (.iconst 0, 1) := by decide +kernel
theorem dX6_begins_11 : decode cX6_begins 11 = .ok (.iastore, 1) := by decide +kernel
theorem dX6_begins_12 : decode cX6_begins 12 = .ok (.iinc 1 1, 3) := by decide +kernel
theorem dX6_begins_15 : decode cX6_begins 15 = .ok (.goto (-13), 3) := by decide +kernel
theorem dX6_begins_18 : decode cX6_begins 18 = .ok (.aload_n 0, 1) := by decide +kernel
theorem dX6_begins_19 : decode cX6_begins 19 = .ok (.iconst 0, 1) := by decide +kernel
theorem dX6_begins_20 : decode cX6_begins 20 = .ok (.iconst 1, 1) := by decide +kernel
theorem dX6_begins_21 : decode cX6_begins 21 = .ok (.iastore, 1) := by decide +kernel
theorem dX6_begins_22 : decode cX6_begins 22 = .ok (.return_, 1) := by decide +kernel
theorem dX6_leanX_0 : decode cX6_leanX 0 = .ok (.iload_n 0, 1) := by decide +kernel
theorem dX6_leanX_1 : decode cX6_leanX 1 = .ok (.ifCond .ne 7, 3) := by decide +kernel
theorem dX6_leanX_4 : decode cX6_leanX 4 = .ok (.iconst 2, 1) := by decide +kernel
theorem dX6_leanX_5 : decode cX6_leanX 5 = .ok (.goto 43, 3) := by decide +kernel
theorem dX6_leanX_8 : decode cX6_leanX 8 = .ok (.iload_n 0, 1) := by decide +kernel
theorem dX6_leanX_9 : decode cX6_leanX 9 = .ok (.iconst 4, 1) := by decide +kernel
theorem dX6_leanX_10 : decode cX6_leanX 10 = .ok (.if_icmp .ne 8, 3) := by decide +kernel
theorem dX6_leanX_13 : decode cX6_leanX 13 = .ok (.bipush (-2), 2) := by decide +kernel
theorem dX6_leanX_15 : decode cX6_leanX 15 = .ok (.goto 33, 3) := by decide +kernel
theorem dX6_leanX_18 : decode cX6_leanX 18 = .ok (.iload_n 0, 1) := by decide +kernel
theorem dX6_leanX_19 : decode cX6_leanX 19 = .ok (.iconst 1, 1) := by decide +kernel
theorem dX6_leanX_20 : decode cX6_leanX 20 = .ok (.if_icmp .eq 9, 3) := by decide +kernel
theorem dX6_leanX_23 : decode cX6_leanX 23 = .ok (.iload_n 0, 1) := by decide +kernel
theorem dX6_leanX_24 : decode cX6_leanX 24 = .ok (.bipush 7, 2) := by decide +kernel
theorem dX6_leanX_26 : decode cX6_leanX 26 = .ok (.if_icmp .ne 7, 3) := by decide +kernel
theorem dX6_leanX_29 : decode cX6_leanX 29 = .ok (.iconst 1, 1) := by decide +kernel
theorem dX6_leanX_30 : decode cX6_leanX 30 = .ok (.goto 18, 3) := by decide +kernel
theorem dX6_leanX_33 : decode cX6_leanX 33 = .ok (.iload_n 0, 1) := by decide +kernel
theorem dX6_leanX_34 : decode cX6_leanX 34 = .ok (.iconst 3, 1) := by decide +kernel
theorem dX6_leanX_35 : decode cX6_leanX 35 = .ok (.if_icmp .eq 8, 3) := by decide +kernel
theorem dX6_leanX_38 : decode cX6_leanX 38 = .ok (.iload_n 0, 1) := by decide +kernel
theorem dX6_leanX_39 : decode cX6_leanX 39 = .ok (.iconst 5, 1) := by decide +kernel
theorem dX6_leanX_40 : decode cX6_leanX 40 = .ok (.if_icmp .ne 7, 3) := by decide +kernel
theorem dX6_leanX_43 : decode cX6_leanX 43 = .ok (.iconst (-1), 1) := by decide +kernel
theorem dX6_leanX_44 : decode cX6_leanX 44 = .ok (.goto 4, 3) := by decide +kernel
theorem dX6_leanX_47 : decode cX6_leanX 47 = .ok (.iconst 0, 1) := by decide +kernel
theorem dX6_leanX_48 : decode cX6_leanX 48 = .ok (.ireturn, 1) := by decide +kernel
theorem dX6_leanY_0 : decode cX6_leanY 0 = .ok (.iload_n 0, 1) := by decide +kernel
theorem dX6_leanY_1 : decode cX6_leanY 1 = .ok (.bipush 6, 2) := by decide +kernel
theorem dX6_leanY_3 : decode cX6_leanY 3 = .ok (.iadd, 1) := by decide +kernel
theorem dX6_leanY_4 : decode cX6_leanY 4 = .ok (.bipush 8, 2) := by decide +kernel
theorem dX6_leanY_6 : decode cX6_leanY 6 = .ok (.irem, 1) := by decide +kernel
theorem dX6_leanY_7 : decode cX6_leanY 7 = .ok (.invokestatic 58, 3) := by decide +kernel
theorem dX6_leanY_10 : decode cX6_leanY 10 = .ok (.ireturn, 1) := by decide +kernel
theorem dX6_lays_0 : decode cX6_lays 0 = .ok (.aload_n 0, 1) := by decide +kernel
theorem dX6_lays_1 : decode cX6_lays 1 = .ok (.getfield 32, 3) := by decide +kernel
theorem dX6_lays_4 : decode cX6_lays 4 = .ok (.iload_n 1, 1) := by decide +kernel
theorem dX6_lays_5 : decode cX6_lays 5 = .ok (.aload_n 0, 1) := by decide +kernel
theorem dX6_lays_6 : decode cX6_lays 6 = .ok (.getfield 32, 3) := by decide +kernel
theorem dX6_lays_9 : decode cX6_lays 9 = .ok (.iload_n 1, 1) := by decide +kernel
theorem dX6_lays_10 : decode cX6_lays 10 = .ok (.iconst 1, 1) := by decide +kernel
theorem dX6_lays_11 : decode cX6_lays 11 = .ok (.isub, 1) := by decide +kernel
theorem dX6_lays_12 : decode cX6_lays 12 = .ok (.iaload, 1) := by decide +kernel
theorem dX6_lays_13 : decode cX6_lays 13 = .ok (.iload_n 2, 1) := by decide +kernel
theorem dX6_lays_14 : decode cX6_lays 14 = .ok (.aload_n 0, 1) := by decide +kernel
theorem dX6_lays_15 : decode cX6_lays 15 = .ok (.getfield 29, 3) := by decide +kernel
theorem dX6_lays_18 : decode cX6_lays 18 = .ok (.iload_n 1, 1) := by decide +kernel
theorem dX6_lays_19 : decode cX6_lays 19 = .ok (.iaload, 1) := by decide +kernel
theorem dX6_lays_20 : decode cX6_lays 20 = .ok (.invokestatic 58, 3) := by decide +kernel
theorem dX6_lays_23 : decode cX6_lays 23 = .ok (.imul, 1) := by decide +kernel
theorem dX6_lays_24 : decode cX6_lays 24 = .ok (.iadd, 1) := by decide +kernel
theorem dX6_lays_25 : decode cX6_lays 25 = .ok (.iastore, 1) := by decide +kernel
theorem dX6_lays_26 : decode cX6_lays 26 = .ok (.aload_n 0, 1) := by decide +kernel
theorem dX6_lays_27 : decode cX6_lays 27 = .ok (.getfield 35, 3) := by decide +kernel
theorem dX6_lays_30 : decode cX6_lays 30 = .ok (.iload_n 1, 1) := by decide +kernel
theorem dX6_lays_31 : decode cX6_lays 31 = .ok (.aload_n 0, 1) := by decide +kernel
theorem dX6_lays_32 : decode cX6_lays 32 = .ok (.getfield 35, 3) := by decide +kernel
theorem dX6_lays_35 : decode cX6_lays 35 = .ok (.iload_n 1, 1) := by decide +kernel
theorem dX6_lays_36 : decode cX6_lays 36 = .ok (.iconst 1, 1) := by decide +kernel
theorem dX6_lays_37 : decode cX6_lays 37 = .ok (.isub, 1) := by decide +kernel
theorem dX6_lays_38 : decode cX6_lays 38 = .ok (.iaload, 1) := by decide +kernel
theorem dX6_lays_39 : decode cX6_lays 39 = .ok (.iload_n 2, 1) := by decide +kernel
theorem dX6_lays_40 : decode cX6_lays 40 = .ok (.aload_n 0, 1) := by decide +kernel
theorem dX6_lays_41 : decode cX6_lays 41 = .ok (.getfield 29, 3) := by decide +kernel
theorem dX6_lays_44 : decode cX6_lays 44 = .ok (.iload_n 1, 1) := by decide +kernel
theorem dX6_lays_45 : decode cX6_lays 45 = .ok (.iaload, 1) := by decide +kernel
theorem dX6_lays_46 : decode cX6_lays 46 = .ok (.invokestatic 62, 3) := by decide +kernel
theorem dX6_lays_49 : decode cX6_lays 49 = .ok (.imul, 1) := by decide +kernel
theorem dX6_lays_50 : decode cX6_lays 50 = .ok (.iadd, 1) := by decide +kernel
theorem dX6_lays_51 : decode cX6_lays 51 = .ok (.iastore, 1) := by decide +kernel
theorem dX6_lays_52 : decode cX6_lays 52 = .ok (.aload_n 0, 1) := by decide +kernel
theorem dX6_lays_53 : decode cX6_lays 53 = .ok (.getfield 38, 3) := by decide +kernel
theorem dX6_lays_56 : decode cX6_lays 56 = .ok (.iload_n 1, 1) := by decide +kernel
theorem dX6_lays_57 : decode cX6_lays 57 = .ok (.aload_n 0, 1) := by decide +kernel
theorem dX6_lays_58 : decode cX6_lays 58 = .ok (.getfield 38, 3) := by decide +kernel
theorem dX6_lays_61 : decode cX6_lays 61 = .ok (.iload_n 1, 1) := by decide +kernel
theorem dX6_lays_62 : decode cX6_lays 62 = .ok (.iconst 1, 1) := by decide +kernel
theorem dX6_lays_63 : decode cX6_lays 63 = .ok (.isub, 1) := by decide +kernel
theorem dX6_lays_64 : decode cX6_lays 64 = .ok (.iaload, 1) := by decide +kernel
theorem dX6_lays_65 : decode cX6_lays 65 = .ok (.aload_n 0, 1) := by decide +kernel
theorem dX6_lays_66 : decode cX6_lays 66 = .ok (.getfield 32, 3) := by decide +kernel
theorem dX6_lays_69 : decode cX6_lays 69 = .ok (.iload_n 1, 1) := by decide +kernel
theorem dX6_lays_70 : decode cX6_lays 70 = .ok (.iaload, 1) := by decide +kernel
theorem dX6_lays_71 : decode cX6_lays 71 = .ok (.iadd, 1) := by decide +kernel
theorem dX6_lays_72 : decode cX6_lays 72 = .ok (.iastore, 1) := by decide +kernel
theorem dX6_lays_73 : decode cX6_lays 73 = .ok (.aload_n 0, 1) := by decide +kernel
theorem dX6_lays_74 : decode cX6_lays 74 = .ok (.getfield 41, 3) := by decide +kernel
theorem dX6_lays_77 : decode cX6_lays 77 = .ok (.iload_n 1, 1) := by decide +kernel
theorem dX6_lays_78 : decode cX6_lays 78 = .ok (.aload_n 0, 1) := by decide +kernel
theorem dX6_lays_79 : decode cX6_lays 79 = .ok (.getfield 41, 3) := by decide +kernel
theorem dX6_lays_82 : decode cX6_lays 82 = .ok (.iload_n 1, 1) := by decide +kernel
theorem dX6_lays_83 : decode cX6_lays 83 = .ok (.iconst 1, 1) := by decide +kernel
theorem dX6_lays_84 : decode cX6_lays 84 = .ok (.isub, 1) := by decide +kernel
theorem dX6_lays_85 : decode cX6_lays 85 = .ok (.iaload, 1) := by decide +kernel
theorem dX6_lays_86 : decode cX6_lays 86 = .ok (.aload_n 0, 1) := by decide +kernel
theorem dX6_lays_87 : decode cX6_lays 87 = .ok (.getfield 35, 3) := by decide +kernel
theorem dX6_lays_90 : decode cX6_lays 90 = .ok (.iload_n 1, 1) := by decide +kernel
theorem dX6_lays_91 : decode cX6_lays 91 = .ok (.iaload, 1) := by decide +kernel
theorem dX6_lays_92 : decode cX6_lays 92 = .ok (.iadd, 1) := by decide +kernel
theorem dX6_lays_93 : decode cX6_lays 93 = .ok (.iastore, 1) := by decide +kernel
theorem dX6_lays_94 : decode cX6_lays 94 = .ok (.return_, 1) := by decide +kernel
theorem dX6_layRings_0 : decode cX6_layRings 0 = .ok (.iconst 1, 1) := by decide +kernel
theorem dX6_layRings_1 : decode cX6_layRings 1 = .ok (.istore_n 3, 1) := by decide +kernel
theorem dX6_layRings_2 : decode cX6_layRings 2 = .ok (.iload_n 3, 1) := by decide +kernel
theorem dX6_layRings_3 : decode cX6_layRings 3 = .ok (.aload_n 1, 1) := by decide +kernel
theorem dX6_layRings_4 : decode cX6_layRings 4 = .ok (.iconst 3, 1) := by decide +kernel
theorem dX6_layRings_5 : decode cX6_layRings 5 = .ok (.iaload, 1) := by decide +kernel
theorem dX6_layRings_6 : decode cX6_layRings 6 = .ok (.if_icmp .gt 26, 3) := by decide +kernel
theorem dX6_layRings_9 : decode cX6_layRings 9 = .ok (.aload_n 0, 1) := by decide +kernel
theorem dX6_layRings_10 : decode cX6_layRings 10 = .ok (.getfield 29, 3) := by decide +kernel
theorem dX6_layRings_13 : decode cX6_layRings 13 = .ok (.iload_n 3, 1) := by decide +kernel
theorem dX6_layRings_14 : decode cX6_layRings 14 = .ok (.aload_n 1, 1) := by decide +kernel
theorem dX6_layRings_15 : decode cX6_layRings 15 = .ok (.iconst 4, 1) := by decide +kernel
theorem dX6_layRings_16 : decode cX6_layRings 16 = .ok (.iload_n 3, 1) := by decide +kernel
theorem dX6_layRings_17 : decode cX6_layRings 17 = .ok (.iadd, 1) := by decide +kernel
theorem dX6_layRings_18 : decode cX6_layRings 18 = .ok (.iaload, 1) := by decide +kernel
theorem dX6_layRings_19 : decode cX6_layRings 19 = .ok (.iastore, 1) := by decide +kernel
theorem dX6_layRings_20 : decode cX6_layRings 20 = .ok (.aload_n 0, 1) := by decide +kernel
theorem dX6_layRings_21 : decode cX6_layRings 21 = .ok (.iload_n 3, 1) := by decide +kernel
theorem dX6_layRings_22 : decode cX6_layRings 22 = .ok (.iload_n 2, 1) := by decide +kernel
theorem dX6_layRings_23 : decode cX6_layRings 23 = .ok (.invokevirtual 65, 3) := by decide +kernel
theorem dX6_layRings_26 : decode cX6_layRings 26 = .ok (.iinc 3 1, 3) := by decide +kernel
theorem dX6_layRings_29 : decode cX6_layRings 29 = .ok (.goto (-27), 3) := by decide +kernel
theorem dX6_layRings_32 : decode cX6_layRings 32 = .ok (.return_, 1) := by decide +kernel
theorem dX6_far_0 : decode cX6_far 0 = .ok (.iload_n 0, 1) := by decide +kernel
theorem dX6_far_1 : decode cX6_far 1 = .ok (.ifCond .ge 8, 3) := by decide +kernel
theorem dX6_far_4 : decode cX6_far 4 = .ok (.iload_n 0, 1) := by decide +kernel
theorem dX6_far_5 : decode cX6_far 5 = .ok (.ineg, 1) := by decide +kernel
theorem dX6_far_6 : decode cX6_far 6 = .ok (.goto 4, 3) := by decide +kernel
theorem dX6_far_9 : decode cX6_far 9 = .ok (.iload_n 0, 1) := by decide +kernel
theorem dX6_far_10 : decode cX6_far 10 = .ok (.ireturn, 1) := by decide +kernel
theorem dX6_costOf_0 : decode cX6_costOf 0 = .ok (.aload_n 0, 1) := by decide +kernel
theorem dX6_costOf_1 : decode cX6_costOf 1 = .ok (.getfield 38, 3) := by decide +kernel
theorem dX6_costOf_4 : decode cX6_costOf 4 = .ok (.iload_n 1, 1) := by decide +kernel
theorem dX6_costOf_5 : decode cX6_costOf 5 = .ok (.iaload, 1) := by decide +kernel
theorem dX6_costOf_6 : decode cX6_costOf 6 = .ok (.aload_n 0, 1) := by decide +kernel
theorem dX6_costOf_7 : decode cX6_costOf 7 = .ok (.getfield 7, 3) := by decide +kernel
theorem dX6_costOf_10 : decode cX6_costOf 10 = .ok (.bipush 17, 2) := by decide +kernel
theorem dX6_costOf_12 : decode cX6_costOf 12 = .ok (.iload_n 1, 1) := by decide +kernel
theorem dX6_costOf_13 : decode cX6_costOf 13 = .ok (.iadd, 1) := by decide +kernel
theorem dX6_costOf_14 : decode cX6_costOf 14 = .ok (.iaload, 1) := by decide +kernel
theorem dX6_costOf_15 : decode cX6_costOf 15 = .ok (.isub, 1) := by decide +kernel
theorem dX6_costOf_16 : decode cX6_costOf 16 = .ok (.invokestatic 69, 3) := by decide +kernel
theorem dX6_costOf_19 : decode cX6_costOf 19 = .ok (.istore_n 2, 1) := by decide +kernel
theorem dX6_costOf_20 : decode cX6_costOf 20 = .ok (.aload_n 0, 1) := by decide +kernel
theorem dX6_costOf_21 : decode cX6_costOf 21 = .ok (.getfield 41, 3) := by decide +kernel
theorem dX6_costOf_24 : decode cX6_costOf 24 = .ok (.iload_n 1, 1) := by decide +kernel
theorem dX6_costOf_25 : decode cX6_costOf 25 = .ok (.iaload, 1) := by decide +kernel
theorem dX6_costOf_26 : decode cX6_costOf 26 = .ok (.aload_n 0, 1) := by decide +kernel
theorem dX6_costOf_27 : decode cX6_costOf 27 = .ok (.getfield 7, 3) := by decide +kernel
theorem dX6_costOf_30 : decode cX6_costOf 30 = .ok (.bipush 35, 2) := by decide +kernel
theorem dX6_costOf_32 : decode cX6_costOf 32 = .ok (.iload_n 1, 1) := by decide +kernel
theorem dX6_costOf_33 : decode cX6_costOf 33 = .ok (.iadd, 1) := by decide +kernel
theorem dX6_costOf_34 : decode cX6_costOf 34 = .ok (.iaload, 1) := by decide +kernel
theorem dX6_costOf_35 : decode cX6_costOf 35 = .ok (.isub, 1) := by decide +kernel
theorem dX6_costOf_36 : decode cX6_costOf 36 = .ok (.invokestatic 69, 3) := by decide +kernel
theorem dX6_costOf_39 : decode cX6_costOf 39 = .ok (.istore_n 3, 1) := by decide +kernel
theorem dX6_costOf_40 : decode cX6_costOf 40 = .ok (.aload_n 0, 1) := by decide +kernel
theorem dX6_costOf_41 : decode cX6_costOf 41 = .ok (.getfield 7, 3) := by decide +kernel
theorem dX6_costOf_44 : decode cX6_costOf 44 = .ok (.iconst 1, 1) := by decide +kernel
theorem dX6_costOf_45 : decode cX6_costOf 45 = .ok (.iaload, 1) := by decide +kernel
theorem dX6_costOf_46 : decode cX6_costOf 46 = .ok (.ifCond .ne 9, 3) := by decide +kernel
theorem dX6_costOf_49 : decode cX6_costOf 49 = .ok (.iload_n 2, 1) := by decide +kernel
theorem dX6_costOf_50 : decode cX6_costOf 50 = .ok (.iload_n 3, 1) := by decide +kernel
theorem dX6_costOf_51 : decode cX6_costOf 51 = .ok (.iadd, 1) := by decide +kernel
theorem dX6_costOf_52 : decode cX6_costOf 52 = .ok (.goto 33, 3) := by decide +kernel
theorem dX6_costOf_55 : decode cX6_costOf 55 = .ok (.aload_n 0, 1) := by decide +kernel
theorem dX6_costOf_56 : decode cX6_costOf 56 = .ok (.getfield 7, 3) := by decide +kernel
theorem dX6_costOf_59 : decode cX6_costOf 59 = .ok (.iconst 1, 1) := by decide +kernel
theorem dX6_costOf_60 : decode cX6_costOf 60 = .ok (.iaload, 1) := by decide +kernel
theorem dX6_costOf_61 : decode cX6_costOf 61 = .ok (.iconst 1, 1) := by decide +kernel
theorem dX6_costOf_62 : decode cX6_costOf 62 = .ok (.if_icmp .ne 16, 3) := by decide +kernel
theorem dX6_costOf_65 : decode cX6_costOf 65 = .ok (.iload_n 2, 1) := by decide +kernel
theorem dX6_costOf_66 : decode cX6_costOf 66 = .ok (.iload_n 3, 1) := by decide +kernel
theorem dX6_costOf_67 : decode cX6_costOf 67 = .ok (.if_icmp .le 7, 3) := by decide +kernel
theorem dX6_costOf_70 : decode cX6_costOf 70 = .ok (.iload_n 2, 1) := by decide +kernel
theorem dX6_costOf_71 : decode cX6_costOf 71 = .ok (.goto 14, 3) := by decide +kernel
theorem dX6_costOf_74 : decode cX6_costOf 74 = .ok (.iload_n 3, 1) := by decide +kernel
theorem dX6_costOf_75 : decode cX6_costOf 75 = .ok (.goto 10, 3) := by decide +kernel
theorem dX6_costOf_78 : decode cX6_costOf 78 = .ok (.iload_n 2, 1) := by decide +kernel
theorem dX6_costOf_79 : decode cX6_costOf 79 = .ok (.iload_n 2, 1) := by decide +kernel
theorem dX6_costOf_80 : decode cX6_costOf 80 = .ok (.imul, 1) := by decide +kernel
theorem dX6_costOf_81 : decode cX6_costOf 81 = .ok (.iload_n 3, 1) := by decide +kernel
theorem dX6_costOf_82 : decode cX6_costOf 82 = .ok (.iload_n 3, 1) := by decide +kernel
theorem dX6_costOf_83 : decode cX6_costOf 83 = .ok (.imul, 1) := by decide +kernel
theorem dX6_costOf_84 : decode cX6_costOf 84 = .ok (.iadd, 1) := by decide +kernel
theorem dX6_costOf_85 : decode cX6_costOf 85 = .ok (.ireturn, 1) := by decide +kernel
theorem dX6_isBarred_0 : decode cX6_isBarred 0 = .ok (.iload_n 2, 1) := by decide +kernel
theorem dX6_isBarred_1 : decode cX6_isBarred 1 = .ok (.iload_n 1, 1) := by decide +kernel
theorem dX6_isBarred_2 : decode cX6_isBarred 2 = .ok (.isub, 1) := by decide +kernel
theorem dX6_isBarred_3 : decode cX6_isBarred 3 = .ok (.bipush 8, 2) := by decide +kernel
theorem dX6_isBarred_5 : decode cX6_isBarred 5 = .ok (.iadd, 1) := by decide +kernel
theorem dX6_isBarred_6 : decode cX6_isBarred 6 = .ok (.bipush 8, 2) := by decide +kernel
theorem dX6_isBarred_8 : decode cX6_isBarred 8 = .ok (.irem, 1) := by decide +kernel
theorem dX6_isBarred_9 : decode cX6_isBarred 9 = .ok (.istore_n 3, 1) := by decide +kernel
theorem dX6_isBarred_10 : decode cX6_isBarred 10 = .ok (.iload_n 0, 1) := by decide +kernel
theorem dX6_isBarred_11 : decode cX6_isBarred 11 = .ok (.ifCond .le 7, 3) := by decide +kernel
theorem dX6_isBarred_14 : decode cX6_isBarred 14 = .ok (.iload_n 3, 1) := by decide +kernel
theorem dX6_isBarred_15 : decode cX6_isBarred 15 = .ok (.ifCond .eq 29, 3) := by decide +kernel
theorem dX6_isBarred_18 : decode cX6_isBarred 18 = .ok (.iload_n 0, 1) := by decide +kernel
theorem dX6_isBarred_19 : decode cX6_isBarred 19 = .ok (.iconst 2, 1) := by decide +kernel
theorem dX6_isBarred_20 : decode cX6_isBarred 20 = .ok (.if_icmp .ne 8, 3) := by decide +kernel
theorem dX6_isBarred_23 : decode cX6_isBarred 23 = .ok (.iload_n 3, 1) := by decide +kernel
theorem dX6_isBarred_24 : decode cX6_isBarred 24 = .ok (.iconst 4, 1) := by decide +kernel
theorem dX6_isBarred_25 : decode cX6_isBarred 25 = .ok (.if_icmp .eq 19, 3) := by decide +kernel
theorem dX6_isBarred_28 : decode cX6_isBarred 28 = .ok (.iload_n 0, 1) := by decide +kernel
theorem dX6_isBarred_29 : decode cX6_isBarred 29 = .ok (.iconst 3, 1) := by decide +kernel
theorem dX6_isBarred_30 : decode cX6_isBarred 30 = .ok (.if_icmp .ne 18, 3) := by decide +kernel
theorem dX6_isBarred_33 : decode cX6_isBarred 33 = .ok (.iload_n 3, 1) := by decide +kernel
theorem dX6_isBarred_34 : decode cX6_isBarred 34 = .ok (.iconst 1, 1) := by decide +kernel
theorem dX6_isBarred_35 : decode cX6_isBarred 35 = .ok (.if_icmp .eq 9, 3) := by decide +kernel
theorem dX6_isBarred_38 : decode cX6_isBarred 38 = .ok (.iload_n 3, 1) := by decide +kernel
theorem dX6_isBarred_39 : decode cX6_isBarred 39 = .ok (.bipush 7, 2) := by decide +kernel
theorem dX6_isBarred_41 : decode cX6_isBarred 41 = .ok (.if_icmp .ne 7, 3) := by decide +kernel
theorem dX6_isBarred_44 : decode cX6_isBarred 44 = .ok (.iconst 1, 1) := by decide +kernel
theorem dX6_isBarred_45 : decode cX6_isBarred 45 = .ok (.goto 4, 3) := by decide +kernel
theorem dX6_isBarred_48 : decode cX6_isBarred 48 = .ok (.iconst 0, 1) := by decide +kernel
theorem dX6_isBarred_49 : decode cX6_isBarred 49 = .ok (.ireturn, 1) := by decide +kernel
theorem dX6_mayBe_0 : decode cX6_mayBe 0 = .ok (.aload_n 0, 1) := by decide +kernel
theorem dX6_mayBe_1 : decode cX6_mayBe 1 = .ok (.getfield 29, 3) := by decide +kernel
theorem dX6_mayBe_4 : decode cX6_mayBe 4 = .ok (.iload_n 2, 1) := by decide +kernel
theorem dX6_mayBe_5 : decode cX6_mayBe 5 = .ok (.iload_n 3, 1) := by decide +kernel
theorem dX6_mayBe_6 : decode cX6_mayBe 6 = .ok (.iastore, 1) := by decide +kernel
theorem dX6_mayBe_7 : decode cX6_mayBe 7 = .ok (.aload_n 0, 1) := by decide +kernel
theorem dX6_mayBe_8 : decode cX6_mayBe 8 = .ok (.iload_n 2, 1) := by decide +kernel
theorem dX6_mayBe_9 : decode cX6_mayBe 9 = .ok (.iload 4, 2) := by decide +kernel
theorem dX6_mayBe_11 : decode cX6_mayBe 11 = .ok (.invokevirtual 65, 3) := by decide +kernel
theorem dX6_mayBe_14 : decode cX6_mayBe 14 = .ok (.aload_n 1, 1) := by decide +kernel
theorem dX6_mayBe_15 : decode cX6_mayBe 15 = .ok (.iconst 2, 1) := by decide +kernel
theorem dX6_mayBe_16 : decode cX6_mayBe 16 = .ok (.iaload, 1) := by decide +kernel
theorem dX6_mayBe_17 : decode cX6_mayBe 17 = .ok (.istore 5, 2) := by decide +kernel
theorem dX6_mayBe_19 : decode cX6_mayBe 19 = .ok (.iload 5, 2) := by decide +kernel
theorem dX6_mayBe_21 : decode cX6_mayBe 21 = .ok (.ifCond .eq 63, 3) := by decide +kernel
theorem dX6_mayBe_24 : decode cX6_mayBe 24 = .ok (.aload_n 0, 1) := by decide +kernel
theorem dX6_mayBe_25 : decode cX6_mayBe 25 = .ok (.getfield 32, 3) := by decide +kernel
theorem dX6_mayBe_28 : decode cX6_mayBe 28 = .ok (.iload_n 2, 1) := by decide +kernel
theorem dX6_mayBe_29 : decode cX6_mayBe 29 = .ok (.iaload, 1) := by decide +kernel
theorem dX6_mayBe_30 : decode cX6_mayBe 30 = .ok (.aload_n 1, 1) := by decide +kernel
theorem dX6_mayBe_31 : decode cX6_mayBe 31 = .ok (.bipush 17, 2) := by decide +kernel
theorem dX6_mayBe_33 : decode cX6_mayBe 33 = .ok (.iload_n 2, 1) := by decide +kernel
theorem dX6_mayBe_34 : decode cX6_mayBe 34 = .ok (.iadd, 1) := by decide +kernel
theorem dX6_mayBe_35 : decode cX6_mayBe 35 = .ok (.iaload, 1) := by decide +kernel
theorem dX6_mayBe_36 : decode cX6_mayBe 36 = .ok (.isub, 1) := by decide +kernel
theorem dX6_mayBe_37 : decode cX6_mayBe 37 = .ok (.aload_n 1, 1) := by decide +kernel
theorem dX6_mayBe_38 : decode cX6_mayBe 38 = .ok (.bipush 17, 2) := by decide +kernel
theorem dX6_mayBe_40 : decode cX6_mayBe 40 = .ok (.iload_n 2, 1) := by decide +kernel
theorem dX6_mayBe_41 : decode cX6_mayBe 41 = .ok (.iadd, 1) := by decide +kernel
theorem dX6_mayBe_42 : decode cX6_mayBe 42 = .ok (.iconst 1, 1) := by decide +kernel
theorem dX6_mayBe_43 : decode cX6_mayBe 43 = .ok (.isub, 1) := by decide +kernel
theorem dX6_mayBe_44 : decode cX6_mayBe 44 = .ok (.iaload, 1) := by decide +kernel
theorem dX6_mayBe_45 : decode cX6_mayBe 45 = .ok (.iadd, 1) := by decide +kernel
theorem dX6_mayBe_46 : decode cX6_mayBe 46 = .ok (.invokestatic 69, 3) := by decide +kernel
theorem dX6_mayBe_49 : decode cX6_mayBe 49 = .ok (.iload 5, 2) := by decide +kernel
theorem dX6_mayBe_51 : decode cX6_mayBe 51 = .ok (.if_icmp .gt 37, 3) := by decide +kernel
theorem dX6_mayBe_54 : decode cX6_mayBe 54 = .ok (.aload_n 0, 1) := by decide +kernel
theorem dX6_mayBe_55 : decode cX6_mayBe 55 = .ok (.getfield 35, 3) := by decide +kernel
theorem dX6_mayBe_58 : decode cX6_mayBe 58 = .ok (.iload_n 2, 1) := by decide +kernel
theorem dX6_mayBe_59 : decode cX6_mayBe 59 = .ok (.iaload, 1) := by decide +kernel
theorem dX6_mayBe_60 : decode cX6_mayBe 60 = .ok (.aload_n 1, 1) := by decide +kernel
theorem dX6_mayBe_61 : decode cX6_mayBe 61 = .ok (.bipush 35, 2) := by decide +kernel
theorem dX6_mayBe_63 : decode cX6_mayBe 63 = .ok (.iload_n 2, 1) := by decide +kernel
theorem dX6_mayBe_64 : decode cX6_mayBe 64 = .ok (.iadd, 1) := by decide +kernel
theorem dX6_mayBe_65 : decode cX6_mayBe 65 = .ok (.iaload, 1) := by decide +kernel
theorem dX6_mayBe_66 : decode cX6_mayBe 66 = .ok (.isub, 1) := by decide +kernel
theorem dX6_mayBe_67 : decode cX6_mayBe 67 = .ok (.aload_n 1, 1) := by decide +kernel
theorem dX6_mayBe_68 : decode cX6_mayBe 68 = .ok (.bipush 35, 2) := by decide +kernel
theorem dX6_mayBe_70 : decode cX6_mayBe 70 = .ok (.iload_n 2, 1) := by decide +kernel
theorem dX6_mayBe_71 : decode cX6_mayBe 71 = .ok (.iadd, 1) := by decide +kernel
theorem dX6_mayBe_72 : decode cX6_mayBe 72 = .ok (.iconst 1, 1) := by decide +kernel
theorem dX6_mayBe_73 : decode cX6_mayBe 73 = .ok (.isub, 1) := by decide +kernel
theorem dX6_mayBe_74 : decode cX6_mayBe 74 = .ok (.iaload, 1) := by decide +kernel
theorem dX6_mayBe_75 : decode cX6_mayBe 75 = .ok (.iadd, 1) := by decide +kernel
theorem dX6_mayBe_76 : decode cX6_mayBe 76 = .ok (.invokestatic 69, 3) := by decide +kernel
theorem dX6_mayBe_79 : decode cX6_mayBe 79 = .ok (.iload 5, 2) := by decide +kernel
theorem dX6_mayBe_81 : decode cX6_mayBe 81 = .ok (.if_icmp .gt 7, 3) := by decide +kernel
theorem dX6_mayBe_84 : decode cX6_mayBe 84 = .ok (.iconst 1, 1) := by decide +kernel
theorem dX6_mayBe_85 : decode cX6_mayBe 85 = .ok (.goto 4, 3) := by decide +kernel
theorem dX6_mayBe_88 : decode cX6_mayBe 88 = .ok (.iconst 0, 1) := by decide +kernel
theorem dX6_mayBe_89 : decode cX6_mayBe 89 = .ok (.istore 6, 2) := by decide +kernel
theorem dX6_mayBe_91 : decode cX6_mayBe 91 = .ok (.iload 6, 2) := by decide +kernel
theorem dX6_mayBe_93 : decode cX6_mayBe 93 = .ok (.ifCond .eq 30, 3) := by decide +kernel
theorem dX6_mayBe_96 : decode cX6_mayBe 96 = .ok (.iload_n 2, 1) := by decide +kernel
theorem dX6_mayBe_97 : decode cX6_mayBe 97 = .ok (.iconst 1, 1) := by decide +kernel
theorem dX6_mayBe_98 : decode cX6_mayBe 98 = .ok (.if_icmp .eq 21, 3) := by decide +kernel
theorem dX6_mayBe_101 : decode cX6_mayBe 101 = .ok (.aload_n 1, 1) := by decide +kernel
theorem dX6_mayBe_102 : decode cX6_mayBe 102 = .ok (.iconst 0, 1) := by decide +kernel
theorem dX6_mayBe_103 : decode cX6_mayBe 103 = .ok (.iaload, 1) := by decide +kernel
theorem dX6_mayBe_104 : decode cX6_mayBe 104 = .ok (.aload_n 0, 1) := by decide +kernel
theorem dX6_mayBe_105 : decode cX6_mayBe 105 = .ok (.getfield 29, 3) := by decide +kernel
theorem dX6_mayBe_108 : decode cX6_mayBe 108 = .ok (.iload_n 2, 1) := by decide +kernel
theorem dX6_mayBe_109 : decode cX6_mayBe 109 = .ok (.iconst 1, 1) := by decide +kernel
theorem dX6_mayBe_110 : decode cX6_mayBe 110 = .ok (.isub, 1) := by decide +kernel
theorem dX6_mayBe_111 : decode cX6_mayBe 111 = .ok (.iaload, 1) := by decide +kernel
theorem dX6_mayBe_112 : decode cX6_mayBe 112 = .ok (.iload_n 3, 1) := by decide +kernel
theorem dX6_mayBe_113 : decode cX6_mayBe 113 = .ok (.invokestatic 72, 3) := by decide +kernel
theorem dX6_mayBe_116 : decode cX6_mayBe 116 = .ok (.ifCond .ne 7, 3) := by decide +kernel
theorem dX6_mayBe_119 : decode cX6_mayBe 119 = .ok (.iconst 1, 1) := by decide +kernel
theorem dX6_mayBe_120 : decode cX6_mayBe 120 = .ok (.goto 4, 3) := by decide +kernel
theorem dX6_mayBe_123 : decode cX6_mayBe 123 = .ok (.iconst 0, 1) := by decide +kernel
theorem dX6_mayBe_124 : decode cX6_mayBe 124 = .ok (.ireturn, 1) := by decide +kernel
theorem dX6_type_0 : decode cX6_type 0 = .ok (.iload_n 1, 1) := by decide +kernel
theorem dX6_type_1 : decode cX6_type 1 = .ok (.iconst 0, 1) := by decide +kernel
theorem dX6_type_2 : decode cX6_type 2 = .ok (.sipush 255, 3) := by decide +kernel
theorem dX6_type_5 : decode cX6_type 5 = .ok (.invokestatic 76, 3) := by decide +kernel
theorem dX6_type_8 : decode cX6_type 8 = .ok (.ifCond .ne 5, 3) := by decide +kernel
theorem dX6_type_11 : decode cX6_type 11 = .ok (.iconst (-1), 1) := by decide +kernel
theorem dX6_type_12 : decode cX6_type 12 = .ok (.ireturn, 1) := by decide +kernel
theorem dX6_type_13 : decode cX6_type 13 = .ok (.aload_n 0, 1) := by decide +kernel
theorem dX6_type_14 : decode cX6_type 14 = .ok (.getfield 79, 3) := by decide +kernel
theorem dX6_type_17 : decode cX6_type 17 = .ok (.bipush 120, 2) := by decide +kernel
theorem dX6_type_19 : decode cX6_type 19 = .ok (.if_icmp .ne 6, 3) := by decide +kernel
theorem dX6_type_22 : decode cX6_type 22 = .ok (.bipush (-3), 2) := by decide +kernel
theorem dX6_type_24 : decode cX6_type 24 = .ok (.ireturn, 1) := by decide +kernel
theorem dX6_type_25 : decode cX6_type 25 = .ok (.aload_n 0, 1) := by decide +kernel
theorem dX6_type_26 : decode cX6_type 26 = .ok (.getfield 44, 3) := by decide +kernel
theorem dX6_type_29 : decode cX6_type 29 = .ok (.aload_n 0, 1) := by decide +kernel
theorem dX6_type_30 : decode cX6_type 30 = .ok (.getfield 79, 3) := by decide +kernel
theorem dX6_type_33 : decode cX6_type 33 = .ok (.iload_n 1, 1) := by decide +kernel
theorem dX6_type_34 : decode cX6_type 34 = .ok (.iastore, 1) := by decide +kernel
theorem dX6_type_35 : decode cX6_type 35 = .ok (.aload_n 0, 1) := by decide +kernel
theorem dX6_type_36 : decode cX6_type 36 = .ok (.dup, 1) := by decide +kernel
theorem dX6_type_37 : decode cX6_type 37 = .ok (.getfield 79, 3) := by decide +kernel
theorem dX6_type_40 : decode cX6_type 40 = .ok (.iconst 1, 1) := by decide +kernel
theorem dX6_type_41 : decode cX6_type 41 = .ok (.iadd, 1) := by decide +kernel
theorem dX6_type_42 : decode cX6_type 42 = .ok (.putfield 79, 3) := by decide +kernel
theorem dX6_type_45 : decode cX6_type 45 = .ok (.aload_n 0, 1) := by decide +kernel
theorem dX6_type_46 : decode cX6_type 46 = .ok (.getfield 79, 3) := by decide +kernel
theorem dX6_type_49 : decode cX6_type 49 = .ok (.ireturn, 1) := by decide +kernel
theorem dX6_clear_0 : decode cX6_clear 0 = .ok (.aload_n 0, 1) := by decide +kernel
theorem dX6_clear_1 : decode cX6_clear 1 = .ok (.getfield 79, 3) := by decide +kernel
theorem dX6_clear_4 : decode cX6_clear 4 = .ok (.istore_n 1, 1) := by decide +kernel
theorem dX6_clear_5 : decode cX6_clear 5 = .ok (.aload_n 0, 1) := by decide +kernel
theorem dX6_clear_6 : decode cX6_clear 6 = .ok (.iconst 0, 1) := by decide +kernel
theorem dX6_clear_7 : decode cX6_clear 7 = .ok (.putfield 79, 3) := by decide +kernel
theorem dX6_clear_10 : decode cX6_clear 10 = .ok (.iload_n 1, 1) := by decide +kernel
theorem dX6_clear_11 : decode cX6_clear 11 = .ok (.ireturn, 1) := by decide +kernel
theorem dX6_isFigure_0 : decode cX6_isFigure 0 = .ok (.aload_n 0, 1) := by decide +kernel
theorem dX6_isFigure_1 : decode cX6_isFigure 1 = .ok (.getfield 82, 3) := by decide +kernel
theorem dX6_isFigure_4 : decode cX6_isFigure 4 = .ok (.aload_n 0, 1) := by decide +kernel
theorem dX6_isFigure_5 : decode cX6_isFigure 5 = .ok (.getfield 79, 3) := by decide +kernel
theorem dX6_isFigure_8 : decode cX6_isFigure 8 = .ok (.if_icmp .ge 26, 3) := by decide +kernel
theorem dX6_isFigure_11 : decode cX6_isFigure 11 = .ok (.aload_n 0, 1) := by decide +kernel
theorem dX6_isFigure_12 : decode cX6_isFigure 12 = .ok (.getfield 44, 3) := by decide +kernel
theorem dX6_isFigure_15 : decode cX6_isFigure 15 = .ok (.aload_n 0, 1) := by decide +kernel
theorem dX6_isFigure_16 : decode cX6_isFigure 16 = .ok (.getfield 82, 3) := by decide +kernel
theorem dX6_isFigure_19 : decode cX6_isFigure 19 = .ok (.iaload, 1) := by decide +kernel
theorem dX6_isFigure_20 : decode cX6_isFigure 20 = .ok (.bipush 48, 2) := by decide +kernel
theorem dX6_isFigure_22 : decode cX6_isFigure 22 = .ok (.bipush 57, 2) := by decide +kernel
theorem dX6_isFigure_24 : decode cX6_isFigure 24 = .ok (.invokestatic 76, 3) := by decide +kernel
theorem dX6_isFigure_27 : decode cX6_isFigure 27 = .ok (.ifCond .eq 7, 3) := by decide +kernel
theorem dX6_isFigure_30 : decode cX6_isFigure 30 = .ok (.iconst 1, 1) := by decide +kernel
theorem dX6_isFigure_31 : decode cX6_isFigure 31 = .ok (.goto 4, 3) := by decide +kernel
theorem dX6_isFigure_34 : decode cX6_isFigure 34 = .ok (.iconst 0, 1) := by decide +kernel
theorem dX6_isFigure_35 : decode cX6_isFigure 35 = .ok (.ireturn, 1) := by decide +kernel
theorem dX6_blanks_0 : decode cX6_blanks 0 = .ok (.aload_n 0, 1) := by decide +kernel
theorem dX6_blanks_1 : decode cX6_blanks 1 = .ok (.getfield 82, 3) := by decide +kernel
theorem dX6_blanks_4 : decode cX6_blanks 4 = .ok (.aload_n 0, 1) := by decide +kernel
theorem dX6_blanks_5 : decode cX6_blanks 5 = .ok (.getfield 79, 3) := by decide +kernel
theorem dX6_blanks_8 : decode cX6_blanks 8 = .ok (.if_icmp .ge 30, 3) := by decide +kernel
theorem dX6_blanks_11 : decode cX6_blanks 11 = .ok (.aload_n 0, 1) := by decide +kernel
theorem dX6_blanks_12 : decode cX6_blanks 12 = .ok (.getfield 44, 3) := by decide +kernel
theorem dX6_blanks_15 : decode cX6_blanks 15 = .ok (.aload_n 0, 1) := by decide +kernel
theorem dX6_blanks_16 : decode cX6_blanks 16 = .ok (.getfield 82, 3) := by decide +kernel
theorem dX6_blanks_19 : decode cX6_blanks 19 = .ok (.iaload, 1) := by decide +kernel
theorem dX6_blanks_20 : decode cX6_blanks 20 = .ok (.bipush 32, 2) := by decide +kernel
theorem dX6_blanks_22 : decode cX6_blanks 22 = .ok (.if_icmp .ne 16, 3) := by decide +kernel
theorem dX6_blanks_25 : decode cX6_blanks 25 = .ok (.aload_n 0, 1) := by decide +kernel
theorem dX6_blanks_26 : decode cX6_blanks 26 = .ok (.dup, 1) := by decide +kernel
theorem dX6_blanks_27 : decode cX6_blanks 27 = .ok (.getfield 82, 3) := by decide +kernel
theorem dX6_blanks_30 : decode cX6_blanks 30 = .ok (.iconst 1, 1) := by decide +kernel
theorem dX6_blanks_31 : decode cX6_blanks 31 = .ok (.iadd, 1) := by decide +kernel
theorem dX6_blanks_32 : decode cX6_blanks 32 = .ok (.putfield 82, 3) := by decide +kernel
theorem dX6_blanks_35 : decode cX6_blanks 35 = .ok (.goto (-35), 3) := by decide +kernel
theorem dX6_blanks_38 : decode cX6_blanks 38 = .ok (.return_, 1) := by decide +kernel
theorem dX6_isToken_0 : decode cX6_isToken 0 = .ok (.iload_n 0, 1) := by decide +kernel
theorem dX6_isToken_1 : decode cX6_isToken 1 = .ok (.bipush 116, 2) := by decide +kernel
theorem dX6_isToken_3 : decode cX6_isToken 3 = .ok (.if_icmp .eq 45, 3) := by decide +kernel
theorem dX6_isToken_6 : decode cX6_isToken 6 = .ok (.iload_n 0, 1) := by decide +kernel
theorem dX6_isToken_7 : decode cX6_isToken 7 = .ok (.bipush 98, 2) := by decide +kernel
theorem dX6_isToken_9 : decode cX6_isToken 9 = .ok (.if_icmp .eq 39, 3) := by decide +kernel
theorem dX6_isToken_12 : decode cX6_isToken 12 = .ok (.iload_n 0, 1) := by decide +kernel
theorem dX6_isToken_13 : decode cX6_isToken 13 = .ok (.bipush 106, 2) := by decide +kernel
theorem dX6_isToken_15 : decode cX6_isToken 15 = .ok (.if_icmp .eq 33, 3) := by decide +kernel
theorem dX6_isToken_18 : decode cX6_isToken 18 = .ok (.iload_n 0, 1) := by decide +kernel
theorem dX6_isToken_19 : decode cX6_isToken 19 = .ok (.bipush 109, 2) := by decide +kernel
theorem dX6_isToken_21 : decode cX6_isToken 21 = .ok (.if_icmp .eq 27, 3) := by decide +kernel
theorem dX6_isToken_24 : decode cX6_isToken 24 = .ok (.iload_n 0, 1) := by decide +kernel
theorem dX6_isToken_25 : decode cX6_isToken 25 = .ok (.bipush 119, 2) := by decide +kernel
theorem dX6_isToken_27 : decode cX6_isToken 27 = .ok (.if_icmp .eq 21, 3) := by decide +kernel
theorem dX6_isToken_30 : decode cX6_isToken 30 = .ok (.iload_n 0, 1) := by decide +kernel
theorem dX6_isToken_31 : decode cX6_isToken 31 = .ok (.bipush 107, 2) := by decide +kernel
theorem dX6_isToken_33 : decode cX6_isToken 33 = .ok (.if_icmp .eq 15, 3) := by decide +kernel
theorem dX6_isToken_36 : decode cX6_isToken 36 = .ok (.iload_n 0, 1) := by decide +kernel
theorem dX6_isToken_37 : decode cX6_isToken 37 = .ok (.bipush 45, 2) := by decide +kernel
theorem dX6_isToken_39 : decode cX6_isToken 39 = .ok (.if_icmp .eq 9, 3) := by decide +kernel
theorem dX6_isToken_42 : decode cX6_isToken 42 = .ok (.iload_n 0, 1) := by decide +kernel
theorem dX6_isToken_43 : decode cX6_isToken 43 = .ok (.bipush 59, 2) := by decide +kernel
theorem dX6_isToken_45 : decode cX6_isToken 45 = .ok (.if_icmp .ne 7, 3) := by decide +kernel
theorem dX6_isToken_48 : decode cX6_isToken 48 = .ok (.iconst 1, 1) := by decide +kernel
theorem dX6_isToken_49 : decode cX6_isToken 49 = .ok (.goto 4, 3) := by decide +kernel
theorem dX6_isToken_52 : decode cX6_isToken 52 = .ok (.iconst 0, 1) := by decide +kernel
theorem dX6_isToken_53 : decode cX6_isToken 53 = .ok (.ireturn, 1) := by decide +kernel
theorem dX6_next_0 : decode cX6_next 0 = .ok (.aload_n 0, 1) := by decide +kernel
theorem dX6_next_1 : decode cX6_next 1 = .ok (.invokevirtual 85, 3) := by decide +kernel
theorem dX6_next_4 : decode cX6_next 4 = .ok (.aload_n 0, 1) := by decide +kernel
theorem dX6_next_5 : decode cX6_next 5 = .ok (.aload_n 0, 1) := by decide +kernel
theorem dX6_next_6 : decode cX6_next 6 = .ok (.getfield 82, 3) := by decide +kernel
theorem dX6_next_9 : decode cX6_next 9 = .ok (.putfield 88, 3) := by decide +kernel
theorem dX6_next_12 : decode cX6_next 12 = .ok (.aload_n 0, 1) := by decide +kernel
theorem dX6_next_13 : decode cX6_next 13 = .ok (.getfield 82, 3) := by decide +kernel
theorem dX6_next_16 : decode cX6_next 16 = .ok (.aload_n 0, 1) := by decide +kernel
theorem dX6_next_17 : decode cX6_next 17 = .ok (.getfield 79, 3) := by decide +kernel
theorem dX6_next_20 : decode cX6_next 20 = .ok (.if_icmp .ne 11, 3) := by decide +kernel
theorem dX6_next_23 : decode cX6_next 23 = .ok (.aload_n 0, 1) := by decide +kernel
theorem dX6_next_24 : decode cX6_next 24 = .ok (.iconst (-1), 1) := by decide +kernel
theorem dX6_next_25 : decode cX6_next 25 = .ok (.putfield 91, 3) := by decide +kernel
theorem dX6_next_28 : decode cX6_next 28 = .ok (.goto 167, 3) := by decide +kernel
theorem dX6_next_31 : decode cX6_next 31 = .ok (.aload_n 0, 1) := by decide +kernel
theorem dX6_next_32 : decode cX6_next 32 = .ok (.invokevirtual 94, 3) := by decide +kernel
theorem dX6_next_35 : decode cX6_next 35 = .ok (.ifCond .eq 117, 3) := by decide +kernel
theorem dX6_next_38 : decode cX6_next 38 = .ok (.aload_n 0, 1) := by decide +kernel
theorem dX6_next_39 : decode cX6_next 39 = .ok (.iconst 0, 1) := by decide +kernel
theorem dX6_next_40 : decode cX6_next 40 = .ok (.putfield 98, 3) := by decide +kernel
theorem dX6_next_43 : decode cX6_next 43 = .ok (.aload_n 0, 1) := by decide +kernel
theorem dX6_next_44 : decode cX6_next 44 = .ok (.invokevirtual 94, 3) := by decide +kernel
theorem dX6_next_47 : decode cX6_next 47 = .ok (.ifCond .eq 56, 3) := by decide +kernel
theorem dX6_next_50 : decode cX6_next 50 = .ok (.aload_n 0, 1) := by decide +kernel
theorem dX6_next_51 : decode cX6_next 51 = .ok (.aload_n 0, 1) := by decide +kernel
theorem dX6_next_52 : decode cX6_next 52 = .ok (.getfield 98, 3) := by decide +kernel
theorem dX6_next_55 : decode cX6_next 55 = .ok (.bipush 99, 2) := by decide +kernel
theorem dX6_next_57 : decode cX6_next 57 = .ok (.if_icmp .le 10, 3) := by decide +kernel
theorem dX6_next_60 : decode cX6_next 60 = .ok (.aload_n 0, 1) := by decide +kernel
theorem dX6_next_61 : decode cX6_next 61 = .ok (.getfield 98, 3) := by decide +kernel
theorem dX6_next_64 : decode cX6_next 64 = .ok (.goto 23, 3) := by decide +kernel
theorem dX6_next_67 : decode cX6_next 67 = .ok (.bipush 10, 2) := by decide +kernel
theorem dX6_next_69 : decode cX6_next 69 = .ok (.aload_n 0, 1) := by decide +kernel
theorem dX6_next_70 : decode cX6_next 70 = .ok (.getfield 98, 3) := by decide +kernel
theorem dX6_next_73 : decode cX6_next 73 = .ok (.imul, 1) := by decide +kernel
theorem dX6_next_74 : decode cX6_next 74 = .ok (.aload_n 0, 1) := by decide +kernel
theorem dX6_next_75 : decode cX6_next 75 = .ok (.getfield 44, 3) := by decide +kernel
theorem dX6_next_78 : decode cX6_next 78 = .ok (.aload_n 0, 1) := by decide +kernel
theorem dX6_next_79 : decode cX6_next 79 = .ok (.getfield 82, 3) := by decide +kernel
theorem dX6_next_82 : decode cX6_next 82 = .ok (.iaload, 1) := by decide +kernel
theorem dX6_next_83 : decode cX6_next 83 = .ok (.iadd, 1) := by decide +kernel
theorem dX6_next_84 : decode cX6_next 84 = .ok (.bipush 48, 2) := by decide +kernel
theorem dX6_next_86 : decode cX6_next 86 = .ok (.isub, 1) := by decide +kernel
theorem dX6_next_87 : decode cX6_next 87 = .ok (.putfield 98, 3) := by decide +kernel
theorem dX6_next_90 : decode cX6_next 90 = .ok (.aload_n 0, 1) := by decide +kernel
theorem dX6_next_91 : decode cX6_next 91 = .ok (.dup, 1) := by decide +kernel
theorem dX6_next_92 : decode cX6_next 92 = .ok (.getfield 82, 3) := by decide +kernel
theorem dX6_next_95 : decode cX6_next 95 = .ok (.iconst 1, 1) := by decide +kernel
theorem dX6_next_96 : decode cX6_next 96 = .ok (.iadd, 1) := by decide +kernel
theorem dX6_next_97 : decode cX6_next 97 = .ok (.putfield 82, 3) := by decide +kernel
theorem dX6_next_100 : decode cX6_next 100 = .ok (.goto (-57), 3) := by decide +kernel
theorem dX6_next_103 : decode cX6_next 103 = .ok (.aload_n 0, 1) := by decide +kernel
theorem dX6_next_104 : decode cX6_next 104 = .ok (.aload_n 0, 1) := by decide +kernel
theorem dX6_next_105 : decode cX6_next 105 = .ok (.getfield 98, 3) := by decide +kernel
theorem dX6_next_108 : decode cX6_next 108 = .ok (.bipush 99, 2) := by decide +kernel
theorem dX6_next_110 : decode cX6_next 110 = .ok (.if_icmp .gt 30, 3) := by decide +kernel
theorem dX6_next_113 : decode cX6_next 113 = .ok (.aload_n 0, 1) := by decide +kernel
theorem dX6_next_114 : decode cX6_next 114 = .ok (.getfield 44, 3) := by decide +kernel
theorem dX6_next_117 : decode cX6_next 117 = .ok (.aload_n 0, 1) := by decide +kernel
theorem dX6_next_118 : decode cX6_next 118 = .ok (.getfield 88, 3) := by decide +kernel
theorem dX6_next_121 : decode cX6_next 121 = .ok (.iaload, 1) := by decide +kernel
theorem dX6_next_122 : decode cX6_next 122 = .ok (.bipush 48, 2) := by decide +kernel
theorem dX6_next_124 : decode cX6_next 124 = .ok (.if_icmp .ne 21, 3) := by decide +kernel
theorem dX6_next_127 : decode cX6_next 127 = .ok (.aload_n 0, 1) := by decide +kernel
theorem dX6_next_128 : decode cX6_next 128 = .ok (.getfield 82, 3) := by decide +kernel
theorem dX6_next_131 : decode cX6_next 131 = .ok (.aload_n 0, 1) := by decide +kernel
theorem dX6_next_132 : decode cX6_next 132 = .ok (.getfield 88, 3) := by decide +kernel
theorem dX6_next_135 : decode cX6_next 135 = .ok (.isub, 1) := by decide +kernel
theorem dX6_next_136 : decode cX6_next 136 = .ok (.iconst 1, 1) := by decide +kernel
theorem dX6_next_137 : decode cX6_next 137 = .ok (.if_icmp .le 8, 3) := by decide +kernel
theorem dX6_next_140 : decode cX6_next 140 = .ok (.bipush (-2), 2) := by decide +kernel
theorem dX6_next_142 : decode cX6_next 142 = .ok (.goto 4, 3) := by decide +kernel
theorem dX6_next_145 : decode cX6_next 145 = .ok (.iconst 0, 1) := by decide +kernel
theorem dX6_next_146 : decode cX6_next 146 = .ok (.putfield 91, 3) := by decide +kernel
theorem dX6_next_149 : decode cX6_next 149 = .ok (.goto 46, 3) := by decide +kernel
theorem dX6_next_152 : decode cX6_next 152 = .ok (.aload_n 0, 1) := by decide +kernel
theorem dX6_next_153 : decode cX6_next 153 = .ok (.aload_n 0, 1) := by decide +kernel
theorem dX6_next_154 : decode cX6_next 154 = .ok (.getfield 44, 3) := by decide +kernel
theorem dX6_next_157 : decode cX6_next 157 = .ok (.aload_n 0, 1) := by decide +kernel
theorem dX6_next_158 : decode cX6_next 158 = .ok (.getfield 82, 3) := by decide +kernel
theorem dX6_next_161 : decode cX6_next 161 = .ok (.iaload, 1) := by decide +kernel
theorem dX6_next_162 : decode cX6_next 162 = .ok (.invokestatic 101, 3) := by decide +kernel
theorem dX6_next_165 : decode cX6_next 165 = .ok (.ifCond .eq 15, 3) := by decide +kernel
theorem dX6_next_168 : decode cX6_next 168 = .ok (.aload_n 0, 1) := by decide +kernel
theorem dX6_next_169 : decode cX6_next 169 = .ok (.getfield 44, 3) := by decide +kernel
theorem dX6_next_172 : decode cX6_next 172 = .ok (.aload_n 0, 1) := by decide +kernel
theorem dX6_next_173 : decode cX6_next 173 = .ok (.getfield 82, 3) := by decide +kernel
theorem dX6_next_176 : decode cX6_next 176 = .ok (.iaload, 1) := by decide +kernel
theorem dX6_next_177 : decode cX6_next 177 = .ok (.goto 5, 3) := by decide +kernel
theorem dX6_next_180 : decode cX6_next 180 = .ok (.bipush (-2), 2) := by decide +kernel
theorem dX6_next_182 : decode cX6_next 182 = .ok (.putfield 91, 3) := by decide +kernel
theorem dX6_next_185 : decode cX6_next 185 = .ok (.aload_n 0, 1) := by decide +kernel
theorem dX6_next_186 : decode cX6_next 186 = .ok (.dup, 1) := by decide +kernel
theorem dX6_next_187 : decode cX6_next 187 = .ok (.getfield 82, 3) := by decide +kernel
theorem dX6_next_190 : decode cX6_next 190 = .ok (.iconst 1, 1) := by decide +kernel
theorem dX6_next_191 : decode cX6_next 191 = .ok (.iadd, 1) := by decide +kernel
theorem dX6_next_192 : decode cX6_next 192 = .ok (.putfield 82, 3) := by decide +kernel
theorem dX6_next_195 : decode cX6_next 195 = .ok (.return_, 1) := by decide +kernel
theorem dX6_fails_0 : decode cX6_fails 0 = .ok (.aload_n 0, 1) := by decide +kernel
theorem dX6_fails_1 : decode cX6_fails 1 = .ok (.aload_n 0, 1) := by decide +kernel
theorem dX6_fails_2 : decode cX6_fails 2 = .ok (.getfield 88, 3) := by decide +kernel
theorem dX6_fails_5 : decode cX6_fails 5 = .ok (.putfield 105, 3) := by decide +kernel
theorem dX6_fails_8 : decode cX6_fails 8 = .ok (.iconst 0, 1) := by decide +kernel
theorem dX6_fails_9 : decode cX6_fails 9 = .ok (.ireturn, 1) := by decide +kernel
theorem dX6_number_0 : decode cX6_number 0 = .ok (.aload_n 0, 1) := by decide +kernel
theorem dX6_number_1 : decode cX6_number 1 = .ok (.invokevirtual 108, 3) := by decide +kernel
theorem dX6_number_4 : decode cX6_number 4 = .ok (.aload_n 0, 1) := by decide +kernel
theorem dX6_number_5 : decode cX6_number 5 = .ok (.getfield 91, 3) := by decide +kernel
theorem dX6_number_8 : decode cX6_number 8 = .ok (.ifCond .ne 15, 3) := by decide +kernel
theorem dX6_number_11 : decode cX6_number 11 = .ok (.aload_n 0, 1) := by decide +kernel
theorem dX6_number_12 : decode cX6_number 12 = .ok (.getfield 98, 3) := by decide +kernel
theorem dX6_number_15 : decode cX6_number 15 = .ok (.iload_n 1, 1) := by decide +kernel
theorem dX6_number_16 : decode cX6_number 16 = .ok (.iload_n 2, 1) := by decide +kernel
theorem dX6_number_17 : decode cX6_number 17 = .ok (.invokestatic 76, 3) := by decide +kernel
theorem dX6_number_20 : decode cX6_number 20 = .ok (.ifCond .ne 10, 3) := by decide +kernel
theorem dX6_number_23 : decode cX6_number 23 = .ok (.aload_n 0, 1) := by decide +kernel
theorem dX6_number_24 : decode cX6_number 24 = .ok (.invokevirtual 111, 3) := by decide +kernel
theorem dX6_number_27 : decode cX6_number 27 = .ok (.ifCond .eq 7, 3) := by decide +kernel
theorem dX6_number_30 : decode cX6_number 30 = .ok (.iconst 1, 1) := by decide +kernel
theorem dX6_number_31 : decode cX6_number 31 = .ok (.goto 4, 3) := by decide +kernel
theorem dX6_number_34 : decode cX6_number 34 = .ok (.iconst 0, 1) := by decide +kernel
theorem dX6_number_35 : decode cX6_number 35 = .ok (.ireturn, 1) := by decide +kernel
theorem dX6_ends_0 : decode cX6_ends 0 = .ok (.aload_n 0, 1) := by decide +kernel
theorem dX6_ends_1 : decode cX6_ends 1 = .ok (.invokevirtual 108, 3) := by decide +kernel
theorem dX6_ends_4 : decode cX6_ends 4 = .ok (.aload_n 0, 1) := by decide +kernel
theorem dX6_ends_5 : decode cX6_ends 5 = .ok (.getfield 91, 3) := by decide +kernel
theorem dX6_ends_8 : decode cX6_ends 8 = .ok (.bipush 59, 2) := by decide +kernel
theorem dX6_ends_10 : decode cX6_ends 10 = .ok (.if_icmp .eq 10, 3) := by decide +kernel
theorem dX6_ends_13 : decode cX6_ends 13 = .ok (.aload_n 0, 1) := by decide +kernel
theorem dX6_ends_14 : decode cX6_ends 14 = .ok (.invokevirtual 111, 3) := by decide +kernel
theorem dX6_ends_17 : decode cX6_ends 17 = .ok (.ifCond .eq 7, 3) := by decide +kernel
theorem dX6_ends_20 : decode cX6_ends 20 = .ok (.iconst 1, 1) := by decide +kernel
theorem dX6_ends_21 : decode cX6_ends 21 = .ok (.goto 4, 3) := by decide +kernel
theorem dX6_ends_24 : decode cX6_ends 24 = .ok (.iconst 0, 1) := by decide +kernel
theorem dX6_ends_25 : decode cX6_ends 25 = .ok (.ireturn, 1) := by decide +kernel
theorem dX6_readsOnce_0 : decode cX6_readsOnce 0 = .ok (.aload_n 0, 1) := by decide +kernel
theorem dX6_readsOnce_1 : decode cX6_readsOnce 1 = .ok (.getfield 114, 3) := by decide +kernel
theorem dX6_readsOnce_4 : decode cX6_readsOnce 4 = .ok (.iload_n 1, 1) := by decide +kernel
theorem dX6_readsOnce_5 : decode cX6_readsOnce 5 = .ok (.invokestatic 117, 3) := by decide +kernel
theorem dX6_readsOnce_8 : decode cX6_readsOnce 8 = .ok (.ifCond .ne 12, 3) := by decide +kernel
theorem dX6_readsOnce_11 : decode cX6_readsOnce 11 = .ok (.aload_n 0, 1) := by decide +kernel
theorem dX6_readsOnce_12 : decode cX6_readsOnce 12 = .ok (.getfield 47, 3) := by decide +kernel
theorem dX6_readsOnce_15 : decode cX6_readsOnce 15 = .ok (.iconst 3, 1) := by decide +kernel
theorem dX6_readsOnce_16 : decode cX6_readsOnce 16 = .ok (.iaload, 1) := by decide +kernel
theorem dX6_readsOnce_17 : decode cX6_readsOnce 17 = .ok (.ifCond .le 8, 3) := by decide +kernel
theorem dX6_readsOnce_20 : decode cX6_readsOnce 20 = .ok (.aload_n 0, 1) := by decide +kernel
theorem dX6_readsOnce_21 : decode cX6_readsOnce 21 = .ok (.invokevirtual 111, 3) := by decide +kernel
theorem dX6_readsOnce_24 : decode cX6_readsOnce 24 = .ok (.ireturn, 1) := by decide +kernel
theorem dX6_readsOnce_25 : decode cX6_readsOnce 25 = .ok (.aload_n 0, 1) := by decide +kernel
theorem dX6_readsOnce_26 : decode cX6_readsOnce 26 = .ok (.dup, 1) := by decide +kernel
theorem dX6_readsOnce_27 : decode cX6_readsOnce 27 = .ok (.getfield 114, 3) := by decide +kernel
theorem dX6_readsOnce_30 : decode cX6_readsOnce 30 = .ok (.iconst 1, 1) := by decide +kernel
theorem dX6_readsOnce_31 : decode cX6_readsOnce 31 = .ok (.iload_n 1, 1) := by decide +kernel
theorem dX6_readsOnce_32 : decode cX6_readsOnce 32 = .ok (.ishl, 1) := by decide +kernel
theorem dX6_readsOnce_33 : decode cX6_readsOnce 33 = .ok (.ior, 1) := by decide +kernel
theorem dX6_readsOnce_34 : decode cX6_readsOnce 34 = .ok (.putfield 114, 3) := by decide +kernel
theorem dX6_readsOnce_37 : decode cX6_readsOnce 37 = .ok (.aload_n 0, 1) := by decide +kernel
theorem dX6_readsOnce_38 : decode cX6_readsOnce 38 = .ok (.iload_n 2, 1) := by decide +kernel
theorem dX6_readsOnce_39 : decode cX6_readsOnce 39 = .ok (.iload_n 3, 1) := by decide +kernel
theorem dX6_readsOnce_40 : decode cX6_readsOnce 40 = .ok (.invokevirtual 121, 3) := by decide +kernel
theorem dX6_readsOnce_43 : decode cX6_readsOnce 43 = .ok (.ifCond .ne 5, 3) := by decide +kernel
theorem dX6_readsOnce_46 : decode cX6_readsOnce 46 = .ok (.iconst 0, 1) := by decide +kernel
theorem dX6_readsOnce_47 : decode cX6_readsOnce 47 = .ok (.ireturn, 1) := by decide +kernel
theorem dX6_readsOnce_48 : decode cX6_readsOnce 48 = .ok (.iload_n 1, 1) := by decide +kernel
theorem dX6_readsOnce_49 : decode cX6_readsOnce 49 = .ok (.iconst 3, 1) := by decide +kernel
theorem dX6_readsOnce_50 : decode cX6_readsOnce 50 = .ok (.if_icmp .ne 14, 3) := by decide +kernel
theorem dX6_readsOnce_53 : decode cX6_readsOnce 53 = .ok (.aload_n 0, 1) := by decide +kernel
theorem dX6_readsOnce_54 : decode cX6_readsOnce 54 = .ok (.aload_n 0, 1) := by decide +kernel
theorem dX6_readsOnce_55 : decode cX6_readsOnce 55 = .ok (.getfield 98, 3) := by decide +kernel
theorem dX6_readsOnce_58 : decode cX6_readsOnce 58 = .ok (.putfield 124, 3) := by decide +kernel
theorem dX6_readsOnce_61 : decode cX6_readsOnce 61 = .ok (.goto 13, 3) := by decide +kernel
theorem dX6_readsOnce_64 : decode cX6_readsOnce 64 = .ok (.aload_n 0, 1) := by decide +kernel
theorem dX6_readsOnce_65 : decode cX6_readsOnce 65 = .ok (.getfield 47, 3) := by decide +kernel
theorem dX6_readsOnce_68 : decode cX6_readsOnce 68 = .ok (.iload_n 1, 1) := by decide +kernel
theorem dX6_readsOnce_69 : decode cX6_readsOnce 69 = .ok (.aload_n 0, 1) := by decide +kernel
theorem dX6_readsOnce_70 : decode cX6_readsOnce 70 = .ok (.getfield 98, 3) := by decide +kernel
theorem dX6_readsOnce_73 : decode cX6_readsOnce 73 = .ok (.iastore, 1) := by decide +kernel
theorem dX6_readsOnce_74 : decode cX6_readsOnce 74 = .ok (.aload_n 0, 1) := by decide +kernel
theorem dX6_readsOnce_75 : decode cX6_readsOnce 75 = .ok (.invokevirtual 127, 3) := by decide +kernel
theorem dX6_readsOnce_78 : decode cX6_readsOnce 78 = .ok (.ireturn, 1) := by decide +kernel
theorem dX6_whole_0 : decode cX6_whole 0 = .ok (.aload_n 0, 1) := by decide +kernel
theorem dX6_whole_1 : decode cX6_whole 1 = .ok (.invokevirtual 108, 3) := by decide +kernel
theorem dX6_whole_4 : decode cX6_whole 4 = .ok (.aload_n 0, 1) := by decide +kernel
theorem dX6_whole_5 : decode cX6_whole 5 = .ok (.getfield 91, 3) := by decide +kernel
theorem dX6_whole_8 : decode cX6_whole 8 = .ok (.bipush 45, 2) := by decide +kernel
theorem dX6_whole_10 : decode cX6_whole 10 = .ok (.if_icmp .ne 7, 3) := by decide +kernel
theorem dX6_whole_13 : decode cX6_whole 13 = .ok (.iconst 1, 1) := by decide +kernel
theorem dX6_whole_14 : decode cX6_whole 14 = .ok (.goto 4, 3) := by decide +kernel
theorem dX6_whole_17 : decode cX6_whole 17 = .ok (.iconst 0, 1) := by decide +kernel
theorem dX6_whole_18 : decode cX6_whole 18 = .ok (.istore_n 1, 1) := by decide +kernel
theorem dX6_whole_19 : decode cX6_whole 19 = .ok (.iload_n 1, 1) := by decide +kernel
theorem dX6_whole_20 : decode cX6_whole 20 = .ok (.ifCond .eq 7, 3) := by decide +kernel
theorem dX6_whole_23 : decode cX6_whole 23 = .ok (.aload_n 0, 1) := by decide +kernel
theorem dX6_whole_24 : decode cX6_whole 24 = .ok (.invokevirtual 108, 3) := by decide +kernel
theorem dX6_whole_27 : decode cX6_whole 27 = .ok (.aload_n 0, 1) := by decide +kernel
theorem dX6_whole_28 : decode cX6_whole 28 = .ok (.getfield 91, 3) := by decide +kernel
theorem dX6_whole_31 : decode cX6_whole 31 = .ok (.ifCond .eq 8, 3) := by decide +kernel
theorem dX6_whole_34 : decode cX6_whole 34 = .ok (.aload_n 0, 1) := by decide +kernel
theorem dX6_whole_35 : decode cX6_whole 35 = .ok (.invokevirtual 111, 3) := by decide +kernel
theorem dX6_whole_38 : decode cX6_whole 38 = .ok (.ireturn, 1) := by decide +kernel
theorem dX6_whole_39 : decode cX6_whole 39 = .ok (.aload_n 0, 1) := by decide +kernel
theorem dX6_whole_40 : decode cX6_whole 40 = .ok (.iload_n 1, 1) := by decide +kernel
theorem dX6_whole_41 : decode cX6_whole 41 = .ok (.ifCond .eq 11, 3) := by decide +kernel
theorem dX6_whole_44 : decode cX6_whole 44 = .ok (.aload_n 0, 1) := by decide +kernel
theorem dX6_whole_45 : decode cX6_whole 45 = .ok (.getfield 98, 3) := by decide +kernel
theorem dX6_whole_48 : decode cX6_whole 48 = .ok (.ineg, 1) := by decide +kernel
theorem dX6_whole_49 : decode cX6_whole 49 = .ok (.goto 7, 3) := by decide +kernel
theorem dX6_whole_52 : decode cX6_whole 52 = .ok (.aload_n 0, 1) := by decide +kernel
theorem dX6_whole_53 : decode cX6_whole 53 = .ok (.getfield 98, 3) := by decide +kernel
theorem dX6_whole_56 : decode cX6_whole 56 = .ok (.putfield 98, 3) := by decide +kernel
theorem dX6_whole_59 : decode cX6_whole 59 = .ok (.iconst 1, 1) := by decide +kernel
theorem dX6_whole_60 : decode cX6_whole 60 = .ok (.ireturn, 1) := by decide +kernel
theorem dX6_readsWish_0 : decode cX6_readsWish 0 = .ok (.aload_n 0, 1) := by decide +kernel
theorem dX6_readsWish_1 : decode cX6_readsWish 1 = .ok (.getfield 130, 3) := by decide +kernel
theorem dX6_readsWish_4 : decode cX6_readsWish 4 = .ok (.bipush 17, 2) := by decide +kernel
theorem dX6_readsWish_6 : decode cX6_readsWish 6 = .ok (.if_icmp .ne 8, 3) := by decide +kernel
theorem dX6_readsWish_9 : decode cX6_readsWish 9 = .ok (.aload_n 0, 1) := by decide +kernel
theorem dX6_readsWish_10 : decode cX6_readsWish 10 = .ok (.invokevirtual 111, 3) := by decide +kernel
theorem dX6_readsWish_13 : decode cX6_readsWish 13 = .ok (.ireturn, 1) := by decide +kernel
theorem dX6_readsWish_14 : decode cX6_readsWish 14 = .ok (.aload_n 0, 1) := by decide +kernel
theorem dX6_readsWish_15 : decode cX6_readsWish 15 = .ok (.invokevirtual 133, 3) := by decide +kernel
theorem dX6_readsWish_18 : decode cX6_readsWish 18 = .ok (.ifCond .ne 5, 3) := by decide +kernel
theorem dX6_readsWish_21 : decode cX6_readsWish 21 = .ok (.iconst 0, 1) := by decide +kernel
theorem dX6_readsWish_22 : decode cX6_readsWish 22 = .ok (.ireturn, 1) := by decide +kernel
theorem dX6_readsWish_23 : decode cX6_readsWish 23 = .ok (.aload_n 0, 1) := by decide +kernel
theorem dX6_readsWish_24 : decode cX6_readsWish 24 = .ok (.getfield 98, 3) := by decide +kernel
theorem dX6_readsWish_27 : decode cX6_readsWish 27 = .ok (.istore_n 1, 1) := by decide +kernel
theorem dX6_readsWish_28 : decode cX6_readsWish 28 = .ok (.aload_n 0, 1) := by decide +kernel
theorem dX6_readsWish_29 : decode cX6_readsWish 29 = .ok (.invokevirtual 133, 3) := by decide +kernel
theorem dX6_readsWish_32 : decode cX6_readsWish 32 = .ok (.ifCond .ne 5, 3) := by decide +kernel
theorem dX6_readsWish_35 : decode cX6_readsWish 35 = .ok (.iconst 0, 1) := by decide +kernel
theorem dX6_readsWish_36 : decode cX6_readsWish 36 = .ok (.ireturn, 1) := by decide +kernel
theorem dX6_readsWish_37 : decode cX6_readsWish 37 = .ok (.aload_n 0, 1) := by decide +kernel
theorem dX6_readsWish_38 : decode cX6_readsWish 38 = .ok (.dup, 1) := by decide +kernel
theorem dX6_readsWish_39 : decode cX6_readsWish 39 = .ok (.getfield 130, 3) := by decide +kernel
theorem dX6_readsWish_42 : decode cX6_readsWish 42 = .ok (.iconst 1, 1) := by decide +kernel
theorem dX6_readsWish_43 : decode cX6_readsWish 43 = .ok (.iadd, 1) := by decide +kernel
theorem dX6_readsWish_44 : decode cX6_readsWish 44 = .ok (.putfield 130, 3) := by decide +kernel
theorem dX6_readsWish_47 : decode cX6_readsWish 47 = .ok (.aload_n 0, 1) := by decide +kernel
theorem dX6_readsWish_48 : decode cX6_readsWish 48 = .ok (.getfield 47, 3) := by decide +kernel
theorem dX6_readsWish_51 : decode cX6_readsWish 51 = .ok (.bipush 17, 2) := by decide +kernel
theorem dX6_readsWish_53 : decode cX6_readsWish 53 = .ok (.aload_n 0, 1) := by decide +kernel
theorem dX6_readsWish_54 : decode cX6_readsWish 54 = .ok (.getfield 130, 3) := by decide +kernel
theorem dX6_readsWish_57 : decode cX6_readsWish 57 = .ok (.iadd, 1) := by decide +kernel
theorem dX6_readsWish_58 : decode cX6_readsWish 58 = .ok (.iload_n 1, 1) := by decide +kernel
theorem dX6_readsWish_59 : decode cX6_readsWish 59 = .ok (.iastore, 1) := by decide +kernel
theorem dX6_readsWish_60 : decode cX6_readsWish 60 = .ok (.aload_n 0, 1) := by decide +kernel
theorem dX6_readsWish_61 : decode cX6_readsWish 61 = .ok (.getfield 47, 3) := by decide +kernel
theorem dX6_readsWish_64 : decode cX6_readsWish 64 = .ok (.bipush 35, 2) := by decide +kernel
theorem dX6_readsWish_66 : decode cX6_readsWish 66 = .ok (.aload_n 0, 1) := by decide +kernel
theorem dX6_readsWish_67 : decode cX6_readsWish 67 = .ok (.getfield 130, 3) := by decide +kernel
theorem dX6_readsWish_70 : decode cX6_readsWish 70 = .ok (.iadd, 1) := by decide +kernel
theorem dX6_readsWish_71 : decode cX6_readsWish 71 = .ok (.aload_n 0, 1) := by decide +kernel
theorem dX6_readsWish_72 : decode cX6_readsWish 72 = .ok (.getfield 98, 3) := by decide +kernel
theorem dX6_readsWish_75 : decode cX6_readsWish 75 = .ok (.iastore, 1) := by decide +kernel
theorem dX6_readsWish_76 : decode cX6_readsWish 76 = .ok (.aload_n 0, 1) := by decide +kernel
theorem dX6_readsWish_77 : decode cX6_readsWish 77 = .ok (.invokevirtual 127, 3) := by decide +kernel
theorem dX6_readsWish_80 : decode cX6_readsWish 80 = .ok (.ireturn, 1) := by decide +kernel
theorem dX6_readsRing_0 : decode cX6_readsRing 0 = .ok (.aload_n 0, 1) := by decide +kernel
theorem dX6_readsRing_1 : decode cX6_readsRing 1 = .ok (.getfield 47, 3) := by decide +kernel
theorem dX6_readsRing_4 : decode cX6_readsRing 4 = .ok (.iconst 3, 1) := by decide +kernel
theorem dX6_readsRing_5 : decode cX6_readsRing 5 = .ok (.iaload, 1) := by decide +kernel
theorem dX6_readsRing_6 : decode cX6_readsRing 6 = .ok (.bipush 12, 2) := by decide +kernel
theorem dX6_readsRing_8 : decode cX6_readsRing 8 = .ok (.if_icmp .ne 8, 3) := by decide +kernel
theorem dX6_readsRing_11 : decode cX6_readsRing 11 = .ok (.aload_n 0, 1) := by decide +kernel
theorem dX6_readsRing_12 : decode cX6_readsRing 12 = .ok (.invokevirtual 111, 3) := by decide +kernel
theorem dX6_readsRing_15 : decode cX6_readsRing 15 = .ok (.ireturn, 1) := by decide +kernel
theorem dX6_readsRing_16 : decode cX6_readsRing 16 = .ok (.aload_n 0, 1) := by decide +kernel
theorem dX6_readsRing_17 : decode cX6_readsRing 17 = .ok (.iconst 0, 1) := by decide +kernel
theorem dX6_readsRing_18 : decode cX6_readsRing 18 = .ok (.bipush 7, 2) := by decide +kernel
theorem dX6_readsRing_20 : decode cX6_readsRing 20 = .ok (.invokevirtual 121, 3) := by decide +kernel
theorem dX6_readsRing_23 : decode cX6_readsRing 23 = .ok (.ifCond .ne 5, 3) := by decide +kernel
theorem dX6_readsRing_26 : decode cX6_readsRing 26 = .ok (.iconst 0, 1) := by decide +kernel
theorem dX6_readsRing_27 : decode cX6_readsRing 27 = .ok (.ireturn, 1) := by decide +kernel
theorem dX6_readsRing_28 : decode cX6_readsRing 28 = .ok (.aload_n 0, 1) := by decide +kernel
theorem dX6_readsRing_29 : decode cX6_readsRing 29 = .ok (.aload_n 0, 1) := by decide +kernel
theorem dX6_readsRing_30 : decode cX6_readsRing 30 = .ok (.getfield 47, 3) := by decide +kernel
theorem dX6_readsRing_33 : decode cX6_readsRing 33 = .ok (.aload_n 0, 1) := by decide +kernel
theorem dX6_readsRing_34 : decode cX6_readsRing 34 = .ok (.getfield 124, 3) := by decide +kernel
theorem dX6_readsRing_37 : decode cX6_readsRing 37 = .ok (.invokevirtual 136, 3) := by decide +kernel
theorem dX6_readsRing_40 : decode cX6_readsRing 40 = .ok (.aload_n 0, 1) := by decide +kernel
theorem dX6_readsRing_41 : decode cX6_readsRing 41 = .ok (.aload_n 0, 1) := by decide +kernel
theorem dX6_readsRing_42 : decode cX6_readsRing 42 = .ok (.getfield 47, 3) := by decide +kernel
theorem dX6_readsRing_45 : decode cX6_readsRing 45 = .ok (.aload_n 0, 1) := by decide +kernel
theorem dX6_readsRing_46 : decode cX6_readsRing 46 = .ok (.getfield 47, 3) := by decide +kernel
theorem dX6_readsRing_49 : decode cX6_readsRing 49 = .ok (.iconst 3, 1) := by decide +kernel
theorem dX6_readsRing_50 : decode cX6_readsRing 50 = .ok (.iaload, 1) := by decide +kernel
theorem dX6_readsRing_51 : decode cX6_readsRing 51 = .ok (.iconst 1, 1) := by decide +kernel
theorem dX6_readsRing_52 : decode cX6_readsRing 52 = .ok (.iadd, 1) := by decide +kernel
theorem dX6_readsRing_53 : decode cX6_readsRing 53 = .ok (.aload_n 0, 1) := by decide +kernel
theorem dX6_readsRing_54 : decode cX6_readsRing 54 = .ok (.getfield 98, 3) := by decide +kernel
theorem dX6_readsRing_57 : decode cX6_readsRing 57 = .ok (.aload_n 0, 1) := by decide +kernel
theorem dX6_readsRing_58 : decode cX6_readsRing 58 = .ok (.getfield 124, 3) := by decide +kernel
theorem dX6_readsRing_61 : decode cX6_readsRing 61 = .ok (.invokevirtual 140, 3) := by decide +kernel
theorem dX6_readsRing_64 : decode cX6_readsRing 64 = .ok (.ifCond .ne 8, 3) := by decide +kernel
theorem dX6_readsRing_67 : decode cX6_readsRing 67 = .ok (.aload_n 0, 1) := by decide +kernel
theorem dX6_readsRing_68 : decode cX6_readsRing 68 = .ok (.invokevirtual 111, 3) := by decide +kernel
theorem dX6_readsRing_71 : decode cX6_readsRing 71 = .ok (.ireturn, 1) := by decide +kernel
theorem dX6_readsRing_72 : decode cX6_readsRing 72 = .ok (.aload_n 0, 1) := by decide +kernel
theorem dX6_readsRing_73 : decode cX6_readsRing 73 = .ok (.getfield 47, 3) := by decide +kernel
theorem dX6_readsRing_76 : decode cX6_readsRing 76 = .ok (.iconst 3, 1) := by decide +kernel
theorem dX6_readsRing_77 : decode cX6_readsRing 77 = .ok (.dup2, 1) := by decide +kernel
theorem dX6_readsRing_78 : decode cX6_readsRing 78 = .ok (.iaload, 1) := by decide +kernel
theorem dX6_readsRing_79 : decode cX6_readsRing 79 = .ok (.iconst 1, 1) := by decide +kernel
theorem dX6_readsRing_80 : decode cX6_readsRing 80 = .ok (.iadd, 1) := by decide +kernel
theorem dX6_readsRing_81 : decode cX6_readsRing 81 = .ok (.iastore, 1) := by decide +kernel
theorem dX6_readsRing_82 : decode cX6_readsRing 82 = .ok (.aload_n 0, 1) := by decide +kernel
theorem dX6_readsRing_83 : decode cX6_readsRing 83 = .ok (.getfield 47, 3) := by decide +kernel
theorem dX6_readsRing_86 : decode cX6_readsRing 86 = .ok (.iconst 4, 1) := by decide +kernel
theorem dX6_readsRing_87 : decode cX6_readsRing 87 = .ok (.aload_n 0, 1) := by decide +kernel
theorem dX6_readsRing_88 : decode cX6_readsRing 88 = .ok (.getfield 47, 3) := by decide +kernel
theorem dX6_readsRing_91 : decode cX6_readsRing 91 = .ok (.iconst 3, 1) := by decide +kernel
theorem dX6_readsRing_92 : decode cX6_readsRing 92 = .ok (.iaload, 1) := by decide +kernel
theorem dX6_readsRing_93 : decode cX6_readsRing 93 = .ok (.iadd, 1) := by decide +kernel
theorem dX6_readsRing_94 : decode cX6_readsRing 94 = .ok (.aload_n 0, 1) := by decide +kernel
theorem dX6_readsRing_95 : decode cX6_readsRing 95 = .ok (.getfield 98, 3) := by decide +kernel
theorem dX6_readsRing_98 : decode cX6_readsRing 98 = .ok (.iastore, 1) := by decide +kernel
theorem dX6_readsRing_99 : decode cX6_readsRing 99 = .ok (.aload_n 0, 1) := by decide +kernel
theorem dX6_readsRing_100 : decode cX6_readsRing 100 = .ok (.invokevirtual 127, 3) := by decide +kernel
theorem dX6_readsRing_103 : decode cX6_readsRing 103 = .ok (.ireturn, 1) := by decide +kernel
theorem dX6_readsItem_0 : decode cX6_readsItem 0 = .ok (.aload_n 0, 1) := by decide +kernel
theorem dX6_readsItem_1 : decode cX6_readsItem 1 = .ok (.invokevirtual 108, 3) := by decide +kernel
theorem dX6_readsItem_4 : decode cX6_readsItem 4 = .ok (.aload_n 0, 1) := by decide +kernel
theorem dX6_readsItem_5 : decode cX6_readsItem 5 = .ok (.getfield 91, 3) := by decide +kernel
theorem dX6_readsItem_8 : decode cX6_readsItem 8 = .ok (.lookupswitch 103 #[(98, 68), (106, 76), (107, 98), (109, 84), (116, 60), (119, 93)], 60) := by decide +kernel
theorem dX6_readsItem_68 : decode cX6_readsItem 68 = .ok (.aload_n 0, 1) := by decide +kernel
theorem dX6_readsItem_69 : decode cX6_readsItem 69 = .ok (.iconst 3, 1) := by decide +kernel
theorem dX6_readsItem_70 : decode cX6_readsItem 70 = .ok (.iconst 1, 1) := by decide +kernel
theorem dX6_readsItem_71 : decode cX6_readsItem 71 = .ok (.iconst 3, 1) := by decide +kernel
theorem dX6_readsItem_72 : decode cX6_readsItem 72 = .ok (.invokevirtual 144, 3) := by decide +kernel
theorem dX6_readsItem_75 : decode cX6_readsItem 75 = .ok (.ireturn, 1) := by decide +kernel
theorem dX6_readsItem_76 : decode cX6_readsItem 76 = .ok (.aload_n 0, 1) := by decide +kernel
theorem dX6_readsItem_77 : decode cX6_readsItem 77 = .ok (.iconst 0, 1) := by decide +kernel
theorem dX6_readsItem_78 : decode cX6_readsItem 78 = .ok (.iconst 0, 1) := by decide +kernel
theorem dX6_readsItem_79 : decode cX6_readsItem 79 = .ok (.iconst 3, 1) := by decide +kernel
theorem dX6_readsItem_80 : decode cX6_readsItem 80 = .ok (.invokevirtual 144, 3) := by decide +kernel
theorem dX6_readsItem_83 : decode cX6_readsItem 83 = .ok (.ireturn, 1) := by decide +kernel
theorem dX6_readsItem_84 : decode cX6_readsItem 84 = .ok (.aload_n 0, 1) := by decide +kernel
theorem dX6_readsItem_85 : decode cX6_readsItem 85 = .ok (.iconst 1, 1) := by decide +kernel
theorem dX6_readsItem_86 : decode cX6_readsItem 86 = .ok (.iconst 0, 1) := by decide +kernel
theorem dX6_readsItem_87 : decode cX6_readsItem 87 = .ok (.iconst 2, 1) := by decide +kernel
theorem dX6_readsItem_88 : decode cX6_readsItem 88 = .ok (.invokevirtual 144, 3) := by decide +kernel
theorem dX6_readsItem_91 : decode cX6_readsItem 91 = .ok (.ireturn, 1) := by decide +kernel
theorem dX6_readsItem_92 : decode cX6_readsItem 92 = .ok (.aload_n 0, 1) := by decide +kernel
theorem dX6_readsItem_93 : decode cX6_readsItem 93 = .ok (.iconst 2, 1) := by decide +kernel
theorem dX6_readsItem_94 : decode cX6_readsItem 94 = .ok (.iconst 0, 1) := by decide +kernel
theorem dX6_readsItem_95 : decode cX6_readsItem 95 = .ok (.bipush 20, 2) := by decide +kernel
theorem dX6_readsItem_97 : decode cX6_readsItem 97 = .ok (.invokevirtual 144, 3) := by decide +kernel
theorem dX6_readsItem_100 : decode cX6_readsItem 100 = .ok (.ireturn, 1) := by decide +kernel
theorem dX6_readsItem_101 : decode cX6_readsItem 101 = .ok (.aload_n 0, 1) := by decide +kernel
theorem dX6_readsItem_102 : decode cX6_readsItem 102 = .ok (.invokevirtual 147, 3) := by decide +kernel
theorem dX6_readsItem_105 : decode cX6_readsItem 105 = .ok (.ireturn, 1) := by decide +kernel
theorem dX6_readsItem_106 : decode cX6_readsItem 106 = .ok (.aload_n 0, 1) := by decide +kernel
theorem dX6_readsItem_107 : decode cX6_readsItem 107 = .ok (.invokevirtual 150, 3) := by decide +kernel
theorem dX6_readsItem_110 : decode cX6_readsItem 110 = .ok (.ireturn, 1) := by decide +kernel
theorem dX6_readsItem_111 : decode cX6_readsItem 111 = .ok (.aload_n 0, 1) := by decide +kernel
theorem dX6_readsItem_112 : decode cX6_readsItem 112 = .ok (.invokevirtual 111, 3) := by decide +kernel
theorem dX6_readsItem_115 : decode cX6_readsItem 115 = .ok (.ireturn, 1) := by decide +kernel
theorem dX6_tunnel_0 : decode cX6_tunnel 0 = .ok (.aload_n 0, 1) := by decide +kernel
theorem dX6_tunnel_1 : decode cX6_tunnel 1 = .ok (.getfield 47, 3) := by decide +kernel
theorem dX6_tunnel_4 : decode cX6_tunnel 4 = .ok (.invokestatic 50, 3) := by decide +kernel
theorem dX6_tunnel_7 : decode cX6_tunnel 7 = .ok (.aload_n 0, 1) := by decide +kernel
theorem dX6_tunnel_8 : decode cX6_tunnel 8 = .ok (.iconst 0, 1) := by decide +kernel
theorem dX6_tunnel_9 : decode cX6_tunnel 9 = .ok (.putfield 114, 3) := by decide +kernel
theorem dX6_tunnel_12 : decode cX6_tunnel 12 = .ok (.aload_n 0, 1) := by decide +kernel
theorem dX6_tunnel_13 : decode cX6_tunnel 13 = .ok (.iconst 1, 1) := by decide +kernel
theorem dX6_tunnel_14 : decode cX6_tunnel 14 = .ok (.putfield 124, 3) := by decide +kernel
theorem dX6_tunnel_17 : decode cX6_tunnel 17 = .ok (.aload_n 0, 1) := by decide +kernel
theorem dX6_tunnel_18 : decode cX6_tunnel 18 = .ok (.iconst 0, 1) := by decide +kernel
theorem dX6_tunnel_19 : decode cX6_tunnel 19 = .ok (.putfield 130, 3) := by decide +kernel
theorem dX6_tunnel_22 : decode cX6_tunnel 22 = .ok (.aload_n 0, 1) := by decide +kernel
theorem dX6_tunnel_23 : decode cX6_tunnel 23 = .ok (.iconst 0, 1) := by decide +kernel
theorem dX6_tunnel_24 : decode cX6_tunnel 24 = .ok (.putfield 82, 3) := by decide +kernel
theorem dX6_tunnel_27 : decode cX6_tunnel 27 = .ok (.iconst 0, 1) := by decide +kernel
theorem dX6_tunnel_28 : decode cX6_tunnel 28 = .ok (.istore_n 1, 1) := by decide +kernel
theorem dX6_tunnel_29 : decode cX6_tunnel 29 = .ok (.aload_n 0, 1) := by decide +kernel
theorem dX6_tunnel_30 : decode cX6_tunnel 30 = .ok (.invokevirtual 85, 3) := by decide +kernel
theorem dX6_tunnel_33 : decode cX6_tunnel 33 = .ok (.aload_n 0, 1) := by decide +kernel
theorem dX6_tunnel_34 : decode cX6_tunnel 34 = .ok (.getfield 82, 3) := by decide +kernel
theorem dX6_tunnel_37 : decode cX6_tunnel 37 = .ok (.aload_n 0, 1) := by decide +kernel
theorem dX6_tunnel_38 : decode cX6_tunnel 38 = .ok (.getfield 79, 3) := by decide +kernel
theorem dX6_tunnel_41 : decode cX6_tunnel 41 = .ok (.if_icmp .ge 28, 3) := by decide +kernel
theorem dX6_tunnel_44 : decode cX6_tunnel 44 = .ok (.aload_n 0, 1) := by decide +kernel
theorem dX6_tunnel_45 : decode cX6_tunnel 45 = .ok (.invokevirtual 153, 3) := by decide +kernel
theorem dX6_tunnel_48 : decode cX6_tunnel 48 = .ok (.ifCond .ne 11, 3) := by decide +kernel
theorem dX6_tunnel_51 : decode cX6_tunnel 51 = .ok (.bipush (-10), 2) := by decide +kernel
theorem dX6_tunnel_53 : decode cX6_tunnel 53 = .ok (.aload_n 0, 1) := by decide +kernel
theorem dX6_tunnel_54 : decode cX6_tunnel 54 = .ok (.getfield 105, 3) := by decide +kernel
theorem dX6_tunnel_57 : decode cX6_tunnel 57 = .ok (.isub, 1) := by decide +kernel
theorem dX6_tunnel_58 : decode cX6_tunnel 58 = .ok (.ireturn, 1) := by decide +kernel
theorem dX6_tunnel_59 : decode cX6_tunnel 59 = .ok (.iinc 1 1, 3) := by decide +kernel
theorem dX6_tunnel_62 : decode cX6_tunnel 62 = .ok (.aload_n 0, 1) := by decide +kernel
theorem dX6_tunnel_63 : decode cX6_tunnel 63 = .ok (.invokevirtual 85, 3) := by decide +kernel
theorem dX6_tunnel_66 : decode cX6_tunnel 66 = .ok (.goto (-33), 3) := by decide +kernel
theorem dX6_tunnel_69 : decode cX6_tunnel 69 = .ok (.aload_n 0, 1) := by decide +kernel
theorem dX6_tunnel_70 : decode cX6_tunnel 70 = .ok (.iconst 0, 1) := by decide +kernel
theorem dX6_tunnel_71 : decode cX6_tunnel 71 = .ok (.putfield 79, 3) := by decide +kernel
theorem dX6_tunnel_74 : decode cX6_tunnel 74 = .ok (.aload_n 0, 1) := by decide +kernel
theorem dX6_tunnel_75 : decode cX6_tunnel 75 = .ok (.aload_n 0, 1) := by decide +kernel
theorem dX6_tunnel_76 : decode cX6_tunnel 76 = .ok (.getfield 124, 3) := by decide +kernel
theorem dX6_tunnel_79 : decode cX6_tunnel 79 = .ok (.putfield 54, 3) := by decide +kernel
theorem dX6_tunnel_82 : decode cX6_tunnel 82 = .ok (.iconst 0, 1) := by decide +kernel
theorem dX6_tunnel_83 : decode cX6_tunnel 83 = .ok (.istore_n 2, 1) := by decide +kernel
theorem dX6_tunnel_84 : decode cX6_tunnel 84 = .ok (.iload_n 2, 1) := by decide +kernel
theorem dX6_tunnel_85 : decode cX6_tunnel 85 = .ok (.bipush 53, 2) := by decide +kernel
theorem dX6_tunnel_87 : decode cX6_tunnel 87 = .ok (.if_icmp .ge 21, 3) := by decide +kernel
theorem dX6_tunnel_90 : decode cX6_tunnel 90 = .ok (.aload_n 0, 1) := by decide +kernel
theorem dX6_tunnel_91 : decode cX6_tunnel 91 = .ok (.getfield 7, 3) := by decide +kernel
theorem dX6_tunnel_94 : decode cX6_tunnel 94 = .ok (.iload_n 2, 1) := by decide +kernel
theorem dX6_tunnel_95 : decode cX6_tunnel 95 = .ok (.aload_n 0, 1) := by decide +kernel
theorem dX6_tunnel_96 : decode cX6_tunnel 96 = .ok (.getfield 47, 3) := by decide +kernel
theorem dX6_tunnel_99 : decode cX6_tunnel 99 = .ok (.iload_n 2, 1) := by decide +kernel
theorem dX6_tunnel_100 : decode cX6_tunnel 100 = .ok (.iaload, 1) := by decide +kernel
theorem dX6_tunnel_101 : decode cX6_tunnel 101 = .ok (.iastore, 1) := by decide +kernel
theorem dX6_tunnel_102 : decode cX6_tunnel 102 = .ok (.iinc 2 1, 3) := by decide +kernel
theorem dX6_tunnel_105 : decode cX6_tunnel 105 = .ok (.goto (-21), 3) := by decide +kernel
theorem dX6_tunnel_108 : decode cX6_tunnel 108 = .ok (.aload_n 0, 1) := by decide +kernel
theorem dX6_tunnel_109 : decode cX6_tunnel 109 = .ok (.iconst 0, 1) := by decide +kernel
theorem dX6_tunnel_110 : decode cX6_tunnel 110 = .ok (.putfield 156, 3) := by decide +kernel
theorem dX6_tunnel_113 : decode cX6_tunnel 113 = .ok (.aload_n 0, 1) := by decide +kernel
theorem dX6_tunnel_114 : decode cX6_tunnel 114 = .ok (.iconst 0, 1) := by decide +kernel
theorem dX6_tunnel_115 : decode cX6_tunnel 115 = .ok (.putfield 159, 3) := by decide +kernel
theorem dX6_tunnel_118 : decode cX6_tunnel 118 = .ok (.aload_n 0, 1) := by decide +kernel
theorem dX6_tunnel_119 : decode cX6_tunnel 119 = .ok (.getfield 22, 3) := by decide +kernel
theorem dX6_tunnel_122 : decode cX6_tunnel 122 = .ok (.iconst 0, 1) := by decide +kernel
theorem dX6_tunnel_123 : decode cX6_tunnel 123 = .ok (.iconst 0, 1) := by decide +kernel
theorem dX6_tunnel_124 : decode cX6_tunnel 124 = .ok (.bastore, 1) := by decide +kernel
theorem dX6_tunnel_125 : decode cX6_tunnel 125 = .ok (.aload_n 0, 1) := by decide +kernel
theorem dX6_tunnel_126 : decode cX6_tunnel 126 = .ok (.getfield 22, 3) := by decide +kernel
theorem dX6_tunnel_129 : decode cX6_tunnel 129 = .ok (.iconst 1, 1) := by decide +kernel
theorem dX6_tunnel_130 : decode cX6_tunnel 130 = .ok (.iconst 0, 1) := by decide +kernel
theorem dX6_tunnel_131 : decode cX6_tunnel 131 = .ok (.bastore, 1) := by decide +kernel
theorem dX6_tunnel_132 : decode cX6_tunnel 132 = .ok (.iload_n 1, 1) := by decide +kernel
theorem dX6_tunnel_133 : decode cX6_tunnel 133 = .ok (.ireturn, 1) := by decide +kernel
theorem dX6_remember_0 : decode cX6_remember 0 = .ok (.iconst 0, 1) := by decide +kernel
theorem dX6_remember_1 : decode cX6_remember 1 = .ok (.istore_n 1, 1) := by decide +kernel
theorem dX6_remember_2 : decode cX6_remember 2 = .ok (.iload_n 1, 1) := by decide +kernel
theorem dX6_remember_3 : decode cX6_remember 3 = .ok (.bipush 53, 2) := by decide +kernel
theorem dX6_remember_5 : decode cX6_remember 5 = .ok (.if_icmp .ge 29, 3) := by decide +kernel
theorem dX6_remember_8 : decode cX6_remember 8 = .ok (.aload_n 0, 1) := by decide +kernel
theorem dX6_remember_9 : decode cX6_remember 9 = .ok (.getfield 13, 3) := by decide +kernel
theorem dX6_remember_12 : decode cX6_remember 12 = .ok (.bipush 53, 2) := by decide +kernel
theorem dX6_remember_14 : decode cX6_remember 14 = .ok (.aload_n 0, 1) := by decide +kernel
theorem dX6_remember_15 : decode cX6_remember 15 = .ok (.getfield 162, 3) := by decide +kernel
theorem dX6_remember_18 : decode cX6_remember 18 = .ok (.imul, 1) := by decide +kernel
theorem dX6_remember_19 : decode cX6_remember 19 = .ok (.iload_n 1, 1) := by decide +kernel
theorem dX6_remember_20 : decode cX6_remember 20 = .ok (.iadd, 1) := by decide +kernel
theorem dX6_remember_21 : decode cX6_remember 21 = .ok (.aload_n 0, 1) := by decide +kernel
theorem dX6_remember_22 : decode cX6_remember 22 = .ok (.getfield 7, 3) := by decide +kernel
theorem dX6_remember_25 : decode cX6_remember 25 = .ok (.iload_n 1, 1) := by decide +kernel
theorem dX6_remember_26 : decode cX6_remember 26 = .ok (.iaload, 1) := by decide +kernel
theorem dX6_remember_27 : decode cX6_remember 27 = .ok (.iastore, 1) := by decide +kernel
theorem dX6_remember_28 : decode cX6_remember 28 = .ok (.iinc 1 1, 3) := by decide +kernel
theorem dX6_remember_31 : decode cX6_remember 31 = .ok (.goto (-29), 3) := by decide +kernel
theorem dX6_remember_34 : decode cX6_remember 34 = .ok (.aload_n 0, 1) := by decide +kernel
theorem dX6_remember_35 : decode cX6_remember 35 = .ok (.aload_n 0, 1) := by decide +kernel
theorem dX6_remember_36 : decode cX6_remember 36 = .ok (.getfield 162, 3) := by decide +kernel
theorem dX6_remember_39 : decode cX6_remember 39 = .ok (.iconst 1, 1) := by decide +kernel
theorem dX6_remember_40 : decode cX6_remember 40 = .ok (.iadd, 1) := by decide +kernel
theorem dX6_remember_41 : decode cX6_remember 41 = .ok (.bipush 12, 2) := by decide +kernel
theorem dX6_remember_43 : decode cX6_remember 43 = .ok (.irem, 1) := by decide +kernel
theorem dX6_remember_44 : decode cX6_remember 44 = .ok (.putfield 162, 3) := by decide +kernel
theorem dX6_remember_47 : decode cX6_remember 47 = .ok (.aload_n 0, 1) := by decide +kernel
theorem dX6_remember_48 : decode cX6_remember 48 = .ok (.dup, 1) := by decide +kernel
theorem dX6_remember_49 : decode cX6_remember 49 = .ok (.getfield 156, 3) := by decide +kernel
theorem dX6_remember_52 : decode cX6_remember 52 = .ok (.aload_n 0, 1) := by decide +kernel
theorem dX6_remember_53 : decode cX6_remember 53 = .ok (.getfield 156, 3) := by decide +kernel
theorem dX6_remember_56 : decode cX6_remember 56 = .ok (.bipush 12, 2) := by decide +kernel
theorem dX6_remember_58 : decode cX6_remember 58 = .ok (.if_icmp .ge 7, 3) := by decide +kernel
theorem dX6_remember_61 : decode cX6_remember 61 = .ok (.iconst 1, 1) := by decide +kernel
theorem dX6_remember_62 : decode cX6_remember 62 = .ok (.goto 4, 3) := by decide +kernel
theorem dX6_remember_65 : decode cX6_remember 65 = .ok (.iconst 0, 1) := by decide +kernel
theorem dX6_remember_66 : decode cX6_remember 66 = .ok (.iadd, 1) := by decide +kernel
theorem dX6_remember_67 : decode cX6_remember 67 = .ok (.putfield 156, 3) := by decide +kernel
theorem dX6_remember_70 : decode cX6_remember 70 = .ok (.return_, 1) := by decide +kernel
theorem dX6_mayBeNext_0 : decode cX6_mayBeNext 0 = .ok (.aload_n 0, 1) := by decide +kernel
theorem dX6_mayBeNext_1 : decode cX6_mayBeNext 1 = .ok (.aload_n 0, 1) := by decide +kernel
theorem dX6_mayBeNext_2 : decode cX6_mayBeNext 2 = .ok (.getfield 7, 3) := by decide +kernel
theorem dX6_mayBeNext_5 : decode cX6_mayBeNext 5 = .ok (.aload_n 0, 1) := by decide +kernel
theorem dX6_mayBeNext_6 : decode cX6_mayBeNext 6 = .ok (.getfield 54, 3) := by decide +kernel
theorem dX6_mayBeNext_9 : decode cX6_mayBeNext 9 = .ok (.invokevirtual 136, 3) := by decide +kernel
theorem dX6_mayBeNext_12 : decode cX6_mayBeNext 12 = .ok (.aload_n 0, 1) := by decide +kernel
theorem dX6_mayBeNext_13 : decode cX6_mayBeNext 13 = .ok (.aload_n 0, 1) := by decide +kernel
theorem dX6_mayBeNext_14 : decode cX6_mayBeNext 14 = .ok (.getfield 7, 3) := by decide +kernel
theorem dX6_mayBeNext_17 : decode cX6_mayBeNext 17 = .ok (.aload_n 0, 1) := by decide +kernel
theorem dX6_mayBeNext_18 : decode cX6_mayBeNext 18 = .ok (.getfield 7, 3) := by decide +kernel
theorem dX6_mayBeNext_21 : decode cX6_mayBeNext 21 = .ok (.iconst 3, 1) := by decide +kernel
theorem dX6_mayBeNext_22 : decode cX6_mayBeNext 22 = .ok (.iaload, 1) := by decide +kernel
theorem dX6_mayBeNext_23 : decode cX6_mayBeNext 23 = .ok (.iconst 1, 1) := by decide +kernel
theorem dX6_mayBeNext_24 : decode cX6_mayBeNext 24 = .ok (.iadd, 1) := by decide +kernel
theorem dX6_mayBeNext_25 : decode cX6_mayBeNext 25 = .ok (.iload_n 1, 1) := by decide +kernel
theorem dX6_mayBeNext_26 : decode cX6_mayBeNext 26 = .ok (.aload_n 0, 1) := by decide +kernel
theorem dX6_mayBeNext_27 : decode cX6_mayBeNext 27 = .ok (.getfield 54, 3) := by decide +kernel
theorem dX6_mayBeNext_30 : decode cX6_mayBeNext 30 = .ok (.invokevirtual 140, 3) := by decide +kernel
theorem dX6_mayBeNext_33 : decode cX6_mayBeNext 33 = .ok (.ireturn, 1) := by decide +kernel
theorem dX6_laysKey_0 : decode cX6_laysKey 0 = .ok (.aload_n 0, 1) := by decide +kernel
theorem dX6_laysKey_1 : decode cX6_laysKey 1 = .ok (.invokevirtual 165, 3) := by decide +kernel
theorem dX6_laysKey_4 : decode cX6_laysKey 4 = .ok (.aload_n 0, 1) := by decide +kernel
theorem dX6_laysKey_5 : decode cX6_laysKey 5 = .ok (.getfield 7, 3) := by decide +kernel
theorem dX6_laysKey_8 : decode cX6_laysKey 8 = .ok (.iconst 3, 1) := by decide +kernel
theorem dX6_laysKey_9 : decode cX6_laysKey 9 = .ok (.dup2, 1) := by decide +kernel
theorem dX6_laysKey_10 : decode cX6_laysKey 10 = .ok (.iaload, 1) := by decide +kernel
theorem dX6_laysKey_11 : decode cX6_laysKey 11 = .ok (.iconst 1, 1) := by decide +kernel
theorem dX6_laysKey_12 : decode cX6_laysKey 12 = .ok (.iadd, 1) := by decide +kernel
theorem dX6_laysKey_13 : decode cX6_laysKey 13 = .ok (.iastore, 1) := by decide +kernel
theorem dX6_laysKey_14 : decode cX6_laysKey 14 = .ok (.aload_n 0, 1) := by decide +kernel
theorem dX6_laysKey_15 : decode cX6_laysKey 15 = .ok (.getfield 7, 3) := by decide +kernel
theorem dX6_laysKey_18 : decode cX6_laysKey 18 = .ok (.iconst 4, 1) := by decide +kernel
theorem dX6_laysKey_19 : decode cX6_laysKey 19 = .ok (.aload_n 0, 1) := by decide +kernel
theorem dX6_laysKey_20 : decode cX6_laysKey 20 = .ok (.getfield 7, 3) := by decide +kernel
theorem dX6_laysKey_23 : decode cX6_laysKey 23 = .ok (.iconst 3, 1) := by decide +kernel
theorem dX6_laysKey_24 : decode cX6_laysKey 24 = .ok (.iaload, 1) := by decide +kernel
theorem dX6_laysKey_25 : decode cX6_laysKey 25 = .ok (.iadd, 1) := by decide +kernel
theorem dX6_laysKey_26 : decode cX6_laysKey 26 = .ok (.iload_n 1, 1) := by decide +kernel
theorem dX6_laysKey_27 : decode cX6_laysKey 27 = .ok (.iastore, 1) := by decide +kernel
theorem dX6_laysKey_28 : decode cX6_laysKey 28 = .ok (.return_, 1) := by decide +kernel
theorem dX6_builds_0 : decode cX6_builds 0 = .ok (.iload_n 1, 1) := by decide +kernel
theorem dX6_builds_1 : decode cX6_builds 1 = .ok (.iconst 0, 1) := by decide +kernel
theorem dX6_builds_2 : decode cX6_builds 2 = .ok (.bipush 7, 2) := by decide +kernel
theorem dX6_builds_4 : decode cX6_builds 4 = .ok (.invokestatic 76, 3) := by decide +kernel
theorem dX6_builds_7 : decode cX6_builds 7 = .ok (.ifCond .ne 5, 3) := by decide +kernel
theorem dX6_builds_10 : decode cX6_builds 10 = .ok (.iconst (-1), 1) := by decide +kernel
theorem dX6_builds_11 : decode cX6_builds 11 = .ok (.ireturn, 1) := by decide +kernel
theorem dX6_builds_12 : decode cX6_builds 12 = .ok (.aload_n 0, 1) := by decide +kernel
theorem dX6_builds_13 : decode cX6_builds 13 = .ok (.getfield 7, 3) := by decide +kernel
theorem dX6_builds_16 : decode cX6_builds 16 = .ok (.iconst 3, 1) := by decide +kernel
theorem dX6_builds_17 : decode cX6_builds 17 = .ok (.iaload, 1) := by decide +kernel
theorem dX6_builds_18 : decode cX6_builds 18 = .ok (.bipush 12, 2) := by decide +kernel
theorem dX6_builds_20 : decode cX6_builds 20 = .ok (.if_icmp .ne 6, 3) := by decide +kernel
theorem dX6_builds_23 : decode cX6_builds 23 = .ok (.bipush (-3), 2) := by decide +kernel
theorem dX6_builds_25 : decode cX6_builds 25 = .ok (.ireturn, 1) := by decide +kernel
theorem dX6_builds_26 : decode cX6_builds 26 = .ok (.aload_n 0, 1) := by decide +kernel
theorem dX6_builds_27 : decode cX6_builds 27 = .ok (.iload_n 1, 1) := by decide +kernel
theorem dX6_builds_28 : decode cX6_builds 28 = .ok (.invokevirtual 168, 3) := by decide +kernel
theorem dX6_builds_31 : decode cX6_builds 31 = .ok (.ifCond .ne 6, 3) := by decide +kernel
theorem dX6_builds_34 : decode cX6_builds 34 = .ok (.bipush (-2), 2) := by decide +kernel
theorem dX6_builds_36 : decode cX6_builds 36 = .ok (.ireturn, 1) := by decide +kernel
theorem dX6_builds_37 : decode cX6_builds 37 = .ok (.aload_n 0, 1) := by decide +kernel
theorem dX6_builds_38 : decode cX6_builds 38 = .ok (.iload_n 1, 1) := by decide +kernel
theorem dX6_builds_39 : decode cX6_builds 39 = .ok (.invokevirtual 171, 3) := by decide +kernel
theorem dX6_builds_42 : decode cX6_builds 42 = .ok (.aload_n 0, 1) := by decide +kernel
theorem dX6_builds_43 : decode cX6_builds 43 = .ok (.aload_n 0, 1) := by decide +kernel
theorem dX6_builds_44 : decode cX6_builds 44 = .ok (.getfield 7, 3) := by decide +kernel
theorem dX6_builds_47 : decode cX6_builds 47 = .ok (.iconst 3, 1) := by decide +kernel
theorem dX6_builds_48 : decode cX6_builds 48 = .ok (.iaload, 1) := by decide +kernel
theorem dX6_builds_49 : decode cX6_builds 49 = .ok (.invokevirtual 175, 3) := by decide +kernel
theorem dX6_builds_52 : decode cX6_builds 52 = .ok (.ireturn, 1) := by decide +kernel
theorem dX6_follows_0 : decode cX6_follows 0 = .ok (.iload_n 1, 1) := by decide +kernel
theorem dX6_follows_1 : decode cX6_follows 1 = .ok (.iconst 1, 1) := by decide +kernel
theorem dX6_follows_2 : decode cX6_follows 2 = .ok (.iconst 5, 1) := by decide +kernel
theorem dX6_follows_3 : decode cX6_follows 3 = .ok (.invokestatic 76, 3) := by decide +kernel
theorem dX6_follows_6 : decode cX6_follows 6 = .ok (.ifCond .ne 5, 3) := by decide +kernel
theorem dX6_follows_9 : decode cX6_follows 9 = .ok (.iconst (-1), 1) := by decide +kernel
theorem dX6_follows_10 : decode cX6_follows 10 = .ok (.ireturn, 1) := by decide +kernel
theorem dX6_follows_11 : decode cX6_follows 11 = .ok (.aload_n 0, 1) := by decide +kernel
theorem dX6_follows_12 : decode cX6_follows 12 = .ok (.getfield 7, 3) := by decide +kernel
theorem dX6_follows_15 : decode cX6_follows 15 = .ok (.iconst 3, 1) := by decide +kernel
theorem dX6_follows_16 : decode cX6_follows 16 = .ok (.iaload, 1) := by decide +kernel
theorem dX6_follows_17 : decode cX6_follows 17 = .ok (.bipush 12, 2) := by decide +kernel
theorem dX6_follows_19 : decode cX6_follows 19 = .ok (.if_icmp .ne 6, 3) := by decide +kernel
theorem dX6_follows_22 : decode cX6_follows 22 = .ok (.bipush (-3), 2) := by decide +kernel
theorem dX6_follows_24 : decode cX6_follows 24 = .ok (.ireturn, 1) := by decide +kernel
theorem dX6_follows_25 : decode cX6_follows 25 = .ok (.aload_n 0, 1) := by decide +kernel
theorem dX6_follows_26 : decode cX6_follows 26 = .ok (.iload_n 1, 1) := by decide +kernel
theorem dX6_follows_27 : decode cX6_follows 27 = .ok (.invokevirtual 178, 3) := by decide +kernel
theorem dX6_follows_30 : decode cX6_follows 30 = .ok (.aload_n 0, 1) := by decide +kernel
theorem dX6_follows_31 : decode cX6_follows 31 = .ok (.getfield 181, 3) := by decide +kernel
theorem dX6_follows_34 : decode cX6_follows 34 = .ok (.ifCond .ne 6, 3) := by decide +kernel
theorem dX6_follows_37 : decode cX6_follows 37 = .ok (.bipush (-2), 2) := by decide +kernel
theorem dX6_follows_39 : decode cX6_follows 39 = .ok (.ireturn, 1) := by decide +kernel
theorem dX6_follows_40 : decode cX6_follows 40 = .ok (.aload_n 0, 1) := by decide +kernel
theorem dX6_follows_41 : decode cX6_follows 41 = .ok (.getfield 184, 3) := by decide +kernel
theorem dX6_follows_44 : decode cX6_follows 44 = .ok (.iload_n 1, 1) := by decide +kernel
theorem dX6_follows_45 : decode cX6_follows 45 = .ok (.iconst 0, 1) := by decide +kernel
theorem dX6_follows_46 : decode cX6_follows 46 = .ok (.invokestatic 187, 3) := by decide +kernel
theorem dX6_follows_49 : decode cX6_follows 49 = .ok (.istore_n 2, 1) := by decide +kernel
theorem dX6_follows_50 : decode cX6_follows 50 = .ok (.aload_n 0, 1) := by decide +kernel
theorem dX6_follows_51 : decode cX6_follows 51 = .ok (.iload_n 2, 1) := by decide +kernel
theorem dX6_follows_52 : decode cX6_follows 52 = .ok (.invokevirtual 171, 3) := by decide +kernel
theorem dX6_follows_55 : decode cX6_follows 55 = .ok (.iload_n 2, 1) := by decide +kernel
theorem dX6_follows_56 : decode cX6_follows 56 = .ok (.ireturn, 1) := by decide +kernel
theorem dX6_wishes_0 : decode cX6_wishes 0 = .ok (.iload_n 1, 1) := by decide +kernel
theorem dX6_wishes_1 : decode cX6_wishes 1 = .ok (.iconst 1, 1) := by decide +kernel
theorem dX6_wishes_2 : decode cX6_wishes 2 = .ok (.bipush 17, 2) := by decide +kernel
theorem dX6_wishes_4 : decode cX6_wishes 4 = .ok (.invokestatic 76, 3) := by decide +kernel
theorem dX6_wishes_7 : decode cX6_wishes 7 = .ok (.ifCond .eq 25, 3) := by decide +kernel
theorem dX6_wishes_10 : decode cX6_wishes 10 = .ok (.iload_n 2, 1) := by decide +kernel
theorem dX6_wishes_11 : decode cX6_wishes 11 = .ok (.bipush (-99), 2) := by decide +kernel
theorem dX6_wishes_13 : decode cX6_wishes 13 = .ok (.bipush 99, 2) := by decide +kernel
theorem dX6_wishes_15 : decode cX6_wishes 15 = .ok (.invokestatic 76, 3) := by decide +kernel
theorem dX6_wishes_18 : decode cX6_wishes 18 = .ok (.ifCond .eq 14, 3) := by decide +kernel
theorem dX6_wishes_21 : decode cX6_wishes 21 = .ok (.iload_n 3, 1) := by decide +kernel
theorem dX6_wishes_22 : decode cX6_wishes 22 = .ok (.bipush (-99), 2) := by decide +kernel
theorem dX6_wishes_24 : decode cX6_wishes 24 = .ok (.bipush 99, 2) := by decide +kernel
theorem dX6_wishes_26 : decode cX6_wishes 26 = .ok (.invokestatic 76, 3) := by decide +kernel
theorem dX6_wishes_29 : decode cX6_wishes 29 = .ok (.ifCond .ne 5, 3) := by decide +kernel
theorem dX6_wishes_32 : decode cX6_wishes 32 = .ok (.iconst (-1), 1) := by decide +kernel
theorem dX6_wishes_33 : decode cX6_wishes 33 = .ok (.ireturn, 1) := by decide +kernel
theorem dX6_wishes_34 : decode cX6_wishes 34 = .ok (.aload_n 0, 1) := by decide +kernel
theorem dX6_wishes_35 : decode cX6_wishes 35 = .ok (.getfield 7, 3) := by decide +kernel
theorem dX6_wishes_38 : decode cX6_wishes 38 = .ok (.bipush 17, 2) := by decide +kernel
theorem dX6_wishes_40 : decode cX6_wishes 40 = .ok (.iload_n 1, 1) := by decide +kernel
theorem dX6_wishes_41 : decode cX6_wishes 41 = .ok (.iadd, 1) := by decide +kernel
theorem dX6_wishes_42 : decode cX6_wishes 42 = .ok (.iaload, 1) := by decide +kernel
theorem dX6_wishes_43 : decode cX6_wishes 43 = .ok (.iload_n 2, 1) := by decide +kernel
theorem dX6_wishes_44 : decode cX6_wishes 44 = .ok (.if_icmp .ne 19, 3) := by decide +kernel
theorem dX6_wishes_47 : decode cX6_wishes 47 = .ok (.aload_n 0, 1) := by decide +kernel
theorem dX6_wishes_48 : decode cX6_wishes 48 = .ok (.getfield 7, 3) := by decide +kernel
theorem dX6_wishes_51 : decode cX6_wishes 51 = .ok (.bipush 35, 2) := by decide +kernel
theorem dX6_wishes_53 : decode cX6_wishes 53 = .ok (.iload_n 1, 1) := by decide +kernel
theorem dX6_wishes_54 : decode cX6_wishes 54 = .ok (.iadd, 1) := by decide +kernel
theorem dX6_wishes_55 : decode cX6_wishes 55 = .ok (.iaload, 1) := by decide +kernel
theorem dX6_wishes_56 : decode cX6_wishes 56 = .ok (.iload_n 3, 1) := by decide +kernel
theorem dX6_wishes_57 : decode cX6_wishes 57 = .ok (.if_icmp .ne 6, 3) := by decide +kernel
theorem dX6_wishes_60 : decode cX6_wishes 60 = .ok (.bipush (-2), 2) := by decide +kernel
theorem dX6_wishes_62 : decode cX6_wishes 62 = .ok (.ireturn, 1) := by decide +kernel
theorem dX6_wishes_63 : decode cX6_wishes 63 = .ok (.aload_n 0, 1) := by decide +kernel
theorem dX6_wishes_64 : decode cX6_wishes 64 = .ok (.invokevirtual 165, 3) := by decide +kernel
theorem dX6_wishes_67 : decode cX6_wishes 67 = .ok (.aload_n 0, 1) := by decide +kernel
theorem dX6_wishes_68 : decode cX6_wishes 68 = .ok (.getfield 7, 3) := by decide +kernel
theorem dX6_wishes_71 : decode cX6_wishes 71 = .ok (.bipush 17, 2) := by decide +kernel
theorem dX6_wishes_73 : decode cX6_wishes 73 = .ok (.iload_n 1, 1) := by decide +kernel
theorem dX6_wishes_74 : decode cX6_wishes 74 = .ok (.iadd, 1) := by decide +kernel
theorem dX6_wishes_75 : decode cX6_wishes 75 = .ok (.iload_n 2, 1) := by decide +kernel
theorem dX6_wishes_76 : decode cX6_wishes 76 = .ok (.iastore, 1) := by decide +kernel
theorem dX6_wishes_77 : decode cX6_wishes 77 = .ok (.aload_n 0, 1) := by decide +kernel
theorem dX6_wishes_78 : decode cX6_wishes 78 = .ok (.getfield 7, 3) := by decide +kernel
theorem dX6_wishes_81 : decode cX6_wishes 81 = .ok (.bipush 35, 2) := by decide +kernel
theorem dX6_wishes_83 : decode cX6_wishes 83 = .ok (.iload_n 1, 1) := by decide +kernel
theorem dX6_wishes_84 : decode cX6_wishes 84 = .ok (.iadd, 1) := by decide +kernel
theorem dX6_wishes_85 : decode cX6_wishes 85 = .ok (.iload_n 3, 1) := by decide +kernel
theorem dX6_wishes_86 : decode cX6_wishes 86 = .ok (.iastore, 1) := by decide +kernel
theorem dX6_wishes_87 : decode cX6_wishes 87 = .ok (.iconst 1, 1) := by decide +kernel
theorem dX6_wishes_88 : decode cX6_wishes 88 = .ok (.ireturn, 1) := by decide +kernel
theorem dX6_rules_0 : decode cX6_rules 0 = .ok (.iload_n 1, 1) := by decide +kernel
theorem dX6_rules_1 : decode cX6_rules 1 = .ok (.iconst 0, 1) := by decide +kernel
theorem dX6_rules_2 : decode cX6_rules 2 = .ok (.iconst 2, 1) := by decide +kernel
theorem dX6_rules_3 : decode cX6_rules 3 = .ok (.invokestatic 76, 3) := by decide +kernel
theorem dX6_rules_6 : decode cX6_rules 6 = .ok (.ifCond .eq 30, 3) := by decide +kernel
theorem dX6_rules_9 : decode cX6_rules 9 = .ok (.iload_n 2, 1) := by decide +kernel
theorem dX6_rules_10 : decode cX6_rules 10 = .ok (.iconst 0, 1) := by decide +kernel
theorem dX6_rules_11 : decode cX6_rules 11 = .ok (.iload_n 1, 1) := by decide +kernel
theorem dX6_rules_12 : decode cX6_rules 12 = .ok (.ifCond .ne 7, 3) := by decide +kernel
theorem dX6_rules_15 : decode cX6_rules 15 = .ok (.iconst 3, 1) := by decide +kernel
theorem dX6_rules_16 : decode cX6_rules 16 = .ok (.goto 14, 3) := by decide +kernel
theorem dX6_rules_19 : decode cX6_rules 19 = .ok (.iload_n 1, 1) := by decide +kernel
theorem dX6_rules_20 : decode cX6_rules 20 = .ok (.iconst 1, 1) := by decide +kernel
theorem dX6_rules_21 : decode cX6_rules 21 = .ok (.if_icmp .ne 7, 3) := by decide +kernel
theorem dX6_rules_24 : decode cX6_rules 24 = .ok (.iconst 2, 1) := by decide +kernel
theorem dX6_rules_25 : decode cX6_rules 25 = .ok (.goto 5, 3) := by decide +kernel
theorem dX6_rules_28 : decode cX6_rules 28 = .ok (.bipush 20, 2) := by decide +kernel
theorem dX6_rules_30 : decode cX6_rules 30 = .ok (.invokestatic 76, 3) := by decide +kernel
theorem dX6_rules_33 : decode cX6_rules 33 = .ok (.ifCond .ne 5, 3) := by decide +kernel
theorem dX6_rules_36 : decode cX6_rules 36 = .ok (.iconst (-1), 1) := by decide +kernel
theorem dX6_rules_37 : decode cX6_rules 37 = .ok (.ireturn, 1) := by decide +kernel
theorem dX6_rules_38 : decode cX6_rules 38 = .ok (.aload_n 0, 1) := by decide +kernel
theorem dX6_rules_39 : decode cX6_rules 39 = .ok (.getfield 7, 3) := by decide +kernel
theorem dX6_rules_42 : decode cX6_rules 42 = .ok (.iload_n 1, 1) := by decide +kernel
theorem dX6_rules_43 : decode cX6_rules 43 = .ok (.iaload, 1) := by decide +kernel
theorem dX6_rules_44 : decode cX6_rules 44 = .ok (.istore_n 3, 1) := by decide +kernel
theorem dX6_rules_45 : decode cX6_rules 45 = .ok (.iload_n 3, 1) := by decide +kernel
theorem dX6_rules_46 : decode cX6_rules 46 = .ok (.iload_n 2, 1) := by decide +kernel
theorem dX6_rules_47 : decode cX6_rules 47 = .ok (.if_icmp .ne 6, 3) := by decide +kernel
theorem dX6_rules_50 : decode cX6_rules 50 = .ok (.bipush (-2), 2) := by decide +kernel
theorem dX6_rules_52 : decode cX6_rules 52 = .ok (.ireturn, 1) := by decide +kernel
theorem dX6_rules_53 : decode cX6_rules 53 = .ok (.aload_n 0, 1) := by decide +kernel
theorem dX6_rules_54 : decode cX6_rules 54 = .ok (.invokevirtual 165, 3) := by decide +kernel
theorem dX6_rules_57 : decode cX6_rules 57 = .ok (.aload_n 0, 1) := by decide +kernel
theorem dX6_rules_58 : decode cX6_rules 58 = .ok (.getfield 7, 3) := by decide +kernel
theorem dX6_rules_61 : decode cX6_rules 61 = .ok (.iload_n 1, 1) := by decide +kernel
theorem dX6_rules_62 : decode cX6_rules 62 = .ok (.iload_n 2, 1) := by decide +kernel
theorem dX6_rules_63 : decode cX6_rules 63 = .ok (.iastore, 1) := by decide +kernel
theorem dX6_rules_64 : decode cX6_rules 64 = .ok (.iload_n 3, 1) := by decide +kernel
theorem dX6_rules_65 : decode cX6_rules 65 = .ok (.ireturn, 1) := by decide +kernel
theorem dX6_undo_0 : decode cX6_undo 0 = .ok (.aload_n 0, 1) := by decide +kernel
theorem dX6_undo_1 : decode cX6_undo 1 = .ok (.getfield 156, 3) := by decide +kernel
theorem dX6_undo_4 : decode cX6_undo 4 = .ok (.ifCond .ne 6, 3) := by decide +kernel
theorem dX6_undo_7 : decode cX6_undo 7 = .ok (.bipush (-2), 2) := by decide +kernel
theorem dX6_undo_9 : decode cX6_undo 9 = .ok (.ireturn, 1) := by decide +kernel
theorem dX6_undo_10 : decode cX6_undo 10 = .ok (.aload_n 0, 1) := by decide +kernel
theorem dX6_undo_11 : decode cX6_undo 11 = .ok (.aload_n 0, 1) := by decide +kernel
theorem dX6_undo_12 : decode cX6_undo 12 = .ok (.getfield 162, 3) := by decide +kernel
theorem dX6_undo_15 : decode cX6_undo 15 = .ok (.bipush 12, 2) := by decide +kernel
theorem dX6_undo_17 : decode cX6_undo 17 = .ok (.iadd, 1) := by decide +kernel
theorem dX6_undo_18 : decode cX6_undo 18 = .ok (.iconst 1, 1) := by decide +kernel
theorem dX6_undo_19 : decode cX6_undo 19 = .ok (.isub, 1) := by decide +kernel
theorem dX6_undo_20 : decode cX6_undo 20 = .ok (.bipush 12, 2) := by decide +kernel
theorem dX6_undo_22 : decode cX6_undo 22 = .ok (.irem, 1) := by decide +kernel
theorem dX6_undo_23 : decode cX6_undo 23 = .ok (.putfield 162, 3) := by decide +kernel
theorem dX6_undo_26 : decode cX6_undo 26 = .ok (.aload_n 0, 1) := by decide +kernel
theorem dX6_undo_27 : decode cX6_undo 27 = .ok (.dup, 1) := by decide +kernel
theorem dX6_undo_28 : decode cX6_undo 28 = .ok (.getfield 156, 3) := by decide +kernel
theorem dX6_undo_31 : decode cX6_undo 31 = .ok (.iconst 1, 1) := by decide +kernel
theorem dX6_undo_32 : decode cX6_undo 32 = .ok (.isub, 1) := by decide +kernel
theorem dX6_undo_33 : decode cX6_undo 33 = .ok (.putfield 156, 3) := by decide +kernel
theorem dX6_undo_36 : decode cX6_undo 36 = .ok (.iconst 0, 1) := by decide +kernel
theorem dX6_undo_37 : decode cX6_undo 37 = .ok (.istore_n 1, 1) := by decide +kernel
theorem dX6_undo_38 : decode cX6_undo 38 = .ok (.iload_n 1, 1) := by decide +kernel
theorem dX6_undo_39 : decode cX6_undo 39 = .ok (.bipush 53, 2) := by decide +kernel
theorem dX6_undo_41 : decode cX6_undo 41 = .ok (.if_icmp .ge 29, 3) := by decide +kernel
theorem dX6_undo_44 : decode cX6_undo 44 = .ok (.aload_n 0, 1) := by decide +kernel
theorem dX6_undo_45 : decode cX6_undo 45 = .ok (.getfield 7, 3) := by decide +kernel
theorem dX6_undo_48 : decode cX6_undo 48 = .ok (.iload_n 1, 1) := by decide +kernel
theorem dX6_undo_49 : decode cX6_undo 49 = .ok (.aload_n 0, 1) := by decide +kernel
theorem dX6_undo_50 : decode cX6_undo 50 = .ok (.getfield 13, 3) := by decide +kernel
theorem dX6_undo_53 : decode cX6_undo 53 = .ok (.bipush 53, 2) := by decide +kernel
theorem dX6_undo_55 : decode cX6_undo 55 = .ok (.aload_n 0, 1) := by decide +kernel
theorem dX6_undo_56 : decode cX6_undo 56 = .ok (.getfield 162, 3) := by decide +kernel
theorem dX6_undo_59 : decode cX6_undo 59 = .ok (.imul, 1) := by decide +kernel
theorem dX6_undo_60 : decode cX6_undo 60 = .ok (.iload_n 1, 1) := by decide +kernel
theorem dX6_undo_61 : decode cX6_undo 61 = .ok (.iadd, 1) := by decide +kernel
theorem dX6_undo_62 : decode cX6_undo 62 = .ok (.iaload, 1) := by decide +kernel
theorem dX6_undo_63 : decode cX6_undo 63 = .ok (.iastore, 1) := by decide +kernel
theorem dX6_undo_64 : decode cX6_undo 64 = .ok (.iinc 1 1, 3) := by decide +kernel
theorem dX6_undo_67 : decode cX6_undo 67 = .ok (.goto (-29), 3) := by decide +kernel
theorem dX6_undo_70 : decode cX6_undo 70 = .ok (.aload_n 0, 1) := by decide +kernel
theorem dX6_undo_71 : decode cX6_undo 71 = .ok (.getfield 156, 3) := by decide +kernel
theorem dX6_undo_74 : decode cX6_undo 74 = .ok (.ireturn, 1) := by decide +kernel
theorem dX6_ring_0 : decode cX6_ring 0 = .ok (.iload_n 1, 1) := by decide +kernel
theorem dX6_ring_1 : decode cX6_ring 1 = .ok (.iconst 0, 1) := by decide +kernel
theorem dX6_ring_2 : decode cX6_ring 2 = .ok (.aload_n 0, 1) := by decide +kernel
theorem dX6_ring_3 : decode cX6_ring 3 = .ok (.getfield 7, 3) := by decide +kernel
theorem dX6_ring_6 : decode cX6_ring 6 = .ok (.iconst 3, 1) := by decide +kernel
theorem dX6_ring_7 : decode cX6_ring 7 = .ok (.iaload, 1) := by decide +kernel
theorem dX6_ring_8 : decode cX6_ring 8 = .ok (.invokestatic 76, 3) := by decide +kernel
theorem dX6_ring_11 : decode cX6_ring 11 = .ok (.ifCond .eq 12, 3) := by decide +kernel
theorem dX6_ring_14 : decode cX6_ring 14 = .ok (.iload_n 2, 1) := by decide +kernel
theorem dX6_ring_15 : decode cX6_ring 15 = .ok (.iconst 0, 1) := by decide +kernel
theorem dX6_ring_16 : decode cX6_ring 16 = .ok (.iconst 5, 1) := by decide +kernel
theorem dX6_ring_17 : decode cX6_ring 17 = .ok (.invokestatic 76, 3) := by decide +kernel
theorem dX6_ring_20 : decode cX6_ring 20 = .ok (.ifCond .ne 6, 3) := by decide +kernel
theorem dX6_ring_23 : decode cX6_ring 23 = .ok (.ldc 191, 2) := by decide +kernel
theorem dX6_ring_25 : decode cX6_ring 25 = .ok (.ireturn, 1) := by decide +kernel
theorem dX6_ring_26 : decode cX6_ring 26 = .ok (.aload_n 0, 1) := by decide +kernel
theorem dX6_ring_27 : decode cX6_ring 27 = .ok (.aload_n 0, 1) := by decide +kernel
theorem dX6_ring_28 : decode cX6_ring 28 = .ok (.getfield 7, 3) := by decide +kernel
theorem dX6_ring_31 : decode cX6_ring 31 = .ok (.aload_n 0, 1) := by decide +kernel
theorem dX6_ring_32 : decode cX6_ring 32 = .ok (.getfield 54, 3) := by decide +kernel
theorem dX6_ring_35 : decode cX6_ring 35 = .ok (.invokevirtual 136, 3) := by decide +kernel
theorem dX6_ring_38 : decode cX6_ring 38 = .ok (.iload_n 2, 1) := by decide +kernel
theorem dX6_ring_39 : decode cX6_ring 39 = .ok (.tableswitch 77 0 4 #[33, 49, 56, 63, 70], 33) := by decide +kernel
theorem dX6_ring_72 : decode cX6_ring 72 = .ok (.iload_n 1, 1) := by decide +kernel
theorem dX6_ring_73 : decode cX6_ring 73 = .ok (.ifCond .ne 8, 3) := by decide +kernel
theorem dX6_ring_76 : decode cX6_ring 76 = .ok (.bipush (-9), 2) := by decide +kernel
theorem dX6_ring_78 : decode cX6_ring 78 = .ok (.goto 9, 3) := by decide +kernel
theorem dX6_ring_81 : decode cX6_ring 81 = .ok (.aload_n 0, 1) := by decide +kernel
theorem dX6_ring_82 : decode cX6_ring 82 = .ok (.getfield 29, 3) := by decide +kernel
theorem dX6_ring_85 : decode cX6_ring 85 = .ok (.iload_n 1, 1) := by decide +kernel
theorem dX6_ring_86 : decode cX6_ring 86 = .ok (.iaload, 1) := by decide +kernel
theorem dX6_ring_87 : decode cX6_ring 87 = .ok (.ireturn, 1) := by decide +kernel
theorem dX6_ring_88 : decode cX6_ring 88 = .ok (.aload_n 0, 1) := by decide +kernel
theorem dX6_ring_89 : decode cX6_ring 89 = .ok (.getfield 32, 3) := by decide +kernel
theorem dX6_ring_92 : decode cX6_ring 92 = .ok (.iload_n 1, 1) := by decide +kernel
theorem dX6_ring_93 : decode cX6_ring 93 = .ok (.iaload, 1) := by decide +kernel
theorem dX6_ring_94 : decode cX6_ring 94 = .ok (.ireturn, 1) := by decide +kernel
theorem dX6_ring_95 : decode cX6_ring 95 = .ok (.aload_n 0, 1) := by decide +kernel
theorem dX6_ring_96 : decode cX6_ring 96 = .ok (.getfield 35, 3) := by decide +kernel
theorem dX6_ring_99 : decode cX6_ring 99 = .ok (.iload_n 1, 1) := by decide +kernel
theorem dX6_ring_100 : decode cX6_ring 100 = .ok (.iaload, 1) := by decide +kernel
theorem dX6_ring_101 : decode cX6_ring 101 = .ok (.ireturn, 1) := by decide +kernel
theorem dX6_ring_102 : decode cX6_ring 102 = .ok (.aload_n 0, 1) := by decide +kernel
theorem dX6_ring_103 : decode cX6_ring 103 = .ok (.getfield 38, 3) := by decide +kernel
theorem dX6_ring_106 : decode cX6_ring 106 = .ok (.iload_n 1, 1) := by decide +kernel
theorem dX6_ring_107 : decode cX6_ring 107 = .ok (.iaload, 1) := by decide +kernel
theorem dX6_ring_108 : decode cX6_ring 108 = .ok (.ireturn, 1) := by decide +kernel
theorem dX6_ring_109 : decode cX6_ring 109 = .ok (.aload_n 0, 1) := by decide +kernel
theorem dX6_ring_110 : decode cX6_ring 110 = .ok (.getfield 41, 3) := by decide +kernel
theorem dX6_ring_113 : decode cX6_ring 113 = .ok (.iload_n 1, 1) := by decide +kernel
theorem dX6_ring_114 : decode cX6_ring 114 = .ok (.iaload, 1) := by decide +kernel
theorem dX6_ring_115 : decode cX6_ring 115 = .ok (.ireturn, 1) := by decide +kernel
theorem dX6_ring_116 : decode cX6_ring 116 = .ok (.iload_n 1, 1) := by decide +kernel
theorem dX6_ring_117 : decode cX6_ring 117 = .ok (.ifCond .ne 7, 3) := by decide +kernel
theorem dX6_ring_120 : decode cX6_ring 120 = .ok (.iconst 0, 1) := by decide +kernel
theorem dX6_ring_121 : decode cX6_ring 121 = .ok (.goto 8, 3) := by decide +kernel
theorem dX6_ring_124 : decode cX6_ring 124 = .ok (.aload_n 0, 1) := by decide +kernel
theorem dX6_ring_125 : decode cX6_ring 125 = .ok (.iload_n 1, 1) := by decide +kernel
theorem dX6_ring_126 : decode cX6_ring 126 = .ok (.invokevirtual 175, 3) := by decide +kernel
theorem dX6_ring_129 : decode cX6_ring 129 = .ok (.ireturn, 1) := by decide +kernel
theorem dX6_wish_0 : decode cX6_wish 0 = .ok (.iload_n 1, 1) := by decide +kernel
theorem dX6_wish_1 : decode cX6_wish 1 = .ok (.iconst 0, 1) := by decide +kernel
theorem dX6_wish_2 : decode cX6_wish 2 = .ok (.bipush 17, 2) := by decide +kernel
theorem dX6_wish_4 : decode cX6_wish 4 = .ok (.invokestatic 76, 3) := by decide +kernel
theorem dX6_wish_7 : decode cX6_wish 7 = .ok (.ifCond .eq 33, 3) := by decide +kernel
theorem dX6_wish_10 : decode cX6_wish 10 = .ok (.iload_n 2, 1) := by decide +kernel
theorem dX6_wish_11 : decode cX6_wish 11 = .ok (.iconst 0, 1) := by decide +kernel
theorem dX6_wish_12 : decode cX6_wish 12 = .ok (.iconst 1, 1) := by decide +kernel
theorem dX6_wish_13 : decode cX6_wish 13 = .ok (.invokestatic 76, 3) := by decide +kernel
theorem dX6_wish_16 : decode cX6_wish 16 = .ok (.ifCond .eq 24, 3) := by decide +kernel
theorem dX6_wish_19 : decode cX6_wish 19 = .ok (.aload_n 0, 1) := by decide +kernel
theorem dX6_wish_20 : decode cX6_wish 20 = .ok (.getfield 7, 3) := by decide +kernel
theorem dX6_wish_23 : decode cX6_wish 23 = .ok (.iload_n 2, 1) := by decide +kernel
theorem dX6_wish_24 : decode cX6_wish 24 = .ok (.ifCond .ne 8, 3) := by decide +kernel
theorem dX6_wish_27 : decode cX6_wish 27 = .ok (.bipush 17, 2) := by decide +kernel
theorem dX6_wish_29 : decode cX6_wish 29 = .ok (.goto 5, 3) := by decide +kernel
theorem dX6_wish_32 : decode cX6_wish 32 = .ok (.bipush 35, 2) := by decide +kernel
theorem dX6_wish_34 : decode cX6_wish 34 = .ok (.iload_n 1, 1) := by decide +kernel
theorem dX6_wish_35 : decode cX6_wish 35 = .ok (.iadd, 1) := by decide +kernel
theorem dX6_wish_36 : decode cX6_wish 36 = .ok (.iaload, 1) := by decide +kernel
theorem dX6_wish_37 : decode cX6_wish 37 = .ok (.goto 5, 3) := by decide +kernel
theorem dX6_wish_40 : decode cX6_wish 40 = .ok (.ldc 191, 2) := by decide +kernel
theorem dX6_wish_42 : decode cX6_wish 42 = .ok (.ireturn, 1) := by decide +kernel
theorem dX6_worst_0 : decode cX6_worst 0 = .ok (.iload_n 1, 1) := by decide +kernel
theorem dX6_worst_1 : decode cX6_worst 1 = .ok (.ifCond .ge 5, 3) := by decide +kernel
theorem dX6_worst_4 : decode cX6_worst 4 = .ok (.iconst (-1), 1) := by decide +kernel
theorem dX6_worst_5 : decode cX6_worst 5 = .ok (.ireturn, 1) := by decide +kernel
theorem dX6_worst_6 : decode cX6_worst 6 = .ok (.aload_n 0, 1) := by decide +kernel
theorem dX6_worst_7 : decode cX6_worst 7 = .ok (.aload_n 0, 1) := by decide +kernel
theorem dX6_worst_8 : decode cX6_worst 8 = .ok (.getfield 7, 3) := by decide +kernel
theorem dX6_worst_11 : decode cX6_worst 11 = .ok (.aload_n 0, 1) := by decide +kernel
theorem dX6_worst_12 : decode cX6_worst 12 = .ok (.getfield 54, 3) := by decide +kernel
theorem dX6_worst_15 : decode cX6_worst 15 = .ok (.invokevirtual 136, 3) := by decide +kernel
theorem dX6_worst_18 : decode cX6_worst 18 = .ok (.iconst 1, 1) := by decide +kernel
theorem dX6_worst_19 : decode cX6_worst 19 = .ok (.istore_n 2, 1) := by decide +kernel
theorem dX6_worst_20 : decode cX6_worst 20 = .ok (.iload_n 2, 1) := by decide +kernel
theorem dX6_worst_21 : decode cX6_worst 21 = .ok (.aload_n 0, 1) := by decide +kernel
theorem dX6_worst_22 : decode cX6_worst 22 = .ok (.getfield 7, 3) := by decide +kernel
theorem dX6_worst_25 : decode cX6_worst 25 = .ok (.iconst 3, 1) := by decide +kernel
theorem dX6_worst_26 : decode cX6_worst 26 = .ok (.iaload, 1) := by decide +kernel
theorem dX6_worst_27 : decode cX6_worst 27 = .ok (.if_icmp .gt 80, 3) := by decide +kernel
theorem dX6_worst_30 : decode cX6_worst 30 = .ok (.iconst 0, 1) := by decide +kernel
theorem dX6_worst_31 : decode cX6_worst 31 = .ok (.istore_n 3, 1) := by decide +kernel
theorem dX6_worst_32 : decode cX6_worst 32 = .ok (.iconst 1, 1) := by decide +kernel
theorem dX6_worst_33 : decode cX6_worst 33 = .ok (.istore 4, 2) := by decide +kernel
theorem dX6_worst_35 : decode cX6_worst 35 = .ok (.iload 4, 2) := by decide +kernel
theorem dX6_worst_37 : decode cX6_worst 37 = .ok (.aload_n 0, 1) := by decide +kernel
theorem dX6_worst_38 : decode cX6_worst 38 = .ok (.getfield 7, 3) := by decide +kernel
theorem dX6_worst_41 : decode cX6_worst 41 = .ok (.iconst 3, 1) := by decide +kernel
theorem dX6_worst_42 : decode cX6_worst 42 = .ok (.iaload, 1) := by decide +kernel
theorem dX6_worst_43 : decode cX6_worst 43 = .ok (.if_icmp .gt 51, 3) := by decide +kernel
theorem dX6_worst_46 : decode cX6_worst 46 = .ok (.iload_n 3, 1) := by decide +kernel
theorem dX6_worst_47 : decode cX6_worst 47 = .ok (.aload_n 0, 1) := by decide +kernel
theorem dX6_worst_48 : decode cX6_worst 48 = .ok (.iload 4, 2) := by decide +kernel
theorem dX6_worst_50 : decode cX6_worst 50 = .ok (.invokevirtual 175, 3) := by decide +kernel
theorem dX6_worst_53 : decode cX6_worst 53 = .ok (.aload_n 0, 1) := by decide +kernel
theorem dX6_worst_54 : decode cX6_worst 54 = .ok (.iload_n 2, 1) := by decide +kernel
theorem dX6_worst_55 : decode cX6_worst 55 = .ok (.invokevirtual 175, 3) := by decide +kernel
theorem dX6_worst_58 : decode cX6_worst 58 = .ok (.if_icmp .gt 23, 3) := by decide +kernel
theorem dX6_worst_61 : decode cX6_worst 61 = .ok (.aload_n 0, 1) := by decide +kernel
theorem dX6_worst_62 : decode cX6_worst 62 = .ok (.iload 4, 2) := by decide +kernel
theorem dX6_worst_64 : decode cX6_worst 64 = .ok (.invokevirtual 175, 3) := by decide +kernel
theorem dX6_worst_67 : decode cX6_worst 67 = .ok (.aload_n 0, 1) := by decide +kernel
theorem dX6_worst_68 : decode cX6_worst 68 = .ok (.iload_n 2, 1) := by decide +kernel
theorem dX6_worst_69 : decode cX6_worst 69 = .ok (.invokevirtual 175, 3) := by decide +kernel
theorem dX6_worst_72 : decode cX6_worst 72 = .ok (.if_icmp .ne 13, 3) := by decide +kernel
theorem dX6_worst_75 : decode cX6_worst 75 = .ok (.iload 4, 2) := by decide +kernel
theorem dX6_worst_77 : decode cX6_worst 77 = .ok (.iload_n 2, 1) := by decide +kernel
theorem dX6_worst_78 : decode cX6_worst 78 = .ok (.if_icmp .ge 7, 3) := by decide +kernel
theorem dX6_worst_81 : decode cX6_worst 81 = .ok (.iconst 1, 1) := by decide +kernel
theorem dX6_worst_82 : decode cX6_worst 82 = .ok (.goto 4, 3) := by decide +kernel
theorem dX6_worst_85 : decode cX6_worst 85 = .ok (.iconst 0, 1) := by decide +kernel
theorem dX6_worst_86 : decode cX6_worst 86 = .ok (.iadd, 1) := by decide +kernel
theorem dX6_worst_87 : decode cX6_worst 87 = .ok (.istore_n 3, 1) := by decide +kernel
theorem dX6_worst_88 : decode cX6_worst 88 = .ok (.iinc 4 1, 3) := by decide +kernel
theorem dX6_worst_91 : decode cX6_worst 91 = .ok (.goto (-56), 3) := by decide +kernel
theorem dX6_worst_94 : decode cX6_worst 94 = .ok (.iload_n 3, 1) := by decide +kernel
theorem dX6_worst_95 : decode cX6_worst 95 = .ok (.iload_n 1, 1) := by decide +kernel
theorem dX6_worst_96 : decode cX6_worst 96 = .ok (.if_icmp .ne 5, 3) := by decide +kernel
theorem dX6_worst_99 : decode cX6_worst 99 = .ok (.iload_n 2, 1) := by decide +kernel
theorem dX6_worst_100 : decode cX6_worst 100 = .ok (.ireturn, 1) := by decide +kernel
theorem dX6_worst_101 : decode cX6_worst 101 = .ok (.iinc 2 1, 3) := by decide +kernel
theorem dX6_worst_104 : decode cX6_worst 104 = .ok (.goto (-84), 3) := by decide +kernel
theorem dX6_worst_107 : decode cX6_worst 107 = .ok (.bipush (-9), 2) := by decide +kernel
theorem dX6_worst_109 : decode cX6_worst 109 = .ok (.ireturn, 1) := by decide +kernel
theorem dX6_keyOf_0 : decode cX6_keyOf 0 = .ok (.iload_n 0, 1) := by decide +kernel
theorem dX6_keyOf_1 : decode cX6_keyOf 1 = .ok (.iconst 3, 1) := by decide +kernel
theorem dX6_keyOf_2 : decode cX6_keyOf 2 = .ok (.iload_n 1, 1) := by decide +kernel
theorem dX6_keyOf_3 : decode cX6_keyOf 3 = .ok (.iconst 1, 1) := by decide +kernel
theorem dX6_keyOf_4 : decode cX6_keyOf 4 = .ok (.isub, 1) := by decide +kernel
theorem dX6_keyOf_5 : decode cX6_keyOf 5 = .ok (.iload_n 2, 1) := by decide +kernel
theorem dX6_keyOf_6 : decode cX6_keyOf 6 = .ok (.isub, 1) := by decide +kernel
theorem dX6_keyOf_7 : decode cX6_keyOf 7 = .ok (.imul, 1) := by decide +kernel
theorem dX6_keyOf_8 : decode cX6_keyOf 8 = .ok (.ishr, 1) := by decide +kernel
theorem dX6_keyOf_9 : decode cX6_keyOf 9 = .ok (.bipush 7, 2) := by decide +kernel
theorem dX6_keyOf_11 : decode cX6_keyOf 11 = .ok (.iand, 1) := by decide +kernel
theorem dX6_keyOf_12 : decode cX6_keyOf 12 = .ok (.ireturn, 1) := by decide +kernel
theorem dX6_layPlan_0 : decode cX6_layPlan 0 = .ok (.aload_n 0, 1) := by decide +kernel
theorem dX6_layPlan_1 : decode cX6_layPlan 1 = .ok (.iconst 0, 1) := by decide +kernel
theorem dX6_layPlan_2 : decode cX6_layPlan 2 = .ok (.putfield 181, 3) := by decide +kernel
theorem dX6_layPlan_5 : decode cX6_layPlan 5 = .ok (.aload_n 0, 1) := by decide +kernel
theorem dX6_layPlan_6 : decode cX6_layPlan 6 = .ok (.aload_n 0, 1) := by decide +kernel
theorem dX6_layPlan_7 : decode cX6_layPlan 7 = .ok (.getfield 7, 3) := by decide +kernel
theorem dX6_layPlan_10 : decode cX6_layPlan 10 = .ok (.aload_n 0, 1) := by decide +kernel
theorem dX6_layPlan_11 : decode cX6_layPlan 11 = .ok (.getfield 54, 3) := by decide +kernel
theorem dX6_layPlan_14 : decode cX6_layPlan 14 = .ok (.invokevirtual 136, 3) := by decide +kernel
theorem dX6_layPlan_17 : decode cX6_layPlan 17 = .ok (.aload_n 0, 1) := by decide +kernel
theorem dX6_layPlan_18 : decode cX6_layPlan 18 = .ok (.getfield 7, 3) := by decide +kernel
theorem dX6_layPlan_21 : decode cX6_layPlan 21 = .ok (.iconst 3, 1) := by decide +kernel
theorem dX6_layPlan_22 : decode cX6_layPlan 22 = .ok (.iaload, 1) := by decide +kernel
theorem dX6_layPlan_23 : decode cX6_layPlan 23 = .ok (.istore_n 2, 1) := by decide +kernel
theorem dX6_layPlan_24 : decode cX6_layPlan 24 = .ok (.iconst 0, 1) := by decide +kernel
theorem dX6_layPlan_25 : decode cX6_layPlan 25 = .ok (.istore_n 3, 1) := by decide +kernel
theorem dX6_layPlan_26 : decode cX6_layPlan 26 = .ok (.iload_n 3, 1) := by decide +kernel
theorem dX6_layPlan_27 : decode cX6_layPlan 27 = .ok (.iconst 1, 1) := by decide +kernel
theorem dX6_layPlan_28 : decode cX6_layPlan 28 = .ok (.iconst 3, 1) := by decide +kernel
theorem dX6_layPlan_29 : decode cX6_layPlan 29 = .ok (.iload_n 1, 1) := by decide +kernel
theorem dX6_layPlan_30 : decode cX6_layPlan 30 = .ok (.imul, 1) := by decide +kernel
theorem dX6_layPlan_31 : decode cX6_layPlan 31 = .ok (.ishl, 1) := by decide +kernel
theorem dX6_layPlan_32 : decode cX6_layPlan 32 = .ok (.if_icmp .ge 141, 3) := by decide +kernel
theorem dX6_layPlan_35 : decode cX6_layPlan 35 = .ok (.iconst 1, 1) := by decide +kernel
theorem dX6_layPlan_36 : decode cX6_layPlan 36 = .ok (.istore 4, 2) := by decide +kernel
theorem dX6_layPlan_38 : decode cX6_layPlan 38 = .ok (.iconst 0, 1) := by decide +kernel
theorem dX6_layPlan_39 : decode cX6_layPlan 39 = .ok (.istore 5, 2) := by decide +kernel
theorem dX6_layPlan_41 : decode cX6_layPlan 41 = .ok (.iconst 0, 1) := by decide +kernel
theorem dX6_layPlan_42 : decode cX6_layPlan 42 = .ok (.istore 6, 2) := by decide +kernel
theorem dX6_layPlan_44 : decode cX6_layPlan 44 = .ok (.iload 6, 2) := by decide +kernel
theorem dX6_layPlan_46 : decode cX6_layPlan 46 = .ok (.iload_n 1, 1) := by decide +kernel
theorem dX6_layPlan_47 : decode cX6_layPlan 47 = .ok (.if_icmp .ge 56, 3) := by decide +kernel
theorem dX6_layPlan_50 : decode cX6_layPlan 50 = .ok (.iload 4, 2) := by decide +kernel
theorem dX6_layPlan_52 : decode cX6_layPlan 52 = .ok (.ifCond .eq 51, 3) := by decide +kernel
theorem dX6_layPlan_55 : decode cX6_layPlan 55 = .ok (.aload_n 0, 1) := by decide +kernel
theorem dX6_layPlan_56 : decode cX6_layPlan 56 = .ok (.aload_n 0, 1) := by decide +kernel
theorem dX6_layPlan_57 : decode cX6_layPlan 57 = .ok (.getfield 7, 3) := by decide +kernel
theorem dX6_layPlan_60 : decode cX6_layPlan 60 = .ok (.iload_n 2, 1) := by decide +kernel
theorem dX6_layPlan_61 : decode cX6_layPlan 61 = .ok (.iconst 1, 1) := by decide +kernel
theorem dX6_layPlan_62 : decode cX6_layPlan 62 = .ok (.iadd, 1) := by decide +kernel
theorem dX6_layPlan_63 : decode cX6_layPlan 63 = .ok (.iload 6, 2) := by decide +kernel
theorem dX6_layPlan_65 : decode cX6_layPlan 65 = .ok (.iadd, 1) := by decide +kernel
theorem dX6_layPlan_66 : decode cX6_layPlan 66 = .ok (.iload_n 3, 1) := by decide +kernel
theorem dX6_layPlan_67 : decode cX6_layPlan 67 = .ok (.iload_n 1, 1) := by decide +kernel
theorem dX6_layPlan_68 : decode cX6_layPlan 68 = .ok (.iload 6, 2) := by decide +kernel
theorem dX6_layPlan_70 : decode cX6_layPlan 70 = .ok (.invokestatic 187, 3) := by decide +kernel
theorem dX6_layPlan_73 : decode cX6_layPlan 73 = .ok (.aload_n 0, 1) := by decide +kernel
theorem dX6_layPlan_74 : decode cX6_layPlan 74 = .ok (.getfield 54, 3) := by decide +kernel
theorem dX6_layPlan_77 : decode cX6_layPlan 77 = .ok (.invokevirtual 140, 3) := by decide +kernel
theorem dX6_layPlan_80 : decode cX6_layPlan 80 = .ok (.istore 4, 2) := by decide +kernel
theorem dX6_layPlan_82 : decode cX6_layPlan 82 = .ok (.iload 5, 2) := by decide +kernel
theorem dX6_layPlan_84 : decode cX6_layPlan 84 = .ok (.aload_n 0, 1) := by decide +kernel
theorem dX6_layPlan_85 : decode cX6_layPlan 85 = .ok (.iload_n 2, 1) := by decide +kernel
theorem dX6_layPlan_86 : decode cX6_layPlan 86 = .ok (.iconst 1, 1) := by decide +kernel
theorem dX6_layPlan_87 : decode cX6_layPlan 87 = .ok (.iadd, 1) := by decide +kernel
theorem dX6_layPlan_88 : decode cX6_layPlan 88 = .ok (.iload 6, 2) := by decide +kernel
theorem dX6_layPlan_90 : decode cX6_layPlan 90 = .ok (.iadd, 1) := by decide +kernel
theorem dX6_layPlan_91 : decode cX6_layPlan 91 = .ok (.invokevirtual 175, 3) := by decide +kernel
theorem dX6_layPlan_94 : decode cX6_layPlan 94 = .ok (.iadd, 1) := by decide +kernel
theorem dX6_layPlan_95 : decode cX6_layPlan 95 = .ok (.istore 5, 2) := by decide +kernel
theorem dX6_layPlan_97 : decode cX6_layPlan 97 = .ok (.iinc 6 1, 3) := by decide +kernel
theorem dX6_layPlan_100 : decode cX6_layPlan 100 = .ok (.goto (-56), 3) := by decide +kernel
theorem dX6_layPlan_103 : decode cX6_layPlan 103 = .ok (.iload 4, 2) := by decide +kernel
theorem dX6_layPlan_105 : decode cX6_layPlan 105 = .ok (.ifCond .eq 38, 3) := by decide +kernel
theorem dX6_layPlan_108 : decode cX6_layPlan 108 = .ok (.aload_n 0, 1) := by decide +kernel
theorem dX6_layPlan_109 : decode cX6_layPlan 109 = .ok (.getfield 181, 3) := by decide +kernel
theorem dX6_layPlan_112 : decode cX6_layPlan 112 = .ok (.ifCond .eq 12, 3) := by decide +kernel
theorem dX6_layPlan_115 : decode cX6_layPlan 115 = .ok (.iload 5, 2) := by decide +kernel
theorem dX6_layPlan_117 : decode cX6_layPlan 117 = .ok (.aload_n 0, 1) := by decide +kernel
theorem dX6_layPlan_118 : decode cX6_layPlan 118 = .ok (.getfield 192, 3) := by decide +kernel
theorem dX6_layPlan_121 : decode cX6_layPlan 121 = .ok (.if_icmp .ge 22, 3) := by decide +kernel
theorem dX6_layPlan_124 : decode cX6_layPlan 124 = .ok (.aload_n 0, 1) := by decide +kernel
theorem dX6_layPlan_125 : decode cX6_layPlan 125 = .ok (.iconst 1, 1) := by decide +kernel
theorem dX6_layPlan_126 : decode cX6_layPlan 126 = .ok (.putfield 181, 3) := by decide +kernel
theorem dX6_layPlan_129 : decode cX6_layPlan 129 = .ok (.aload_n 0, 1) := by decide +kernel
theorem dX6_layPlan_130 : decode cX6_layPlan 130 = .ok (.iload_n 3, 1) := by decide +kernel
theorem dX6_layPlan_131 : decode cX6_layPlan 131 = .ok (.putfield 184, 3) := by decide +kernel
theorem dX6_layPlan_134 : decode cX6_layPlan 134 = .ok (.aload_n 0, 1) := by decide +kernel
theorem dX6_layPlan_135 : decode cX6_layPlan 135 = .ok (.iload 5, 2) := by decide +kernel
theorem dX6_layPlan_137 : decode cX6_layPlan 137 = .ok (.putfield 192, 3) := by decide +kernel
theorem dX6_layPlan_140 : decode cX6_layPlan 140 = .ok (.goto 27, 3) := by decide +kernel
theorem dX6_layPlan_143 : decode cX6_layPlan 143 = .ok (.iload 4, 2) := by decide +kernel
theorem dX6_layPlan_145 : decode cX6_layPlan 145 = .ok (.ifCond .eq 22, 3) := by decide +kernel
theorem dX6_layPlan_148 : decode cX6_layPlan 148 = .ok (.iload 5, 2) := by decide +kernel
theorem dX6_layPlan_150 : decode cX6_layPlan 150 = .ok (.aload_n 0, 1) := by decide +kernel
theorem dX6_layPlan_151 : decode cX6_layPlan 151 = .ok (.getfield 192, 3) := by decide +kernel
theorem dX6_layPlan_154 : decode cX6_layPlan 154 = .ok (.if_icmp .ne 13, 3) := by decide +kernel
theorem dX6_layPlan_157 : decode cX6_layPlan 157 = .ok (.aload_n 0, 1) := by decide +kernel
theorem dX6_layPlan_158 : decode cX6_layPlan 158 = .ok (.dup, 1) := by decide +kernel
theorem dX6_layPlan_159 : decode cX6_layPlan 159 = .ok (.getfield 181, 3) := by decide +kernel
theorem dX6_layPlan_162 : decode cX6_layPlan 162 = .ok (.iconst 1, 1) := by decide +kernel
theorem dX6_layPlan_163 : decode cX6_layPlan 163 = .ok (.iadd, 1) := by decide +kernel
theorem dX6_layPlan_164 : decode cX6_layPlan 164 = .ok (.putfield 181, 3) := by decide +kernel
theorem dX6_layPlan_167 : decode cX6_layPlan 167 = .ok (.iinc 3 1, 3) := by decide +kernel
theorem dX6_layPlan_170 : decode cX6_layPlan 170 = .ok (.goto (-144), 3) := by decide +kernel
theorem dX6_layPlan_173 : decode cX6_layPlan 173 = .ok (.return_, 1) := by decide +kernel
theorem dX6_plan_0 : decode cX6_plan 0 = .ok (.iload_n 1, 1) := by decide +kernel
theorem dX6_plan_1 : decode cX6_plan 1 = .ok (.iconst 1, 1) := by decide +kernel
theorem dX6_plan_2 : decode cX6_plan 2 = .ok (.iconst 5, 1) := by decide +kernel
theorem dX6_plan_3 : decode cX6_plan 3 = .ok (.invokestatic 76, 3) := by decide +kernel
theorem dX6_plan_6 : decode cX6_plan 6 = .ok (.ifCond .eq 9, 3) := by decide +kernel
theorem dX6_plan_9 : decode cX6_plan 9 = .ok (.iload_n 2, 1) := by decide +kernel
theorem dX6_plan_10 : decode cX6_plan 10 = .ok (.bipush (-2), 2) := by decide +kernel
theorem dX6_plan_12 : decode cX6_plan 12 = .ok (.if_icmp .ge 5, 3) := by decide +kernel
theorem dX6_plan_15 : decode cX6_plan 15 = .ok (.iconst (-1), 1) := by decide +kernel
theorem dX6_plan_16 : decode cX6_plan 16 = .ok (.ireturn, 1) := by decide +kernel
theorem dX6_plan_17 : decode cX6_plan 17 = .ok (.aload_n 0, 1) := by decide +kernel
theorem dX6_plan_18 : decode cX6_plan 18 = .ok (.iload_n 1, 1) := by decide +kernel
theorem dX6_plan_19 : decode cX6_plan 19 = .ok (.invokevirtual 178, 3) := by decide +kernel
theorem dX6_plan_22 : decode cX6_plan 22 = .ok (.aload_n 0, 1) := by decide +kernel
theorem dX6_plan_23 : decode cX6_plan 23 = .ok (.getfield 181, 3) := by decide +kernel
theorem dX6_plan_26 : decode cX6_plan 26 = .ok (.ifCond .eq 8, 3) := by decide +kernel
theorem dX6_plan_29 : decode cX6_plan 29 = .ok (.iload_n 2, 1) := by decide +kernel
theorem dX6_plan_30 : decode cX6_plan 30 = .ok (.iload_n 1, 1) := by decide +kernel
theorem dX6_plan_31 : decode cX6_plan 31 = .ok (.if_icmp .lt 6, 3) := by decide +kernel
theorem dX6_plan_34 : decode cX6_plan 34 = .ok (.bipush (-9), 2) := by decide +kernel
theorem dX6_plan_36 : decode cX6_plan 36 = .ok (.ireturn, 1) := by decide +kernel
theorem dX6_plan_37 : decode cX6_plan 37 = .ok (.iload_n 2, 1) := by decide +kernel
theorem dX6_plan_38 : decode cX6_plan 38 = .ok (.iconst (-1), 1) := by decide +kernel
theorem dX6_plan_39 : decode cX6_plan 39 = .ok (.if_icmp .ne 10, 3) := by decide +kernel
theorem dX6_plan_42 : decode cX6_plan 42 = .ok (.aload_n 0, 1) := by decide +kernel
theorem dX6_plan_43 : decode cX6_plan 43 = .ok (.getfield 192, 3) := by decide +kernel
theorem dX6_plan_46 : decode cX6_plan 46 = .ok (.goto 25, 3) := by decide +kernel
theorem dX6_plan_49 : decode cX6_plan 49 = .ok (.iload_n 2, 1) := by decide +kernel
theorem dX6_plan_50 : decode cX6_plan 50 = .ok (.bipush (-2), 2) := by decide +kernel
theorem dX6_plan_52 : decode cX6_plan 52 = .ok (.if_icmp .ne 10, 3) := by decide +kernel
theorem dX6_plan_55 : decode cX6_plan 55 = .ok (.aload_n 0, 1) := by decide +kernel
theorem dX6_plan_56 : decode cX6_plan 56 = .ok (.getfield 181, 3) := by decide +kernel
theorem dX6_plan_59 : decode cX6_plan 59 = .ok (.goto 12, 3) := by decide +kernel
theorem dX6_plan_62 : decode cX6_plan 62 = .ok (.aload_n 0, 1) := by decide +kernel
theorem dX6_plan_63 : decode cX6_plan 63 = .ok (.getfield 184, 3) := by decide +kernel
theorem dX6_plan_66 : decode cX6_plan 66 = .ok (.iload_n 1, 1) := by decide +kernel
theorem dX6_plan_67 : decode cX6_plan 67 = .ok (.iload_n 2, 1) := by decide +kernel
theorem dX6_plan_68 : decode cX6_plan 68 = .ok (.invokestatic 187, 3) := by decide +kernel
theorem dX6_plan_71 : decode cX6_plan 71 = .ok (.ireturn, 1) := by decide +kernel
theorem dX6_trying_0 : decode cX6_trying 0 = .ok (.iload_n 1, 1) := by decide +kernel
theorem dX6_trying_1 : decode cX6_trying 1 = .ok (.iconst 0, 1) := by decide +kernel
theorem dX6_trying_2 : decode cX6_trying 2 = .ok (.bipush 7, 2) := by decide +kernel
theorem dX6_trying_4 : decode cX6_trying 4 = .ok (.invokestatic 76, 3) := by decide +kernel
theorem dX6_trying_7 : decode cX6_trying 7 = .ok (.ifCond .ne 7, 3) := by decide +kernel
theorem dX6_trying_10 : decode cX6_trying 10 = .ok (.iconst (-1), 1) := by decide +kernel
theorem dX6_trying_11 : decode cX6_trying 11 = .ok (.goto 28, 3) := by decide +kernel
theorem dX6_trying_14 : decode cX6_trying 14 = .ok (.aload_n 0, 1) := by decide +kernel
theorem dX6_trying_15 : decode cX6_trying 15 = .ok (.iload_n 1, 1) := by decide +kernel
theorem dX6_trying_16 : decode cX6_trying 16 = .ok (.invokevirtual 168, 3) := by decide +kernel
theorem dX6_trying_19 : decode cX6_trying 19 = .ok (.ifCond .eq 18, 3) := by decide +kernel
theorem dX6_trying_22 : decode cX6_trying 22 = .ok (.aload_n 0, 1) := by decide +kernel
theorem dX6_trying_23 : decode cX6_trying 23 = .ok (.aload_n 0, 1) := by decide +kernel
theorem dX6_trying_24 : decode cX6_trying 24 = .ok (.getfield 7, 3) := by decide +kernel
theorem dX6_trying_27 : decode cX6_trying 27 = .ok (.iconst 3, 1) := by decide +kernel
theorem dX6_trying_28 : decode cX6_trying 28 = .ok (.iaload, 1) := by decide +kernel
theorem dX6_trying_29 : decode cX6_trying 29 = .ok (.iconst 1, 1) := by decide +kernel
theorem dX6_trying_30 : decode cX6_trying 30 = .ok (.iadd, 1) := by decide +kernel
theorem dX6_trying_31 : decode cX6_trying 31 = .ok (.invokevirtual 175, 3) := by decide +kernel
theorem dX6_trying_34 : decode cX6_trying 34 = .ok (.goto 5, 3) := by decide +kernel
theorem dX6_trying_37 : decode cX6_trying 37 = .ok (.bipush (-2), 2) := by decide +kernel
theorem dX6_trying_39 : decode cX6_trying 39 = .ok (.ireturn, 1) := by decide +kernel
theorem dX6_sees_0 : decode cX6_sees 0 = .ok (.iload_n 1, 1) := by decide +kernel
theorem dX6_sees_1 : decode cX6_sees 1 = .ok (.sipush (-9999), 3) := by decide +kernel
theorem dX6_sees_4 : decode cX6_sees 4 = .ok (.sipush 9999, 3) := by decide +kernel
theorem dX6_sees_7 : decode cX6_sees 7 = .ok (.invokestatic 76, 3) := by decide +kernel
theorem dX6_sees_10 : decode cX6_sees 10 = .ok (.ifCond .eq 16, 3) := by decide +kernel
theorem dX6_sees_13 : decode cX6_sees 13 = .ok (.iload_n 2, 1) := by decide +kernel
theorem dX6_sees_14 : decode cX6_sees 14 = .ok (.sipush (-9999), 3) := by decide +kernel
theorem dX6_sees_17 : decode cX6_sees 17 = .ok (.sipush 9999, 3) := by decide +kernel
theorem dX6_sees_20 : decode cX6_sees 20 = .ok (.invokestatic 76, 3) := by decide +kernel
theorem dX6_sees_23 : decode cX6_sees 23 = .ok (.ifCond .ne 5, 3) := by decide +kernel
theorem dX6_sees_26 : decode cX6_sees 26 = .ok (.iconst (-1), 1) := by decide +kernel
theorem dX6_sees_27 : decode cX6_sees 27 = .ok (.ireturn, 1) := by decide +kernel
theorem dX6_sees_28 : decode cX6_sees 28 = .ok (.aload_n 0, 1) := by decide +kernel
theorem dX6_sees_29 : decode cX6_sees 29 = .ok (.getfield 159, 3) := by decide +kernel
theorem dX6_sees_32 : decode cX6_sees 32 = .ok (.iconst 4, 1) := by decide +kernel
theorem dX6_sees_33 : decode cX6_sees 33 = .ok (.if_icmp .ne 6, 3) := by decide +kernel
theorem dX6_sees_36 : decode cX6_sees 36 = .ok (.bipush (-3), 2) := by decide +kernel
theorem dX6_sees_38 : decode cX6_sees 38 = .ok (.ireturn, 1) := by decide +kernel
theorem dX6_sees_39 : decode cX6_sees 39 = .ok (.aload_n 0, 1) := by decide +kernel
theorem dX6_sees_40 : decode cX6_sees 40 = .ok (.getfield 16, 3) := by decide +kernel
theorem dX6_sees_43 : decode cX6_sees 43 = .ok (.aload_n 0, 1) := by decide +kernel
theorem dX6_sees_44 : decode cX6_sees 44 = .ok (.getfield 159, 3) := by decide +kernel
theorem dX6_sees_47 : decode cX6_sees 47 = .ok (.iload_n 1, 1) := by decide +kernel
theorem dX6_sees_48 : decode cX6_sees 48 = .ok (.iastore, 1) := by decide +kernel
theorem dX6_sees_49 : decode cX6_sees 49 = .ok (.aload_n 0, 1) := by decide +kernel
theorem dX6_sees_50 : decode cX6_sees 50 = .ok (.getfield 19, 3) := by decide +kernel
theorem dX6_sees_53 : decode cX6_sees 53 = .ok (.aload_n 0, 1) := by decide +kernel
theorem dX6_sees_54 : decode cX6_sees 54 = .ok (.getfield 159, 3) := by decide +kernel
theorem dX6_sees_57 : decode cX6_sees 57 = .ok (.iload_n 2, 1) := by decide +kernel
theorem dX6_sees_58 : decode cX6_sees 58 = .ok (.iastore, 1) := by decide +kernel
theorem dX6_sees_59 : decode cX6_sees 59 = .ok (.aload_n 0, 1) := by decide +kernel
theorem dX6_sees_60 : decode cX6_sees 60 = .ok (.dup, 1) := by decide +kernel
theorem dX6_sees_61 : decode cX6_sees 61 = .ok (.getfield 159, 3) := by decide +kernel
theorem dX6_sees_64 : decode cX6_sees 64 = .ok (.iconst 1, 1) := by decide +kernel
theorem dX6_sees_65 : decode cX6_sees 65 = .ok (.iadd, 1) := by decide +kernel
theorem dX6_sees_66 : decode cX6_sees 66 = .ok (.putfield 159, 3) := by decide +kernel
theorem dX6_sees_69 : decode cX6_sees 69 = .ok (.aload_n 0, 1) := by decide +kernel
theorem dX6_sees_70 : decode cX6_sees 70 = .ok (.getfield 159, 3) := by decide +kernel
theorem dX6_sees_73 : decode cX6_sees 73 = .ok (.ireturn, 1) := by decide +kernel
theorem dX6_forget_0 : decode cX6_forget 0 = .ok (.aload_n 0, 1) := by decide +kernel
theorem dX6_forget_1 : decode cX6_forget 1 = .ok (.getfield 159, 3) := by decide +kernel
theorem dX6_forget_4 : decode cX6_forget 4 = .ok (.istore_n 1, 1) := by decide +kernel
theorem dX6_forget_5 : decode cX6_forget 5 = .ok (.aload_n 0, 1) := by decide +kernel
theorem dX6_forget_6 : decode cX6_forget 6 = .ok (.iconst 0, 1) := by decide +kernel
theorem dX6_forget_7 : decode cX6_forget 7 = .ok (.putfield 159, 3) := by decide +kernel
theorem dX6_forget_10 : decode cX6_forget 10 = .ok (.iload_n 1, 1) := by decide +kernel
theorem dX6_forget_11 : decode cX6_forget 11 = .ok (.ireturn, 1) := by decide +kernel
theorem dX6_layAgain_0 : decode cX6_layAgain 0 = .ok (.iload_n 1, 1) := by decide +kernel
theorem dX6_layAgain_1 : decode cX6_layAgain 1 = .ok (.istore_n 2, 1) := by decide +kernel
theorem dX6_layAgain_2 : decode cX6_layAgain 2 = .ok (.iload_n 2, 1) := by decide +kernel
theorem dX6_layAgain_3 : decode cX6_layAgain 3 = .ok (.aload_n 0, 1) := by decide +kernel
theorem dX6_layAgain_4 : decode cX6_layAgain 4 = .ok (.getfield 7, 3) := by decide +kernel
theorem dX6_layAgain_7 : decode cX6_layAgain 7 = .ok (.iconst 3, 1) := by decide +kernel
theorem dX6_layAgain_8 : decode cX6_layAgain 8 = .ok (.iaload, 1) := by decide +kernel
theorem dX6_layAgain_9 : decode cX6_layAgain 9 = .ok (.if_icmp .gt 18, 3) := by decide +kernel
theorem dX6_layAgain_12 : decode cX6_layAgain 12 = .ok (.aload_n 0, 1) := by decide +kernel
theorem dX6_layAgain_13 : decode cX6_layAgain 13 = .ok (.iload_n 2, 1) := by decide +kernel
theorem dX6_layAgain_14 : decode cX6_layAgain 14 = .ok (.aload_n 0, 1) := by decide +kernel
theorem dX6_layAgain_15 : decode cX6_layAgain 15 = .ok (.getfield 54, 3) := by decide +kernel
theorem dX6_layAgain_18 : decode cX6_layAgain 18 = .ok (.invokevirtual 65, 3) := by decide +kernel
theorem dX6_layAgain_21 : decode cX6_layAgain 21 = .ok (.iinc 2 1, 3) := by decide +kernel
theorem dX6_layAgain_24 : decode cX6_layAgain 24 = .ok (.goto (-22), 3) := by decide +kernel
theorem dX6_layAgain_27 : decode cX6_layAgain 27 = .ok (.return_, 1) := by decide +kernel
theorem dX6_unseen_0 : decode cX6_unseen 0 = .ok (.iload_n 1, 1) := by decide +kernel
theorem dX6_unseen_1 : decode cX6_unseen 1 = .ok (.iconst 1, 1) := by decide +kernel
theorem dX6_unseen_2 : decode cX6_unseen 2 = .ok (.aload_n 0, 1) := by decide +kernel
theorem dX6_unseen_3 : decode cX6_unseen 3 = .ok (.getfield 7, 3) := by decide +kernel
theorem dX6_unseen_6 : decode cX6_unseen 6 = .ok (.iconst 3, 1) := by decide +kernel
theorem dX6_unseen_7 : decode cX6_unseen 7 = .ok (.iaload, 1) := by decide +kernel
theorem dX6_unseen_8 : decode cX6_unseen 8 = .ok (.invokestatic 76, 3) := by decide +kernel
theorem dX6_unseen_11 : decode cX6_unseen 11 = .ok (.ifCond .ne 5, 3) := by decide +kernel
theorem dX6_unseen_14 : decode cX6_unseen 14 = .ok (.iconst (-1), 1) := by decide +kernel
theorem dX6_unseen_15 : decode cX6_unseen 15 = .ok (.ireturn, 1) := by decide +kernel
theorem dX6_unseen_16 : decode cX6_unseen 16 = .ok (.iconst 0, 1) := by decide +kernel
theorem dX6_unseen_17 : decode cX6_unseen 17 = .ok (.istore_n 2, 1) := by decide +kernel
theorem dX6_unseen_18 : decode cX6_unseen 18 = .ok (.iconst 0, 1) := by decide +kernel
theorem dX6_unseen_19 : decode cX6_unseen 19 = .ok (.istore_n 3, 1) := by decide +kernel
theorem dX6_unseen_20 : decode cX6_unseen 20 = .ok (.iload_n 3, 1) := by decide +kernel
theorem dX6_unseen_21 : decode cX6_unseen 21 = .ok (.bipush 8, 2) := by decide +kernel
theorem dX6_unseen_23 : decode cX6_unseen 23 = .ok (.if_icmp .ge 137, 3) := by decide +kernel
theorem dX6_unseen_26 : decode cX6_unseen 26 = .ok (.aload_n 0, 1) := by decide +kernel
theorem dX6_unseen_27 : decode cX6_unseen 27 = .ok (.aload_n 0, 1) := by decide +kernel
theorem dX6_unseen_28 : decode cX6_unseen 28 = .ok (.getfield 7, 3) := by decide +kernel
theorem dX6_unseen_31 : decode cX6_unseen 31 = .ok (.aload_n 0, 1) := by decide +kernel
theorem dX6_unseen_32 : decode cX6_unseen 32 = .ok (.getfield 54, 3) := by decide +kernel
theorem dX6_unseen_35 : decode cX6_unseen 35 = .ok (.invokevirtual 136, 3) := by decide +kernel
theorem dX6_unseen_38 : decode cX6_unseen 38 = .ok (.aload_n 0, 1) := by decide +kernel
theorem dX6_unseen_39 : decode cX6_unseen 39 = .ok (.getfield 29, 3) := by decide +kernel
theorem dX6_unseen_42 : decode cX6_unseen 42 = .ok (.iload_n 1, 1) := by decide +kernel
theorem dX6_unseen_43 : decode cX6_unseen 43 = .ok (.iaload, 1) := by decide +kernel
theorem dX6_unseen_44 : decode cX6_unseen 44 = .ok (.iload_n 3, 1) := by decide +kernel
theorem dX6_unseen_45 : decode cX6_unseen 45 = .ok (.if_icmp .eq 7, 3) := by decide +kernel
theorem dX6_unseen_48 : decode cX6_unseen 48 = .ok (.iconst 1, 1) := by decide +kernel
theorem dX6_unseen_49 : decode cX6_unseen 49 = .ok (.goto 4, 3) := by decide +kernel
theorem dX6_unseen_52 : decode cX6_unseen 52 = .ok (.iconst 0, 1) := by decide +kernel
theorem dX6_unseen_53 : decode cX6_unseen 53 = .ok (.istore 4, 2) := by decide +kernel
theorem dX6_unseen_55 : decode cX6_unseen 55 = .ok (.aload_n 0, 1) := by decide +kernel
theorem dX6_unseen_56 : decode cX6_unseen 56 = .ok (.getfield 29, 3) := by decide +kernel
theorem dX6_unseen_59 : decode cX6_unseen 59 = .ok (.iload_n 1, 1) := by decide +kernel
theorem dX6_unseen_60 : decode cX6_unseen 60 = .ok (.iload_n 3, 1) := by decide +kernel
theorem dX6_unseen_61 : decode cX6_unseen 61 = .ok (.iastore, 1) := by decide +kernel
theorem dX6_unseen_62 : decode cX6_unseen 62 = .ok (.aload_n 0, 1) := by decide +kernel
theorem dX6_unseen_63 : decode cX6_unseen 63 = .ok (.iload_n 1, 1) := by decide +kernel
theorem dX6_unseen_64 : decode cX6_unseen 64 = .ok (.invokevirtual 195, 3) := by decide +kernel
theorem dX6_unseen_67 : decode cX6_unseen 67 = .ok (.iconst 0, 1) := by decide +kernel
theorem dX6_unseen_68 : decode cX6_unseen 68 = .ok (.istore 5, 2) := by decide +kernel
theorem dX6_unseen_70 : decode cX6_unseen 70 = .ok (.iload 5, 2) := by decide +kernel
theorem dX6_unseen_72 : decode cX6_unseen 72 = .ok (.aload_n 0, 1) := by decide +kernel
theorem dX6_unseen_73 : decode cX6_unseen 73 = .ok (.getfield 159, 3) := by decide +kernel
theorem dX6_unseen_76 : decode cX6_unseen 76 = .ok (.if_icmp .ge 63, 3) := by decide +kernel
theorem dX6_unseen_79 : decode cX6_unseen 79 = .ok (.iload 4, 2) := by decide +kernel
theorem dX6_unseen_81 : decode cX6_unseen 81 = .ok (.ifCond .eq 49, 3) := by decide +kernel
theorem dX6_unseen_84 : decode cX6_unseen 84 = .ok (.aload_n 0, 1) := by decide +kernel
theorem dX6_unseen_85 : decode cX6_unseen 85 = .ok (.getfield 38, 3) := by decide +kernel
theorem dX6_unseen_88 : decode cX6_unseen 88 = .ok (.aload_n 0, 1) := by decide +kernel
theorem dX6_unseen_89 : decode cX6_unseen 89 = .ok (.getfield 7, 3) := by decide +kernel
theorem dX6_unseen_92 : decode cX6_unseen 92 = .ok (.iconst 3, 1) := by decide +kernel
theorem dX6_unseen_93 : decode cX6_unseen 93 = .ok (.iaload, 1) := by decide +kernel
theorem dX6_unseen_94 : decode cX6_unseen 94 = .ok (.iaload, 1) := by decide +kernel
theorem dX6_unseen_95 : decode cX6_unseen 95 = .ok (.aload_n 0, 1) := by decide +kernel
theorem dX6_unseen_96 : decode cX6_unseen 96 = .ok (.getfield 16, 3) := by decide +kernel
theorem dX6_unseen_99 : decode cX6_unseen 99 = .ok (.iload 5, 2) := by decide +kernel
theorem dX6_unseen_101 : decode cX6_unseen 101 = .ok (.iaload, 1) := by decide +kernel
theorem dX6_unseen_102 : decode cX6_unseen 102 = .ok (.if_icmp .ne 28, 3) := by decide +kernel
theorem dX6_unseen_105 : decode cX6_unseen 105 = .ok (.aload_n 0, 1) := by decide +kernel
theorem dX6_unseen_106 : decode cX6_unseen 106 = .ok (.getfield 41, 3) := by decide +kernel
theorem dX6_unseen_109 : decode cX6_unseen 109 = .ok (.aload_n 0, 1) := by decide +kernel
theorem dX6_unseen_110 : decode cX6_unseen 110 = .ok (.getfield 7, 3) := by decide +kernel
theorem dX6_unseen_113 : decode cX6_unseen 113 = .ok (.iconst 3, 1) := by decide +kernel
theorem dX6_unseen_114 : decode cX6_unseen 114 = .ok (.iaload, 1) := by decide +kernel
theorem dX6_unseen_115 : decode cX6_unseen 115 = .ok (.iaload, 1) := by decide +kernel
theorem dX6_unseen_116 : decode cX6_unseen 116 = .ok (.aload_n 0, 1) := by decide +kernel
theorem dX6_unseen_117 : decode cX6_unseen 117 = .ok (.getfield 19, 3) := by decide +kernel
theorem dX6_unseen_120 : decode cX6_unseen 120 = .ok (.iload 5, 2) := by decide +kernel
theorem dX6_unseen_122 : decode cX6_unseen 122 = .ok (.iaload, 1) := by decide +kernel
theorem dX6_unseen_123 : decode cX6_unseen 123 = .ok (.if_icmp .ne 7, 3) := by decide +kernel
theorem dX6_unseen_126 : decode cX6_unseen 126 = .ok (.iconst 1, 1) := by decide +kernel
theorem dX6_unseen_127 : decode cX6_unseen 127 = .ok (.goto 4, 3) := by decide +kernel
theorem dX6_unseen_130 : decode cX6_unseen 130 = .ok (.iconst 0, 1) := by decide +kernel
theorem dX6_unseen_131 : decode cX6_unseen 131 = .ok (.istore 4, 2) := by decide +kernel
theorem dX6_unseen_133 : decode cX6_unseen 133 = .ok (.iinc 5 1, 3) := by decide +kernel
theorem dX6_unseen_136 : decode cX6_unseen 136 = .ok (.goto (-66), 3) := by decide +kernel
theorem dX6_unseen_139 : decode cX6_unseen 139 = .ok (.iload_n 2, 1) := by decide +kernel
theorem dX6_unseen_140 : decode cX6_unseen 140 = .ok (.iload 4, 2) := by decide +kernel
theorem dX6_unseen_142 : decode cX6_unseen 142 = .ok (.ifCond .eq 9, 3) := by decide +kernel
theorem dX6_unseen_145 : decode cX6_unseen 145 = .ok (.iconst 1, 1) := by decide +kernel
theorem dX6_unseen_146 : decode cX6_unseen 146 = .ok (.iload_n 3, 1) := by decide +kernel
theorem dX6_unseen_147 : decode cX6_unseen 147 = .ok (.ishl, 1) := by decide +kernel
theorem dX6_unseen_148 : decode cX6_unseen 148 = .ok (.goto 4, 3) := by decide +kernel
theorem dX6_unseen_151 : decode cX6_unseen 151 = .ok (.iconst 0, 1) := by decide +kernel
theorem dX6_unseen_152 : decode cX6_unseen 152 = .ok (.ior, 1) := by decide +kernel
theorem dX6_unseen_153 : decode cX6_unseen 153 = .ok (.istore_n 2, 1) := by decide +kernel
theorem dX6_unseen_154 : decode cX6_unseen 154 = .ok (.iinc 3 1, 3) := by decide +kernel
theorem dX6_unseen_157 : decode cX6_unseen 157 = .ok (.goto (-137), 3) := by decide +kernel
theorem dX6_unseen_160 : decode cX6_unseen 160 = .ok (.iload_n 2, 1) := by decide +kernel
theorem dX6_unseen_161 : decode cX6_unseen 161 = .ok (.ireturn, 1) := by decide +kernel
theorem dX6_odds_0 : decode cX6_odds 0 = .ok (.iload_n 1, 1) := by decide +kernel
theorem dX6_odds_1 : decode cX6_odds 1 = .ok (.iconst 0, 1) := by decide +kernel
theorem dX6_odds_2 : decode cX6_odds 2 = .ok (.bipush 10, 2) := by decide +kernel
theorem dX6_odds_4 : decode cX6_odds 4 = .ok (.invokestatic 76, 3) := by decide +kernel
theorem dX6_odds_7 : decode cX6_odds 7 = .ok (.ifCond .eq 23, 3) := by decide +kernel
theorem dX6_odds_10 : decode cX6_odds 10 = .ok (.iload_n 2, 1) := by decide +kernel
theorem dX6_odds_11 : decode cX6_odds 11 = .ok (.iconst 0, 1) := by decide +kernel
theorem dX6_odds_12 : decode cX6_odds 12 = .ok (.sipush 9999, 3) := by decide +kernel
theorem dX6_odds_15 : decode cX6_odds 15 = .ok (.invokestatic 76, 3) := by decide +kernel
theorem dX6_odds_18 : decode cX6_odds 18 = .ok (.ifCond .eq 12, 3) := by decide +kernel
theorem dX6_odds_21 : decode cX6_odds 21 = .ok (.iload_n 3, 1) := by decide +kernel
theorem dX6_odds_22 : decode cX6_odds 22 = .ok (.iconst 0, 1) := by decide +kernel
theorem dX6_odds_23 : decode cX6_odds 23 = .ok (.iconst 1, 1) := by decide +kernel
theorem dX6_odds_24 : decode cX6_odds 24 = .ok (.invokestatic 76, 3) := by decide +kernel
theorem dX6_odds_27 : decode cX6_odds 27 = .ok (.ifCond .ne 5, 3) := by decide +kernel
theorem dX6_odds_30 : decode cX6_odds 30 = .ok (.iconst (-1), 1) := by decide +kernel
theorem dX6_odds_31 : decode cX6_odds 31 = .ok (.ireturn, 1) := by decide +kernel
theorem dX6_odds_32 : decode cX6_odds 32 = .ok (.aload_n 0, 1) := by decide +kernel
theorem dX6_odds_33 : decode cX6_odds 33 = .ok (.getfield 7, 3) := by decide +kernel
theorem dX6_odds_36 : decode cX6_odds 36 = .ok (.iconst 3, 1) := by decide +kernel
theorem dX6_odds_37 : decode cX6_odds 37 = .ok (.iaload, 1) := by decide +kernel
theorem dX6_odds_38 : decode cX6_odds 38 = .ok (.istore 4, 2) := by decide +kernel
theorem dX6_odds_40 : decode cX6_odds 40 = .ok (.iload 4, 2) := by decide +kernel
theorem dX6_odds_42 : decode cX6_odds 42 = .ok (.bipush 8, 2) := by decide +kernel
theorem dX6_odds_44 : decode cX6_odds 44 = .ok (.if_icmp .ge 8, 3) := by decide +kernel
theorem dX6_odds_47 : decode cX6_odds 47 = .ok (.iload 4, 2) := by decide +kernel
theorem dX6_odds_49 : decode cX6_odds 49 = .ok (.goto 5, 3) := by decide +kernel
theorem dX6_odds_52 : decode cX6_odds 52 = .ok (.bipush 8, 2) := by decide +kernel
theorem dX6_odds_54 : decode cX6_odds 54 = .ok (.istore 5, 2) := by decide +kernel
theorem dX6_odds_56 : decode cX6_odds 56 = .ok (.lconst 1, 1) := by decide +kernel
theorem dX6_odds_57 : decode cX6_odds 57 = .ok (.lstore 6, 2) := by decide +kernel
theorem dX6_odds_59 : decode cX6_odds 59 = .ok (.iconst 0, 1) := by decide +kernel
theorem dX6_odds_60 : decode cX6_odds 60 = .ok (.istore 8, 2) := by decide +kernel
theorem dX6_odds_62 : decode cX6_odds 62 = .ok (.iload 8, 2) := by decide +kernel
theorem dX6_odds_64 : decode cX6_odds 64 = .ok (.iload 5, 2) := by decide +kernel
theorem dX6_odds_66 : decode cX6_odds 66 = .ok (.if_icmp .ge 17, 3) := by decide +kernel
theorem dX6_odds_69 : decode cX6_odds 69 = .ok (.lload 6, 2) := by decide +kernel
theorem dX6_odds_71 : decode cX6_odds 71 = .ok (.ldc2_w 198, 3) := by decide +kernel
theorem dX6_odds_74 : decode cX6_odds 74 = .ok (.lmul, 1) := by decide +kernel
theorem dX6_odds_75 : decode cX6_odds 75 = .ok (.lstore 6, 2) := by decide +kernel
theorem dX6_odds_77 : decode cX6_odds 77 = .ok (.iinc 8 1, 3) := by decide +kernel
theorem dX6_odds_80 : decode cX6_odds 80 = .ok (.goto (-18), 3) := by decide +kernel
theorem dX6_odds_83 : decode cX6_odds 83 = .ok (.lconst 0, 1) := by decide +kernel
theorem dX6_odds_84 : decode cX6_odds 84 = .ok (.lstore 8, 2) := by decide +kernel
theorem dX6_odds_86 : decode cX6_odds 86 = .ok (.iconst 0, 1) := by decide +kernel
theorem dX6_odds_87 : decode cX6_odds 87 = .ok (.istore 10, 2) := by decide +kernel
theorem dX6_odds_89 : decode cX6_odds 89 = .ok (.iload 10, 2) := by decide +kernel
theorem dX6_odds_91 : decode cX6_odds 91 = .ok (.iconst 1, 1) := by decide +kernel
theorem dX6_odds_92 : decode cX6_odds 92 = .ok (.iload 5, 2) := by decide +kernel
theorem dX6_odds_94 : decode cX6_odds 94 = .ok (.ishl, 1) := by decide +kernel
theorem dX6_odds_95 : decode cX6_odds 95 = .ok (.if_icmp .ge 150, 3) := by decide +kernel
theorem dX6_odds_98 : decode cX6_odds 98 = .ok (.aload_n 0, 1) := by decide +kernel
theorem dX6_odds_99 : decode cX6_odds 99 = .ok (.aload_n 0, 1) := by decide +kernel
theorem dX6_odds_100 : decode cX6_odds 100 = .ok (.getfield 7, 3) := by decide +kernel
theorem dX6_odds_103 : decode cX6_odds 103 = .ok (.aload_n 0, 1) := by decide +kernel
theorem dX6_odds_104 : decode cX6_odds 104 = .ok (.getfield 54, 3) := by decide +kernel
theorem dX6_odds_107 : decode cX6_odds 107 = .ok (.invokevirtual 136, 3) := by decide +kernel
theorem dX6_odds_110 : decode cX6_odds 110 = .ok (.lconst 1, 1) := by decide +kernel
theorem dX6_odds_111 : decode cX6_odds 111 = .ok (.lstore 11, 2) := by decide +kernel
theorem dX6_odds_113 : decode cX6_odds 113 = .ok (.iconst 0, 1) := by decide +kernel
theorem dX6_odds_114 : decode cX6_odds 114 = .ok (.istore 13, 2) := by decide +kernel
theorem dX6_odds_116 : decode cX6_odds 116 = .ok (.iload 13, 2) := by decide +kernel
theorem dX6_odds_118 : decode cX6_odds 118 = .ok (.iload 5, 2) := by decide +kernel
theorem dX6_odds_120 : decode cX6_odds 120 = .ok (.if_icmp .ge 82, 3) := by decide +kernel
theorem dX6_odds_123 : decode cX6_odds 123 = .ok (.aload_n 0, 1) := by decide +kernel
theorem dX6_odds_124 : decode cX6_odds 124 = .ok (.getfield 29, 3) := by decide +kernel
theorem dX6_odds_127 : decode cX6_odds 127 = .ok (.iload 4, 2) := by decide +kernel
theorem dX6_odds_129 : decode cX6_odds 129 = .ok (.iload 13, 2) := by decide +kernel
theorem dX6_odds_131 : decode cX6_odds 131 = .ok (.isub, 1) := by decide +kernel
theorem dX6_odds_132 : decode cX6_odds 132 = .ok (.iload 10, 2) := by decide +kernel
theorem dX6_odds_134 : decode cX6_odds 134 = .ok (.iload 13, 2) := by decide +kernel
theorem dX6_odds_136 : decode cX6_odds 136 = .ok (.invokestatic 117, 3) := by decide +kernel
theorem dX6_odds_139 : decode cX6_odds 139 = .ok (.ifCond .eq 21, 3) := by decide +kernel
theorem dX6_odds_142 : decode cX6_odds 142 = .ok (.aload_n 0, 1) := by decide +kernel
theorem dX6_odds_143 : decode cX6_odds 143 = .ok (.getfield 29, 3) := by decide +kernel
theorem dX6_odds_146 : decode cX6_odds 146 = .ok (.iload 4, 2) := by decide +kernel
theorem dX6_odds_148 : decode cX6_odds 148 = .ok (.iload 13, 2) := by decide +kernel
theorem dX6_odds_150 : decode cX6_odds 150 = .ok (.isub, 1) := by decide +kernel
theorem dX6_odds_151 : decode cX6_odds 151 = .ok (.iaload, 1) := by decide +kernel
theorem dX6_odds_152 : decode cX6_odds 152 = .ok (.iconst 1, 1) := by decide +kernel
theorem dX6_odds_153 : decode cX6_odds 153 = .ok (.iadd, 1) := by decide +kernel
theorem dX6_odds_154 : decode cX6_odds 154 = .ok (.bipush 8, 2) := by decide +kernel
theorem dX6_odds_156 : decode cX6_odds 156 = .ok (.irem, 1) := by decide +kernel
theorem dX6_odds_157 : decode cX6_odds 157 = .ok (.goto 13, 3) := by decide +kernel
theorem dX6_odds_160 : decode cX6_odds 160 = .ok (.aload_n 0, 1) := by decide +kernel
theorem dX6_odds_161 : decode cX6_odds 161 = .ok (.getfield 29, 3) := by decide +kernel
theorem dX6_odds_164 : decode cX6_odds 164 = .ok (.iload 4, 2) := by decide +kernel
theorem dX6_odds_166 : decode cX6_odds 166 = .ok (.iload 13, 2) := by decide +kernel
theorem dX6_odds_168 : decode cX6_odds 168 = .ok (.isub, 1) := by decide +kernel
theorem dX6_odds_169 : decode cX6_odds 169 = .ok (.iaload, 1) := by decide +kernel
theorem dX6_odds_170 : decode cX6_odds 170 = .ok (.iastore, 1) := by decide +kernel
theorem dX6_odds_171 : decode cX6_odds 171 = .ok (.lload 11, 2) := by decide +kernel
theorem dX6_odds_173 : decode cX6_odds 173 = .ok (.iload 10, 2) := by decide +kernel
theorem dX6_odds_175 : decode cX6_odds 175 = .ok (.iload 13, 2) := by decide +kernel
theorem dX6_odds_177 : decode cX6_odds 177 = .ok (.invokestatic 117, 3) := by decide +kernel
theorem dX6_odds_180 : decode cX6_odds 180 = .ok (.ifCond .eq 8, 3) := by decide +kernel
theorem dX6_odds_183 : decode cX6_odds 183 = .ok (.iload_n 1, 1) := by decide +kernel
theorem dX6_odds_184 : decode cX6_odds 184 = .ok (.i2l, 1) := by decide +kernel
theorem dX6_odds_185 : decode cX6_odds 185 = .ok (.goto 8, 3) := by decide +kernel
theorem dX6_odds_188 : decode cX6_odds 188 = .ok (.bipush 10, 2) := by decide +kernel
theorem dX6_odds_190 : decode cX6_odds 190 = .ok (.iload_n 1, 1) := by decide +kernel
theorem dX6_odds_191 : decode cX6_odds 191 = .ok (.isub, 1) := by decide +kernel
theorem dX6_odds_192 : decode cX6_odds 192 = .ok (.i2l, 1) := by decide +kernel
theorem dX6_odds_193 : decode cX6_odds 193 = .ok (.lmul, 1) := by decide +kernel
theorem dX6_odds_194 : decode cX6_odds 194 = .ok (.lstore 11, 2) := by decide +kernel
theorem dX6_odds_196 : decode cX6_odds 196 = .ok (.iinc 13 1, 3) := by decide +kernel
theorem dX6_odds_199 : decode cX6_odds 199 = .ok (.goto (-83), 3) := by decide +kernel
theorem dX6_odds_202 : decode cX6_odds 202 = .ok (.aload_n 0, 1) := by decide +kernel
theorem dX6_odds_203 : decode cX6_odds 203 = .ok (.iload 4, 2) := by decide +kernel
theorem dX6_odds_205 : decode cX6_odds 205 = .ok (.iload 5, 2) := by decide +kernel
theorem dX6_odds_207 : decode cX6_odds 207 = .ok (.isub, 1) := by decide +kernel
theorem dX6_odds_208 : decode cX6_odds 208 = .ok (.iconst 1, 1) := by decide +kernel
theorem dX6_odds_209 : decode cX6_odds 209 = .ok (.iadd, 1) := by decide +kernel
theorem dX6_odds_210 : decode cX6_odds 210 = .ok (.invokevirtual 195, 3) := by decide +kernel
theorem dX6_odds_213 : decode cX6_odds 213 = .ok (.lload 8, 2) := by decide +kernel
theorem dX6_odds_215 : decode cX6_odds 215 = .ok (.iload 4, 2) := by decide +kernel
theorem dX6_odds_217 : decode cX6_odds 217 = .ok (.ifCond .eq 13, 3) := by decide +kernel
theorem dX6_odds_220 : decode cX6_odds 220 = .ok (.aload_n 0, 1) := by decide +kernel
theorem dX6_odds_221 : decode cX6_odds 221 = .ok (.iload 4, 2) := by decide +kernel
theorem dX6_odds_223 : decode cX6_odds 223 = .ok (.invokevirtual 175, 3) := by decide +kernel
theorem dX6_odds_226 : decode cX6_odds 226 = .ok (.iload_n 2, 1) := by decide +kernel
theorem dX6_odds_227 : decode cX6_odds 227 = .ok (.if_icmp .gt 8, 3) := by decide +kernel
theorem dX6_odds_230 : decode cX6_odds 230 = .ok (.lload 11, 2) := by decide +kernel
theorem dX6_odds_232 : decode cX6_odds 232 = .ok (.goto 4, 3) := by decide +kernel
theorem dX6_odds_235 : decode cX6_odds 235 = .ok (.lconst 0, 1) := by decide +kernel
theorem dX6_odds_236 : decode cX6_odds 236 = .ok (.ladd, 1) := by decide +kernel
theorem dX6_odds_237 : decode cX6_odds 237 = .ok (.lstore 8, 2) := by decide +kernel
theorem dX6_odds_239 : decode cX6_odds 239 = .ok (.iinc 10 1, 3) := by decide +kernel
theorem dX6_odds_242 : decode cX6_odds 242 = .ok (.goto (-153), 3) := by decide +kernel
theorem dX6_odds_245 : decode cX6_odds 245 = .ok (.lload 8, 2) := by decide +kernel
theorem dX6_odds_247 : decode cX6_odds 247 = .ok (.lstore 10, 2) := by decide +kernel
theorem dX6_odds_249 : decode cX6_odds 249 = .ok (.lload 6, 2) := by decide +kernel
theorem dX6_odds_251 : decode cX6_odds 251 = .ok (.lstore 12, 2) := by decide +kernel
theorem dX6_odds_253 : decode cX6_odds 253 = .ok (.lload 12, 2) := by decide +kernel
theorem dX6_odds_255 : decode cX6_odds 255 = .ok (.lconst 0, 1) := by decide +kernel
theorem dX6_odds_256 : decode cX6_odds 256 = .ok (.lcmp, 1) := by decide +kernel
theorem dX6_odds_257 : decode cX6_odds 257 = .ok (.ifCond .eq 21, 3) := by decide +kernel
theorem dX6_odds_260 : decode cX6_odds 260 = .ok (.lload 10, 2) := by decide +kernel
theorem dX6_odds_262 : decode cX6_odds 262 = .ok (.lload 12, 2) := by decide +kernel
theorem dX6_odds_264 : decode cX6_odds 264 = .ok (.lrem, 1) := by decide +kernel
theorem dX6_odds_265 : decode cX6_odds 265 = .ok (.lstore 14, 2) := by decide +kernel
theorem dX6_odds_267 : decode cX6_odds 267 = .ok (.lload 12, 2) := by decide +kernel
theorem dX6_odds_269 : decode cX6_odds 269 = .ok (.lstore 10, 2) := by decide +kernel
theorem dX6_odds_271 : decode cX6_odds 271 = .ok (.lload 14, 2) := by decide +kernel
theorem dX6_odds_273 : decode cX6_odds 273 = .ok (.lstore 12, 2) := by decide +kernel
theorem dX6_odds_275 : decode cX6_odds 275 = .ok (.goto (-22), 3) := by decide +kernel
theorem dX6_odds_278 : decode cX6_odds 278 = .ok (.iload_n 3, 1) := by decide +kernel
theorem dX6_odds_279 : decode cX6_odds 279 = .ok (.ifCond .ne 11, 3) := by decide +kernel
theorem dX6_odds_282 : decode cX6_odds 282 = .ok (.lload 8, 2) := by decide +kernel
theorem dX6_odds_284 : decode cX6_odds 284 = .ok (.lload 10, 2) := by decide +kernel
theorem dX6_odds_286 : decode cX6_odds 286 = .ok (.ldiv, 1) := by decide +kernel
theorem dX6_odds_287 : decode cX6_odds 287 = .ok (.goto 8, 3) := by decide +kernel
theorem dX6_odds_290 : decode cX6_odds 290 = .ok (.lload 6, 2) := by decide +kernel
theorem dX6_odds_292 : decode cX6_odds 292 = .ok (.lload 10, 2) := by decide +kernel
theorem dX6_odds_294 : decode cX6_odds 294 = .ok (.ldiv, 1) := by decide +kernel
theorem dX6_odds_295 : decode cX6_odds 295 = .ok (.l2i, 1) := by decide +kernel
theorem dX6_odds_296 : decode cX6_odds 296 = .ok (.ireturn, 1) := by decide +kernel
theorem dX6_keep_0 : decode cX6_keep 0 = .ok (.iload_n 1, 1) := by decide +kernel
theorem dX6_keep_1 : decode cX6_keep 1 = .ok (.iconst 0, 1) := by decide +kernel
theorem dX6_keep_2 : decode cX6_keep 2 = .ok (.iconst 1, 1) := by decide +kernel
theorem dX6_keep_3 : decode cX6_keep 3 = .ok (.invokestatic 76, 3) := by decide +kernel
theorem dX6_keep_6 : decode cX6_keep 6 = .ok (.ifCond .ne 5, 3) := by decide +kernel
theorem dX6_keep_9 : decode cX6_keep 9 = .ok (.iconst (-1), 1) := by decide +kernel
theorem dX6_keep_10 : decode cX6_keep 10 = .ok (.ireturn, 1) := by decide +kernel
theorem dX6_keep_11 : decode cX6_keep 11 = .ok (.aload_n 0, 1) := by decide +kernel
theorem dX6_keep_12 : decode cX6_keep 12 = .ok (.getfield 22, 3) := by decide +kernel
theorem dX6_keep_15 : decode cX6_keep 15 = .ok (.iload_n 1, 1) := by decide +kernel
theorem dX6_keep_16 : decode cX6_keep 16 = .ok (.iconst 1, 1) := by decide +kernel
theorem dX6_keep_17 : decode cX6_keep 17 = .ok (.bastore, 1) := by decide +kernel
theorem dX6_keep_18 : decode cX6_keep 18 = .ok (.iconst 0, 1) := by decide +kernel
theorem dX6_keep_19 : decode cX6_keep 19 = .ok (.istore_n 2, 1) := by decide +kernel
theorem dX6_keep_20 : decode cX6_keep 20 = .ok (.iload_n 2, 1) := by decide +kernel
theorem dX6_keep_21 : decode cX6_keep 21 = .ok (.bipush 53, 2) := by decide +kernel
theorem dX6_keep_23 : decode cX6_keep 23 = .ok (.if_icmp .ge 26, 3) := by decide +kernel
theorem dX6_keep_26 : decode cX6_keep 26 = .ok (.aload_n 0, 1) := by decide +kernel
theorem dX6_keep_27 : decode cX6_keep 27 = .ok (.getfield 26, 3) := by decide +kernel
theorem dX6_keep_30 : decode cX6_keep 30 = .ok (.bipush 53, 2) := by decide +kernel
theorem dX6_keep_32 : decode cX6_keep 32 = .ok (.iload_n 1, 1) := by decide +kernel
theorem dX6_keep_33 : decode cX6_keep 33 = .ok (.imul, 1) := by decide +kernel
theorem dX6_keep_34 : decode cX6_keep 34 = .ok (.iload_n 2, 1) := by decide +kernel
theorem dX6_keep_35 : decode cX6_keep 35 = .ok (.iadd, 1) := by decide +kernel
theorem dX6_keep_36 : decode cX6_keep 36 = .ok (.aload_n 0, 1) := by decide +kernel
theorem dX6_keep_37 : decode cX6_keep 37 = .ok (.getfield 7, 3) := by decide +kernel
theorem dX6_keep_40 : decode cX6_keep 40 = .ok (.iload_n 2, 1) := by decide +kernel
theorem dX6_keep_41 : decode cX6_keep 41 = .ok (.iaload, 1) := by decide +kernel
theorem dX6_keep_42 : decode cX6_keep 42 = .ok (.iastore, 1) := by decide +kernel
theorem dX6_keep_43 : decode cX6_keep 43 = .ok (.iinc 2 1, 3) := by decide +kernel
theorem dX6_keep_46 : decode cX6_keep 46 = .ok (.goto (-26), 3) := by decide +kernel
theorem dX6_keep_49 : decode cX6_keep 49 = .ok (.aload_n 0, 1) := by decide +kernel
theorem dX6_keep_50 : decode cX6_keep 50 = .ok (.getfield 7, 3) := by decide +kernel
theorem dX6_keep_53 : decode cX6_keep 53 = .ok (.iconst 3, 1) := by decide +kernel
theorem dX6_keep_54 : decode cX6_keep 54 = .ok (.iaload, 1) := by decide +kernel
theorem dX6_keep_55 : decode cX6_keep 55 = .ok (.ireturn, 1) := by decide +kernel
theorem dX6_back_0 : decode cX6_back 0 = .ok (.iload_n 1, 1) := by decide +kernel
theorem dX6_back_1 : decode cX6_back 1 = .ok (.iconst 0, 1) := by decide +kernel
theorem dX6_back_2 : decode cX6_back 2 = .ok (.iconst 1, 1) := by decide +kernel
theorem dX6_back_3 : decode cX6_back 3 = .ok (.invokestatic 76, 3) := by decide +kernel
theorem dX6_back_6 : decode cX6_back 6 = .ok (.ifCond .ne 5, 3) := by decide +kernel
theorem dX6_back_9 : decode cX6_back 9 = .ok (.iconst (-1), 1) := by decide +kernel
theorem dX6_back_10 : decode cX6_back 10 = .ok (.ireturn, 1) := by decide +kernel
theorem dX6_back_11 : decode cX6_back 11 = .ok (.aload_n 0, 1) := by decide +kernel
theorem dX6_back_12 : decode cX6_back 12 = .ok (.getfield 22, 3) := by decide +kernel
theorem dX6_back_15 : decode cX6_back 15 = .ok (.iload_n 1, 1) := by decide +kernel
theorem dX6_back_16 : decode cX6_back 16 = .ok (.baload, 1) := by decide +kernel
theorem dX6_back_17 : decode cX6_back 17 = .ok (.ifCond .ne 6, 3) := by decide +kernel
theorem dX6_back_20 : decode cX6_back 20 = .ok (.bipush (-2), 2) := by decide +kernel
theorem dX6_back_22 : decode cX6_back 22 = .ok (.ireturn, 1) := by decide +kernel
theorem dX6_back_23 : decode cX6_back 23 = .ok (.iconst 0, 1) := by decide +kernel
theorem dX6_back_24 : decode cX6_back 24 = .ok (.istore_n 2, 1) := by decide +kernel
theorem dX6_back_25 : decode cX6_back 25 = .ok (.iload_n 2, 1) := by decide +kernel
theorem dX6_back_26 : decode cX6_back 26 = .ok (.bipush 53, 2) := by decide +kernel
theorem dX6_back_28 : decode cX6_back 28 = .ok (.if_icmp .ge 26, 3) := by decide +kernel
theorem dX6_back_31 : decode cX6_back 31 = .ok (.aload_n 0, 1) := by decide +kernel
theorem dX6_back_32 : decode cX6_back 32 = .ok (.getfield 7, 3) := by decide +kernel
theorem dX6_back_35 : decode cX6_back 35 = .ok (.iload_n 2, 1) := by decide +kernel
theorem dX6_back_36 : decode cX6_back 36 = .ok (.aload_n 0, 1) := by decide +kernel
theorem dX6_back_37 : decode cX6_back 37 = .ok (.getfield 26, 3) := by decide +kernel
theorem dX6_back_40 : decode cX6_back 40 = .ok (.bipush 53, 2) := by decide +kernel
theorem dX6_back_42 : decode cX6_back 42 = .ok (.iload_n 1, 1) := by decide +kernel
theorem dX6_back_43 : decode cX6_back 43 = .ok (.imul, 1) := by decide +kernel
theorem dX6_back_44 : decode cX6_back 44 = .ok (.iload_n 2, 1) := by decide +kernel
theorem dX6_back_45 : decode cX6_back 45 = .ok (.iadd, 1) := by decide +kernel
theorem dX6_back_46 : decode cX6_back 46 = .ok (.iaload, 1) := by decide +kernel
theorem dX6_back_47 : decode cX6_back 47 = .ok (.iastore, 1) := by decide +kernel
theorem dX6_back_48 : decode cX6_back 48 = .ok (.iinc 2 1, 3) := by decide +kernel
theorem dX6_back_51 : decode cX6_back 51 = .ok (.goto (-26), 3) := by decide +kernel
theorem dX6_back_54 : decode cX6_back 54 = .ok (.aload_n 0, 1) := by decide +kernel
theorem dX6_back_55 : decode cX6_back 55 = .ok (.iconst 0, 1) := by decide +kernel
theorem dX6_back_56 : decode cX6_back 56 = .ok (.putfield 156, 3) := by decide +kernel
theorem dX6_back_59 : decode cX6_back 59 = .ok (.aload_n 0, 1) := by decide +kernel
theorem dX6_back_60 : decode cX6_back 60 = .ok (.getfield 7, 3) := by decide +kernel
theorem dX6_back_63 : decode cX6_back 63 = .ok (.iconst 3, 1) := by decide +kernel
theorem dX6_back_64 : decode cX6_back 64 = .ok (.iaload, 1) := by decide +kernel
theorem dX6_back_65 : decode cX6_back 65 = .ok (.ireturn, 1) := by decide +kernel
theorem dX6_nextKeys_0 : decode cX6_nextKeys 0 = .ok (.iconst 0, 1) := by decide +kernel
theorem dX6_nextKeys_1 : decode cX6_nextKeys 1 = .ok (.istore_n 1, 1) := by decide +kernel
theorem dX6_nextKeys_2 : decode cX6_nextKeys 2 = .ok (.iconst 0, 1) := by decide +kernel
theorem dX6_nextKeys_3 : decode cX6_nextKeys 3 = .ok (.istore_n 2, 1) := by decide +kernel
theorem dX6_nextKeys_4 : decode cX6_nextKeys 4 = .ok (.iload_n 2, 1) := by decide +kernel
theorem dX6_nextKeys_5 : decode cX6_nextKeys 5 = .ok (.bipush 8, 2) := by decide +kernel
theorem dX6_nextKeys_7 : decode cX6_nextKeys 7 = .ok (.if_icmp .ge 27, 3) := by decide +kernel
theorem dX6_nextKeys_10 : decode cX6_nextKeys 10 = .ok (.iload_n 1, 1) := by decide +kernel
theorem dX6_nextKeys_11 : decode cX6_nextKeys 11 = .ok (.aload_n 0, 1) := by decide +kernel
theorem dX6_nextKeys_12 : decode cX6_nextKeys 12 = .ok (.iload_n 2, 1) := by decide +kernel
theorem dX6_nextKeys_13 : decode cX6_nextKeys 13 = .ok (.invokevirtual 168, 3) := by decide +kernel
theorem dX6_nextKeys_16 : decode cX6_nextKeys 16 = .ok (.ifCond .eq 9, 3) := by decide +kernel
theorem dX6_nextKeys_19 : decode cX6_nextKeys 19 = .ok (.iconst 1, 1) := by decide +kernel
theorem dX6_nextKeys_20 : decode cX6_nextKeys 20 = .ok (.iload_n 2, 1) := by decide +kernel
theorem dX6_nextKeys_21 : decode cX6_nextKeys 21 = .ok (.ishl, 1) := by decide +kernel
theorem dX6_nextKeys_22 : decode cX6_nextKeys 22 = .ok (.goto 4, 3) := by decide +kernel
theorem dX6_nextKeys_25 : decode cX6_nextKeys 25 = .ok (.iconst 0, 1) := by decide +kernel
theorem dX6_nextKeys_26 : decode cX6_nextKeys 26 = .ok (.ior, 1) := by decide +kernel
theorem dX6_nextKeys_27 : decode cX6_nextKeys 27 = .ok (.istore_n 1, 1) := by decide +kernel
theorem dX6_nextKeys_28 : decode cX6_nextKeys 28 = .ok (.iinc 2 1, 3) := by decide +kernel
theorem dX6_nextKeys_31 : decode cX6_nextKeys 31 = .ok (.goto (-27), 3) := by decide +kernel
theorem dX6_nextKeys_34 : decode cX6_nextKeys 34 = .ok (.iload_n 1, 1) := by decide +kernel
theorem dX6_nextKeys_35 : decode cX6_nextKeys 35 = .ok (.ireturn, 1) := by decide +kernel
theorem dX6_allCosts_0 : decode cX6_allCosts 0 = .ok (.aload_n 0, 1) := by decide +kernel
theorem dX6_allCosts_1 : decode cX6_allCosts 1 = .ok (.aload_n 0, 1) := by decide +kernel
theorem dX6_allCosts_2 : decode cX6_allCosts 2 = .ok (.getfield 7, 3) := by decide +kernel
theorem dX6_allCosts_5 : decode cX6_allCosts 5 = .ok (.aload_n 0, 1) := by decide +kernel
theorem dX6_allCosts_6 : decode cX6_allCosts 6 = .ok (.getfield 54, 3) := by decide +kernel
theorem dX6_allCosts_9 : decode cX6_allCosts 9 = .ok (.invokevirtual 136, 3) := by decide +kernel
theorem dX6_allCosts_12 : decode cX6_allCosts 12 = .ok (.iconst 0, 1) := by decide +kernel
theorem dX6_allCosts_13 : decode cX6_allCosts 13 = .ok (.istore_n 1, 1) := by decide +kernel
theorem dX6_allCosts_14 : decode cX6_allCosts 14 = .ok (.iconst 1, 1) := by decide +kernel
theorem dX6_allCosts_15 : decode cX6_allCosts 15 = .ok (.istore_n 2, 1) := by decide +kernel
theorem dX6_allCosts_16 : decode cX6_allCosts 16 = .ok (.iload_n 2, 1) := by decide +kernel
theorem dX6_allCosts_17 : decode cX6_allCosts 17 = .ok (.aload_n 0, 1) := by decide +kernel
theorem dX6_allCosts_18 : decode cX6_allCosts 18 = .ok (.getfield 7, 3) := by decide +kernel
theorem dX6_allCosts_21 : decode cX6_allCosts 21 = .ok (.iconst 3, 1) := by decide +kernel
theorem dX6_allCosts_22 : decode cX6_allCosts 22 = .ok (.iaload, 1) := by decide +kernel
theorem dX6_allCosts_23 : decode cX6_allCosts 23 = .ok (.if_icmp .gt 17, 3) := by decide +kernel
theorem dX6_allCosts_26 : decode cX6_allCosts 26 = .ok (.iload_n 1, 1) := by decide +kernel
theorem dX6_allCosts_27 : decode cX6_allCosts 27 = .ok (.aload_n 0, 1) := by decide +kernel
theorem dX6_allCosts_28 : decode cX6_allCosts 28 = .ok (.iload_n 2, 1) := by decide +kernel
theorem dX6_allCosts_29 : decode cX6_allCosts 29 = .ok (.invokevirtual 175, 3) := by decide +kernel
theorem dX6_allCosts_32 : decode cX6_allCosts 32 = .ok (.iadd, 1) := by decide +kernel
theorem dX6_allCosts_33 : decode cX6_allCosts 33 = .ok (.istore_n 1, 1) := by decide +kernel
theorem dX6_allCosts_34 : decode cX6_allCosts 34 = .ok (.iinc 2 1, 3) := by decide +kernel
theorem dX6_allCosts_37 : decode cX6_allCosts 37 = .ok (.goto (-21), 3) := by decide +kernel
theorem dX6_allCosts_40 : decode cX6_allCosts 40 = .ok (.iload_n 1, 1) := by decide +kernel
theorem dX6_allCosts_41 : decode cX6_allCosts 41 = .ok (.ireturn, 1) := by decide +kernel
theorem dX6_count_0 : decode cX6_count 0 = .ok (.iload_n 1, 1) := by decide +kernel
theorem dX6_count_1 : decode cX6_count 1 = .ok (.tableswitch 113 0 9 #[55, 62, 67, 74, 81, 88, 93, 98, 103, 108], 55) := by decide +kernel
theorem dX6_count_56 : decode cX6_count 56 = .ok (.aload_n 0, 1) := by decide +kernel
theorem dX6_count_57 : decode cX6_count 57 = .ok (.getfield 7, 3) := by decide +kernel
theorem dX6_count_60 : decode cX6_count 60 = .ok (.iconst 3, 1) := by decide +kernel
theorem dX6_count_61 : decode cX6_count 61 = .ok (.iaload, 1) := by decide +kernel
theorem dX6_count_62 : decode cX6_count 62 = .ok (.ireturn, 1) := by decide +kernel
theorem dX6_count_63 : decode cX6_count 63 = .ok (.aload_n 0, 1) := by decide +kernel
theorem dX6_count_64 : decode cX6_count 64 = .ok (.getfield 54, 3) := by decide +kernel
theorem dX6_count_67 : decode cX6_count 67 = .ok (.ireturn, 1) := by decide +kernel
theorem dX6_count_68 : decode cX6_count 68 = .ok (.aload_n 0, 1) := by decide +kernel
theorem dX6_count_69 : decode cX6_count 69 = .ok (.getfield 7, 3) := by decide +kernel
theorem dX6_count_72 : decode cX6_count 72 = .ok (.iconst 0, 1) := by decide +kernel
theorem dX6_count_73 : decode cX6_count 73 = .ok (.iaload, 1) := by decide +kernel
theorem dX6_count_74 : decode cX6_count 74 = .ok (.ireturn, 1) := by decide +kernel
theorem dX6_count_75 : decode cX6_count 75 = .ok (.aload_n 0, 1) := by decide +kernel
theorem dX6_count_76 : decode cX6_count 76 = .ok (.getfield 7, 3) := by decide +kernel
theorem dX6_count_79 : decode cX6_count 79 = .ok (.iconst 1, 1) := by decide +kernel
theorem dX6_count_80 : decode cX6_count 80 = .ok (.iaload, 1) := by decide +kernel
theorem dX6_count_81 : decode cX6_count 81 = .ok (.ireturn, 1) := by decide +kernel
theorem dX6_count_82 : decode cX6_count 82 = .ok (.aload_n 0, 1) := by decide +kernel
theorem dX6_count_83 : decode cX6_count 83 = .ok (.getfield 7, 3) := by decide +kernel
theorem dX6_count_86 : decode cX6_count 86 = .ok (.iconst 2, 1) := by decide +kernel
theorem dX6_count_87 : decode cX6_count 87 = .ok (.iaload, 1) := by decide +kernel
theorem dX6_count_88 : decode cX6_count 88 = .ok (.ireturn, 1) := by decide +kernel
theorem dX6_count_89 : decode cX6_count 89 = .ok (.aload_n 0, 1) := by decide +kernel
theorem dX6_count_90 : decode cX6_count 90 = .ok (.invokevirtual 200, 3) := by decide +kernel
theorem dX6_count_93 : decode cX6_count 93 = .ok (.ireturn, 1) := by decide +kernel
theorem dX6_count_94 : decode cX6_count 94 = .ok (.aload_n 0, 1) := by decide +kernel
theorem dX6_count_95 : decode cX6_count 95 = .ok (.invokevirtual 204, 3) := by decide +kernel
theorem dX6_count_98 : decode cX6_count 98 = .ok (.ireturn, 1) := by decide +kernel
theorem dX6_count_99 : decode cX6_count 99 = .ok (.aload_n 0, 1) := by decide +kernel
theorem dX6_count_100 : decode cX6_count 100 = .ok (.getfield 159, 3) := by decide +kernel
theorem dX6_count_103 : decode cX6_count 103 = .ok (.ireturn, 1) := by decide +kernel
theorem dX6_count_104 : decode cX6_count 104 = .ok (.aload_n 0, 1) := by decide +kernel
theorem dX6_count_105 : decode cX6_count 105 = .ok (.getfield 79, 3) := by decide +kernel
theorem dX6_count_108 : decode cX6_count 108 = .ok (.ireturn, 1) := by decide +kernel
theorem dX6_count_109 : decode cX6_count 109 = .ok (.aload_n 0, 1) := by decide +kernel
theorem dX6_count_110 : decode cX6_count 110 = .ok (.getfield 156, 3) := by decide +kernel
theorem dX6_count_113 : decode cX6_count 113 = .ok (.ireturn, 1) := by decide +kernel
theorem dX6_count_114 : decode cX6_count 114 = .ok (.iconst (-1), 1) := by decide +kernel
theorem dX6_count_115 : decode cX6_count 115 = .ok (.ireturn, 1) := by decide +kernel
end
section
theorem dL_law_0 : decode cL_law 0 = .ok (.new 7, 3) := by decide +kernel
theorem dL_law_3 : decode cL_law 3 = .ok (.dup, 1) := by decide +kernel
theorem dL_law_4 : decode cL_law 4 = .ok (.invokespecial 9, 3) := by decide +kernel
theorem dL_law_7 : decode cL_law 7 = .ok (.astore_n 1, 1) := by decide +kernel
theorem dL_law_8 : decode cL_law 8 = .ok (.new 10, 3) := by decide +kernel
theorem dL_law_11 : decode cL_law 11 = .ok (.dup, 1) := by decide +kernel
theorem dL_law_12 : decode cL_law 12 = .ok (.invokespecial 12, 3) := by decide +kernel
theorem dL_law_15 : decode cL_law 15 = .ok (.astore_n 2, 1) := by decide +kernel
theorem dL_law_16 : decode cL_law 16 = .ok (.iconst 0, 1) := by decide +kernel
theorem dL_law_17 : decode cL_law 17 = .ok (.istore_n 3, 1) := by decide +kernel
theorem dL_law_18 : decode cL_law 18 = .ok (.iload_n 3, 1) := by decide +kernel
theorem dL_law_19 : decode cL_law 19 = .ok (.aload_n 0, 1) := by decide +kernel
theorem dL_law_20 : decode cL_law 20 = .ok (.arraylength, 1) := by decide +kernel
theorem dL_law_21 : decode cL_law 21 = .ok (.iconst 4, 1) := by decide +kernel
theorem dL_law_22 : decode cL_law 22 = .ok (.isub, 1) := by decide +kernel
theorem dL_law_23 : decode cL_law 23 = .ok (.if_icmp .gt 621, 3) := by decide +kernel
theorem dL_law_26 : decode cL_law 26 = .ok (.aload_n 0, 1) := by decide +kernel
theorem dL_law_27 : decode cL_law 27 = .ok (.iload_n 3, 1) := by decide +kernel
theorem dL_law_28 : decode cL_law 28 = .ok (.iaload, 1) := by decide +kernel
theorem dL_law_29 : decode cL_law 29 = .ok (.bipush 31, 2) := by decide +kernel
theorem dL_law_31 : decode cL_law 31 = .ok (.iand, 1) := by decide +kernel
theorem dL_law_32 : decode cL_law 32 = .ok (.tableswitch 606 0 19 #[96, 119, 132, 145, 168, 191, 234, 267, 280, 313, 346, 369, 402, 425, 458, 471, 494, 537, 560, 583], 96) := by decide +kernel
theorem dL_law_128 : decode cL_law 128 = .ok (.aload_n 1, 1) := by decide +kernel
theorem dL_law_129 : decode cL_law 129 = .ok (.aload_n 0, 1) := by decide +kernel
theorem dL_law_130 : decode cL_law 130 = .ok (.iload_n 3, 1) := by decide +kernel
theorem dL_law_131 : decode cL_law 131 = .ok (.iconst 1, 1) := by decide +kernel
theorem dL_law_132 : decode cL_law 132 = .ok (.iadd, 1) := by decide +kernel
theorem dL_law_133 : decode cL_law 133 = .ok (.iaload, 1) := by decide +kernel
theorem dL_law_134 : decode cL_law 134 = .ok (.invokevirtual 13, 3) := by decide +kernel
theorem dL_law_137 : decode cL_law 137 = .ok (.aload_n 2, 1) := by decide +kernel
theorem dL_law_138 : decode cL_law 138 = .ok (.aload_n 0, 1) := by decide +kernel
theorem dL_law_139 : decode cL_law 139 = .ok (.iload_n 3, 1) := by decide +kernel
theorem dL_law_140 : decode cL_law 140 = .ok (.iconst 1, 1) := by decide +kernel
theorem dL_law_141 : decode cL_law 141 = .ok (.iadd, 1) := by decide +kernel
theorem dL_law_142 : decode cL_law 142 = .ok (.iaload, 1) := by decide +kernel
theorem dL_law_143 : decode cL_law 143 = .ok (.invokevirtual 17, 3) := by decide +kernel
theorem dL_law_146 : decode cL_law 146 = .ok (.if_icmp .eq 492, 3) := by decide +kernel
theorem dL_law_149 : decode cL_law 149 = .ok (.iconst 0, 1) := by decide +kernel
theorem dL_law_150 : decode cL_law 150 = .ok (.ireturn, 1) := by decide +kernel
theorem dL_law_151 : decode cL_law 151 = .ok (.aload_n 1, 1) := by decide +kernel
theorem dL_law_152 : decode cL_law 152 = .ok (.invokevirtual 18, 3) := by decide +kernel
theorem dL_law_155 : decode cL_law 155 = .ok (.aload_n 2, 1) := by decide +kernel
theorem dL_law_156 : decode cL_law 156 = .ok (.invokevirtual 22, 3) := by decide +kernel
theorem dL_law_159 : decode cL_law 159 = .ok (.if_icmp .eq 479, 3) := by decide +kernel
theorem dL_law_162 : decode cL_law 162 = .ok (.iconst 0, 1) := by decide +kernel
theorem dL_law_163 : decode cL_law 163 = .ok (.ireturn, 1) := by decide +kernel
theorem dL_law_164 : decode cL_law 164 = .ok (.aload_n 1, 1) := by decide +kernel
theorem dL_law_165 : decode cL_law 165 = .ok (.invokevirtual 23, 3) := by decide +kernel
theorem dL_law_168 : decode cL_law 168 = .ok (.aload_n 2, 1) := by decide +kernel
theorem dL_law_169 : decode cL_law 169 = .ok (.invokevirtual 26, 3) := by decide +kernel
theorem dL_law_172 : decode cL_law 172 = .ok (.if_icmp .eq 466, 3) := by decide +kernel
theorem dL_law_175 : decode cL_law 175 = .ok (.iconst 0, 1) := by decide +kernel
theorem dL_law_176 : decode cL_law 176 = .ok (.ireturn, 1) := by decide +kernel
theorem dL_law_177 : decode cL_law 177 = .ok (.aload_n 1, 1) := by decide +kernel
theorem dL_law_178 : decode cL_law 178 = .ok (.aload_n 0, 1) := by decide +kernel
theorem dL_law_179 : decode cL_law 179 = .ok (.iload_n 3, 1) := by decide +kernel
theorem dL_law_180 : decode cL_law 180 = .ok (.iconst 1, 1) := by decide +kernel
theorem dL_law_181 : decode cL_law 181 = .ok (.iadd, 1) := by decide +kernel
theorem dL_law_182 : decode cL_law 182 = .ok (.iaload, 1) := by decide +kernel
theorem dL_law_183 : decode cL_law 183 = .ok (.invokevirtual 27, 3) := by decide +kernel
theorem dL_law_186 : decode cL_law 186 = .ok (.aload_n 2, 1) := by decide +kernel
theorem dL_law_187 : decode cL_law 187 = .ok (.aload_n 0, 1) := by decide +kernel
theorem dL_law_188 : decode cL_law 188 = .ok (.iload_n 3, 1) := by decide +kernel
theorem dL_law_189 : decode cL_law 189 = .ok (.iconst 1, 1) := by decide +kernel
theorem dL_law_190 : decode cL_law 190 = .ok (.iadd, 1) := by decide +kernel
theorem dL_law_191 : decode cL_law 191 = .ok (.iaload, 1) := by decide +kernel
theorem dL_law_192 : decode cL_law 192 = .ok (.invokevirtual 30, 3) := by decide +kernel
theorem dL_law_195 : decode cL_law 195 = .ok (.if_icmp .eq 443, 3) := by decide +kernel
theorem dL_law_198 : decode cL_law 198 = .ok (.iconst 0, 1) := by decide +kernel
theorem dL_law_199 : decode cL_law 199 = .ok (.ireturn, 1) := by decide +kernel
theorem dL_law_200 : decode cL_law 200 = .ok (.aload_n 1, 1) := by decide +kernel
theorem dL_law_201 : decode cL_law 201 = .ok (.aload_n 0, 1) := by decide +kernel
theorem dL_law_202 : decode cL_law 202 = .ok (.iload_n 3, 1) := by decide +kernel
theorem dL_law_203 : decode cL_law 203 = .ok (.iconst 1, 1) := by decide +kernel
theorem dL_law_204 : decode cL_law 204 = .ok (.iadd, 1) := by decide +kernel
theorem dL_law_205 : decode cL_law 205 = .ok (.iaload, 1) := by decide +kernel
theorem dL_law_206 : decode cL_law 206 = .ok (.invokevirtual 31, 3) := by decide +kernel
theorem dL_law_209 : decode cL_law 209 = .ok (.aload_n 2, 1) := by decide +kernel
theorem dL_law_210 : decode cL_law 210 = .ok (.aload_n 0, 1) := by decide +kernel
theorem dL_law_211 : decode cL_law 211 = .ok (.iload_n 3, 1) := by decide +kernel
theorem dL_law_212 : decode cL_law 212 = .ok (.iconst 1, 1) := by decide +kernel
theorem dL_law_213 : decode cL_law 213 = .ok (.iadd, 1) := by decide +kernel
theorem dL_law_214 : decode cL_law 214 = .ok (.iaload, 1) := by decide +kernel
theorem dL_law_215 : decode cL_law 215 = .ok (.invokevirtual 34, 3) := by decide +kernel
theorem dL_law_218 : decode cL_law 218 = .ok (.if_icmp .eq 420, 3) := by decide +kernel
theorem dL_law_221 : decode cL_law 221 = .ok (.iconst 0, 1) := by decide +kernel
theorem dL_law_222 : decode cL_law 222 = .ok (.ireturn, 1) := by decide +kernel
theorem dL_law_223 : decode cL_law 223 = .ok (.aload_n 1, 1) := by decide +kernel
theorem dL_law_224 : decode cL_law 224 = .ok (.aload_n 0, 1) := by decide +kernel
theorem dL_law_225 : decode cL_law 225 = .ok (.iload_n 3, 1) := by decide +kernel
theorem dL_law_226 : decode cL_law 226 = .ok (.iconst 1, 1) := by decide +kernel
theorem dL_law_227 : decode cL_law 227 = .ok (.iadd, 1) := by decide +kernel
theorem dL_law_228 : decode cL_law 228 = .ok (.iaload, 1) := by decide +kernel
theorem dL_law_229 : decode cL_law 229 = .ok (.aload_n 0, 1) := by decide +kernel
theorem dL_law_230 : decode cL_law 230 = .ok (.iload_n 3, 1) := by decide +kernel
theorem dL_law_231 : decode cL_law 231 = .ok (.iconst 2, 1) := by decide +kernel
theorem dL_law_232 : decode cL_law 232 = .ok (.iadd, 1) := by decide +kernel
theorem dL_law_233 : decode cL_law 233 = .ok (.iaload, 1) := by decide +kernel
theorem dL_law_234 : decode cL_law 234 = .ok (.aload_n 0, 1) := by decide +kernel
theorem dL_law_235 : decode cL_law 235 = .ok (.iload_n 3, 1) := by decide +kernel
theorem dL_law_236 : decode cL_law 236 = .ok (.iconst 3, 1) := by decide +kernel
theorem dL_law_237 : decode cL_law 237 = .ok (.iadd, 1) := by decide +kernel
theorem dL_law_238 : decode cL_law 238 = .ok (.iaload, 1) := by decide +kernel
theorem dL_law_239 : decode cL_law 239 = .ok (.invokevirtual 35, 3) := by decide +kernel
theorem dL_law_242 : decode cL_law 242 = .ok (.aload_n 2, 1) := by decide +kernel
theorem dL_law_243 : decode cL_law 243 = .ok (.aload_n 0, 1) := by decide +kernel
theorem dL_law_244 : decode cL_law 244 = .ok (.iload_n 3, 1) := by decide +kernel
theorem dL_law_245 : decode cL_law 245 = .ok (.iconst 1, 1) := by decide +kernel
theorem dL_law_246 : decode cL_law 246 = .ok (.iadd, 1) := by decide +kernel
theorem dL_law_247 : decode cL_law 247 = .ok (.iaload, 1) := by decide +kernel
theorem dL_law_248 : decode cL_law 248 = .ok (.aload_n 0, 1) := by decide +kernel
theorem dL_law_249 : decode cL_law 249 = .ok (.iload_n 3, 1) := by decide +kernel
theorem dL_law_250 : decode cL_law 250 = .ok (.iconst 2, 1) := by decide +kernel
theorem dL_law_251 : decode cL_law 251 = .ok (.iadd, 1) := by decide +kernel
theorem dL_law_252 : decode cL_law 252 = .ok (.iaload, 1) := by decide +kernel
theorem dL_law_253 : decode cL_law 253 = .ok (.aload_n 0, 1) := by decide +kernel
theorem dL_law_254 : decode cL_law 254 = .ok (.iload_n 3, 1) := by decide +kernel
theorem dL_law_255 : decode cL_law 255 = .ok (.iconst 3, 1) := by decide +kernel
theorem dL_law_256 : decode cL_law 256 = .ok (.iadd, 1) := by decide +kernel
theorem dL_law_257 : decode cL_law 257 = .ok (.iaload, 1) := by decide +kernel
theorem dL_law_258 : decode cL_law 258 = .ok (.invokevirtual 39, 3) := by decide +kernel
theorem dL_law_261 : decode cL_law 261 = .ok (.if_icmp .eq 377, 3) := by decide +kernel
theorem dL_law_264 : decode cL_law 264 = .ok (.iconst 0, 1) := by decide +kernel
theorem dL_law_265 : decode cL_law 265 = .ok (.ireturn, 1) := by decide +kernel
theorem dL_law_266 : decode cL_law 266 = .ok (.aload_n 1, 1) := by decide +kernel
theorem dL_law_267 : decode cL_law 267 = .ok (.aload_n 0, 1) := by decide +kernel
theorem dL_law_268 : decode cL_law 268 = .ok (.iload_n 3, 1) := by decide +kernel
theorem dL_law_269 : decode cL_law 269 = .ok (.iconst 1, 1) := by decide +kernel
theorem dL_law_270 : decode cL_law 270 = .ok (.iadd, 1) := by decide +kernel
theorem dL_law_271 : decode cL_law 271 = .ok (.iaload, 1) := by decide +kernel
theorem dL_law_272 : decode cL_law 272 = .ok (.aload_n 0, 1) := by decide +kernel
theorem dL_law_273 : decode cL_law 273 = .ok (.iload_n 3, 1) := by decide +kernel
theorem dL_law_274 : decode cL_law 274 = .ok (.iconst 2, 1) := by decide +kernel
theorem dL_law_275 : decode cL_law 275 = .ok (.iadd, 1) := by decide +kernel
theorem dL_law_276 : decode cL_law 276 = .ok (.iaload, 1) := by decide +kernel
theorem dL_law_277 : decode cL_law 277 = .ok (.invokevirtual 40, 3) := by decide +kernel
theorem dL_law_280 : decode cL_law 280 = .ok (.aload_n 2, 1) := by decide +kernel
theorem dL_law_281 : decode cL_law 281 = .ok (.aload_n 0, 1) := by decide +kernel
theorem dL_law_282 : decode cL_law 282 = .ok (.iload_n 3, 1) := by decide +kernel
theorem dL_law_283 : decode cL_law 283 = .ok (.iconst 1, 1) := by decide +kernel
theorem dL_law_284 : decode cL_law 284 = .ok (.iadd, 1) := by decide +kernel
theorem dL_law_285 : decode cL_law 285 = .ok (.iaload, 1) := by decide +kernel
theorem dL_law_286 : decode cL_law 286 = .ok (.aload_n 0, 1) := by decide +kernel
theorem dL_law_287 : decode cL_law 287 = .ok (.iload_n 3, 1) := by decide +kernel
theorem dL_law_288 : decode cL_law 288 = .ok (.iconst 2, 1) := by decide +kernel
theorem dL_law_289 : decode cL_law 289 = .ok (.iadd, 1) := by decide +kernel
theorem dL_law_290 : decode cL_law 290 = .ok (.iaload, 1) := by decide +kernel
theorem dL_law_291 : decode cL_law 291 = .ok (.invokevirtual 44, 3) := by decide +kernel
theorem dL_law_294 : decode cL_law 294 = .ok (.if_icmp .eq 344, 3) := by decide +kernel
theorem dL_law_297 : decode cL_law 297 = .ok (.iconst 0, 1) := by decide +kernel
theorem dL_law_298 : decode cL_law 298 = .ok (.ireturn, 1) := by decide +kernel
theorem dL_law_299 : decode cL_law 299 = .ok (.aload_n 1, 1) := by decide +kernel
theorem dL_law_300 : decode cL_law 300 = .ok (.invokevirtual 45, 3) := by decide +kernel
theorem dL_law_303 : decode cL_law 303 = .ok (.aload_n 2, 1) := by decide +kernel
theorem dL_law_304 : decode cL_law 304 = .ok (.invokevirtual 48, 3) := by decide +kernel
theorem dL_law_307 : decode cL_law 307 = .ok (.if_icmp .eq 331, 3) := by decide +kernel
theorem dL_law_310 : decode cL_law 310 = .ok (.iconst 0, 1) := by decide +kernel
theorem dL_law_311 : decode cL_law 311 = .ok (.ireturn, 1) := by decide +kernel
theorem dL_law_312 : decode cL_law 312 = .ok (.aload_n 1, 1) := by decide +kernel
theorem dL_law_313 : decode cL_law 313 = .ok (.aload_n 0, 1) := by decide +kernel
theorem dL_law_314 : decode cL_law 314 = .ok (.iload_n 3, 1) := by decide +kernel
theorem dL_law_315 : decode cL_law 315 = .ok (.iconst 1, 1) := by decide +kernel
theorem dL_law_316 : decode cL_law 316 = .ok (.iadd, 1) := by decide +kernel
theorem dL_law_317 : decode cL_law 317 = .ok (.iaload, 1) := by decide +kernel
theorem dL_law_318 : decode cL_law 318 = .ok (.aload_n 0, 1) := by decide +kernel
theorem dL_law_319 : decode cL_law 319 = .ok (.iload_n 3, 1) := by decide +kernel
theorem dL_law_320 : decode cL_law 320 = .ok (.iconst 2, 1) := by decide +kernel
theorem dL_law_321 : decode cL_law 321 = .ok (.iadd, 1) := by decide +kernel
theorem dL_law_322 : decode cL_law 322 = .ok (.iaload, 1) := by decide +kernel
theorem dL_law_323 : decode cL_law 323 = .ok (.invokevirtual 49, 3) := by decide +kernel
theorem dL_law_326 : decode cL_law 326 = .ok (.aload_n 2, 1) := by decide +kernel
theorem dL_law_327 : decode cL_law 327 = .ok (.aload_n 0, 1) := by decide +kernel
theorem dL_law_328 : decode cL_law 328 = .ok (.iload_n 3, 1) := by decide +kernel
theorem dL_law_329 : decode cL_law 329 = .ok (.iconst 1, 1) := by decide +kernel
theorem dL_law_330 : decode cL_law 330 = .ok (.iadd, 1) := by decide +kernel
theorem dL_law_331 : decode cL_law 331 = .ok (.iaload, 1) := by decide +kernel
theorem dL_law_332 : decode cL_law 332 = .ok (.aload_n 0, 1) := by decide +kernel
theorem dL_law_333 : decode cL_law 333 = .ok (.iload_n 3, 1) := by decide +kernel
theorem dL_law_334 : decode cL_law 334 = .ok (.iconst 2, 1) := by decide +kernel
theorem dL_law_335 : decode cL_law 335 = .ok (.iadd, 1) := by decide +kernel
theorem dL_law_336 : decode cL_law 336 = .ok (.iaload, 1) := by decide +kernel
theorem dL_law_337 : decode cL_law 337 = .ok (.invokevirtual 52, 3) := by decide +kernel
theorem dL_law_340 : decode cL_law 340 = .ok (.if_icmp .eq 298, 3) := by decide +kernel
theorem dL_law_343 : decode cL_law 343 = .ok (.iconst 0, 1) := by decide +kernel
theorem dL_law_344 : decode cL_law 344 = .ok (.ireturn, 1) := by decide +kernel
theorem dL_law_345 : decode cL_law 345 = .ok (.aload_n 1, 1) := by decide +kernel
theorem dL_law_346 : decode cL_law 346 = .ok (.aload_n 0, 1) := by decide +kernel
theorem dL_law_347 : decode cL_law 347 = .ok (.iload_n 3, 1) := by decide +kernel
theorem dL_law_348 : decode cL_law 348 = .ok (.iconst 1, 1) := by decide +kernel
theorem dL_law_349 : decode cL_law 349 = .ok (.iadd, 1) := by decide +kernel
theorem dL_law_350 : decode cL_law 350 = .ok (.iaload, 1) := by decide +kernel
theorem dL_law_351 : decode cL_law 351 = .ok (.aload_n 0, 1) := by decide +kernel
theorem dL_law_352 : decode cL_law 352 = .ok (.iload_n 3, 1) := by decide +kernel
theorem dL_law_353 : decode cL_law 353 = .ok (.iconst 2, 1) := by decide +kernel
theorem dL_law_354 : decode cL_law 354 = .ok (.iadd, 1) := by decide +kernel
theorem dL_law_355 : decode cL_law 355 = .ok (.iaload, 1) := by decide +kernel
theorem dL_law_356 : decode cL_law 356 = .ok (.invokevirtual 53, 3) := by decide +kernel
theorem dL_law_359 : decode cL_law 359 = .ok (.aload_n 2, 1) := by decide +kernel
theorem dL_law_360 : decode cL_law 360 = .ok (.aload_n 0, 1) := by decide +kernel
theorem dL_law_361 : decode cL_law 361 = .ok (.iload_n 3, 1) := by decide +kernel
theorem dL_law_362 : decode cL_law 362 = .ok (.iconst 1, 1) := by decide +kernel
theorem dL_law_363 : decode cL_law 363 = .ok (.iadd, 1) := by decide +kernel
theorem dL_law_364 : decode cL_law 364 = .ok (.iaload, 1) := by decide +kernel
theorem dL_law_365 : decode cL_law 365 = .ok (.aload_n 0, 1) := by decide +kernel
theorem dL_law_366 : decode cL_law 366 = .ok (.iload_n 3, 1) := by decide +kernel
theorem dL_law_367 : decode cL_law 367 = .ok (.iconst 2, 1) := by decide +kernel
theorem dL_law_368 : decode cL_law 368 = .ok (.iadd, 1) := by decide +kernel
theorem dL_law_369 : decode cL_law 369 = .ok (.iaload, 1) := by decide +kernel
theorem dL_law_370 : decode cL_law 370 = .ok (.invokevirtual 56, 3) := by decide +kernel
theorem dL_law_373 : decode cL_law 373 = .ok (.if_icmp .eq 265, 3) := by decide +kernel
theorem dL_law_376 : decode cL_law 376 = .ok (.iconst 0, 1) := by decide +kernel
theorem dL_law_377 : decode cL_law 377 = .ok (.ireturn, 1) := by decide +kernel
theorem dL_law_378 : decode cL_law 378 = .ok (.aload_n 1, 1) := by decide +kernel
theorem dL_law_379 : decode cL_law 379 = .ok (.aload_n 0, 1) := by decide +kernel
theorem dL_law_380 : decode cL_law 380 = .ok (.iload_n 3, 1) := by decide +kernel
theorem dL_law_381 : decode cL_law 381 = .ok (.iconst 1, 1) := by decide +kernel
theorem dL_law_382 : decode cL_law 382 = .ok (.iadd, 1) := by decide +kernel
theorem dL_law_383 : decode cL_law 383 = .ok (.iaload, 1) := by decide +kernel
theorem dL_law_384 : decode cL_law 384 = .ok (.invokevirtual 57, 3) := by decide +kernel
theorem dL_law_387 : decode cL_law 387 = .ok (.aload_n 2, 1) := by decide +kernel
theorem dL_law_388 : decode cL_law 388 = .ok (.aload_n 0, 1) := by decide +kernel
theorem dL_law_389 : decode cL_law 389 = .ok (.iload_n 3, 1) := by decide +kernel
theorem dL_law_390 : decode cL_law 390 = .ok (.iconst 1, 1) := by decide +kernel
theorem dL_law_391 : decode cL_law 391 = .ok (.iadd, 1) := by decide +kernel
theorem dL_law_392 : decode cL_law 392 = .ok (.iaload, 1) := by decide +kernel
theorem dL_law_393 : decode cL_law 393 = .ok (.invokevirtual 60, 3) := by decide +kernel
theorem dL_law_396 : decode cL_law 396 = .ok (.if_icmp .eq 242, 3) := by decide +kernel
theorem dL_law_399 : decode cL_law 399 = .ok (.iconst 0, 1) := by decide +kernel
theorem dL_law_400 : decode cL_law 400 = .ok (.ireturn, 1) := by decide +kernel
theorem dL_law_401 : decode cL_law 401 = .ok (.aload_n 1, 1) := by decide +kernel
theorem dL_law_402 : decode cL_law 402 = .ok (.aload_n 0, 1) := by decide +kernel
theorem dL_law_403 : decode cL_law 403 = .ok (.iload_n 3, 1) := by decide +kernel
theorem dL_law_404 : decode cL_law 404 = .ok (.iconst 1, 1) := by decide +kernel
theorem dL_law_405 : decode cL_law 405 = .ok (.iadd, 1) := by decide +kernel
theorem dL_law_406 : decode cL_law 406 = .ok (.iaload, 1) := by decide +kernel
theorem dL_law_407 : decode cL_law 407 = .ok (.aload_n 0, 1) := by decide +kernel
theorem dL_law_408 : decode cL_law 408 = .ok (.iload_n 3, 1) := by decide +kernel
theorem dL_law_409 : decode cL_law 409 = .ok (.iconst 2, 1) := by decide +kernel
theorem dL_law_410 : decode cL_law 410 = .ok (.iadd, 1) := by decide +kernel
theorem dL_law_411 : decode cL_law 411 = .ok (.iaload, 1) := by decide +kernel
theorem dL_law_412 : decode cL_law 412 = .ok (.invokevirtual 61, 3) := by decide +kernel
theorem dL_law_415 : decode cL_law 415 = .ok (.aload_n 2, 1) := by decide +kernel
theorem dL_law_416 : decode cL_law 416 = .ok (.aload_n 0, 1) := by decide +kernel
theorem dL_law_417 : decode cL_law 417 = .ok (.iload_n 3, 1) := by decide +kernel
theorem dL_law_418 : decode cL_law 418 = .ok (.iconst 1, 1) := by decide +kernel
theorem dL_law_419 : decode cL_law 419 = .ok (.iadd, 1) := by decide +kernel
theorem dL_law_420 : decode cL_law 420 = .ok (.iaload, 1) := by decide +kernel
theorem dL_law_421 : decode cL_law 421 = .ok (.aload_n 0, 1) := by decide +kernel
theorem dL_law_422 : decode cL_law 422 = .ok (.iload_n 3, 1) := by decide +kernel
theorem dL_law_423 : decode cL_law 423 = .ok (.iconst 2, 1) := by decide +kernel
theorem dL_law_424 : decode cL_law 424 = .ok (.iadd, 1) := by decide +kernel
theorem dL_law_425 : decode cL_law 425 = .ok (.iaload, 1) := by decide +kernel
theorem dL_law_426 : decode cL_law 426 = .ok (.invokevirtual 64, 3) := by decide +kernel
theorem dL_law_429 : decode cL_law 429 = .ok (.if_icmp .eq 209, 3) := by decide +kernel
theorem dL_law_432 : decode cL_law 432 = .ok (.iconst 0, 1) := by decide +kernel
theorem dL_law_433 : decode cL_law 433 = .ok (.ireturn, 1) := by decide +kernel
theorem dL_law_434 : decode cL_law 434 = .ok (.aload_n 1, 1) := by decide +kernel
theorem dL_law_435 : decode cL_law 435 = .ok (.aload_n 0, 1) := by decide +kernel
theorem dL_law_436 : decode cL_law 436 = .ok (.iload_n 3, 1) := by decide +kernel
theorem dL_law_437 : decode cL_law 437 = .ok (.iconst 1, 1) := by decide +kernel
theorem dL_law_438 : decode cL_law 438 = .ok (.iadd, 1) := by decide +kernel
theorem dL_law_439 : decode cL_law 439 = .ok (.iaload, 1) := by decide +kernel
theorem dL_law_440 : decode cL_law 440 = .ok (.invokevirtual 65, 3) := by decide +kernel
theorem dL_law_443 : decode cL_law 443 = .ok (.aload_n 2, 1) := by decide +kernel
theorem dL_law_444 : decode cL_law 444 = .ok (.aload_n 0, 1) := by decide +kernel
theorem dL_law_445 : decode cL_law 445 = .ok (.iload_n 3, 1) := by decide +kernel
theorem dL_law_446 : decode cL_law 446 = .ok (.iconst 1, 1) := by decide +kernel
theorem dL_law_447 : decode cL_law 447 = .ok (.iadd, 1) := by decide +kernel
theorem dL_law_448 : decode cL_law 448 = .ok (.iaload, 1) := by decide +kernel
theorem dL_law_449 : decode cL_law 449 = .ok (.invokevirtual 68, 3) := by decide +kernel
theorem dL_law_452 : decode cL_law 452 = .ok (.if_icmp .eq 186, 3) := by decide +kernel
theorem dL_law_455 : decode cL_law 455 = .ok (.iconst 0, 1) := by decide +kernel
theorem dL_law_456 : decode cL_law 456 = .ok (.ireturn, 1) := by decide +kernel
theorem dL_law_457 : decode cL_law 457 = .ok (.aload_n 1, 1) := by decide +kernel
theorem dL_law_458 : decode cL_law 458 = .ok (.aload_n 0, 1) := by decide +kernel
theorem dL_law_459 : decode cL_law 459 = .ok (.iload_n 3, 1) := by decide +kernel
theorem dL_law_460 : decode cL_law 460 = .ok (.iconst 1, 1) := by decide +kernel
theorem dL_law_461 : decode cL_law 461 = .ok (.iadd, 1) := by decide +kernel
theorem dL_law_462 : decode cL_law 462 = .ok (.iaload, 1) := by decide +kernel
theorem dL_law_463 : decode cL_law 463 = .ok (.aload_n 0, 1) := by decide +kernel
theorem dL_law_464 : decode cL_law 464 = .ok (.iload_n 3, 1) := by decide +kernel
theorem dL_law_465 : decode cL_law 465 = .ok (.iconst 2, 1) := by decide +kernel
theorem dL_law_466 : decode cL_law 466 = .ok (.iadd, 1) := by decide +kernel
theorem dL_law_467 : decode cL_law 467 = .ok (.iaload, 1) := by decide +kernel
theorem dL_law_468 : decode cL_law 468 = .ok (.invokevirtual 69, 3) := by decide +kernel
theorem dL_law_471 : decode cL_law 471 = .ok (.aload_n 2, 1) := by decide +kernel
theorem dL_law_472 : decode cL_law 472 = .ok (.aload_n 0, 1) := by decide +kernel
theorem dL_law_473 : decode cL_law 473 = .ok (.iload_n 3, 1) := by decide +kernel
theorem dL_law_474 : decode cL_law 474 = .ok (.iconst 1, 1) := by decide +kernel
theorem dL_law_475 : decode cL_law 475 = .ok (.iadd, 1) := by decide +kernel
theorem dL_law_476 : decode cL_law 476 = .ok (.iaload, 1) := by decide +kernel
theorem dL_law_477 : decode cL_law 477 = .ok (.aload_n 0, 1) := by decide +kernel
theorem dL_law_478 : decode cL_law 478 = .ok (.iload_n 3, 1) := by decide +kernel
theorem dL_law_479 : decode cL_law 479 = .ok (.iconst 2, 1) := by decide +kernel
theorem dL_law_480 : decode cL_law 480 = .ok (.iadd, 1) := by decide +kernel
theorem dL_law_481 : decode cL_law 481 = .ok (.iaload, 1) := by decide +kernel
theorem dL_law_482 : decode cL_law 482 = .ok (.invokevirtual 72, 3) := by decide +kernel
theorem dL_law_485 : decode cL_law 485 = .ok (.if_icmp .eq 153, 3) := by decide +kernel
theorem dL_law_488 : decode cL_law 488 = .ok (.iconst 0, 1) := by decide +kernel
theorem dL_law_489 : decode cL_law 489 = .ok (.ireturn, 1) := by decide +kernel
theorem dL_law_490 : decode cL_law 490 = .ok (.aload_n 1, 1) := by decide +kernel
theorem dL_law_491 : decode cL_law 491 = .ok (.invokevirtual 73, 3) := by decide +kernel
theorem dL_law_494 : decode cL_law 494 = .ok (.aload_n 2, 1) := by decide +kernel
theorem dL_law_495 : decode cL_law 495 = .ok (.invokevirtual 76, 3) := by decide +kernel
theorem dL_law_498 : decode cL_law 498 = .ok (.if_icmp .eq 140, 3) := by decide +kernel
theorem dL_law_501 : decode cL_law 501 = .ok (.iconst 0, 1) := by decide +kernel
theorem dL_law_502 : decode cL_law 502 = .ok (.ireturn, 1) := by decide +kernel
theorem dL_law_503 : decode cL_law 503 = .ok (.aload_n 1, 1) := by decide +kernel
theorem dL_law_504 : decode cL_law 504 = .ok (.aload_n 0, 1) := by decide +kernel
theorem dL_law_505 : decode cL_law 505 = .ok (.iload_n 3, 1) := by decide +kernel
theorem dL_law_506 : decode cL_law 506 = .ok (.iconst 1, 1) := by decide +kernel
theorem dL_law_507 : decode cL_law 507 = .ok (.iadd, 1) := by decide +kernel
theorem dL_law_508 : decode cL_law 508 = .ok (.iaload, 1) := by decide +kernel
theorem dL_law_509 : decode cL_law 509 = .ok (.invokevirtual 77, 3) := by decide +kernel
theorem dL_law_512 : decode cL_law 512 = .ok (.aload_n 2, 1) := by decide +kernel
theorem dL_law_513 : decode cL_law 513 = .ok (.aload_n 0, 1) := by decide +kernel
theorem dL_law_514 : decode cL_law 514 = .ok (.iload_n 3, 1) := by decide +kernel
theorem dL_law_515 : decode cL_law 515 = .ok (.iconst 1, 1) := by decide +kernel
theorem dL_law_516 : decode cL_law 516 = .ok (.iadd, 1) := by decide +kernel
theorem dL_law_517 : decode cL_law 517 = .ok (.iaload, 1) := by decide +kernel
theorem dL_law_518 : decode cL_law 518 = .ok (.invokevirtual 80, 3) := by decide +kernel
theorem dL_law_521 : decode cL_law 521 = .ok (.if_icmp .eq 117, 3) := by decide +kernel
theorem dL_law_524 : decode cL_law 524 = .ok (.iconst 0, 1) := by decide +kernel
theorem dL_law_525 : decode cL_law 525 = .ok (.ireturn, 1) := by decide +kernel
theorem dL_law_526 : decode cL_law 526 = .ok (.aload_n 1, 1) := by decide +kernel
theorem dL_law_527 : decode cL_law 527 = .ok (.aload_n 0, 1) := by decide +kernel
theorem dL_law_528 : decode cL_law 528 = .ok (.iload_n 3, 1) := by decide +kernel
theorem dL_law_529 : decode cL_law 529 = .ok (.iconst 1, 1) := by decide +kernel
theorem dL_law_530 : decode cL_law 530 = .ok (.iadd, 1) := by decide +kernel
theorem dL_law_531 : decode cL_law 531 = .ok (.iaload, 1) := by decide +kernel
theorem dL_law_532 : decode cL_law 532 = .ok (.aload_n 0, 1) := by decide +kernel
theorem dL_law_533 : decode cL_law 533 = .ok (.iload_n 3, 1) := by decide +kernel
theorem dL_law_534 : decode cL_law 534 = .ok (.iconst 2, 1) := by decide +kernel
theorem dL_law_535 : decode cL_law 535 = .ok (.iadd, 1) := by decide +kernel
theorem dL_law_536 : decode cL_law 536 = .ok (.iaload, 1) := by decide +kernel
theorem dL_law_537 : decode cL_law 537 = .ok (.aload_n 0, 1) := by decide +kernel
theorem dL_law_538 : decode cL_law 538 = .ok (.iload_n 3, 1) := by decide +kernel
theorem dL_law_539 : decode cL_law 539 = .ok (.iconst 3, 1) := by decide +kernel
theorem dL_law_540 : decode cL_law 540 = .ok (.iadd, 1) := by decide +kernel
theorem dL_law_541 : decode cL_law 541 = .ok (.iaload, 1) := by decide +kernel
theorem dL_law_542 : decode cL_law 542 = .ok (.invokevirtual 81, 3) := by decide +kernel
theorem dL_law_545 : decode cL_law 545 = .ok (.aload_n 2, 1) := by decide +kernel
theorem dL_law_546 : decode cL_law 546 = .ok (.aload_n 0, 1) := by decide +kernel
theorem dL_law_547 : decode cL_law 547 = .ok (.iload_n 3, 1) := by decide +kernel
theorem dL_law_548 : decode cL_law 548 = .ok (.iconst 1, 1) := by decide +kernel
theorem dL_law_549 : decode cL_law 549 = .ok (.iadd, 1) := by decide +kernel
theorem dL_law_550 : decode cL_law 550 = .ok (.iaload, 1) := by decide +kernel
theorem dL_law_551 : decode cL_law 551 = .ok (.aload_n 0, 1) := by decide +kernel
theorem dL_law_552 : decode cL_law 552 = .ok (.iload_n 3, 1) := by decide +kernel
theorem dL_law_553 : decode cL_law 553 = .ok (.iconst 2, 1) := by decide +kernel
theorem dL_law_554 : decode cL_law 554 = .ok (.iadd, 1) := by decide +kernel
theorem dL_law_555 : decode cL_law 555 = .ok (.iaload, 1) := by decide +kernel
theorem dL_law_556 : decode cL_law 556 = .ok (.aload_n 0, 1) := by decide +kernel
theorem dL_law_557 : decode cL_law 557 = .ok (.iload_n 3, 1) := by decide +kernel
theorem dL_law_558 : decode cL_law 558 = .ok (.iconst 3, 1) := by decide +kernel
theorem dL_law_559 : decode cL_law 559 = .ok (.iadd, 1) := by decide +kernel
theorem dL_law_560 : decode cL_law 560 = .ok (.iaload, 1) := by decide +kernel
theorem dL_law_561 : decode cL_law 561 = .ok (.invokevirtual 84, 3) := by decide +kernel
theorem dL_law_564 : decode cL_law 564 = .ok (.if_icmp .eq 74, 3) := by decide +kernel
theorem dL_law_567 : decode cL_law 567 = .ok (.iconst 0, 1) := by decide +kernel
theorem dL_law_568 : decode cL_law 568 = .ok (.ireturn, 1) := by decide +kernel
theorem dL_law_569 : decode cL_law 569 = .ok (.aload_n 1, 1) := by decide +kernel
theorem dL_law_570 : decode cL_law 570 = .ok (.aload_n 0, 1) := by decide +kernel
theorem dL_law_571 : decode cL_law 571 = .ok (.iload_n 3, 1) := by decide +kernel
theorem dL_law_572 : decode cL_law 572 = .ok (.iconst 1, 1) := by decide +kernel
theorem dL_law_573 : decode cL_law 573 = .ok (.iadd, 1) := by decide +kernel
theorem dL_law_574 : decode cL_law 574 = .ok (.iaload, 1) := by decide +kernel
theorem dL_law_575 : decode cL_law 575 = .ok (.invokevirtual 85, 3) := by decide +kernel
theorem dL_law_578 : decode cL_law 578 = .ok (.aload_n 2, 1) := by decide +kernel
theorem dL_law_579 : decode cL_law 579 = .ok (.aload_n 0, 1) := by decide +kernel
theorem dL_law_580 : decode cL_law 580 = .ok (.iload_n 3, 1) := by decide +kernel
theorem dL_law_581 : decode cL_law 581 = .ok (.iconst 1, 1) := by decide +kernel
theorem dL_law_582 : decode cL_law 582 = .ok (.iadd, 1) := by decide +kernel
theorem dL_law_583 : decode cL_law 583 = .ok (.iaload, 1) := by decide +kernel
theorem dL_law_584 : decode cL_law 584 = .ok (.invokevirtual 88, 3) := by decide +kernel
theorem dL_law_587 : decode cL_law 587 = .ok (.if_icmp .eq 51, 3) := by decide +kernel
theorem dL_law_590 : decode cL_law 590 = .ok (.iconst 0, 1) := by decide +kernel
theorem dL_law_591 : decode cL_law 591 = .ok (.ireturn, 1) := by decide +kernel
theorem dL_law_592 : decode cL_law 592 = .ok (.aload_n 1, 1) := by decide +kernel
theorem dL_law_593 : decode cL_law 593 = .ok (.aload_n 0, 1) := by decide +kernel
theorem dL_law_594 : decode cL_law 594 = .ok (.iload_n 3, 1) := by decide +kernel
theorem dL_law_595 : decode cL_law 595 = .ok (.iconst 1, 1) := by decide +kernel
theorem dL_law_596 : decode cL_law 596 = .ok (.iadd, 1) := by decide +kernel
theorem dL_law_597 : decode cL_law 597 = .ok (.iaload, 1) := by decide +kernel
theorem dL_law_598 : decode cL_law 598 = .ok (.invokevirtual 89, 3) := by decide +kernel
theorem dL_law_601 : decode cL_law 601 = .ok (.aload_n 2, 1) := by decide +kernel
theorem dL_law_602 : decode cL_law 602 = .ok (.aload_n 0, 1) := by decide +kernel
theorem dL_law_603 : decode cL_law 603 = .ok (.iload_n 3, 1) := by decide +kernel
theorem dL_law_604 : decode cL_law 604 = .ok (.iconst 1, 1) := by decide +kernel
theorem dL_law_605 : decode cL_law 605 = .ok (.iadd, 1) := by decide +kernel
theorem dL_law_606 : decode cL_law 606 = .ok (.iaload, 1) := by decide +kernel
theorem dL_law_607 : decode cL_law 607 = .ok (.invokevirtual 92, 3) := by decide +kernel
theorem dL_law_610 : decode cL_law 610 = .ok (.if_icmp .eq 28, 3) := by decide +kernel
theorem dL_law_613 : decode cL_law 613 = .ok (.iconst 0, 1) := by decide +kernel
theorem dL_law_614 : decode cL_law 614 = .ok (.ireturn, 1) := by decide +kernel
theorem dL_law_615 : decode cL_law 615 = .ok (.aload_n 1, 1) := by decide +kernel
theorem dL_law_616 : decode cL_law 616 = .ok (.aload_n 0, 1) := by decide +kernel
theorem dL_law_617 : decode cL_law 617 = .ok (.iload_n 3, 1) := by decide +kernel
theorem dL_law_618 : decode cL_law 618 = .ok (.iconst 1, 1) := by decide +kernel
theorem dL_law_619 : decode cL_law 619 = .ok (.iadd, 1) := by decide +kernel
theorem dL_law_620 : decode cL_law 620 = .ok (.iaload, 1) := by decide +kernel
theorem dL_law_621 : decode cL_law 621 = .ok (.invokevirtual 93, 3) := by decide +kernel
theorem dL_law_624 : decode cL_law 624 = .ok (.aload_n 2, 1) := by decide +kernel
theorem dL_law_625 : decode cL_law 625 = .ok (.aload_n 0, 1) := by decide +kernel
theorem dL_law_626 : decode cL_law 626 = .ok (.iload_n 3, 1) := by decide +kernel
theorem dL_law_627 : decode cL_law 627 = .ok (.iconst 1, 1) := by decide +kernel
theorem dL_law_628 : decode cL_law 628 = .ok (.iadd, 1) := by decide +kernel
theorem dL_law_629 : decode cL_law 629 = .ok (.iaload, 1) := by decide +kernel
theorem dL_law_630 : decode cL_law 630 = .ok (.invokevirtual 96, 3) := by decide +kernel
theorem dL_law_633 : decode cL_law 633 = .ok (.if_icmp .eq 5, 3) := by decide +kernel
theorem dL_law_636 : decode cL_law 636 = .ok (.iconst 0, 1) := by decide +kernel
theorem dL_law_637 : decode cL_law 637 = .ok (.ireturn, 1) := by decide +kernel
theorem dL_law_638 : decode cL_law 638 = .ok (.iinc 3 4, 3) := by decide +kernel
theorem dL_law_641 : decode cL_law 641 = .ok (.goto (-623), 3) := by decide +kernel
theorem dL_law_644 : decode cL_law 644 = .ok (.iconst 1, 1) := by decide +kernel
theorem dL_law_645 : decode cL_law 645 = .ok (.ireturn, 1) := by decide +kernel
end
section
def rs_T : List Cond := lw_tbl.filter goodWord
theorem rs_T_sub : ∀ w ∈ rs_T, w ∈ lw_tbl := fun w h => (List.mem_filter.mp h).1
theorem rs_T_good : ∀ w ∈ rs_T, goodWord w = true := fun w h => (List.mem_filter.mp h).2
theorem rs_in {w : Cond} (h : w ∈ tables_1) (g : goodWord w = true) : w ∈ rs_T := List.mem_filter.mpr ⟨List.mem_append_right _ h, g⟩
theorem rs_m1 {w : Cond} (i : Nat) (h : tables_1_1[i]? = some w) (g : goodWord w = true) : w ∈ rs_T := rs_in (List.mem_append_left _ (List.mem_of_getElem? h)) g
theorem rs_n1 {w : Cond} (i : Nat) (h : tables_1_1[i]? = some w) : w ∈ lw_tbl := List.mem_append_right _ (List.mem_append_left _ (List.mem_of_getElem? h))
theorem rs_m2 {w : Cond} (i : Nat) (h : tables_1_2[i]? = some w) (g : goodWord w = true) : w ∈ rs_T := rs_in (List.mem_append_right _ (List.mem_append_left _ (List.mem_of_getElem? h))) g
theorem rs_n2 {w : Cond} (i : Nat) (h : tables_1_2[i]? = some w) : w ∈ lw_tbl := List.mem_append_right _ (List.mem_append_right _ (List.mem_append_left _ (List.mem_of_getElem? h)))
theorem rs_m3 {w : Cond} (i : Nat) (h : tables_1_3[i]? = some w) (g : goodWord w = true) : w ∈ rs_T := rs_in (List.mem_append_right _ (List.mem_append_right _ (List.mem_append_left _ (List.mem_of_getElem? h)))) g
theorem rs_n3 {w : Cond} (i : Nat) (h : tables_1_3[i]? = some w) : w ∈ lw_tbl := List.mem_append_right _ (List.mem_append_right _ (List.mem_append_right _ (List.mem_append_left _ (List.mem_of_getElem? h))))
theorem rs_m4 {w : Cond} (i : Nat) (h : tables_1_4[i]? = some w) (g : goodWord w = true) : w ∈ rs_T := rs_in (List.mem_append_right _ (List.mem_append_right _ (List.mem_append_right _ (List.mem_of_getElem? h)))) g
theorem rs_n4 {w : Cond} (i : Nat) (h : tables_1_4[i]? = some w) : w ∈ lw_tbl := List.mem_append_right _ (List.mem_append_right _ (List.mem_append_right _ (List.mem_append_right _ (List.mem_of_getElem? h))))
theorem qw_0 : Cond.initialized RL ∈ rs_T := rs_m1 0 rfl rfl
theorem qw_1 : Cond.initialized RX5 ∈ rs_T := rs_m1 1 rfl rfl
theorem qw_2 : Cond.initialized RX1 ∈ rs_T := rs_m1 2 rfl rfl
theorem qw_3 : Cond.initialized RX4 ∈ rs_T := rs_m1 3 rfl rfl
theorem qw_4 : Cond.initialized RX2 ∈ rs_T := rs_m1 4 rfl rfl
theorem qw_5 : Cond.initialized RX0 ∈ rs_T := rs_m1 5 rfl rfl
theorem qw_6 : Cond.initialized RX3 ∈ rs_T := rs_m1 6 rfl rfl
theorem qw_7 : Cond.initialized RX6 ∈ rs_T := rs_m1 7 rfl rfl
theorem qw_8 : Cond.initialized RJ9 ∈ rs_T := rs_m1 8 rfl rfl
theorem qw_9 : Cond.initialized RJ6 ∈ rs_T := rs_m1 9 rfl rfl
theorem qw_10 : Cond.classLink RL 7 "RingSteer" ∈ rs_T := rs_m1 10 rfl rfl
theorem qw_11 : Cond.instantiable RX5 11 ∈ rs_T := rs_m1 11 rfl rfl
theorem qw_12 : Cond.methodLink RL 9 yX5_init ∈ rs_T := rs_m1 12 rfl rfl
theorem qw_13 : Cond.instanceMethod yX5_init ∈ rs_T := rs_m1 13 rfl rfl
theorem qw_14 : Cond.code yX5_init cX5_init 2 none ∈ rs_T := rs_m1 14 rfl rfl
theorem qw_15 : Cond.methodLink RX5 3 (⟨"java/lang/Object", "<init>", "()V"⟩ : MethodName) ∈ rs_T := rs_m1 15 rfl rfl
theorem qw_16 : Cond.instanceMethod (⟨"java/lang/Object", "<init>", "()V"⟩ : MethodName) ∈ rs_T := rs_m1 16 rfl rfl
theorem qw_17 : Cond.code (⟨"java/lang/Object", "<init>", "()V"⟩ : MethodName) object_method_1_code 1 none ∈ rs_T := rs_m1 17 rfl rfl
theorem qw_18 : Cond.classLink RX5 9 "RingSteer$Line" ∈ rs_T := rs_m1 18 rfl rfl
theorem qw_19 : Cond.instantiable RX1 8 ∈ rs_T := rs_m1 19 rfl rfl
theorem qw_20 : Cond.methodLink RX5 11 yX1_init ∈ rs_T := rs_m1 20 rfl rfl
theorem qw_21 : Cond.instanceMethod yX1_init ∈ rs_T := rs_m1 21 rfl rfl
theorem qw_22 : Cond.code yX1_init cX1_init 2 none ∈ rs_T := rs_m1 22 rfl rfl
theorem qw_23 : Cond.methodLink RX1 3 (⟨"java/lang/Object", "<init>", "()V"⟩ : MethodName) ∈ rs_T := rs_m1 23 rfl rfl
theorem qw_24 : Cond.classLink RX1 9 "RingSteer$Spot" ∈ rs_T := rs_m1 24 rfl rfl
theorem qw_25 : Cond.arrayOver (FieldType.object "RingSteer$Spot") ∈ lw_tbl := rs_n1 25 rfl
theorem qw_26 : Cond.instantiable RX4 6 ∈ rs_T := rs_m1 26 rfl rfl
theorem qw_27 : Cond.methodLinkNest RX1 40 yX4_init "RingSteer" ∈ lw_tbl := rs_n1 27 rfl
theorem qw_28 : Cond.instanceMethod yX4_init ∈ rs_T := rs_m1 28 rfl rfl
theorem qw_29 : Cond.code yX4_init cX4_init 1 none ∈ rs_T := rs_m1 29 rfl rfl
theorem qw_30 : Cond.methodLink RX4 3 (⟨"java/lang/Object", "<init>", "()V"⟩ : MethodName) ∈ rs_T := rs_m1 30 rfl rfl
theorem qw_31 : Cond.fieldLink RX4 9 "RingSteer$Spot" "ringNumber" "I" ∈ rs_T := rs_m1 31 rfl rfl
theorem qw_32 : Cond.fieldLink RX1 74 "RingSteer$Spot" "ringNumber" "I" ∈ rs_T := rs_m1 32 rfl rfl
theorem qw_33 : Cond.fieldLink RX4 15 "RingSteer$Spot" "key" "I" ∈ rs_T := rs_m1 33 rfl rfl
theorem qw_34 : Cond.fieldLink RX3 71 "RingSteer$Spot" "key" "I" ∈ rs_T := rs_m1 34 rfl rfl
theorem qw_35 : Cond.fieldLink RX1 57 "RingSteer$Spot" "key" "I" ∈ rs_T := rs_m1 35 rfl rfl
theorem qw_36 : Cond.fieldLink RX5 162 "RingSteer$Spot" "key" "I" ∈ rs_T := rs_m1 36 rfl rfl
theorem qw_37 : Cond.fieldLink RX4 18 "RingSteer$Spot" "slopeX" "I" ∈ rs_T := rs_m1 37 rfl rfl
theorem qw_38 : Cond.fieldLink RX5 165 "RingSteer$Spot" "slopeX" "I" ∈ rs_T := rs_m1 38 rfl rfl
theorem qw_39 : Cond.fieldLink RX1 77 "RingSteer$Spot" "slopeX" "I" ∈ rs_T := rs_m1 39 rfl rfl
theorem qw_40 : Cond.fieldLink RX4 21 "RingSteer$Spot" "slopeY" "I" ∈ rs_T := rs_m1 40 rfl rfl
theorem qw_41 : Cond.fieldLink RX5 168 "RingSteer$Spot" "slopeY" "I" ∈ rs_T := rs_m1 41 rfl rfl
theorem qw_42 : Cond.fieldLink RX1 87 "RingSteer$Spot" "slopeY" "I" ∈ rs_T := rs_m1 42 rfl rfl
theorem qw_43 : Cond.fieldLink RX4 24 "RingSteer$Spot" "placeX" "I" ∈ rs_T := rs_m1 43 rfl rfl
theorem qw_44 : Cond.fieldLink RX5 171 "RingSteer$Spot" "placeX" "I" ∈ rs_T := rs_m1 44 rfl rfl
theorem qw_45 : Cond.fieldLink RX1 93 "RingSteer$Spot" "placeX" "I" ∈ rs_T := rs_m1 45 rfl rfl
theorem qw_46 : Cond.fieldLink RX4 27 "RingSteer$Spot" "placeY" "I" ∈ rs_T := rs_m1 46 rfl rfl
theorem qw_47 : Cond.fieldLink RX5 174 "RingSteer$Spot" "placeY" "I" ∈ rs_T := rs_m1 47 rfl rfl
theorem qw_48 : Cond.fieldLink RX1 96 "RingSteer$Spot" "placeY" "I" ∈ rs_T := rs_m1 48 rfl rfl
theorem qw_49 : Cond.lays RX4 "RingSteer$Spot" "ringNumber" "I" ∈ rs_T := rs_m1 49 rfl rfl
theorem qw_50 : Cond.soleField "RingSteer$Spot" "ringNumber" ∈ rs_T := rs_m1 50 rfl rfl
theorem qw_51 : Cond.lays RX4 "RingSteer$Spot" "key" "I" ∈ rs_T := rs_m1 51 rfl rfl
theorem qw_52 : Cond.soleField "RingSteer$Spot" "key" ∈ rs_T := rs_m1 52 rfl rfl
theorem qw_53 : Cond.lays RX4 "RingSteer$Spot" "slopeX" "I" ∈ rs_T := rs_m1 53 rfl rfl
theorem qw_54 : Cond.soleField "RingSteer$Spot" "slopeX" ∈ rs_T := rs_m1 54 rfl rfl
theorem qw_55 : Cond.lays RX4 "RingSteer$Spot" "slopeY" "I" ∈ rs_T := rs_m1 55 rfl rfl
theorem qw_56 : Cond.soleField "RingSteer$Spot" "slopeY" ∈ rs_T := rs_m1 56 rfl rfl
theorem qw_57 : Cond.lays RX4 "RingSteer$Spot" "placeX" "I" ∈ rs_T := rs_m1 57 rfl rfl
theorem qw_58 : Cond.soleField "RingSteer$Spot" "placeX" ∈ rs_T := rs_m1 58 rfl rfl
theorem qw_59 : Cond.lays RX4 "RingSteer$Spot" "placeY" "I" ∈ rs_T := rs_m1 59 rfl rfl
theorem qw_60 : Cond.soleField "RingSteer$Spot" "placeY" ∈ rs_T := rs_m1 60 rfl rfl
theorem qw_61 : Cond.superclass "RingSteer$Spot" "java/lang/Object" ∈ rs_T := rs_m1 61 rfl rfl
theorem qw_62 : Cond.arrayClass FieldType.int ∈ rs_T := rs_m1 62 rfl rfl
theorem qw_63 : Cond.fieldLink RX1 11 "RingSteer$Line" "spots" "[LRingSteer$Spot;" ∈ rs_T := rs_m1 63 rfl rfl
theorem qw_64 : Cond.fieldLink RX5 158 "RingSteer$Line" "spots" "[LRingSteer$Spot;" ∈ rs_T := rs_m1 64 rfl rfl
theorem qw_65 : Cond.fieldLink RX1 17 "RingSteer$Line" "wishX" "[I" ∈ rs_T := rs_m1 65 rfl rfl
theorem qw_66 : Cond.fieldLink RX5 129 "RingSteer$Line" "wishX" "[I" ∈ rs_T := rs_m1 66 rfl rfl
theorem qw_67 : Cond.fieldLink RX1 21 "RingSteer$Line" "wishY" "[I" ∈ rs_T := rs_m1 67 rfl rfl
theorem qw_68 : Cond.fieldLink RX5 132 "RingSteer$Line" "wishY" "[I" ∈ rs_T := rs_m1 68 rfl rfl
theorem qw_69 : Cond.fieldLink RX1 24 "RingSteer$Line" "rings" "I" ∈ rs_T := rs_m1 69 rfl rfl
theorem qw_70 : Cond.fieldLink RX2 66 "RingSteer$Line" "rings" "I" ∈ rs_T := rs_m1 70 rfl rfl
theorem qw_71 : Cond.fieldLink RX5 97 "RingSteer$Line" "rings" "I" ∈ rs_T := rs_m1 71 rfl rfl
theorem qw_72 : Cond.fieldLink RX1 28 "RingSteer$Line" "taper" "I" ∈ rs_T := rs_m1 72 rfl rfl
theorem qw_73 : Cond.fieldLink RX3 60 "RingSteer$Line" "taper" "I" ∈ rs_T := rs_m1 73 rfl rfl
theorem qw_74 : Cond.fieldLink RX2 71 "RingSteer$Line" "taper" "I" ∈ rs_T := rs_m1 74 rfl rfl
theorem qw_75 : Cond.fieldLink RX5 186 "RingSteer$Line" "taper" "I" ∈ rs_T := rs_m1 75 rfl rfl
theorem qw_76 : Cond.fieldLink RX1 31 "RingSteer$Line" "bar" "I" ∈ rs_T := rs_m1 76 rfl rfl
theorem qw_77 : Cond.fieldLink RX5 211 "RingSteer$Line" "bar" "I" ∈ rs_T := rs_m1 77 rfl rfl
theorem qw_78 : Cond.fieldLink RX1 34 "RingSteer$Line" "way" "I" ∈ rs_T := rs_m1 78 rfl rfl
theorem qw_79 : Cond.fieldLink RX5 214 "RingSteer$Line" "way" "I" ∈ rs_T := rs_m1 79 rfl rfl
theorem qw_80 : Cond.fieldLink RX1 37 "RingSteer$Line" "tail" "I" ∈ rs_T := rs_m1 80 rfl rfl
theorem qw_81 : Cond.fieldLink RX5 217 "RingSteer$Line" "tail" "I" ∈ rs_T := rs_m1 81 rfl rfl
theorem qw_82 : Cond.laysFinal RX1 "RingSteer$Line" "spots" "[LRingSteer$Spot;" ∈ rs_T := rs_m1 82 rfl rfl
theorem qw_83 : Cond.soleField "RingSteer$Line" "spots" ∈ rs_T := rs_m1 83 rfl rfl
theorem qw_84 : Cond.laysFinal RX1 "RingSteer$Line" "wishX" "[I" ∈ rs_T := rs_m1 84 rfl rfl
theorem qw_85 : Cond.soleField "RingSteer$Line" "wishX" ∈ rs_T := rs_m1 85 rfl rfl
theorem qw_86 : Cond.laysFinal RX1 "RingSteer$Line" "wishY" "[I" ∈ rs_T := rs_m1 86 rfl rfl
theorem qw_87 : Cond.soleField "RingSteer$Line" "wishY" ∈ rs_T := rs_m1 87 rfl rfl
theorem qw_88 : Cond.lays RX1 "RingSteer$Line" "rings" "I" ∈ rs_T := rs_m1 88 rfl rfl
theorem qw_89 : Cond.soleField "RingSteer$Line" "rings" ∈ rs_T := rs_m1 89 rfl rfl
theorem qw_90 : Cond.lays RX1 "RingSteer$Line" "taper" "I" ∈ rs_T := rs_m1 90 rfl rfl
theorem qw_91 : Cond.soleField "RingSteer$Line" "taper" ∈ rs_T := rs_m1 91 rfl rfl
theorem qw_92 : Cond.lays RX1 "RingSteer$Line" "bar" "I" ∈ rs_T := rs_m1 92 rfl rfl
theorem qw_93 : Cond.soleField "RingSteer$Line" "bar" ∈ rs_T := rs_m1 93 rfl rfl
theorem qw_94 : Cond.lays RX1 "RingSteer$Line" "way" "I" ∈ rs_T := rs_m1 94 rfl rfl
theorem qw_95 : Cond.soleField "RingSteer$Line" "way" ∈ rs_T := rs_m1 95 rfl rfl
theorem qw_96 : Cond.lays RX1 "RingSteer$Line" "tail" "I" ∈ rs_T := rs_m1 96 rfl rfl
theorem qw_97 : Cond.soleField "RingSteer$Line" "tail" ∈ rs_T := rs_m1 97 rfl rfl
theorem qw_98 : Cond.superclass "RingSteer$Line" "java/lang/Object" ∈ rs_T := rs_m1 98 rfl rfl
theorem qw_99 : Cond.arrayOver (FieldType.object "RingSteer$Line") ∈ lw_tbl := rs_n1 99 rfl
theorem qw_100 : Cond.classLink RX5 27 "RingSteer$Script" ∈ rs_T := rs_m1 100 rfl rfl
theorem qw_101 : Cond.instantiable RX2 9 ∈ rs_T := rs_m1 101 rfl rfl
theorem qw_102 : Cond.methodLinkNest RX5 29 yX2_init "RingSteer" ∈ lw_tbl := rs_n1 102 rfl
theorem qw_103 : Cond.instanceMethod yX2_init ∈ rs_T := rs_m1 103 rfl rfl
theorem qw_104 : Cond.code yX2_init cX2_init 1 none ∈ rs_T := rs_m1 104 rfl rfl
theorem qw_105 : Cond.methodLink RX2 3 (⟨"java/lang/Object", "<init>", "()V"⟩ : MethodName) ∈ rs_T := rs_m1 105 rfl rfl
theorem qw_106 : Cond.fieldLink RX2 9 "RingSteer$Script" "letters" "[I" ∈ rs_T := rs_m1 106 rfl rfl
theorem qw_107 : Cond.fieldLink RX2 15 "RingSteer$Script" "length" "I" ∈ rs_T := rs_m1 107 rfl rfl
theorem qw_108 : Cond.fieldLink RX5 74 "RingSteer$Script" "length" "I" ∈ rs_T := rs_m1 108 rfl rfl
theorem qw_109 : Cond.fieldLink RX2 19 "RingSteer$Script" "start" "I" ∈ rs_T := rs_m1 109 rfl rfl
theorem qw_110 : Cond.fieldLink RX2 22 "RingSteer$Script" "kind" "I" ∈ rs_T := rs_m1 110 rfl rfl
theorem qw_111 : Cond.fieldLink RX2 25 "RingSteer$Script" "number" "I" ∈ rs_T := rs_m1 111 rfl rfl
theorem qw_112 : Cond.fieldLink RX2 28 "RingSteer$Script" "behind" "I" ∈ rs_T := rs_m1 112 rfl rfl
theorem qw_113 : Cond.fieldLink RX2 31 "RingSteer$Script" "wishesTold" "I" ∈ rs_T := rs_m1 113 rfl rfl
theorem qw_114 : Cond.fieldLink RX2 34 "RingSteer$Script" "taperTold" "Z" ∈ rs_T := rs_m1 114 rfl rfl
theorem qw_115 : Cond.fieldLink RX2 38 "RingSteer$Script" "ruleTold" "[Z" ∈ rs_T := rs_m1 115 rfl rfl
theorem qw_116 : Cond.laysFinal RX2 "RingSteer$Script" "letters" "[I" ∈ rs_T := rs_m1 116 rfl rfl
theorem qw_117 : Cond.soleField "RingSteer$Script" "letters" ∈ rs_T := rs_m1 117 rfl rfl
theorem qw_118 : Cond.lays RX2 "RingSteer$Script" "length" "I" ∈ rs_T := rs_m1 118 rfl rfl
theorem qw_119 : Cond.soleField "RingSteer$Script" "length" ∈ rs_T := rs_m1 119 rfl rfl
theorem qw_120 : Cond.lays RX2 "RingSteer$Script" "start" "I" ∈ rs_T := rs_m1 120 rfl rfl
theorem qw_121 : Cond.soleField "RingSteer$Script" "start" ∈ rs_T := rs_m1 121 rfl rfl
theorem qw_122 : Cond.lays RX2 "RingSteer$Script" "kind" "I" ∈ rs_T := rs_m1 122 rfl rfl
theorem qw_123 : Cond.soleField "RingSteer$Script" "kind" ∈ rs_T := rs_m1 123 rfl rfl
theorem qw_124 : Cond.lays RX2 "RingSteer$Script" "number" "I" ∈ rs_T := rs_m1 124 rfl rfl
theorem qw_125 : Cond.soleField "RingSteer$Script" "number" ∈ rs_T := rs_m1 125 rfl rfl
theorem qw_126 : Cond.lays RX2 "RingSteer$Script" "behind" "I" ∈ rs_T := rs_m1 126 rfl rfl
theorem qw_127 : Cond.soleField "RingSteer$Script" "behind" ∈ rs_T := rs_m1 127 rfl rfl
theorem qw_128 : Cond.lays RX2 "RingSteer$Script" "wishesTold" "I" ∈ rs_T := rs_m1 128 rfl rfl
theorem qw_129 : Cond.soleField "RingSteer$Script" "wishesTold" ∈ rs_T := rs_m1 129 rfl rfl
theorem qw_130 : Cond.lays RX2 "RingSteer$Script" "taperTold" "Z" ∈ rs_T := rs_m1 130 rfl rfl
theorem qw_131 : Cond.soleField "RingSteer$Script" "taperTold" ∈ rs_T := rs_m1 131 rfl rfl
theorem qw_132 : Cond.laysFinal RX2 "RingSteer$Script" "ruleTold" "[Z" ∈ rs_T := rs_m1 132 rfl rfl
theorem qw_133 : Cond.soleField "RingSteer$Script" "ruleTold" ∈ rs_T := rs_m1 133 rfl rfl
theorem qw_134 : Cond.superclass "RingSteer$Script" "java/lang/Object" ∈ rs_T := rs_m1 134 rfl rfl
theorem qw_135 : Cond.arrayClass FieldType.boolean ∈ rs_T := rs_m1 135 rfl rfl
theorem qw_136 : Cond.classLink RX5 34 "RingSteer$Deeds" ∈ rs_T := rs_m1 136 rfl rfl
theorem qw_137 : Cond.instantiable RX0 5 ∈ rs_T := rs_m1 137 rfl rfl
theorem qw_138 : Cond.methodLinkNest RX5 36 yX0_init "RingSteer" ∈ lw_tbl := rs_n1 138 rfl
theorem qw_139 : Cond.instanceMethod yX0_init ∈ rs_T := rs_m1 139 rfl rfl
theorem qw_140 : Cond.code yX0_init cX0_init 1 none ∈ rs_T := rs_m1 140 rfl rfl
theorem qw_141 : Cond.methodLink RX0 3 (⟨"java/lang/Object", "<init>", "()V"⟩ : MethodName) ∈ rs_T := rs_m1 141 rfl rfl
theorem qw_142 : Cond.fieldLink RX0 9 "RingSteer$Deeds" "kinds" "[I" ∈ rs_T := rs_m1 142 rfl rfl
theorem qw_143 : Cond.fieldLink RX0 15 "RingSteer$Deeds" "which" "[I" ∈ rs_T := rs_m1 143 rfl rfl
theorem qw_144 : Cond.fieldLink RX0 18 "RingSteer$Deeds" "wasFirst" "[I" ∈ rs_T := rs_m1 144 rfl rfl
theorem qw_145 : Cond.fieldLink RX0 21 "RingSteer$Deeds" "wasSecond" "[I" ∈ rs_T := rs_m1 145 rfl rfl
theorem qw_146 : Cond.fieldLink RX0 24 "RingSteer$Deeds" "size" "I" ∈ rs_T := rs_m1 146 rfl rfl
theorem qw_147 : Cond.fieldLink RX5 91 "RingSteer$Deeds" "size" "I" ∈ rs_T := rs_m1 147 rfl rfl
theorem qw_148 : Cond.laysFinal RX0 "RingSteer$Deeds" "kinds" "[I" ∈ rs_T := rs_m1 148 rfl rfl
theorem qw_149 : Cond.soleField "RingSteer$Deeds" "kinds" ∈ rs_T := rs_m1 149 rfl rfl
theorem qw_150 : Cond.laysFinal RX0 "RingSteer$Deeds" "which" "[I" ∈ rs_T := rs_m1 150 rfl rfl
theorem qw_151 : Cond.soleField "RingSteer$Deeds" "which" ∈ rs_T := rs_m1 151 rfl rfl
theorem qw_152 : Cond.laysFinal RX0 "RingSteer$Deeds" "wasFirst" "[I" ∈ rs_T := rs_m1 152 rfl rfl
theorem qw_153 : Cond.soleField "RingSteer$Deeds" "wasFirst" ∈ rs_T := rs_m1 153 rfl rfl
theorem qw_154 : Cond.laysFinal RX0 "RingSteer$Deeds" "wasSecond" "[I" ∈ rs_T := rs_m1 154 rfl rfl
theorem qw_155 : Cond.soleField "RingSteer$Deeds" "wasSecond" ∈ rs_T := rs_m1 155 rfl rfl
theorem qw_156 : Cond.lays RX0 "RingSteer$Deeds" "size" "I" ∈ rs_T := rs_m1 156 rfl rfl
theorem qw_157 : Cond.soleField "RingSteer$Deeds" "size" ∈ rs_T := rs_m1 157 rfl rfl
theorem qw_158 : Cond.superclass "RingSteer$Deeds" "java/lang/Object" ∈ rs_T := rs_m1 158 rfl rfl
theorem qw_159 : Cond.classLink RX5 41 "RingSteer$Search" ∈ rs_T := rs_m1 159 rfl rfl
theorem qw_160 : Cond.instantiable RX3 5 ∈ rs_T := rs_m1 160 rfl rfl
theorem qw_161 : Cond.methodLink RX5 43 yX3_init ∈ rs_T := rs_m1 161 rfl rfl
theorem qw_162 : Cond.instanceMethod yX3_init ∈ rs_T := rs_m1 162 rfl rfl
theorem qw_163 : Cond.code yX3_init cX3_init 2 none ∈ rs_T := rs_m1 163 rfl rfl
theorem qw_164 : Cond.methodLink RX3 3 (⟨"java/lang/Object", "<init>", "()V"⟩ : MethodName) ∈ rs_T := rs_m1 164 rfl rfl
theorem qw_165 : Cond.classLink RX3 9 "RingSteer$Spot" ∈ rs_T := rs_m1 165 rfl rfl
theorem qw_166 : Cond.methodLinkNest RX3 31 yX4_init "RingSteer" ∈ lw_tbl := rs_n1 166 rfl
theorem qw_167 : Cond.fieldLink RX3 11 "RingSteer$Search" "spots" "[LRingSteer$Spot;" ∈ rs_T := rs_m1 167 rfl rfl
theorem qw_168 : Cond.fieldLink RX3 17 "RingSteer$Search" "firstRow" "[I" ∈ rs_T := rs_m1 168 rfl rfl
theorem qw_169 : Cond.fieldLink RX5 123 "RingSteer$Search" "firstRow" "[I" ∈ rs_T := rs_m1 169 rfl rfl
theorem qw_170 : Cond.fieldLink RX3 21 "RingSteer$Search" "ahead" "I" ∈ rs_T := rs_m1 170 rfl rfl
theorem qw_171 : Cond.fieldLink RX5 227 "RingSteer$Search" "ahead" "I" ∈ rs_T := rs_m1 171 rfl rfl
theorem qw_172 : Cond.fieldLink RX3 25 "RingSteer$Search" "rows" "I" ∈ rs_T := rs_m1 172 rfl rfl
theorem qw_173 : Cond.fieldLink RX5 120 "RingSteer$Search" "rows" "I" ∈ rs_T := rs_m1 173 rfl rfl
theorem qw_174 : Cond.fieldLink RX3 28 "RingSteer$Search" "least" "I" ∈ rs_T := rs_m1 174 rfl rfl
theorem qw_175 : Cond.fieldLink RX5 180 "RingSteer$Search" "least" "I" ∈ rs_T := rs_m1 175 rfl rfl
theorem qw_176 : Cond.laysFinal RX3 "RingSteer$Search" "spots" "[LRingSteer$Spot;" ∈ rs_T := rs_m1 176 rfl rfl
theorem qw_177 : Cond.soleField "RingSteer$Search" "spots" ∈ rs_T := rs_m1 177 rfl rfl
theorem qw_178 : Cond.laysFinal RX3 "RingSteer$Search" "firstRow" "[I" ∈ rs_T := rs_m1 178 rfl rfl
theorem qw_179 : Cond.soleField "RingSteer$Search" "firstRow" ∈ rs_T := rs_m1 179 rfl rfl
theorem qw_180 : Cond.lays RX3 "RingSteer$Search" "ahead" "I" ∈ rs_T := rs_m1 180 rfl rfl
theorem qw_181 : Cond.soleField "RingSteer$Search" "ahead" ∈ rs_T := rs_m1 181 rfl rfl
theorem qw_182 : Cond.lays RX3 "RingSteer$Search" "rows" "I" ∈ rs_T := rs_m1 182 rfl rfl
theorem qw_183 : Cond.soleField "RingSteer$Search" "rows" ∈ rs_T := rs_m1 183 rfl rfl
theorem qw_184 : Cond.lays RX3 "RingSteer$Search" "least" "I" ∈ rs_T := rs_m1 184 rfl rfl
theorem qw_185 : Cond.soleField "RingSteer$Search" "least" ∈ rs_T := rs_m1 185 rfl rfl
theorem qw_186 : Cond.superclass "RingSteer$Search" "java/lang/Object" ∈ rs_T := rs_m1 186 rfl rfl
theorem qw_187 : Cond.classLink RX5 48 "RingSteer$Spot" ∈ rs_T := rs_m1 187 rfl rfl
theorem qw_188 : Cond.methodLinkNest RX5 50 yX4_init "RingSteer" ∈ lw_tbl := rs_n1 188 rfl
theorem qw_189 : Cond.fieldLink RX5 12 "RingSteer" "line" "LRingSteer$Line;" ∈ rs_T := rs_m1 189 rfl rfl
theorem qw_190 : Cond.fieldLink RX5 16 "RingSteer" "draft" "LRingSteer$Line;" ∈ rs_T := rs_m1 190 rfl rfl
theorem qw_191 : Cond.fieldLink RX5 19 "RingSteer" "images" "[LRingSteer$Line;" ∈ rs_T := rs_m1 191 rfl rfl
theorem qw_192 : Cond.fieldLink RX5 23 "RingSteer" "kept" "[Z" ∈ rs_T := rs_m1 192 rfl rfl
theorem qw_193 : Cond.fieldLink RX5 30 "RingSteer" "script" "LRingSteer$Script;" ∈ rs_T := rs_m1 193 rfl rfl
theorem qw_194 : Cond.fieldLink RX5 37 "RingSteer" "deeds" "LRingSteer$Deeds;" ∈ rs_T := rs_m1 194 rfl rfl
theorem qw_195 : Cond.fieldLink RX5 44 "RingSteer" "search" "LRingSteer$Search;" ∈ rs_T := rs_m1 195 rfl rfl
theorem qw_196 : Cond.fieldLink RX5 51 "RingSteer" "probe" "LRingSteer$Spot;" ∈ rs_T := rs_m1 196 rfl rfl
theorem qw_197 : Cond.fieldLink RX5 55 "RingSteer" "seenX" "[I" ∈ rs_T := rs_m1 197 rfl rfl
theorem qw_198 : Cond.fieldLink RX5 59 "RingSteer" "seenY" "[I" ∈ rs_T := rs_m1 198 rfl rfl
theorem qw_199 : Cond.fieldLink RX5 62 "RingSteer" "seen" "I" ∈ rs_T := rs_m1 199 rfl rfl
theorem qw_200 : Cond.laysFinal RX5 "RingSteer" "line" "LRingSteer$Line;" ∈ rs_T := rs_m1 200 rfl rfl
theorem qw_201 : Cond.soleField "RingSteer" "line" ∈ rs_T := rs_m1 201 rfl rfl
theorem qw_202 : Cond.laysFinal RX5 "RingSteer" "draft" "LRingSteer$Line;" ∈ rs_T := rs_m1 202 rfl rfl
theorem qw_203 : Cond.soleField "RingSteer" "draft" ∈ rs_T := rs_m1 203 rfl rfl
theorem qw_204 : Cond.laysFinal RX5 "RingSteer" "images" "[LRingSteer$Line;" ∈ rs_T := rs_m1 204 rfl rfl
theorem qw_205 : Cond.soleField "RingSteer" "images" ∈ rs_T := rs_m1 205 rfl rfl
theorem qw_206 : Cond.laysFinal RX5 "RingSteer" "kept" "[Z" ∈ rs_T := rs_m1 206 rfl rfl
theorem qw_207 : Cond.soleField "RingSteer" "kept" ∈ rs_T := rs_m1 207 rfl rfl
theorem qw_208 : Cond.laysFinal RX5 "RingSteer" "script" "LRingSteer$Script;" ∈ rs_T := rs_m1 208 rfl rfl
theorem qw_209 : Cond.soleField "RingSteer" "script" ∈ rs_T := rs_m1 209 rfl rfl
theorem qw_210 : Cond.laysFinal RX5 "RingSteer" "deeds" "LRingSteer$Deeds;" ∈ rs_T := rs_m1 210 rfl rfl
theorem qw_211 : Cond.soleField "RingSteer" "deeds" ∈ rs_T := rs_m1 211 rfl rfl
theorem qw_212 : Cond.laysFinal RX5 "RingSteer" "search" "LRingSteer$Search;" ∈ rs_T := rs_m1 212 rfl rfl
theorem qw_213 : Cond.soleField "RingSteer" "search" ∈ rs_T := rs_m1 213 rfl rfl
theorem qw_214 : Cond.laysFinal RX5 "RingSteer" "probe" "LRingSteer$Spot;" ∈ rs_T := rs_m1 214 rfl rfl
theorem qw_215 : Cond.soleField "RingSteer" "probe" ∈ rs_T := rs_m1 215 rfl rfl
theorem qw_216 : Cond.laysFinal RX5 "RingSteer" "seenX" "[I" ∈ rs_T := rs_m1 216 rfl rfl
theorem qw_217 : Cond.soleField "RingSteer" "seenX" ∈ rs_T := rs_m1 217 rfl rfl
theorem qw_218 : Cond.laysFinal RX5 "RingSteer" "seenY" "[I" ∈ rs_T := rs_m1 218 rfl rfl
theorem qw_219 : Cond.soleField "RingSteer" "seenY" ∈ rs_T := rs_m1 219 rfl rfl
theorem qw_220 : Cond.lays RX5 "RingSteer" "seen" "I" ∈ rs_T := rs_m1 220 rfl rfl
theorem qw_221 : Cond.soleField "RingSteer" "seen" ∈ rs_T := rs_m1 221 rfl rfl
theorem qw_222 : Cond.superclass "RingSteer" "java/lang/Object" ∈ rs_T := rs_m1 222 rfl rfl
theorem qw_223 : Cond.methodLink RL 13 yX5_type ∈ rs_T := rs_m1 223 rfl rfl
theorem qw_224 : Cond.instanceMethod yX5_type ∈ rs_T := rs_m1 224 rfl rfl
theorem qw_225 : Cond.selects RX5 yX5_type yX5_type ∈ rs_T := rs_m1 225 rfl rfl
theorem qw_226 : Cond.code yX5_type cX5_type 2 (some FieldType.int) ∈ rs_T := rs_m1 226 rfl rfl
theorem qw_227 : Cond.methodLink RX5 66 yX5_isWithin ∈ rs_T := rs_m1 227 rfl rfl
theorem qw_228 : Cond.static yX5_isWithin ∈ rs_T := rs_m1 228 rfl rfl
theorem qw_229 : Cond.code yX5_isWithin cX5_isWithin 3 (some FieldType.boolean) ∈ rs_T := rs_m1 229 rfl rfl
theorem qw_230 : Cond.methodLink RX5 70 yX2_add ∈ rs_T := rs_m1 230 rfl rfl
theorem qw_231 : Cond.instanceMethod yX2_add ∈ rs_T := rs_m1 231 rfl rfl
theorem qw_232 : Cond.selects RX2 yX2_add yX2_add ∈ rs_T := rs_m1 232 rfl rfl
theorem qw_233 : Cond.code yX2_add cX2_add 2 (some FieldType.boolean) ∈ rs_T := rs_m1 233 rfl rfl
theorem qw_234 : Cond.methodLinkNest RX2 42 yX5_isWithin "RingSteer" ∈ lw_tbl := rs_n1 234 rfl
theorem qw_235 : Cond.methodLink RL 18 yX5_clear ∈ rs_T := rs_m1 235 rfl rfl
theorem qw_236 : Cond.instanceMethod yX5_clear ∈ rs_T := rs_m1 236 rfl rfl
theorem qw_237 : Cond.selects RX5 yX5_clear yX5_clear ∈ rs_T := rs_m1 237 rfl rfl
theorem qw_238 : Cond.code yX5_clear cX5_clear 2 (some FieldType.int) ∈ rs_T := rs_m1 238 rfl rfl
theorem qw_239 : Cond.methodLink RL 23 yX5_tunnel ∈ rs_T := rs_m1 239 rfl rfl
theorem qw_240 : Cond.instanceMethod yX5_tunnel ∈ rs_T := rs_m2 0 rfl rfl
theorem qw_241 : Cond.selects RX5 yX5_tunnel yX5_tunnel ∈ rs_T := rs_m2 1 rfl rfl
theorem qw_242 : Cond.code yX5_tunnel cX5_tunnel 3 (some FieldType.int) ∈ rs_T := rs_m2 2 rfl rfl
theorem qw_243 : Cond.methodLink RX5 77 yX1_reset ∈ rs_T := rs_m2 3 rfl rfl
theorem qw_244 : Cond.instanceMethod yX1_reset ∈ rs_T := rs_m2 4 rfl rfl
theorem qw_245 : Cond.selects RX1 yX1_reset yX1_reset ∈ rs_T := rs_m2 5 rfl rfl
theorem qw_246 : Cond.code yX1_reset cX1_reset 2 none ∈ rs_T := rs_m2 6 rfl rfl
theorem qw_247 : Cond.methodLink RX5 80 yX2_readInto ∈ rs_T := rs_m2 7 rfl rfl
theorem qw_248 : Cond.instanceMethod yX2_readInto ∈ rs_T := rs_m2 8 rfl rfl
theorem qw_249 : Cond.selects RX2 yX2_readInto yX2_readInto ∈ rs_T := rs_m2 9 rfl rfl
theorem qw_250 : Cond.code yX2_readInto cX2_readInto 3 (some FieldType.int) ∈ rs_T := rs_m2 10 rfl rfl
theorem qw_251 : Cond.methodLink RX2 46 yX2_toNextToken ∈ rs_T := rs_m2 11 rfl rfl
theorem qw_252 : Cond.privateMethod yX2_toNextToken ∈ lw_tbl := rs_n2 12 rfl
theorem qw_253 : Cond.instanceMethod yX2_toNextToken ∈ rs_T := rs_m2 13 rfl rfl
theorem qw_254 : Cond.code yX2_toNextToken cX2_toNextToken 1 none ∈ rs_T := rs_m2 14 rfl rfl
theorem qw_255 : Cond.methodLink RX2 106 yX2_kindAt ∈ rs_T := rs_m2 15 rfl rfl
theorem qw_256 : Cond.privateMethod yX2_kindAt ∈ lw_tbl := rs_n2 16 rfl
theorem qw_257 : Cond.instanceMethod yX2_kindAt ∈ rs_T := rs_m2 17 rfl rfl
theorem qw_258 : Cond.code yX2_kindAt cX2_kindAt 3 (some FieldType.int) ∈ rs_T := rs_m2 18 rfl rfl
theorem qw_259 : Cond.methodLink RX2 110 yX2_digitAt ∈ rs_T := rs_m2 19 rfl rfl
theorem qw_260 : Cond.privateMethod yX2_digitAt ∈ lw_tbl := rs_n2 20 rfl
theorem qw_261 : Cond.instanceMethod yX2_digitAt ∈ rs_T := rs_m2 21 rfl rfl
theorem qw_262 : Cond.code yX2_digitAt cX2_digitAt 3 (some FieldType.int) ∈ rs_T := rs_m2 22 rfl rfl
theorem qw_263 : Cond.methodLink RX2 113 yX2_isNumber ∈ rs_T := rs_m2 23 rfl rfl
theorem qw_264 : Cond.static yX2_isNumber ∈ rs_T := rs_m2 24 rfl rfl
theorem qw_265 : Cond.code yX2_isNumber cX2_isNumber 2 (some FieldType.boolean) ∈ rs_T := rs_m2 25 rfl rfl
theorem qw_266 : Cond.methodLink RX2 49 yX2_readItem ∈ rs_T := rs_m2 26 rfl rfl
theorem qw_267 : Cond.privateMethod yX2_readItem ∈ lw_tbl := rs_n2 27 rfl
theorem qw_268 : Cond.instanceMethod yX2_readItem ∈ rs_T := rs_m2 28 rfl rfl
theorem qw_269 : Cond.code yX2_readItem cX2_readItem 2 (some FieldType.boolean) ∈ rs_T := rs_m2 29 rfl rfl
theorem qw_270 : Cond.methodLink RX2 53 yX2_readTaper ∈ rs_T := rs_m2 30 rfl rfl
theorem qw_271 : Cond.privateMethod yX2_readTaper ∈ lw_tbl := rs_n2 31 rfl
theorem qw_272 : Cond.instanceMethod yX2_readTaper ∈ rs_T := rs_m2 32 rfl rfl
theorem qw_273 : Cond.code yX2_readTaper cX2_readTaper 2 (some FieldType.boolean) ∈ rs_T := rs_m2 33 rfl rfl
theorem qw_274 : Cond.methodLink RX2 56 yX2_readRule ∈ rs_T := rs_m2 34 rfl rfl
theorem qw_275 : Cond.privateMethod yX2_readRule ∈ lw_tbl := rs_n2 35 rfl
theorem qw_276 : Cond.instanceMethod yX2_readRule ∈ rs_T := rs_m2 36 rfl rfl
theorem qw_277 : Cond.code yX2_readRule cX2_readRule 3 (some FieldType.boolean) ∈ rs_T := rs_m2 37 rfl rfl
theorem qw_278 : Cond.methodLinkNest RX2 74 yX5_isRule "RingSteer" ∈ lw_tbl := rs_n2 38 rfl
theorem qw_279 : Cond.static yX5_isRule ∈ rs_T := rs_m2 39 rfl rfl
theorem qw_280 : Cond.code yX5_isRule cX5_isRule 2 (some FieldType.boolean) ∈ rs_T := rs_m2 40 rfl rfl
theorem qw_281 : Cond.methodLink RX2 78 yX1_setRule ∈ rs_T := rs_m2 41 rfl rfl
theorem qw_282 : Cond.instanceMethod yX1_setRule ∈ rs_T := rs_m2 42 rfl rfl
theorem qw_283 : Cond.selects RX1 yX1_setRule yX1_setRule ∈ rs_T := rs_m2 43 rfl rfl
theorem qw_284 : Cond.code yX1_setRule cX1_setRule 3 none ∈ rs_T := rs_m2 44 rfl rfl
theorem qw_285 : Cond.methodLink RX2 60 yX2_readWish ∈ rs_T := rs_m2 45 rfl rfl
theorem qw_286 : Cond.privateMethod yX2_readWish ∈ lw_tbl := rs_n2 46 rfl
theorem qw_287 : Cond.instanceMethod yX2_readWish ∈ rs_T := rs_m2 47 rfl rfl
theorem qw_288 : Cond.code yX2_readWish cX2_readWish 3 (some FieldType.boolean) ∈ rs_T := rs_m2 48 rfl rfl
theorem qw_289 : Cond.methodLink RX2 82 yX2_readSigned ∈ rs_T := rs_m2 49 rfl rfl
theorem qw_290 : Cond.privateMethod yX2_readSigned ∈ lw_tbl := rs_n2 50 rfl
theorem qw_291 : Cond.instanceMethod yX2_readSigned ∈ rs_T := rs_m2 51 rfl rfl
theorem qw_292 : Cond.code yX2_readSigned cX2_readSigned 2 (some FieldType.boolean) ∈ rs_T := rs_m2 52 rfl rfl
theorem qw_293 : Cond.methodLink RX2 86 yX1_setWish ∈ rs_T := rs_m2 53 rfl rfl
theorem qw_294 : Cond.instanceMethod yX1_setWish ∈ rs_T := rs_m2 54 rfl rfl
theorem qw_295 : Cond.selects RX1 yX1_setWish yX1_setWish ∈ rs_T := rs_m2 55 rfl rfl
theorem qw_296 : Cond.code yX1_setWish cX1_setWish 4 none ∈ rs_T := rs_m2 56 rfl rfl
theorem qw_297 : Cond.methodLinkNest RX1 45 yX5_isWithin "RingSteer" ∈ lw_tbl := rs_n2 57 rfl
theorem qw_298 : Cond.methodLink RX2 63 yX2_readKey ∈ rs_T := rs_m2 58 rfl rfl
theorem qw_299 : Cond.privateMethod yX2_readKey ∈ lw_tbl := rs_n2 59 rfl
theorem qw_300 : Cond.instanceMethod yX2_readKey ∈ rs_T := rs_m2 60 rfl rfl
theorem qw_301 : Cond.code yX2_readKey cX2_readKey 2 (some FieldType.boolean) ∈ rs_T := rs_m2 61 rfl rfl
theorem qw_302 : Cond.methodLinkNest RX2 90 yX5_isKey "RingSteer" ∈ lw_tbl := rs_n2 62 rfl
theorem qw_303 : Cond.static yX5_isKey ∈ rs_T := rs_m2 63 rfl rfl
theorem qw_304 : Cond.code yX5_isKey cX5_isKey 1 (some FieldType.boolean) ∈ rs_T := rs_m2 64 rfl rfl
theorem qw_305 : Cond.methodLink RX2 94 yX1_last ∈ rs_T := rs_m2 65 rfl rfl
theorem qw_306 : Cond.instanceMethod yX1_last ∈ rs_T := rs_m2 66 rfl rfl
theorem qw_307 : Cond.selects RX1 yX1_last yX1_last ∈ rs_T := rs_m2 67 rfl rfl
theorem qw_308 : Cond.code yX1_last cX1_last 1 (some (FieldType.object "RingSteer$Spot")) ∈ rs_T := rs_m2 68 rfl rfl
theorem qw_309 : Cond.methodLink RX2 98 yX1_mayFollow ∈ rs_T := rs_m2 69 rfl rfl
theorem qw_310 : Cond.instanceMethod yX1_mayFollow ∈ rs_T := rs_m2 70 rfl rfl
theorem qw_311 : Cond.selects RX1 yX1_mayFollow yX1_mayFollow ∈ rs_T := rs_m2 71 rfl rfl
theorem qw_312 : Cond.code yX1_mayFollow cX1_mayFollow 3 (some FieldType.boolean) ∈ rs_T := rs_m2 72 rfl rfl
theorem qw_313 : Cond.methodLink RX1 60 yX1_isBarred ∈ rs_T := rs_m2 73 rfl rfl
theorem qw_314 : Cond.privateMethod yX1_isBarred ∈ lw_tbl := rs_n2 74 rfl
theorem qw_315 : Cond.instanceMethod yX1_isBarred ∈ rs_T := rs_m2 75 rfl rfl
theorem qw_316 : Cond.code yX1_isBarred cX1_isBarred 4 (some FieldType.boolean) ∈ rs_T := rs_m2 76 rfl rfl
theorem qw_317 : Cond.methodLink RX1 68 yJ9_floorMod_7cf53 ∈ rs_T := rs_m2 77 rfl rfl
theorem qw_318 : Cond.static yJ9_floorMod_7cf53 ∈ rs_T := rs_m2 78 rfl rfl
theorem qw_319 : Cond.code yJ9_floorMod_7cf53 cJ9_floorMod_7cf53 3 (some FieldType.int) ∈ rs_T := rs_m2 79 rfl rfl
theorem qw_320 : Cond.methodLink RX1 64 yX1_hasRoom ∈ rs_T := rs_m2 80 rfl rfl
theorem qw_321 : Cond.privateMethod yX1_hasRoom ∈ lw_tbl := rs_n2 81 rfl
theorem qw_322 : Cond.instanceMethod yX1_hasRoom ∈ rs_T := rs_m2 82 rfl rfl
theorem qw_323 : Cond.code yX1_hasRoom cX1_hasRoom 6 (some FieldType.boolean) ∈ rs_T := rs_m2 83 rfl rfl
theorem qw_324 : Cond.methodLinkNest RX1 80 yX5_leanX "RingSteer" ∈ lw_tbl := rs_n2 84 rfl
theorem qw_325 : Cond.static yX5_leanX ∈ rs_T := rs_m2 85 rfl rfl
theorem qw_326 : Cond.code yX5_leanX cX5_leanX 1 (some FieldType.int) ∈ rs_T := rs_m2 86 rfl rfl
theorem qw_327 : Cond.fieldLink RX5 247 "RingSteer" "LEAN_X" "[I" ∈ rs_T := rs_m2 87 rfl rfl
theorem qw_328 : Cond.laysStatic RX5 "LEAN_X" "[I" ∈ lw_tbl := rs_n2 88 rfl
theorem qw_329 : Cond.methodLink RX1 84 yJ9_abs_0f7a4 ∈ rs_T := rs_m2 89 rfl rfl
theorem qw_330 : Cond.static yJ9_abs_0f7a4 ∈ rs_T := rs_m2 90 rfl rfl
theorem qw_331 : Cond.code yJ9_abs_0f7a4 cJ9_abs_0f7a4 1 (some FieldType.int) ∈ rs_T := rs_m2 91 rfl rfl
theorem qw_332 : Cond.methodLinkNest RX1 90 yX5_leanY "RingSteer" ∈ lw_tbl := rs_n2 92 rfl
theorem qw_333 : Cond.static yX5_leanY ∈ rs_T := rs_m2 93 rfl rfl
theorem qw_334 : Cond.code yX5_leanY cX5_leanY 1 (some FieldType.int) ∈ rs_T := rs_m2 94 rfl rfl
theorem qw_335 : Cond.fieldLink RX5 250 "RingSteer" "LEAN_Y" "[I" ∈ rs_T := rs_m2 95 rfl rfl
theorem qw_336 : Cond.laysStatic RX5 "LEAN_Y" "[I" ∈ lw_tbl := rs_n2 96 rfl
theorem qw_337 : Cond.methodLink RX2 102 yX1_build ∈ rs_T := rs_m2 97 rfl rfl
theorem qw_338 : Cond.instanceMethod yX1_build ∈ rs_T := rs_m2 98 rfl rfl
theorem qw_339 : Cond.selects RX1 yX1_build yX1_build ∈ rs_T := rs_m2 99 rfl rfl
theorem qw_340 : Cond.code yX1_build cX1_build 3 none ∈ rs_T := rs_m2 100 rfl rfl
theorem qw_341 : Cond.methodLink RX1 49 yX1_last ∈ rs_T := rs_m2 101 rfl rfl
theorem qw_342 : Cond.methodLink RX1 41 yX4_copy ∈ rs_T := rs_m2 102 rfl rfl
theorem qw_343 : Cond.instanceMethod yX4_copy ∈ rs_T := rs_m2 103 rfl rfl
theorem qw_344 : Cond.selects RX4 yX4_copy yX4_copy ∈ rs_T := rs_m2 104 rfl rfl
theorem qw_345 : Cond.code yX4_copy cX4_copy 2 none ∈ rs_T := rs_m2 105 rfl rfl
theorem qw_346 : Cond.methodLink RX1 53 yX4_advance ∈ rs_T := rs_m2 106 rfl rfl
theorem qw_347 : Cond.instanceMethod yX4_advance ∈ rs_T := rs_m2 107 rfl rfl
theorem qw_348 : Cond.selects RX4 yX4_advance yX4_advance ∈ rs_T := rs_m2 108 rfl rfl
theorem qw_349 : Cond.code yX4_advance cX4_advance 3 none ∈ rs_T := rs_m2 109 rfl rfl
theorem qw_350 : Cond.methodLinkNest RX4 30 yX5_leanX "RingSteer" ∈ lw_tbl := rs_n2 110 rfl
theorem qw_351 : Cond.methodLinkNest RX4 34 yX5_leanY "RingSteer" ∈ lw_tbl := rs_n2 111 rfl
theorem qw_352 : Cond.methodLink RX5 84 yX1_copy ∈ rs_T := rs_m2 112 rfl rfl
theorem qw_353 : Cond.instanceMethod yX1_copy ∈ rs_T := rs_m2 113 rfl rfl
theorem qw_354 : Cond.selects RX1 yX1_copy yX1_copy ∈ rs_T := rs_m2 114 rfl rfl
theorem qw_355 : Cond.code yX1_copy cX1_copy 3 none ∈ rs_T := rs_m2 115 rfl rfl
theorem qw_356 : Cond.methodLink RX5 88 yX5_lineChanged ∈ rs_T := rs_m2 116 rfl rfl
theorem qw_357 : Cond.privateMethod yX5_lineChanged ∈ lw_tbl := rs_n2 117 rfl
theorem qw_358 : Cond.instanceMethod yX5_lineChanged ∈ rs_T := rs_m2 118 rfl rfl
theorem qw_359 : Cond.code yX5_lineChanged cX5_lineChanged 1 none ∈ rs_T := rs_m2 119 rfl rfl
theorem qw_360 : Cond.methodLink RL 27 yX5_builds ∈ rs_T := rs_m2 120 rfl rfl
theorem qw_361 : Cond.instanceMethod yX5_builds ∈ rs_T := rs_m2 121 rfl rfl
theorem qw_362 : Cond.selects RX5 yX5_builds yX5_builds ∈ rs_T := rs_m2 122 rfl rfl
theorem qw_363 : Cond.code yX5_builds cX5_builds 2 (some FieldType.int) ∈ rs_T := rs_m2 123 rfl rfl
theorem qw_364 : Cond.methodLink RX5 94 yX5_isKey ∈ rs_T := rs_m2 124 rfl rfl
theorem qw_365 : Cond.methodLink RX5 100 yX1_last ∈ rs_T := rs_m2 125 rfl rfl
theorem qw_366 : Cond.methodLink RX5 104 yX1_mayFollow ∈ rs_T := rs_m2 126 rfl rfl
theorem qw_367 : Cond.methodLink RX5 108 yX5_buildKnown ∈ rs_T := rs_m2 127 rfl rfl
theorem qw_368 : Cond.privateMethod yX5_buildKnown ∈ lw_tbl := rs_n2 128 rfl
theorem qw_369 : Cond.instanceMethod yX5_buildKnown ∈ rs_T := rs_m2 129 rfl rfl
theorem qw_370 : Cond.code yX5_buildKnown cX5_buildKnown 2 none ∈ rs_T := rs_m2 130 rfl rfl
theorem qw_371 : Cond.methodLink RX5 135 yX0_add ∈ rs_T := rs_m2 131 rfl rfl
theorem qw_372 : Cond.instanceMethod yX0_add ∈ rs_T := rs_m2 132 rfl rfl
theorem qw_373 : Cond.selects RX0 yX0_add yX0_add ∈ rs_T := rs_m2 133 rfl rfl
theorem qw_374 : Cond.code yX0_add cX0_add 5 none ∈ rs_T := rs_m2 134 rfl rfl
theorem qw_375 : Cond.methodLink RX0 28 yX0_loseOldest ∈ rs_T := rs_m2 135 rfl rfl
theorem qw_376 : Cond.privateMethod yX0_loseOldest ∈ lw_tbl := rs_n2 136 rfl
theorem qw_377 : Cond.instanceMethod yX0_loseOldest ∈ rs_T := rs_m2 137 rfl rfl
theorem qw_378 : Cond.code yX0_loseOldest cX0_loseOldest 2 none ∈ rs_T := rs_m2 138 rfl rfl
theorem qw_379 : Cond.methodLink RX5 230 yX1_build ∈ rs_T := rs_m2 139 rfl rfl
theorem qw_380 : Cond.methodLink RX5 112 yX1_cost ∈ rs_T := rs_m2 140 rfl rfl
theorem qw_381 : Cond.instanceMethod yX1_cost ∈ rs_T := rs_m2 141 rfl rfl
theorem qw_382 : Cond.selects RX1 yX1_cost yX1_cost ∈ rs_T := rs_m2 142 rfl rfl
theorem qw_383 : Cond.code yX1_cost cX1_cost 5 (some FieldType.int) ∈ rs_T := rs_m2 143 rfl rfl
theorem qw_384 : Cond.methodLink RX1 99 yJ9_max_7cf53 ∈ rs_T := rs_m2 144 rfl rfl
theorem qw_385 : Cond.static yJ9_max_7cf53 ∈ rs_T := rs_m2 145 rfl rfl
theorem qw_386 : Cond.code yJ9_max_7cf53 cJ9_max_7cf53 2 (some FieldType.int) ∈ rs_T := rs_m2 146 rfl rfl
theorem qw_387 : Cond.methodLink RL 31 yX5_follows ∈ rs_T := rs_m2 147 rfl rfl
theorem qw_388 : Cond.instanceMethod yX5_follows ∈ rs_T := rs_m2 148 rfl rfl
theorem qw_389 : Cond.selects RX5 yX5_follows yX5_follows ∈ rs_T := rs_m2 149 rfl rfl
theorem qw_390 : Cond.code yX5_follows cX5_follows 3 (some FieldType.int) ∈ rs_T := rs_m2 150 rfl rfl
theorem qw_391 : Cond.methodLink RX5 116 yX3_look ∈ rs_T := rs_m2 151 rfl rfl
theorem qw_392 : Cond.instanceMethod yX3_look ∈ rs_T := rs_m2 152 rfl rfl
theorem qw_393 : Cond.selects RX3 yX3_look yX3_look ∈ rs_T := rs_m2 153 rfl rfl
theorem qw_394 : Cond.code yX3_look cX3_look 3 none ∈ rs_T := rs_m2 154 rfl rfl
theorem qw_395 : Cond.methodLink RX3 32 yJ9_min_7cf53 ∈ rs_T := rs_m2 155 rfl rfl
theorem qw_396 : Cond.static yJ9_min_7cf53 ∈ rs_T := rs_m2 156 rfl rfl
theorem qw_397 : Cond.code yJ9_min_7cf53 cJ9_min_7cf53 2 (some FieldType.int) ∈ rs_T := rs_m2 157 rfl rfl
theorem qw_398 : Cond.methodLink RX3 38 yX1_last ∈ rs_T := rs_m2 158 rfl rfl
theorem qw_399 : Cond.methodLink RX3 44 yX4_copy ∈ rs_T := rs_m2 159 rfl rfl
theorem qw_400 : Cond.methodLink RX3 48 yX3_extend ∈ rs_T := rs_m2 160 rfl rfl
theorem qw_401 : Cond.static yX3_extend ∈ rs_T := rs_m2 161 rfl rfl
theorem qw_402 : Cond.code yX3_extend cX3_extend 8 none ∈ rs_T := rs_m2 162 rfl rfl
theorem qw_403 : Cond.methodLink RX3 52 yX3_note ∈ rs_T := rs_m2 163 rfl rfl
theorem qw_404 : Cond.privateMethod yX3_note ∈ lw_tbl := rs_n2 164 rfl
theorem qw_405 : Cond.instanceMethod yX3_note ∈ rs_T := rs_m2 165 rfl rfl
theorem qw_406 : Cond.code yX3_note cX3_note 3 none ∈ rs_T := rs_m2 166 rfl rfl
theorem qw_407 : Cond.methodLink RX3 56 yX1_mayFollow ∈ rs_T := rs_m2 167 rfl rfl
theorem qw_408 : Cond.methodLink RX3 63 yX4_advance ∈ rs_T := rs_m2 168 rfl rfl
theorem qw_409 : Cond.methodLink RX3 67 yX1_cost ∈ rs_T := rs_m2 169 rfl rfl
theorem qw_410 : Cond.methodLink RL 35 yX5_wishes ∈ rs_T := rs_m2 170 rfl rfl
theorem qw_411 : Cond.instanceMethod yX5_wishes ∈ rs_T := rs_m2 171 rfl rfl
theorem qw_412 : Cond.selects RX5 yX5_wishes yX5_wishes ∈ rs_T := rs_m2 172 rfl rfl
theorem qw_413 : Cond.code yX5_wishes cX5_wishes 4 (some FieldType.int) ∈ rs_T := rs_m2 173 rfl rfl
theorem qw_414 : Cond.methodLink RX5 126 yX5_isWish ∈ rs_T := rs_m2 174 rfl rfl
theorem qw_415 : Cond.static yX5_isWish ∈ rs_T := rs_m2 175 rfl rfl
theorem qw_416 : Cond.code yX5_isWish cX5_isWish 1 (some FieldType.boolean) ∈ rs_T := rs_m2 176 rfl rfl
theorem qw_417 : Cond.methodLink RX5 138 yX1_setWish ∈ rs_T := rs_m2 177 rfl rfl
theorem qw_418 : Cond.methodLink RL 40 yX5_rules ∈ rs_T := rs_m2 178 rfl rfl
theorem qw_419 : Cond.instanceMethod yX5_rules ∈ rs_T := rs_m2 179 rfl rfl
theorem qw_420 : Cond.selects RX5 yX5_rules yX5_rules ∈ rs_T := rs_m2 180 rfl rfl
theorem qw_421 : Cond.code yX5_rules cX5_rules 4 (some FieldType.int) ∈ rs_T := rs_m2 181 rfl rfl
theorem qw_422 : Cond.methodLink RX5 142 yX5_isRule ∈ rs_T := rs_m2 182 rfl rfl
theorem qw_423 : Cond.methodLink RX5 146 yX1_rule ∈ rs_T := rs_m2 183 rfl rfl
theorem qw_424 : Cond.instanceMethod yX1_rule ∈ rs_T := rs_m2 184 rfl rfl
theorem qw_425 : Cond.selects RX1 yX1_rule yX1_rule ∈ rs_T := rs_m2 185 rfl rfl
theorem qw_426 : Cond.code yX1_rule cX1_rule 2 (some FieldType.int) ∈ rs_T := rs_m2 186 rfl rfl
theorem qw_427 : Cond.methodLink RX5 150 yX1_setRule ∈ rs_T := rs_m2 187 rfl rfl
theorem qw_428 : Cond.methodLink RL 45 yX5_undo ∈ rs_T := rs_m2 188 rfl rfl
theorem qw_429 : Cond.instanceMethod yX5_undo ∈ rs_T := rs_m2 189 rfl rfl
theorem qw_430 : Cond.selects RX5 yX5_undo yX5_undo ∈ rs_T := rs_m2 190 rfl rfl
theorem qw_431 : Cond.code yX5_undo cX5_undo 1 (some FieldType.int) ∈ rs_T := rs_m2 191 rfl rfl
theorem qw_432 : Cond.methodLink RX5 154 yX0_takeBack ∈ rs_T := rs_m2 192 rfl rfl
theorem qw_433 : Cond.instanceMethod yX0_takeBack ∈ rs_T := rs_m2 193 rfl rfl
theorem qw_434 : Cond.selects RX0 yX0_takeBack yX0_takeBack ∈ rs_T := rs_m2 194 rfl rfl
theorem qw_435 : Cond.code yX0_takeBack cX0_takeBack 2 none ∈ rs_T := rs_m2 195 rfl rfl
theorem qw_436 : Cond.methodLinkNest RX0 31 yX5_isWithin "RingSteer" ∈ lw_tbl := rs_n2 196 rfl
theorem qw_437 : Cond.methodLink RX0 35 yX1_dropLast ∈ rs_T := rs_m2 197 rfl rfl
theorem qw_438 : Cond.instanceMethod yX1_dropLast ∈ rs_T := rs_m2 198 rfl rfl
theorem qw_439 : Cond.selects RX1 yX1_dropLast yX1_dropLast ∈ rs_T := rs_m2 199 rfl rfl
theorem qw_440 : Cond.code yX1_dropLast cX1_dropLast 1 none ∈ rs_T := rs_m2 200 rfl rfl
theorem qw_441 : Cond.methodLink RX0 40 yX1_setWish ∈ rs_T := rs_m2 201 rfl rfl
theorem qw_442 : Cond.methodLink RX0 44 yX1_setRule ∈ rs_T := rs_m2 202 rfl rfl
theorem qw_443 : Cond.methodLink RL 49 yX5_ring ∈ rs_T := rs_m2 203 rfl rfl
theorem qw_444 : Cond.instanceMethod yX5_ring ∈ rs_T := rs_m2 204 rfl rfl
theorem qw_445 : Cond.selects RX5 yX5_ring yX5_ring ∈ rs_T := rs_m2 205 rfl rfl
theorem qw_446 : Cond.code yX5_ring cX5_ring 4 (some FieldType.int) ∈ rs_T := rs_m2 206 rfl rfl
theorem qw_447 : Cond.constant RX5 157 (-1000000) ∈ rs_T := rs_m2 207 rfl rfl
theorem qw_448 : Cond.methodLink RL 53 yX5_wish ∈ rs_T := rs_m2 208 rfl rfl
theorem qw_449 : Cond.instanceMethod yX5_wish ∈ rs_T := rs_m2 209 rfl rfl
theorem qw_450 : Cond.selects RX5 yX5_wish yX5_wish ∈ rs_T := rs_m2 210 rfl rfl
theorem qw_451 : Cond.code yX5_wish cX5_wish 3 (some FieldType.int) ∈ rs_T := rs_m2 211 rfl rfl
theorem qw_452 : Cond.methodLink RL 57 yX5_worst ∈ rs_T := rs_m2 212 rfl rfl
theorem qw_453 : Cond.instanceMethod yX5_worst ∈ rs_T := rs_m2 213 rfl rfl
theorem qw_454 : Cond.selects RX5 yX5_worst yX5_worst ∈ rs_T := rs_m2 214 rfl rfl
theorem qw_455 : Cond.code yX5_worst cX5_worst 3 (some FieldType.int) ∈ rs_T := rs_m2 215 rfl rfl
theorem qw_456 : Cond.methodLink RX5 177 yX1_worseThan ∈ rs_T := rs_m2 216 rfl rfl
theorem qw_457 : Cond.instanceMethod yX1_worseThan ∈ rs_T := rs_m2 217 rfl rfl
theorem qw_458 : Cond.selects RX1 yX1_worseThan yX1_worseThan ∈ rs_T := rs_m2 218 rfl rfl
theorem qw_459 : Cond.code yX1_worseThan cX1_worseThan 6 (some FieldType.int) ∈ rs_T := rs_m2 219 rfl rfl
theorem qw_460 : Cond.methodLink RX1 102 yX1_cost ∈ rs_T := rs_m2 220 rfl rfl
theorem qw_461 : Cond.methodLink RL 61 yX5_plan ∈ rs_T := rs_m2 221 rfl rfl
theorem qw_462 : Cond.instanceMethod yX5_plan ∈ rs_T := rs_m2 222 rfl rfl
theorem qw_463 : Cond.selects RX5 yX5_plan yX5_plan ∈ rs_T := rs_m2 223 rfl rfl
theorem qw_464 : Cond.code yX5_plan cX5_plan 3 (some FieldType.int) ∈ rs_T := rs_m2 224 rfl rfl
theorem qw_465 : Cond.methodLink RL 65 yX5_trying ∈ rs_T := rs_m2 225 rfl rfl
theorem qw_466 : Cond.instanceMethod yX5_trying ∈ rs_T := rs_m2 226 rfl rfl
theorem qw_467 : Cond.selects RX5 yX5_trying yX5_trying ∈ rs_T := rs_m2 227 rfl rfl
theorem qw_468 : Cond.code yX5_trying cX5_trying 2 (some FieldType.int) ∈ rs_T := rs_m2 228 rfl rfl
theorem qw_469 : Cond.methodLink RX5 183 yX4_copy ∈ rs_T := rs_m2 229 rfl rfl
theorem qw_470 : Cond.methodLink RX5 189 yX4_advance ∈ rs_T := rs_m2 230 rfl rfl
theorem qw_471 : Cond.methodLink RL 69 yX5_sees ∈ rs_T := rs_m2 231 rfl rfl
theorem qw_472 : Cond.instanceMethod yX5_sees ∈ rs_T := rs_m2 232 rfl rfl
theorem qw_473 : Cond.selects RX5 yX5_sees yX5_sees ∈ rs_T := rs_m2 233 rfl rfl
theorem qw_474 : Cond.code yX5_sees cX5_sees 3 (some FieldType.int) ∈ rs_T := rs_m2 234 rfl rfl
theorem qw_475 : Cond.methodLink RL 73 yX5_forget ∈ rs_T := rs_m2 235 rfl rfl
theorem qw_476 : Cond.instanceMethod yX5_forget ∈ rs_T := rs_m2 236 rfl rfl
theorem qw_477 : Cond.selects RX5 yX5_forget yX5_forget ∈ rs_T := rs_m2 237 rfl rfl
theorem qw_478 : Cond.code yX5_forget cX5_forget 2 (some FieldType.int) ∈ rs_T := rs_m2 238 rfl rfl
theorem qw_479 : Cond.methodLink RL 77 yX5_unseen ∈ rs_T := rs_m2 239 rfl rfl
theorem qw_480 : Cond.instanceMethod yX5_unseen ∈ rs_T := rs_m3 0 rfl rfl
theorem qw_481 : Cond.selects RX5 yX5_unseen yX5_unseen ∈ rs_T := rs_m3 1 rfl rfl
theorem qw_482 : Cond.code yX5_unseen cX5_unseen 4 (some FieldType.int) ∈ rs_T := rs_m3 2 rfl rfl
theorem qw_483 : Cond.methodLink RX5 192 yX5_explainsAllSeen ∈ rs_T := rs_m3 3 rfl rfl
theorem qw_484 : Cond.privateMethod yX5_explainsAllSeen ∈ lw_tbl := rs_n3 4 rfl
theorem qw_485 : Cond.instanceMethod yX5_explainsAllSeen ∈ rs_T := rs_m3 5 rfl rfl
theorem qw_486 : Cond.code yX5_explainsAllSeen cX5_explainsAllSeen 9 (some FieldType.boolean) ∈ rs_T := rs_m3 6 rfl rfl
theorem qw_487 : Cond.methodLink RX5 233 yX5_leanX ∈ rs_T := rs_m3 7 rfl rfl
theorem qw_488 : Cond.methodLink RX5 236 yX5_leanY ∈ rs_T := rs_m3 8 rfl rfl
theorem qw_489 : Cond.methodLink RL 81 yX5_odds ∈ rs_T := rs_m3 9 rfl rfl
theorem qw_490 : Cond.instanceMethod yX5_odds ∈ rs_T := rs_m3 10 rfl rfl
theorem qw_491 : Cond.selects RX5 yX5_odds yX5_odds ∈ rs_T := rs_m3 11 rfl rfl
theorem qw_492 : Cond.code yX5_odds cX5_odds 9 (some FieldType.int) ∈ rs_T := rs_m3 12 rfl rfl
theorem qw_493 : Cond.methodLink RX5 195 yJ9_min_7cf53 ∈ rs_T := rs_m3 13 rfl rfl
theorem qw_494 : Cond.methodLink RX5 201 yX5_nearParts ∈ rs_T := rs_m3 14 rfl rfl
theorem qw_495 : Cond.privateMethod yX5_nearParts ∈ lw_tbl := rs_n3 15 rfl
theorem qw_496 : Cond.instanceMethod yX5_nearParts ∈ rs_T := rs_m3 16 rfl rfl
theorem qw_497 : Cond.code yX5_nearParts cX5_nearParts 7 (some FieldType.int) ∈ rs_T := rs_m3 17 rfl rfl
theorem qw_498 : Cond.methodLink RX5 239 yX5_slip ∈ rs_T := rs_m3 18 rfl rfl
theorem qw_499 : Cond.privateMethod yX5_slip ∈ lw_tbl := rs_n3 19 rfl
theorem qw_500 : Cond.instanceMethod yX5_slip ∈ rs_T := rs_m3 20 rfl rfl
theorem qw_501 : Cond.code yX5_slip cX5_slip 6 none ∈ rs_T := rs_m3 21 rfl rfl
theorem qw_502 : Cond.methodLink RX5 242 yJ6_bitCount_0f7a4 ∈ rs_T := rs_m3 22 rfl rfl
theorem qw_503 : Cond.static yJ6_bitCount_0f7a4 ∈ rs_T := rs_m3 23 rfl rfl
theorem qw_504 : Cond.code yJ6_bitCount_0f7a4 cJ6_bitCount_0f7a4 1 (some FieldType.int) ∈ rs_T := rs_m3 24 rfl rfl
theorem qw_505 : Cond.constant RJ6 265 (1431655765) ∈ rs_T := rs_m3 25 rfl rfl
theorem qw_506 : Cond.constant RJ6 266 (858993459) ∈ rs_T := rs_m3 26 rfl rfl
theorem qw_507 : Cond.constant RJ6 267 (252645135) ∈ rs_T := rs_m3 27 rfl rfl
theorem qw_508 : Cond.methodLink RX5 205 yX5_power ∈ rs_T := rs_m3 28 rfl rfl
theorem qw_509 : Cond.static yX5_power ∈ rs_T := rs_m3 29 rfl rfl
theorem qw_510 : Cond.code yX5_power cX5_power 4 (some FieldType.int) ∈ rs_T := rs_m3 30 rfl rfl
theorem qw_511 : Cond.methodLink RX5 208 yX5_commonDivisor ∈ rs_T := rs_m3 31 rfl rfl
theorem qw_512 : Cond.static yX5_commonDivisor ∈ rs_T := rs_m3 32 rfl rfl
theorem qw_513 : Cond.code yX5_commonDivisor cX5_commonDivisor 6 (some FieldType.int) ∈ rs_T := rs_m3 33 rfl rfl
theorem qw_514 : Cond.methodLink RL 85 yX5_keep ∈ rs_T := rs_m3 34 rfl rfl
theorem qw_515 : Cond.instanceMethod yX5_keep ∈ rs_T := rs_m3 35 rfl rfl
theorem qw_516 : Cond.selects RX5 yX5_keep yX5_keep ∈ rs_T := rs_m3 36 rfl rfl
theorem qw_517 : Cond.code yX5_keep cX5_keep 2 (some FieldType.int) ∈ rs_T := rs_m3 37 rfl rfl
theorem qw_518 : Cond.methodLink RL 89 yX5_back ∈ rs_T := rs_m3 38 rfl rfl
theorem qw_519 : Cond.instanceMethod yX5_back ∈ rs_T := rs_m3 39 rfl rfl
theorem qw_520 : Cond.selects RX5 yX5_back yX5_back ∈ rs_T := rs_m3 40 rfl rfl
theorem qw_521 : Cond.code yX5_back cX5_back 2 (some FieldType.int) ∈ rs_T := rs_m3 41 rfl rfl
theorem qw_522 : Cond.methodLink RL 93 yX5_count ∈ rs_T := rs_m3 42 rfl rfl
theorem qw_523 : Cond.instanceMethod yX5_count ∈ rs_T := rs_m3 43 rfl rfl
theorem qw_524 : Cond.selects RX5 yX5_count yX5_count ∈ rs_T := rs_m3 44 rfl rfl
theorem qw_525 : Cond.code yX5_count cX5_count 2 (some FieldType.int) ∈ rs_T := rs_m3 45 rfl rfl
theorem qw_526 : Cond.methodLink RX5 220 yX1_nextKeys ∈ rs_T := rs_m3 46 rfl rfl
theorem qw_527 : Cond.instanceMethod yX1_nextKeys ∈ rs_T := rs_m3 47 rfl rfl
theorem qw_528 : Cond.selects RX1 yX1_nextKeys yX1_nextKeys ∈ rs_T := rs_m3 48 rfl rfl
theorem qw_529 : Cond.code yX1_nextKeys cX1_nextKeys 3 (some FieldType.int) ∈ rs_T := rs_m3 49 rfl rfl
theorem qw_530 : Cond.methodLink RX1 106 yX1_mayFollow ∈ rs_T := rs_m3 50 rfl rfl
theorem qw_531 : Cond.methodLink RX5 224 yX1_wholeCost ∈ rs_T := rs_m3 51 rfl rfl
theorem qw_532 : Cond.instanceMethod yX1_wholeCost ∈ rs_T := rs_m3 52 rfl rfl
theorem qw_533 : Cond.selects RX1 yX1_wholeCost yX1_wholeCost ∈ rs_T := rs_m3 53 rfl rfl
theorem qw_534 : Cond.code yX1_wholeCost cX1_wholeCost 3 (some FieldType.int) ∈ rs_T := rs_m3 54 rfl rfl
theorem qw_535 : Cond.classLink RL 10 "RingSteerModel" ∈ rs_T := rs_m3 55 rfl rfl
theorem qw_536 : Cond.instantiable RX6 29 ∈ rs_T := rs_m3 56 rfl rfl
theorem qw_537 : Cond.methodLink RL 12 yX6_init ∈ rs_T := rs_m3 57 rfl rfl
theorem qw_538 : Cond.instanceMethod yX6_init ∈ rs_T := rs_m3 58 rfl rfl
theorem qw_539 : Cond.code yX6_init cX6_init 1 none ∈ rs_T := rs_m3 59 rfl rfl
theorem qw_540 : Cond.methodLink RX6 1 (⟨"java/lang/Object", "<init>", "()V"⟩ : MethodName) ∈ rs_T := rs_m3 60 rfl rfl
theorem qw_541 : Cond.methodLink RX6 50 yX6_begins ∈ rs_T := rs_m3 61 rfl rfl
theorem qw_542 : Cond.static yX6_begins ∈ rs_T := rs_m3 62 rfl rfl
theorem qw_543 : Cond.code yX6_begins cX6_begins 2 none ∈ rs_T := rs_m3 63 rfl rfl
theorem qw_544 : Cond.fieldLink RX6 54 "RingSteerModel" "taper" "I" ∈ rs_T := rs_m3 64 rfl rfl
theorem qw_545 : Cond.fieldLink RX6 7 "RingSteerModel" "now" "[I" ∈ rs_T := rs_m3 65 rfl rfl
theorem qw_546 : Cond.fieldLink RX6 156 "RingSteerModel" "undoMany" "I" ∈ rs_T := rs_m3 66 rfl rfl
theorem qw_547 : Cond.fieldLink RX6 162 "RingSteerModel" "undoAt" "I" ∈ rs_T := rs_m3 67 rfl rfl
theorem qw_548 : Cond.fieldLink RX6 13 "RingSteerModel" "undos" "[I" ∈ rs_T := rs_m3 68 rfl rfl
theorem qw_549 : Cond.fieldLink RX6 159 "RingSteerModel" "seenMany" "I" ∈ rs_T := rs_m3 69 rfl rfl
theorem qw_550 : Cond.fieldLink RX6 16 "RingSteerModel" "seenX" "[I" ∈ rs_T := rs_m3 70 rfl rfl
theorem qw_551 : Cond.fieldLink RX6 19 "RingSteerModel" "seenY" "[I" ∈ rs_T := rs_m3 71 rfl rfl
theorem qw_552 : Cond.fieldLink RX6 22 "RingSteerModel" "isKept" "[Z" ∈ rs_T := rs_m3 72 rfl rfl
theorem qw_553 : Cond.fieldLink RX6 26 "RingSteerModel" "kept" "[I" ∈ rs_T := rs_m3 73 rfl rfl
theorem qw_554 : Cond.fieldLink RX6 29 "RingSteerModel" "keys" "[I" ∈ rs_T := rs_m3 74 rfl rfl
theorem qw_555 : Cond.fieldLink RX6 32 "RingSteerModel" "slopeX" "[I" ∈ rs_T := rs_m3 75 rfl rfl
theorem qw_556 : Cond.fieldLink RX6 35 "RingSteerModel" "slopeY" "[I" ∈ rs_T := rs_m3 76 rfl rfl
theorem qw_557 : Cond.fieldLink RX6 38 "RingSteerModel" "placeX" "[I" ∈ rs_T := rs_m3 77 rfl rfl
theorem qw_558 : Cond.fieldLink RX6 41 "RingSteerModel" "placeY" "[I" ∈ rs_T := rs_m3 78 rfl rfl
theorem qw_559 : Cond.fieldLink RX6 79 "RingSteerModel" "letterMany" "I" ∈ rs_T := rs_m3 79 rfl rfl
theorem qw_560 : Cond.fieldLink RX6 44 "RingSteerModel" "text" "[I" ∈ rs_T := rs_m3 80 rfl rfl
theorem qw_561 : Cond.fieldLink RX6 82 "RingSteerModel" "readAt" "I" ∈ rs_T := rs_m3 81 rfl rfl
theorem qw_562 : Cond.fieldLink RX6 88 "RingSteerModel" "tokenAt" "I" ∈ rs_T := rs_m3 82 rfl rfl
theorem qw_563 : Cond.fieldLink RX6 91 "RingSteerModel" "token" "I" ∈ rs_T := rs_m3 83 rfl rfl
theorem qw_564 : Cond.fieldLink RX6 98 "RingSteerModel" "value" "I" ∈ rs_T := rs_m3 84 rfl rfl
theorem qw_565 : Cond.fieldLink RX6 105 "RingSteerModel" "faultAt" "I" ∈ rs_T := rs_m3 85 rfl rfl
theorem qw_566 : Cond.fieldLink RX6 114 "RingSteerModel" "readOnce" "I" ∈ rs_T := rs_m3 86 rfl rfl
theorem qw_567 : Cond.fieldLink RX6 124 "RingSteerModel" "readTaper" "I" ∈ rs_T := rs_m3 87 rfl rfl
theorem qw_568 : Cond.fieldLink RX6 130 "RingSteerModel" "readWishes" "I" ∈ rs_T := rs_m3 88 rfl rfl
theorem qw_569 : Cond.fieldLink RX6 47 "RingSteerModel" "read" "[I" ∈ rs_T := rs_m3 89 rfl rfl
theorem qw_570 : Cond.fieldLink RX6 181 "RingSteerModel" "planMany" "I" ∈ rs_T := rs_m3 90 rfl rfl
theorem qw_571 : Cond.fieldLink RX6 184 "RingSteerModel" "planFirst" "I" ∈ rs_T := rs_m3 91 rfl rfl
theorem qw_572 : Cond.fieldLink RX6 192 "RingSteerModel" "planCost" "I" ∈ rs_T := rs_m3 92 rfl rfl
theorem qw_573 : Cond.lays RX6 "RingSteerModel" "taper" "I" ∈ rs_T := rs_m3 93 rfl rfl
theorem qw_574 : Cond.soleField "RingSteerModel" "taper" ∈ rs_T := rs_m3 94 rfl rfl
theorem qw_575 : Cond.laysFinal RX6 "RingSteerModel" "now" "[I" ∈ rs_T := rs_m3 95 rfl rfl
theorem qw_576 : Cond.soleField "RingSteerModel" "now" ∈ rs_T := rs_m3 96 rfl rfl
theorem qw_577 : Cond.lays RX6 "RingSteerModel" "undoMany" "I" ∈ rs_T := rs_m3 97 rfl rfl
theorem qw_578 : Cond.soleField "RingSteerModel" "undoMany" ∈ rs_T := rs_m3 98 rfl rfl
theorem qw_579 : Cond.lays RX6 "RingSteerModel" "undoAt" "I" ∈ rs_T := rs_m3 99 rfl rfl
theorem qw_580 : Cond.soleField "RingSteerModel" "undoAt" ∈ rs_T := rs_m3 100 rfl rfl
theorem qw_581 : Cond.laysFinal RX6 "RingSteerModel" "undos" "[I" ∈ rs_T := rs_m3 101 rfl rfl
theorem qw_582 : Cond.soleField "RingSteerModel" "undos" ∈ rs_T := rs_m3 102 rfl rfl
theorem qw_583 : Cond.lays RX6 "RingSteerModel" "seenMany" "I" ∈ rs_T := rs_m3 103 rfl rfl
theorem qw_584 : Cond.soleField "RingSteerModel" "seenMany" ∈ rs_T := rs_m3 104 rfl rfl
theorem qw_585 : Cond.laysFinal RX6 "RingSteerModel" "seenX" "[I" ∈ rs_T := rs_m3 105 rfl rfl
theorem qw_586 : Cond.soleField "RingSteerModel" "seenX" ∈ rs_T := rs_m3 106 rfl rfl
theorem qw_587 : Cond.laysFinal RX6 "RingSteerModel" "seenY" "[I" ∈ rs_T := rs_m3 107 rfl rfl
theorem qw_588 : Cond.soleField "RingSteerModel" "seenY" ∈ rs_T := rs_m3 108 rfl rfl
theorem qw_589 : Cond.laysFinal RX6 "RingSteerModel" "isKept" "[Z" ∈ rs_T := rs_m3 109 rfl rfl
theorem qw_590 : Cond.soleField "RingSteerModel" "isKept" ∈ rs_T := rs_m3 110 rfl rfl
theorem qw_591 : Cond.laysFinal RX6 "RingSteerModel" "kept" "[I" ∈ rs_T := rs_m3 111 rfl rfl
theorem qw_592 : Cond.soleField "RingSteerModel" "kept" ∈ rs_T := rs_m3 112 rfl rfl
theorem qw_593 : Cond.laysFinal RX6 "RingSteerModel" "keys" "[I" ∈ rs_T := rs_m3 113 rfl rfl
theorem qw_594 : Cond.soleField "RingSteerModel" "keys" ∈ rs_T := rs_m3 114 rfl rfl
theorem qw_595 : Cond.laysFinal RX6 "RingSteerModel" "slopeX" "[I" ∈ rs_T := rs_m3 115 rfl rfl
theorem qw_596 : Cond.soleField "RingSteerModel" "slopeX" ∈ rs_T := rs_m3 116 rfl rfl
theorem qw_597 : Cond.laysFinal RX6 "RingSteerModel" "slopeY" "[I" ∈ rs_T := rs_m3 117 rfl rfl
theorem qw_598 : Cond.soleField "RingSteerModel" "slopeY" ∈ rs_T := rs_m3 118 rfl rfl
theorem qw_599 : Cond.laysFinal RX6 "RingSteerModel" "placeX" "[I" ∈ rs_T := rs_m3 119 rfl rfl
theorem qw_600 : Cond.soleField "RingSteerModel" "placeX" ∈ rs_T := rs_m3 120 rfl rfl
theorem qw_601 : Cond.laysFinal RX6 "RingSteerModel" "placeY" "[I" ∈ rs_T := rs_m3 121 rfl rfl
theorem qw_602 : Cond.soleField "RingSteerModel" "placeY" ∈ rs_T := rs_m3 122 rfl rfl
theorem qw_603 : Cond.lays RX6 "RingSteerModel" "letterMany" "I" ∈ rs_T := rs_m3 123 rfl rfl
theorem qw_604 : Cond.soleField "RingSteerModel" "letterMany" ∈ rs_T := rs_m3 124 rfl rfl
theorem qw_605 : Cond.laysFinal RX6 "RingSteerModel" "text" "[I" ∈ rs_T := rs_m3 125 rfl rfl
theorem qw_606 : Cond.soleField "RingSteerModel" "text" ∈ rs_T := rs_m3 126 rfl rfl
theorem qw_607 : Cond.lays RX6 "RingSteerModel" "readAt" "I" ∈ rs_T := rs_m3 127 rfl rfl
theorem qw_608 : Cond.soleField "RingSteerModel" "readAt" ∈ rs_T := rs_m3 128 rfl rfl
theorem qw_609 : Cond.lays RX6 "RingSteerModel" "tokenAt" "I" ∈ rs_T := rs_m3 129 rfl rfl
theorem qw_610 : Cond.soleField "RingSteerModel" "tokenAt" ∈ rs_T := rs_m3 130 rfl rfl
theorem qw_611 : Cond.lays RX6 "RingSteerModel" "token" "I" ∈ rs_T := rs_m3 131 rfl rfl
theorem qw_612 : Cond.soleField "RingSteerModel" "token" ∈ rs_T := rs_m3 132 rfl rfl
theorem qw_613 : Cond.lays RX6 "RingSteerModel" "value" "I" ∈ rs_T := rs_m3 133 rfl rfl
theorem qw_614 : Cond.soleField "RingSteerModel" "value" ∈ rs_T := rs_m3 134 rfl rfl
theorem qw_615 : Cond.lays RX6 "RingSteerModel" "faultAt" "I" ∈ rs_T := rs_m3 135 rfl rfl
theorem qw_616 : Cond.soleField "RingSteerModel" "faultAt" ∈ rs_T := rs_m3 136 rfl rfl
theorem qw_617 : Cond.lays RX6 "RingSteerModel" "readOnce" "I" ∈ rs_T := rs_m3 137 rfl rfl
theorem qw_618 : Cond.soleField "RingSteerModel" "readOnce" ∈ rs_T := rs_m3 138 rfl rfl
theorem qw_619 : Cond.lays RX6 "RingSteerModel" "readTaper" "I" ∈ rs_T := rs_m3 139 rfl rfl
theorem qw_620 : Cond.soleField "RingSteerModel" "readTaper" ∈ rs_T := rs_m3 140 rfl rfl
theorem qw_621 : Cond.lays RX6 "RingSteerModel" "readWishes" "I" ∈ rs_T := rs_m3 141 rfl rfl
theorem qw_622 : Cond.soleField "RingSteerModel" "readWishes" ∈ rs_T := rs_m3 142 rfl rfl
theorem qw_623 : Cond.laysFinal RX6 "RingSteerModel" "read" "[I" ∈ rs_T := rs_m3 143 rfl rfl
theorem qw_624 : Cond.soleField "RingSteerModel" "read" ∈ rs_T := rs_m3 144 rfl rfl
theorem qw_625 : Cond.lays RX6 "RingSteerModel" "planMany" "I" ∈ rs_T := rs_m3 145 rfl rfl
theorem qw_626 : Cond.soleField "RingSteerModel" "planMany" ∈ rs_T := rs_m3 146 rfl rfl
theorem qw_627 : Cond.lays RX6 "RingSteerModel" "planFirst" "I" ∈ rs_T := rs_m3 147 rfl rfl
theorem qw_628 : Cond.soleField "RingSteerModel" "planFirst" ∈ rs_T := rs_m3 148 rfl rfl
theorem qw_629 : Cond.lays RX6 "RingSteerModel" "planCost" "I" ∈ rs_T := rs_m3 149 rfl rfl
theorem qw_630 : Cond.soleField "RingSteerModel" "planCost" ∈ rs_T := rs_m3 150 rfl rfl
theorem qw_631 : Cond.superclass "RingSteerModel" "java/lang/Object" ∈ rs_T := rs_m3 151 rfl rfl
theorem qw_632 : Cond.methodLink RL 17 yX6_type ∈ rs_T := rs_m3 152 rfl rfl
theorem qw_633 : Cond.instanceMethod yX6_type ∈ rs_T := rs_m3 153 rfl rfl
theorem qw_634 : Cond.selects RX6 yX6_type yX6_type ∈ rs_T := rs_m3 154 rfl rfl
theorem qw_635 : Cond.code yX6_type cX6_type 2 (some FieldType.int) ∈ rs_T := rs_m3 155 rfl rfl
theorem qw_636 : Cond.methodLink RX6 76 yX6_in ∈ rs_T := rs_m3 156 rfl rfl
theorem qw_637 : Cond.static yX6_in ∈ rs_T := rs_m3 157 rfl rfl
theorem qw_638 : Cond.code yX6_in cX6_in 3 (some FieldType.boolean) ∈ rs_T := rs_m3 158 rfl rfl
theorem qw_639 : Cond.methodLink RL 22 yX6_clear ∈ rs_T := rs_m3 159 rfl rfl
theorem qw_640 : Cond.instanceMethod yX6_clear ∈ rs_T := rs_m3 160 rfl rfl
theorem qw_641 : Cond.selects RX6 yX6_clear yX6_clear ∈ rs_T := rs_m3 161 rfl rfl
theorem qw_642 : Cond.code yX6_clear cX6_clear 2 (some FieldType.int) ∈ rs_T := rs_m3 162 rfl rfl
theorem qw_643 : Cond.methodLink RL 26 yX6_tunnel ∈ rs_T := rs_m3 163 rfl rfl
theorem qw_644 : Cond.instanceMethod yX6_tunnel ∈ rs_T := rs_m3 164 rfl rfl
theorem qw_645 : Cond.selects RX6 yX6_tunnel yX6_tunnel ∈ rs_T := rs_m3 165 rfl rfl
theorem qw_646 : Cond.code yX6_tunnel cX6_tunnel 3 (some FieldType.int) ∈ rs_T := rs_m3 166 rfl rfl
theorem qw_647 : Cond.methodLink RX6 85 yX6_blanks ∈ rs_T := rs_m3 167 rfl rfl
theorem qw_648 : Cond.privateMethod yX6_blanks ∈ lw_tbl := rs_n3 168 rfl
theorem qw_649 : Cond.instanceMethod yX6_blanks ∈ rs_T := rs_m3 169 rfl rfl
theorem qw_650 : Cond.code yX6_blanks cX6_blanks 1 none ∈ rs_T := rs_m3 170 rfl rfl
theorem qw_651 : Cond.methodLink RX6 153 yX6_readsItem ∈ rs_T := rs_m3 171 rfl rfl
theorem qw_652 : Cond.privateMethod yX6_readsItem ∈ lw_tbl := rs_n3 172 rfl
theorem qw_653 : Cond.instanceMethod yX6_readsItem ∈ rs_T := rs_m3 173 rfl rfl
theorem qw_654 : Cond.code yX6_readsItem cX6_readsItem 1 (some FieldType.boolean) ∈ rs_T := rs_m3 174 rfl rfl
theorem qw_655 : Cond.methodLink RX6 108 yX6_next ∈ rs_T := rs_m3 175 rfl rfl
theorem qw_656 : Cond.privateMethod yX6_next ∈ lw_tbl := rs_n3 176 rfl
theorem qw_657 : Cond.instanceMethod yX6_next ∈ rs_T := rs_m3 177 rfl rfl
theorem qw_658 : Cond.code yX6_next cX6_next 1 none ∈ rs_T := rs_m3 178 rfl rfl
theorem qw_659 : Cond.methodLink RX6 94 yX6_isFigure ∈ rs_T := rs_m3 179 rfl rfl
theorem qw_660 : Cond.privateMethod yX6_isFigure ∈ lw_tbl := rs_n3 180 rfl
theorem qw_661 : Cond.instanceMethod yX6_isFigure ∈ rs_T := rs_m3 181 rfl rfl
theorem qw_662 : Cond.code yX6_isFigure cX6_isFigure 1 (some FieldType.boolean) ∈ rs_T := rs_m3 182 rfl rfl
theorem qw_663 : Cond.methodLink RX6 101 yX6_isToken ∈ rs_T := rs_m3 183 rfl rfl
theorem qw_664 : Cond.static yX6_isToken ∈ rs_T := rs_m3 184 rfl rfl
theorem qw_665 : Cond.code yX6_isToken cX6_isToken 1 (some FieldType.boolean) ∈ rs_T := rs_m3 185 rfl rfl
theorem qw_666 : Cond.methodLink RX6 144 yX6_readsOnce ∈ rs_T := rs_m3 186 rfl rfl
theorem qw_667 : Cond.privateMethod yX6_readsOnce ∈ lw_tbl := rs_n3 187 rfl
theorem qw_668 : Cond.instanceMethod yX6_readsOnce ∈ rs_T := rs_m3 188 rfl rfl
theorem qw_669 : Cond.code yX6_readsOnce cX6_readsOnce 4 (some FieldType.boolean) ∈ rs_T := rs_m3 189 rfl rfl
theorem qw_670 : Cond.methodLink RX6 117 yX6_has ∈ rs_T := rs_m3 190 rfl rfl
theorem qw_671 : Cond.static yX6_has ∈ rs_T := rs_m3 191 rfl rfl
theorem qw_672 : Cond.code yX6_has cX6_has 2 (some FieldType.boolean) ∈ rs_T := rs_m3 192 rfl rfl
theorem qw_673 : Cond.methodLink RX6 111 yX6_fails ∈ rs_T := rs_m3 193 rfl rfl
theorem qw_674 : Cond.privateMethod yX6_fails ∈ lw_tbl := rs_n3 194 rfl
theorem qw_675 : Cond.instanceMethod yX6_fails ∈ rs_T := rs_m3 195 rfl rfl
theorem qw_676 : Cond.code yX6_fails cX6_fails 1 (some FieldType.boolean) ∈ rs_T := rs_m3 196 rfl rfl
theorem qw_677 : Cond.methodLink RX6 121 yX6_number ∈ rs_T := rs_m3 197 rfl rfl
theorem qw_678 : Cond.privateMethod yX6_number ∈ lw_tbl := rs_n3 198 rfl
theorem qw_679 : Cond.instanceMethod yX6_number ∈ rs_T := rs_m3 199 rfl rfl
theorem qw_680 : Cond.code yX6_number cX6_number 3 (some FieldType.boolean) ∈ rs_T := rs_m3 200 rfl rfl
theorem qw_681 : Cond.methodLink RX6 127 yX6_ends ∈ rs_T := rs_m3 201 rfl rfl
theorem qw_682 : Cond.privateMethod yX6_ends ∈ lw_tbl := rs_n3 202 rfl
theorem qw_683 : Cond.instanceMethod yX6_ends ∈ rs_T := rs_m3 203 rfl rfl
theorem qw_684 : Cond.code yX6_ends cX6_ends 1 (some FieldType.boolean) ∈ rs_T := rs_m3 204 rfl rfl
theorem qw_685 : Cond.methodLink RX6 147 yX6_readsWish ∈ rs_T := rs_m3 205 rfl rfl
theorem qw_686 : Cond.privateMethod yX6_readsWish ∈ lw_tbl := rs_n3 206 rfl
theorem qw_687 : Cond.instanceMethod yX6_readsWish ∈ rs_T := rs_m3 207 rfl rfl
theorem qw_688 : Cond.code yX6_readsWish cX6_readsWish 2 (some FieldType.boolean) ∈ rs_T := rs_m3 208 rfl rfl
theorem qw_689 : Cond.methodLink RX6 133 yX6_whole ∈ rs_T := rs_m3 209 rfl rfl
theorem qw_690 : Cond.privateMethod yX6_whole ∈ lw_tbl := rs_n3 210 rfl
theorem qw_691 : Cond.instanceMethod yX6_whole ∈ rs_T := rs_m3 211 rfl rfl
theorem qw_692 : Cond.code yX6_whole cX6_whole 2 (some FieldType.boolean) ∈ rs_T := rs_m3 212 rfl rfl
theorem qw_693 : Cond.methodLink RX6 150 yX6_readsRing ∈ rs_T := rs_m3 213 rfl rfl
theorem qw_694 : Cond.privateMethod yX6_readsRing ∈ lw_tbl := rs_n3 214 rfl
theorem qw_695 : Cond.instanceMethod yX6_readsRing ∈ rs_T := rs_m3 215 rfl rfl
theorem qw_696 : Cond.code yX6_readsRing cX6_readsRing 1 (some FieldType.boolean) ∈ rs_T := rs_m3 216 rfl rfl
theorem qw_697 : Cond.methodLink RX6 136 yX6_layRings ∈ rs_T := rs_m3 217 rfl rfl
theorem qw_698 : Cond.privateMethod yX6_layRings ∈ lw_tbl := rs_n3 218 rfl
theorem qw_699 : Cond.instanceMethod yX6_layRings ∈ rs_T := rs_m3 219 rfl rfl
theorem qw_700 : Cond.code yX6_layRings cX6_layRings 4 none ∈ rs_T := rs_m3 220 rfl rfl
theorem qw_701 : Cond.methodLink RX6 65 yX6_lays ∈ rs_T := rs_m3 221 rfl rfl
theorem qw_702 : Cond.privateMethod yX6_lays ∈ lw_tbl := rs_n3 222 rfl
theorem qw_703 : Cond.instanceMethod yX6_lays ∈ rs_T := rs_m3 223 rfl rfl
theorem qw_704 : Cond.code yX6_lays cX6_lays 3 none ∈ rs_T := rs_m3 224 rfl rfl
theorem qw_705 : Cond.methodLink RX6 58 yX6_leanX ∈ rs_T := rs_m3 225 rfl rfl
theorem qw_706 : Cond.static yX6_leanX ∈ rs_T := rs_m3 226 rfl rfl
theorem qw_707 : Cond.code yX6_leanX cX6_leanX 1 (some FieldType.int) ∈ rs_T := rs_m3 227 rfl rfl
theorem qw_708 : Cond.methodLink RX6 62 yX6_leanY ∈ rs_T := rs_m3 228 rfl rfl
theorem qw_709 : Cond.static yX6_leanY ∈ rs_T := rs_m3 229 rfl rfl
theorem qw_710 : Cond.code yX6_leanY cX6_leanY 1 (some FieldType.int) ∈ rs_T := rs_m3 230 rfl rfl
theorem qw_711 : Cond.methodLink RX6 140 yX6_mayBe ∈ rs_T := rs_m3 231 rfl rfl
theorem qw_712 : Cond.privateMethod yX6_mayBe ∈ lw_tbl := rs_n3 232 rfl
theorem qw_713 : Cond.instanceMethod yX6_mayBe ∈ rs_T := rs_m3 233 rfl rfl
theorem qw_714 : Cond.code yX6_mayBe cX6_mayBe 7 (some FieldType.boolean) ∈ rs_T := rs_m3 234 rfl rfl
theorem qw_715 : Cond.methodLink RX6 69 yX6_far ∈ rs_T := rs_m3 235 rfl rfl
theorem qw_716 : Cond.static yX6_far ∈ rs_T := rs_m3 236 rfl rfl
theorem qw_717 : Cond.code yX6_far cX6_far 1 (some FieldType.int) ∈ rs_T := rs_m3 237 rfl rfl
theorem qw_718 : Cond.methodLink RX6 72 yX6_isBarred ∈ rs_T := rs_m3 238 rfl rfl
theorem qw_719 : Cond.static yX6_isBarred ∈ rs_T := rs_m3 239 rfl rfl
theorem qw_720 : Cond.code yX6_isBarred cX6_isBarred 4 (some FieldType.boolean) ∈ rs_T := rs_m4 0 rfl rfl
theorem qw_721 : Cond.methodLink RL 30 yX6_builds ∈ rs_T := rs_m4 1 rfl rfl
theorem qw_722 : Cond.instanceMethod yX6_builds ∈ rs_T := rs_m4 2 rfl rfl
theorem qw_723 : Cond.selects RX6 yX6_builds yX6_builds ∈ rs_T := rs_m4 3 rfl rfl
theorem qw_724 : Cond.code yX6_builds cX6_builds 2 (some FieldType.int) ∈ rs_T := rs_m4 4 rfl rfl
theorem qw_725 : Cond.methodLink RX6 168 yX6_mayBeNext ∈ rs_T := rs_m4 5 rfl rfl
theorem qw_726 : Cond.privateMethod yX6_mayBeNext ∈ lw_tbl := rs_n4 6 rfl
theorem qw_727 : Cond.instanceMethod yX6_mayBeNext ∈ rs_T := rs_m4 7 rfl rfl
theorem qw_728 : Cond.code yX6_mayBeNext cX6_mayBeNext 2 (some FieldType.boolean) ∈ rs_T := rs_m4 8 rfl rfl
theorem qw_729 : Cond.methodLink RX6 171 yX6_laysKey ∈ rs_T := rs_m4 9 rfl rfl
theorem qw_730 : Cond.privateMethod yX6_laysKey ∈ lw_tbl := rs_n4 10 rfl
theorem qw_731 : Cond.instanceMethod yX6_laysKey ∈ rs_T := rs_m4 11 rfl rfl
theorem qw_732 : Cond.code yX6_laysKey cX6_laysKey 2 none ∈ rs_T := rs_m4 12 rfl rfl
theorem qw_733 : Cond.methodLink RX6 165 yX6_remember ∈ rs_T := rs_m4 13 rfl rfl
theorem qw_734 : Cond.privateMethod yX6_remember ∈ lw_tbl := rs_n4 14 rfl
theorem qw_735 : Cond.instanceMethod yX6_remember ∈ rs_T := rs_m4 15 rfl rfl
theorem qw_736 : Cond.code yX6_remember cX6_remember 2 none ∈ rs_T := rs_m4 16 rfl rfl
theorem qw_737 : Cond.methodLink RX6 175 yX6_costOf ∈ rs_T := rs_m4 17 rfl rfl
theorem qw_738 : Cond.privateMethod yX6_costOf ∈ lw_tbl := rs_n4 18 rfl
theorem qw_739 : Cond.instanceMethod yX6_costOf ∈ rs_T := rs_m4 19 rfl rfl
theorem qw_740 : Cond.code yX6_costOf cX6_costOf 4 (some FieldType.int) ∈ rs_T := rs_m4 20 rfl rfl
theorem qw_741 : Cond.methodLink RL 34 yX6_follows ∈ rs_T := rs_m4 21 rfl rfl
theorem qw_742 : Cond.instanceMethod yX6_follows ∈ rs_T := rs_m4 22 rfl rfl
theorem qw_743 : Cond.selects RX6 yX6_follows yX6_follows ∈ rs_T := rs_m4 23 rfl rfl
theorem qw_744 : Cond.code yX6_follows cX6_follows 3 (some FieldType.int) ∈ rs_T := rs_m4 24 rfl rfl
theorem qw_745 : Cond.methodLink RX6 178 yX6_layPlan ∈ rs_T := rs_m4 25 rfl rfl
theorem qw_746 : Cond.privateMethod yX6_layPlan ∈ lw_tbl := rs_n4 26 rfl
theorem qw_747 : Cond.instanceMethod yX6_layPlan ∈ rs_T := rs_m4 27 rfl rfl
theorem qw_748 : Cond.code yX6_layPlan cX6_layPlan 7 none ∈ rs_T := rs_m4 28 rfl rfl
theorem qw_749 : Cond.methodLink RX6 187 yX6_keyOf ∈ rs_T := rs_m4 29 rfl rfl
theorem qw_750 : Cond.static yX6_keyOf ∈ rs_T := rs_m4 30 rfl rfl
theorem qw_751 : Cond.code yX6_keyOf cX6_keyOf 3 (some FieldType.int) ∈ rs_T := rs_m4 31 rfl rfl
theorem qw_752 : Cond.methodLink RL 39 yX6_wishes ∈ rs_T := rs_m4 32 rfl rfl
theorem qw_753 : Cond.instanceMethod yX6_wishes ∈ rs_T := rs_m4 33 rfl rfl
theorem qw_754 : Cond.selects RX6 yX6_wishes yX6_wishes ∈ rs_T := rs_m4 34 rfl rfl
theorem qw_755 : Cond.code yX6_wishes cX6_wishes 4 (some FieldType.int) ∈ rs_T := rs_m4 35 rfl rfl
theorem qw_756 : Cond.methodLink RL 44 yX6_rules ∈ rs_T := rs_m4 36 rfl rfl
theorem qw_757 : Cond.instanceMethod yX6_rules ∈ rs_T := rs_m4 37 rfl rfl
theorem qw_758 : Cond.selects RX6 yX6_rules yX6_rules ∈ rs_T := rs_m4 38 rfl rfl
theorem qw_759 : Cond.code yX6_rules cX6_rules 4 (some FieldType.int) ∈ rs_T := rs_m4 39 rfl rfl
theorem qw_760 : Cond.methodLink RL 48 yX6_undo ∈ rs_T := rs_m4 40 rfl rfl
theorem qw_761 : Cond.instanceMethod yX6_undo ∈ rs_T := rs_m4 41 rfl rfl
theorem qw_762 : Cond.selects RX6 yX6_undo yX6_undo ∈ rs_T := rs_m4 42 rfl rfl
theorem qw_763 : Cond.code yX6_undo cX6_undo 2 (some FieldType.int) ∈ rs_T := rs_m4 43 rfl rfl
theorem qw_764 : Cond.methodLink RL 52 yX6_ring ∈ rs_T := rs_m4 44 rfl rfl
theorem qw_765 : Cond.instanceMethod yX6_ring ∈ rs_T := rs_m4 45 rfl rfl
theorem qw_766 : Cond.selects RX6 yX6_ring yX6_ring ∈ rs_T := rs_m4 46 rfl rfl
theorem qw_767 : Cond.code yX6_ring cX6_ring 3 (some FieldType.int) ∈ rs_T := rs_m4 47 rfl rfl
theorem qw_768 : Cond.constant RX6 191 (-1000000) ∈ rs_T := rs_m4 48 rfl rfl
theorem qw_769 : Cond.methodLink RL 56 yX6_wish ∈ rs_T := rs_m4 49 rfl rfl
theorem qw_770 : Cond.instanceMethod yX6_wish ∈ rs_T := rs_m4 50 rfl rfl
theorem qw_771 : Cond.selects RX6 yX6_wish yX6_wish ∈ rs_T := rs_m4 51 rfl rfl
theorem qw_772 : Cond.code yX6_wish cX6_wish 3 (some FieldType.int) ∈ rs_T := rs_m4 52 rfl rfl
theorem qw_773 : Cond.methodLink RL 60 yX6_worst ∈ rs_T := rs_m4 53 rfl rfl
theorem qw_774 : Cond.instanceMethod yX6_worst ∈ rs_T := rs_m4 54 rfl rfl
theorem qw_775 : Cond.selects RX6 yX6_worst yX6_worst ∈ rs_T := rs_m4 55 rfl rfl
theorem qw_776 : Cond.code yX6_worst cX6_worst 5 (some FieldType.int) ∈ rs_T := rs_m4 56 rfl rfl
theorem qw_777 : Cond.methodLink RL 64 yX6_plan ∈ rs_T := rs_m4 57 rfl rfl
theorem qw_778 : Cond.instanceMethod yX6_plan ∈ rs_T := rs_m4 58 rfl rfl
theorem qw_779 : Cond.selects RX6 yX6_plan yX6_plan ∈ rs_T := rs_m4 59 rfl rfl
theorem qw_780 : Cond.code yX6_plan cX6_plan 3 (some FieldType.int) ∈ rs_T := rs_m4 60 rfl rfl
theorem qw_781 : Cond.methodLink RL 68 yX6_trying ∈ rs_T := rs_m4 61 rfl rfl
theorem qw_782 : Cond.instanceMethod yX6_trying ∈ rs_T := rs_m4 62 rfl rfl
theorem qw_783 : Cond.selects RX6 yX6_trying yX6_trying ∈ rs_T := rs_m4 63 rfl rfl
theorem qw_784 : Cond.code yX6_trying cX6_trying 2 (some FieldType.int) ∈ rs_T := rs_m4 64 rfl rfl
theorem qw_785 : Cond.methodLink RL 72 yX6_sees ∈ rs_T := rs_m4 65 rfl rfl
theorem qw_786 : Cond.instanceMethod yX6_sees ∈ rs_T := rs_m4 66 rfl rfl
theorem qw_787 : Cond.selects RX6 yX6_sees yX6_sees ∈ rs_T := rs_m4 67 rfl rfl
theorem qw_788 : Cond.code yX6_sees cX6_sees 3 (some FieldType.int) ∈ rs_T := rs_m4 68 rfl rfl
theorem qw_789 : Cond.methodLink RL 76 yX6_forget ∈ rs_T := rs_m4 69 rfl rfl
theorem qw_790 : Cond.instanceMethod yX6_forget ∈ rs_T := rs_m4 70 rfl rfl
theorem qw_791 : Cond.selects RX6 yX6_forget yX6_forget ∈ rs_T := rs_m4 71 rfl rfl
theorem qw_792 : Cond.code yX6_forget cX6_forget 2 (some FieldType.int) ∈ rs_T := rs_m4 72 rfl rfl
theorem qw_793 : Cond.methodLink RL 80 yX6_unseen ∈ rs_T := rs_m4 73 rfl rfl
theorem qw_794 : Cond.instanceMethod yX6_unseen ∈ rs_T := rs_m4 74 rfl rfl
theorem qw_795 : Cond.selects RX6 yX6_unseen yX6_unseen ∈ rs_T := rs_m4 75 rfl rfl
theorem qw_796 : Cond.code yX6_unseen cX6_unseen 6 (some FieldType.int) ∈ rs_T := rs_m4 76 rfl rfl
theorem qw_797 : Cond.methodLink RX6 195 yX6_layAgain ∈ rs_T := rs_m4 77 rfl rfl
theorem qw_798 : Cond.privateMethod yX6_layAgain ∈ lw_tbl := rs_n4 78 rfl
theorem qw_799 : Cond.instanceMethod yX6_layAgain ∈ rs_T := rs_m4 79 rfl rfl
theorem qw_800 : Cond.code yX6_layAgain cX6_layAgain 3 none ∈ rs_T := rs_m4 80 rfl rfl
theorem qw_801 : Cond.methodLink RL 84 yX6_odds ∈ rs_T := rs_m4 81 rfl rfl
theorem qw_802 : Cond.instanceMethod yX6_odds ∈ rs_T := rs_m4 82 rfl rfl
theorem qw_803 : Cond.selects RX6 yX6_odds yX6_odds ∈ rs_T := rs_m4 83 rfl rfl
theorem qw_804 : Cond.code yX6_odds cX6_odds 16 (some FieldType.int) ∈ rs_T := rs_m4 84 rfl rfl
theorem qw_805 : Cond.constantLong RX6 198 (10 : Int64) ∈ rs_T := rs_m4 85 rfl rfl
theorem qw_806 : Cond.methodLink RL 88 yX6_keep ∈ rs_T := rs_m4 86 rfl rfl
theorem qw_807 : Cond.instanceMethod yX6_keep ∈ rs_T := rs_m4 87 rfl rfl
theorem qw_808 : Cond.selects RX6 yX6_keep yX6_keep ∈ rs_T := rs_m4 88 rfl rfl
theorem qw_809 : Cond.code yX6_keep cX6_keep 3 (some FieldType.int) ∈ rs_T := rs_m4 89 rfl rfl
theorem qw_810 : Cond.methodLink RL 92 yX6_back ∈ rs_T := rs_m4 90 rfl rfl
theorem qw_811 : Cond.instanceMethod yX6_back ∈ rs_T := rs_m4 91 rfl rfl
theorem qw_812 : Cond.selects RX6 yX6_back yX6_back ∈ rs_T := rs_m4 92 rfl rfl
theorem qw_813 : Cond.code yX6_back cX6_back 3 (some FieldType.int) ∈ rs_T := rs_m4 93 rfl rfl
theorem qw_814 : Cond.methodLink RL 96 yX6_count ∈ rs_T := rs_m4 94 rfl rfl
theorem qw_815 : Cond.instanceMethod yX6_count ∈ rs_T := rs_m4 95 rfl rfl
theorem qw_816 : Cond.selects RX6 yX6_count yX6_count ∈ rs_T := rs_m4 96 rfl rfl
theorem qw_817 : Cond.code yX6_count cX6_count 2 (some FieldType.int) ∈ rs_T := rs_m4 97 rfl rfl
theorem qw_818 : Cond.methodLink RX6 200 yX6_nextKeys ∈ rs_T := rs_m4 98 rfl rfl
theorem qw_819 : Cond.privateMethod yX6_nextKeys ∈ lw_tbl := rs_n4 99 rfl
theorem qw_820 : Cond.instanceMethod yX6_nextKeys ∈ rs_T := rs_m4 100 rfl rfl
theorem qw_821 : Cond.code yX6_nextKeys cX6_nextKeys 3 (some FieldType.int) ∈ rs_T := rs_m4 101 rfl rfl
theorem qw_822 : Cond.methodLink RX6 204 yX6_allCosts ∈ rs_T := rs_m4 102 rfl rfl
theorem qw_823 : Cond.privateMethod yX6_allCosts ∈ lw_tbl := rs_n4 103 rfl
theorem qw_824 : Cond.instanceMethod yX6_allCosts ∈ rs_T := rs_m4 104 rfl rfl
theorem qw_825 : Cond.code yX6_allCosts cX6_allCosts 3 (some FieldType.int) ∈ rs_T := rs_m4 105 rfl rfl
theorem rs_ms {w : Cond} (i : Nat) (h : (k2_sels lw_privs)[i]? = some w) (g : goodWord w = true) : w ∈ rs_T := List.mem_filter.mpr ⟨List.mem_append_left _ (List.mem_of_getElem? h), g⟩
theorem qs_0 : Cond.selects RX2 yX2_toNextToken yX2_toNextToken ∈ rs_T := rs_ms 0 rfl rfl
theorem qs_1 : Cond.selects RX2 yX2_kindAt yX2_kindAt ∈ rs_T := rs_ms 1 rfl rfl
theorem qs_2 : Cond.selects RX2 yX2_digitAt yX2_digitAt ∈ rs_T := rs_ms 2 rfl rfl
theorem qs_3 : Cond.selects RX2 yX2_readItem yX2_readItem ∈ rs_T := rs_ms 3 rfl rfl
theorem qs_4 : Cond.selects RX2 yX2_readTaper yX2_readTaper ∈ rs_T := rs_ms 4 rfl rfl
theorem qs_5 : Cond.selects RX2 yX2_readRule yX2_readRule ∈ rs_T := rs_ms 5 rfl rfl
theorem qs_6 : Cond.selects RX2 yX2_readWish yX2_readWish ∈ rs_T := rs_ms 6 rfl rfl
theorem qs_7 : Cond.selects RX2 yX2_readSigned yX2_readSigned ∈ rs_T := rs_ms 7 rfl rfl
theorem qs_8 : Cond.selects RX2 yX2_readKey yX2_readKey ∈ rs_T := rs_ms 8 rfl rfl
theorem qs_9 : Cond.selects RX1 yX1_isBarred yX1_isBarred ∈ rs_T := rs_ms 9 rfl rfl
theorem qs_10 : Cond.selects RX1 yX1_hasRoom yX1_hasRoom ∈ rs_T := rs_ms 10 rfl rfl
theorem qs_11 : Cond.selects RX5 yX5_lineChanged yX5_lineChanged ∈ rs_T := rs_ms 11 rfl rfl
theorem qs_12 : Cond.selects RX5 yX5_buildKnown yX5_buildKnown ∈ rs_T := rs_ms 12 rfl rfl
theorem qs_13 : Cond.selects RX0 yX0_loseOldest yX0_loseOldest ∈ rs_T := rs_ms 13 rfl rfl
theorem qs_14 : Cond.selects RX3 yX3_note yX3_note ∈ rs_T := rs_ms 14 rfl rfl
theorem qs_15 : Cond.selects RX5 yX5_explainsAllSeen yX5_explainsAllSeen ∈ rs_T := rs_ms 15 rfl rfl
theorem qs_16 : Cond.selects RX5 yX5_nearParts yX5_nearParts ∈ rs_T := rs_ms 16 rfl rfl
theorem qs_17 : Cond.selects RX5 yX5_slip yX5_slip ∈ rs_T := rs_ms 17 rfl rfl
theorem qs_18 : Cond.selects RX6 yX6_blanks yX6_blanks ∈ rs_T := rs_ms 18 rfl rfl
theorem qs_19 : Cond.selects RX6 yX6_readsItem yX6_readsItem ∈ rs_T := rs_ms 19 rfl rfl
theorem qs_20 : Cond.selects RX6 yX6_next yX6_next ∈ rs_T := rs_ms 20 rfl rfl
theorem qs_21 : Cond.selects RX6 yX6_isFigure yX6_isFigure ∈ rs_T := rs_ms 21 rfl rfl
theorem qs_22 : Cond.selects RX6 yX6_readsOnce yX6_readsOnce ∈ rs_T := rs_ms 22 rfl rfl
theorem qs_23 : Cond.selects RX6 yX6_fails yX6_fails ∈ rs_T := rs_ms 23 rfl rfl
theorem qs_24 : Cond.selects RX6 yX6_number yX6_number ∈ rs_T := rs_ms 24 rfl rfl
theorem qs_25 : Cond.selects RX6 yX6_ends yX6_ends ∈ rs_T := rs_ms 25 rfl rfl
theorem qs_26 : Cond.selects RX6 yX6_readsWish yX6_readsWish ∈ rs_T := rs_ms 26 rfl rfl
theorem qs_27 : Cond.selects RX6 yX6_whole yX6_whole ∈ rs_T := rs_ms 27 rfl rfl
theorem qs_28 : Cond.selects RX6 yX6_readsRing yX6_readsRing ∈ rs_T := rs_ms 28 rfl rfl
theorem qs_29 : Cond.selects RX6 yX6_layRings yX6_layRings ∈ rs_T := rs_ms 29 rfl rfl
theorem qs_30 : Cond.selects RX6 yX6_lays yX6_lays ∈ rs_T := rs_ms 30 rfl rfl
theorem qs_31 : Cond.selects RX6 yX6_mayBe yX6_mayBe ∈ rs_T := rs_ms 31 rfl rfl
theorem qs_32 : Cond.selects RX6 yX6_mayBeNext yX6_mayBeNext ∈ rs_T := rs_ms 32 rfl rfl
theorem qs_33 : Cond.selects RX6 yX6_laysKey yX6_laysKey ∈ rs_T := rs_ms 33 rfl rfl
theorem qs_34 : Cond.selects RX6 yX6_remember yX6_remember ∈ rs_T := rs_ms 34 rfl rfl
theorem qs_35 : Cond.selects RX6 yX6_costOf yX6_costOf ∈ rs_T := rs_ms 35 rfl rfl
theorem qs_36 : Cond.selects RX6 yX6_layPlan yX6_layPlan ∈ rs_T := rs_ms 36 rfl rfl
theorem qs_37 : Cond.selects RX6 yX6_layAgain yX6_layAgain ∈ rs_T := rs_ms 37 rfl rfl
theorem qs_38 : Cond.selects RX6 yX6_nextKeys yX6_nextKeys ∈ rs_T := rs_ms 38 rfl rfl
theorem qs_39 : Cond.selects RX6 yX6_allCosts yX6_allCosts ∈ rs_T := rs_ms 39 rfl rfl
end
section
/-! the memory of a world of fixed cells: cell number, then place (field or element); every cell is of a kind: int row 0, boolean row 1, row of Spots 2, row of Lines 3, object of class t: t + 4 -/
abbrev rs_M : Type := Nat → Nat → Int32
def rs_st (M : rs_M) (c k : Nat) (v : Int32) : rs_M := fun c' k' => if c' = c ∧ k' = k then v else M c' k'
abbrev rs_G : Type := va_G × (ClassId × ClassId × ClassId × ClassId) × (Nat → Nat)
abbrev rs_k : Type := Nat × Nat × List Nat
def rs_fl (ad : Nat → Nat) (f : Nat → Int32) : Nat → List Nat → List Value
  | _, [] => []
  | j, 0 :: l => .int (f j) :: rs_fl ad f (j + 1) l
  | j, (n + 1) :: l => .ref (ad n) :: rs_fl ad f (j + 1) l
theorem rs_fl_len (ad : Nat → Nat) (f : Nat → Int32) : ∀ (l : List Nat) (j : Nat), (rs_fl ad f j l).length = l.length
  | [], _ => rfl
  | 0 :: l, j => by simp only [rs_fl, List.length_cons, rs_fl_len ad f l]
  | (n + 1) :: l, j => by simp only [rs_fl, List.length_cons, rs_fl_len ad f l]
theorem rs_fl_0 (ad : Nat → Nat) (f : Nat → Int32) : ∀ (l : List Nat) (j i : Nat), l[i]? = some 0 → (rs_fl ad f j l)[i]? = some (.int (f (j + i)))
  | [], j, i, h => by simp at h
  | 0 :: l, j, 0, h => by simp [rs_fl]
  | (n + 1) :: l, j, 0, h => by simp at h
  | 0 :: l, j, i + 1, h => by
    have := rs_fl_0 ad f l (j + 1) i (by simpa using h)
    simp only [rs_fl, List.getElem?_cons_succ, this]
    rw [show j + 1 + i = j + (i + 1) by omega]
  | (n + 1) :: l, j, i + 1, h => by
    have := rs_fl_0 ad f l (j + 1) i (by simpa using h)
    simp only [rs_fl, List.getElem?_cons_succ, this]
    rw [show j + 1 + i = j + (i + 1) by omega]
theorem rs_fl_s (ad : Nat → Nat) (f : Nat → Int32) : ∀ (l : List Nat) (j i n : Nat), l[i]? = some (n + 1) → (rs_fl ad f j l)[i]? = some (.ref (ad n))
  | [], j, i, n, h => by simp at h
  | 0 :: l, j, 0, n, h => by simp at h
  | (k + 1) :: l, j, 0, n, h => by
    have : k = n := by simpa using h
    simp [rs_fl, this]
  | 0 :: l, j, i + 1, n, h => by
    have := rs_fl_s ad f l (j + 1) i n (by simpa using h)
    simp only [rs_fl, List.getElem?_cons_succ, this]
  | (k + 1) :: l, j, i + 1, n, h => by
    have := rs_fl_s ad f l (j + 1) i n (by simpa using h)
    simp only [rs_fl, List.getElem?_cons_succ, this]
theorem rs_fl_same (ad : Nat → Nat) (f : Nat → Int32) (v : Int32) : ∀ (l : List Nat) (j k : Nat), k < j → rs_fl ad (upd f k v) j l = rs_fl ad f j l
  | [], _, _, _ => rfl
  | 0 :: l, j, k, h => by
    simp only [rs_fl, rs_fl_same ad f v l (j + 1) k (by omega), upd, if_neg (show ¬ j = k by omega)]
  | (n + 1) :: l, j, k, h => by
    simp only [rs_fl, rs_fl_same ad f v l (j + 1) k (by omega)]
theorem rs_fl_set (ad : Nat → Nat) (f : Nat → Int32) (v : Int32) : ∀ (l : List Nat) (j i : Nat), l[i]? = some 0 → (rs_fl ad f j l).set i (.int v) = rs_fl ad (upd f (j + i) v) j l
  | [], j, i, h => by simp at h
  | 0 :: l, j, 0, h => by
    simp only [rs_fl, List.set_cons_zero, Nat.add_zero, rs_fl_same ad f v l (j + 1) j (by omega)]
    simp [upd]
  | (n + 1) :: l, j, 0, h => by simp at h
  | 0 :: l, j, i + 1, h => by
    have := rs_fl_set ad f v l (j + 1) i (by simpa using h)
    simp only [rs_fl, List.set_cons_succ, this]
    rw [show j + 1 + i = j + (i + 1) by omega]
    simp only [upd, if_neg (show ¬ j = j + (i + 1) by omega)]
  | (n + 1) :: l, j, i + 1, h => by
    have := rs_fl_set ad f v l (j + 1) i (by simpa using h)
    simp only [rs_fl, List.set_cons_succ, this]
    rw [show j + 1 + i = j + (i + 1) by omega]
def rs_E (g : rs_G) (k : rs_k) (f : Nat → Int32) : va_E := match k.1 with
  | 0 => .inl (g.2.1.1, k.2.1, .inl f)
  | 1 => .inl (g.2.1.2.1, k.2.1, .inl f)
  | 2 => .inl (g.2.1.2.2.1, k.2.1, .inr (.inr (.inr (.inr (fun i => (k.2.2[i]?).map g.2.2)))))
  | 3 => .inl (g.2.1.2.2.2, k.2.1, .inr (.inr (.inr (.inr (fun i => (k.2.2[i]?).map g.2.2)))))
  | t + 4 => .inr (t, rs_fl g.2.2 f 0 k.2.2)
def rs_ws (g : rs_G) (kd : List rs_k) (M : rs_M) : va_W := (List.range kd.length).map (fun c => (g.2.2 c, rs_E g (kd.getD c (0, 0, [])) (M c)))
theorem rs_ws_get {g : rs_G} {kd : List rs_k} {M : rs_M} {c : Nat} {k : rs_k} (h : kd[c]? = some k) : (rs_ws g kd M)[c]? = some (g.2.2 c, rs_E g k (M c)) := by
  have hl := (List.getElem?_eq_some_iff.mp h).1
  simp only [rs_ws, List.getElem?_map, List.getElem?_range hl, Option.map_some, List.getD, h, Option.getD_some]
theorem rs_ws_len (g : rs_G) (kd : List rs_k) (M : rs_M) : (rs_ws g kd M).length = kd.length := by simp [rs_ws]
theorem rs_ws_inv {g : rs_G} {kd : List rs_k} {M : rs_M} {c : Nat} {q : Nat × va_E} (h : (rs_ws g kd M)[c]? = some q) : c < kd.length ∧ q.1 = g.2.2 c := by
  have hl : c < kd.length := by rw [← rs_ws_len g kd M]; exact (List.getElem?_eq_some_iff.mp h).1
  obtain ⟨k, hk⟩ : ∃ k, kd[c]? = some k := ⟨_, List.getElem?_eq_getElem hl⟩
  rw [rs_ws_get hk] at h
  cases h
  exact ⟨hl, rfl⟩
theorem rs_ws_set {g : rs_G} {kd : List rs_k} {M M' : rs_M} {c : Nat} {k : rs_k} {e : va_E} (h : kd[c]? = some k) (he : e = rs_E g k (M' c)) (hM : ∀ c', c' ≠ c → M' c' = M c') : (rs_ws g kd M).set c (g.2.2 c, e) = rs_ws g kd M' := by
  have hl := (List.getElem?_eq_some_iff.mp h).1
  subst he
  apply List.ext_getElem?
  intro j
  by_cases hj : j = c
  · subst hj
    rw [List.getElem?_set_self (by rw [rs_ws_len]; exact hl), rs_ws_get h]
  · rw [List.getElem?_set_ne (Ne.symm hj)]
    by_cases hlt : j < kd.length
    · obtain ⟨k2, hk2⟩ : ∃ k2, kd[j]? = some k2 := ⟨_, List.getElem?_eq_getElem hlt⟩
      rw [rs_ws_get hk2, rs_ws_get hk2, hM j hj]
    · rw [List.getElem?_eq_none (by rw [rs_ws_len]; omega), List.getElem?_eq_none (by rw [rs_ws_len]; omega)]
theorem rs_st_row (M : rs_M) (c k : Nat) (v : Int32) : rs_st M c k v c = upd (M c) k v := by
  funext j
  simp [rs_st, upd]
theorem rs_st_ne (M : rs_M) {c c' : Nat} (k : Nat) (v : Int32) (h : c' ≠ c) : rs_st M c k v c' = M c' := by
  funext j
  simp [rs_st, h]
/-- which addresses may change -/
def rs_A (g : rs_G) (kd : List rs_k) (sz : Nat) : Nat → Prop := fun q => (∃ c, c < kd.length ∧ q = g.2.2 c) ∨ sz ≤ q
theorem rs_A_mono {g : rs_G} {kd : List rs_k} {a b : Nat} (h : a ≤ b) : ∀ q, rs_A g kd b q → rs_A g kd a q := fun q hq => hq.elim Or.inl (fun h2 => Or.inr (Nat.le_trans h h2))
theorem rs_A_eq (g : rs_G) (kd : List rs_k) (M : rs_M) (sz : Nat) : va_A (rs_ws g kd M) sz = rs_A g kd sz := by
  funext q
  apply propext
  constructor
  · rintro (⟨k, e, h⟩ | h)
    · obtain ⟨h1, h2⟩ := rs_ws_inv h
      exact Or.inl ⟨k, h1, h2⟩
    · exact Or.inr h
  · rintro (⟨c, h1, h2⟩ | h)
    · obtain ⟨k, hk⟩ : ∃ k, kd[c]? = some k := ⟨_, List.getElem?_eq_getElem h1⟩
      exact Or.inl ⟨c, rs_E g k (M c), by rw [rs_ws_get hk, h2]⟩
    · exact Or.inr h
/-- what the tables and the tables' arrays say, beside the words -/
def rs_tys (g : rs_G) : List (ClassId × FieldType) := [(g.2.1.1, .int), (g.2.1.2.1, .boolean), (g.2.1.2.2.1, .object RX4), (g.2.1.2.2.2, .object RX1)]
def rs_nest : List (String × Nat × MethodName) := [(RX1, 40, yX4_init), (RX2, 42, yX5_isWithin), (RX1, 45, yX5_isWithin), (RX5, 29, yX2_init), (RX5, 36, yX0_init), (RX5, 50, yX4_init), (RX3, 31, yX4_init), (RX2, 74, yX5_isRule), (RX2, 90, yX5_isKey), (RX1, 80, yX5_leanX), (RX1, 90, yX5_leanY), (RX4, 30, yX5_leanX), (RX4, 34, yX5_leanY), (RX0, 31, yX5_isWithin)]
def rs_N (g : rs_G) (U : State) : Prop := va_K g.1 vwCl (rs_tys g) U ∧ ∀ q ∈ rs_nest, va_Nw (.methodLinkNest q.1 q.2.1 q.2.2 "RingSteer") U
theorem rs_N.warm {g : rs_G} {s U : State} (h : rs_N g s) (hW : s.WarmedH U.vm) : rs_N g U := ⟨va_K.moved hW.alike h.1, fun q hq => va_Nw.warmM hW (h.2 q hq)⟩
theorem rs_N.same {g : rs_G} {s U : State} (h : rs_N g s) (e : s.vm = U.vm) : rs_N g U := ⟨va_K.moved (by rw [e]; exact Vm.Alike.refl U.vm) h.1, fun q hq => va_Nw.same rfl e (h.2 q hq)⟩
def rs_lX : Nat → Int32 := fun k => match k with
  | 0 => 2 | 1 => 1 | 2 => 0 | 3 => -1 | 4 => -2 | 5 => -1 | 6 => 0 | 7 => 1 | _ => 0
def rs_lY : Nat → Int32 := fun k => match k with
  | 0 => 0 | 1 => 1 | 2 => 2 | 3 => 1 | 4 => 0 | 5 => -1 | 6 => -2 | 7 => -1 | _ => 0
def rs_Z (t : Nat × Nat) (A : Nat → Prop) (U : State) (H : Heap) : Prop :=
  (va_Z "RingSteer" "LEAN_X" "[I" (.ref t.1) A U H ∧ va_T .int t.1 8 (fun k => .int (rs_lX k)) A U H) ∧ (va_Z "RingSteer" "LEAN_Y" "[I" (.ref t.2) A U H ∧ va_T .int t.2 8 (fun k => .int (rs_lY k)) A U H)
theorem rs_Z.moved {t : Nat × Nat} {A : Nat → Prop} {u U : State} {H : Heap} (hvm : u.vm.Alike U.vm) (h : rs_Z t A u H) : rs_Z t A U H := ⟨⟨va_Z.moved hvm h.1.1, va_T.moved hvm h.1.2⟩, ⟨va_Z.moved hvm h.2.1, va_T.moved hvm h.2.2⟩⟩
theorem rs_Z.kept {t : Nat × Nat} {A : Nat → Prop} {U : State} {H H1 : Heap} (h : rs_Z t A U H) (hq : ∀ a : Nat, a < H.size → ¬ A a → H1[a]? = H[a]?) : rs_Z t A U H1 := ⟨⟨h.1.1.kept hq, h.1.2.kept hq⟩, ⟨h.2.1.kept hq, h.2.2.kept hq⟩⟩
theorem rs_Z.narrow {t : Nat × Nat} {A B : Nat → Prop} {U : State} {H : Heap} (h : rs_Z t A U H) (hAB : ∀ q, B q → A q) : rs_Z t B U H := ⟨⟨h.1.1.narrow hAB, h.1.2.narrow hAB⟩, ⟨h.2.1.narrow hAB, h.2.2.narrow hAB⟩⟩
/-- a method's start -/
def rs_pre (g : rs_G) (kd : List rs_k) (t : Nat × Nat) (M : rs_M) (sz : Nat) (U : State) : Prop :=
  U.heap.size = sz ∧ va_P g.1 vwCl (rs_ws g kd M) U.heap ∧ rs_N g U ∧ va_D (rs_A g kd sz) (rs_ws g kd M) ∧ rs_Z t (rs_A g kd sz) U U.heap
def rs_post (g : rs_G) (kd : List rs_k) (sz : Nat) (M : rs_M) (U : State) : Prop := va_P g.1 vwCl (rs_ws g kd M) U.heap ∧ va_D (rs_A g kd sz) (rs_ws g kd M)
def rs_R (d : Nat) : Room := { frames := d, cells := 0, slots := 0, locals := 40 * d }
/-- the contracts: an answer that is an int (or boolean), none, a reference to a cell -/
def rs_Ci (l : Launch) (g : rs_G) (kd : List rs_k) (t : Nat × Nat) (y : MethodName) (cc : ByteArray) (n : Nat) (ret : FieldType) (d : Nat) (av : List Value) (M : rs_M) (post : Int32 → rs_M → Prop) : Prop :=
  ∀ sz, Met l y (.code y cc n (some ret) :: rs_T) (rs_R d) (va_Pc av (rs_pre g kd t M sz)) (va_Qi post (rs_post g kd sz) (rs_A g kd sz)) 0 0 (rs_A g kd sz)
def rs_Cv (l : Launch) (g : rs_G) (kd : List rs_k) (t : Nat × Nat) (y : MethodName) (cc : ByteArray) (n : Nat) (d : Nat) (av : List Value) (M : rs_M) (post : rs_M → Prop) : Prop :=
  ∀ sz, Met l y (.code y cc n none :: rs_T) (rs_R d) (va_Pc av (rs_pre g kd t M sz)) (va_Qv post (rs_post g kd sz) (rs_A g kd sz)) 0 0 (rs_A g kd sz)
def rs_Cr (l : Launch) (g : rs_G) (kd : List rs_k) (t : Nat × Nat) (y : MethodName) (cc : ByteArray) (n : Nat) (ret : FieldType) (d : Nat) (av : List Value) (M : rs_M) (post : Nat → rs_M → Prop) : Prop :=
  ∀ sz, Met l y (.code y cc n (some ret) :: rs_T) (rs_R d) (va_Pc av (rs_pre g kd t M sz)) (va_Qr (fun u : Nat × rs_M => post u.1 u.2) (fun u a U => a = g.2.2 u.1 ∧ rs_post g kd sz u.2 U) (rs_A g kd sz)) 0 0 (rs_A g kd sz)
/-- the machine in a method's body, as a judgement over memory, place, locals and stack -/
def rs_I (g : rs_G) (kd : List rs_k) (s : State) (M : rs_M) (H : Heap) (locs : List Loc) : Prop :=
  va_P g.1 vwCl (rs_ws g kd M) H ∧ va_D (rs_A g kd s.heap.size) (rs_ws g kd M) ∧ va_S (rs_A g kd s.heap.size) s.heap H locs
abbrev rs_Y : Type := rs_M → Nat → List (Nat × Value) → List Value → Prop
def rs_J (p : Program) (l : Launch) (e : Env) (d : Nat) (s : State) (m : MethodId) (args : Array Value) (below : List Frame) (meth : Method) (c : Code) (Q : State → Prop) (g : rs_G) (kd : List rs_k) (nL : Nat) : rs_Y := fun M pc lv stk =>
  ∀ (H : Heap) (locs : List Loc) (ls : Array Slot), rs_I g kd s M H locs → lv_has ls nL lv → W p l e (rs_R d) s m args below meth c H locs 0 0 Q (F0 m pc ls stk)
def rs_K (l : Launch) (g : rs_G) (kd : List rs_k) (t : Nat × Nat) (cc : ByteArray) (nL : Nat) (own : String) (d : Nat) (Y : rs_Y) : Prop :=
  ∃ (p : Program) (e : Env) (s : State) (m : MethodId) (args : Array Value) (below : List Frame) (meth : Method) (c : Code) (Q : State → Prop), Y = rs_J p l e d s m args below meth c Q g kd nL ∧
    p.tables.exec = Jvm.exec ∧ c.code = cc ∧ c.maxLocals = nL ∧ s.vm.findClass own = some m.cls ∧ (∀ w ∈ rs_T, w.before args s = true) ∧ rs_N g s ∧ rs_Z t (rs_A g kd s.heap.size) s s.heap
end
section
theorem r_iconst {l : Launch} {g : rs_G} {kd : List rs_k} {t : Nat × Nat} {cc : ByteArray} {nL : Nat} {own : String} {d : Nat} {Y : rs_Y} (K : rs_K l g kd t cc nL own d Y) {M : rs_M} {pc : Nat} {lv : List (Nat × Value)} {rest : List Value} {n : Int} {v : Int32} (hd : decode cc pc = .ok (.iconst n, 1)) (hv : Int32.ofInt n = v) (k : Y M (pc + 1) lv (.int v :: rest)) : Y M pc lv rest := by
  obtain ⟨p, e, s, m, args, below, meth, cd, Q, rfl, hx, hb, hml, hown, hts, hN, hZ⟩ := K
  intro H locs ls hI hl
  exact lv_iconst hx hb hd hv (k H locs ls hI hl)
theorem r_bipush {l : Launch} {g : rs_G} {kd : List rs_k} {t : Nat × Nat} {cc : ByteArray} {nL : Nat} {own : String} {d : Nat} {Y : rs_Y} (K : rs_K l g kd t cc nL own d Y) {M : rs_M} {pc : Nat} {lv : List (Nat × Value)} {rest : List Value} {n : Int} {v : Int32} (hd : decode cc pc = .ok (.bipush n, 2)) (hv : (Int8.ofInt n).toInt32 = v) (k : Y M (pc + 2) lv (.int v :: rest)) : Y M pc lv rest := by
  obtain ⟨p, e, s, m, args, below, meth, cd, Q, rfl, hx, hb, hml, hown, hts, hN, hZ⟩ := K
  intro H locs ls hI hl
  exact lv_bipush hx hb hd hv (k H locs ls hI hl)
theorem r_sipush {l : Launch} {g : rs_G} {kd : List rs_k} {t : Nat × Nat} {cc : ByteArray} {nL : Nat} {own : String} {d : Nat} {Y : rs_Y} (K : rs_K l g kd t cc nL own d Y) {M : rs_M} {pc : Nat} {lv : List (Nat × Value)} {rest : List Value} {n : Int} {v : Int32} (hd : decode cc pc = .ok (.sipush n, 3)) (hv : (Int16.ofInt n).toInt32 = v) (k : Y M (pc + 3) lv (.int v :: rest)) : Y M pc lv rest := by
  obtain ⟨p, e, s, m, args, below, meth, cd, Q, rfl, hx, hb, hml, hown, hts, hN, hZ⟩ := K
  intro H locs ls hI hl
  exact lv_sipush hx hb hd hv (k H locs ls hI hl)
theorem r_lconst {l : Launch} {g : rs_G} {kd : List rs_k} {t : Nat × Nat} {cc : ByteArray} {nL : Nat} {own : String} {d : Nat} {Y : rs_Y} (K : rs_K l g kd t cc nL own d Y) {M : rs_M} {pc : Nat} {lv : List (Nat × Value)} {rest : List Value} {n : Fin 2} {v : Int64} (hd : decode cc pc = .ok (.lconst n, 1)) (hv : Int64.ofNat (n : Nat) = v) (k : Y M (pc + 1) lv (.long v :: rest)) : Y M pc lv rest := by
  obtain ⟨p, e, s, m, args, below, meth, cd, Q, rfl, hx, hb, hml, hown, hts, hN, hZ⟩ := K
  intro H locs ls hI hl
  exact lv_lconst hx hb hd hv (k H locs ls hI hl)
theorem r_ldc {l : Launch} {g : rs_G} {kd : List rs_k} {t : Nat × Nat} {cc : ByteArray} {nL : Nat} {own : String} {d : Nat} {Y : rs_Y} (K : rs_K l g kd t cc nL own d Y) {M : rs_M} {pc : Nat} {lv : List (Nat × Value)} {rest : List Value} {n : Nat} {v : Int32} (hd : decode cc pc = .ok (.ldc n, 2)) (hq : Cond.constant own n v ∈ rs_T) (k : Y M (pc + 2) lv (.int v :: rest)) : Y M pc lv rest := by
  obtain ⟨p, e, s, m, args, below, meth, cd, Q, rfl, hx, hb, hml, hown, hts, hN, hZ⟩ := K
  intro H locs ls hI hl
  exact lv_ldc hx hb hown (hts _ hq) hd (k H locs ls hI hl)
theorem r_ldc2 {l : Launch} {g : rs_G} {kd : List rs_k} {t : Nat × Nat} {cc : ByteArray} {nL : Nat} {own : String} {d : Nat} {Y : rs_Y} (K : rs_K l g kd t cc nL own d Y) {M : rs_M} {pc : Nat} {lv : List (Nat × Value)} {rest : List Value} {n : Nat} {v : Int64} (hd : decode cc pc = .ok (.ldc2_w n, 3)) (hq : Cond.constantLong own n v ∈ rs_T) (k : Y M (pc + 3) lv (.long v :: rest)) : Y M pc lv rest := by
  obtain ⟨p, e, s, m, args, below, meth, cd, Q, rfl, hx, hb, hml, hown, hts, hN, hZ⟩ := K
  intro H locs ls hI hl
  exact lv_ldc2 hx hb hown (hts _ hq) hd (k H locs ls hI hl)
theorem r_iload_n {l : Launch} {g : rs_G} {kd : List rs_k} {t : Nat × Nat} {cc : ByteArray} {nL : Nat} {own : String} {d : Nat} {Y : rs_Y} (K : rs_K l g kd t cc nL own d Y) {M : rs_M} {pc : Nat} {lv : List (Nat × Value)} {rest : List Value} {n : Fin 4} {i : Nat} {x : Int32} (j : Nat) (hd : decode cc pc = .ok (.iload_n n, 1)) (hi : (n : Nat) = i) (hv : lv[j]? = some (i, .int x)) (k : Y M (pc + 1) lv (.int x :: rest)) : Y M pc lv rest := by
  obtain ⟨p, e, s, m, args, below, meth, cd, Q, rfl, hx, hb, hml, hown, hts, hN, hZ⟩ := K
  intro H locs ls hI hl
  exact lv_iload_n hx hb hd hi (lv_at hl j hv) (k H locs ls hI hl)
theorem r_iload {l : Launch} {g : rs_G} {kd : List rs_k} {t : Nat × Nat} {cc : ByteArray} {nL : Nat} {own : String} {d : Nat} {Y : rs_Y} (K : rs_K l g kd t cc nL own d Y) {M : rs_M} {pc : Nat} {lv : List (Nat × Value)} {rest : List Value} {i : Nat} {x : Int32} (j : Nat) (hd : decode cc pc = .ok (.iload i, 2)) (hv : lv[j]? = some (i, .int x)) (k : Y M (pc + 2) lv (.int x :: rest)) : Y M pc lv rest := by
  obtain ⟨p, e, s, m, args, below, meth, cd, Q, rfl, hx, hb, hml, hown, hts, hN, hZ⟩ := K
  intro H locs ls hI hl
  exact lv_iload hx hb hd (lv_at hl j hv) (k H locs ls hI hl)
theorem r_aload_n {l : Launch} {g : rs_G} {kd : List rs_k} {t : Nat × Nat} {cc : ByteArray} {nL : Nat} {own : String} {d : Nat} {Y : rs_Y} (K : rs_K l g kd t cc nL own d Y) {M : rs_M} {pc : Nat} {lv : List (Nat × Value)} {rest : List Value} {n : Fin 4} {i : Nat} {x : Nat} (j : Nat) (hd : decode cc pc = .ok (.aload_n n, 1)) (hi : (n : Nat) = i) (hv : lv[j]? = some (i, .ref x)) (k : Y M (pc + 1) lv (.ref x :: rest)) : Y M pc lv rest := by
  obtain ⟨p, e, s, m, args, below, meth, cd, Q, rfl, hx, hb, hml, hown, hts, hN, hZ⟩ := K
  intro H locs ls hI hl
  exact lv_aload_n hx hb hd hi (lv_at hl j hv) (k H locs ls hI hl)
theorem r_aload {l : Launch} {g : rs_G} {kd : List rs_k} {t : Nat × Nat} {cc : ByteArray} {nL : Nat} {own : String} {d : Nat} {Y : rs_Y} (K : rs_K l g kd t cc nL own d Y) {M : rs_M} {pc : Nat} {lv : List (Nat × Value)} {rest : List Value} {i : Nat} {x : Nat} (j : Nat) (hd : decode cc pc = .ok (.aload i, 2)) (hv : lv[j]? = some (i, .ref x)) (k : Y M (pc + 2) lv (.ref x :: rest)) : Y M pc lv rest := by
  obtain ⟨p, e, s, m, args, below, meth, cd, Q, rfl, hx, hb, hml, hown, hts, hN, hZ⟩ := K
  intro H locs ls hI hl
  exact lv_aload hx hb hd (lv_at hl j hv) (k H locs ls hI hl)
theorem r_lload {l : Launch} {g : rs_G} {kd : List rs_k} {t : Nat × Nat} {cc : ByteArray} {nL : Nat} {own : String} {d : Nat} {Y : rs_Y} (K : rs_K l g kd t cc nL own d Y) {M : rs_M} {pc : Nat} {lv : List (Nat × Value)} {rest : List Value} {i : Nat} {x : Int64} (j : Nat) (hd : decode cc pc = .ok (.lload i, 2)) (hv : lv[j]? = some (i, .long x)) (k : Y M (pc + 2) lv (.long x :: rest)) : Y M pc lv rest := by
  obtain ⟨p, e, s, m, args, below, meth, cd, Q, rfl, hx, hb, hml, hown, hts, hN, hZ⟩ := K
  intro H locs ls hI hl
  exact lv_lload hx hb hd (lv_at hl j hv) (k H locs ls hI hl)
theorem r_istore_n {l : Launch} {g : rs_G} {kd : List rs_k} {t : Nat × Nat} {cc : ByteArray} {nL : Nat} {own : String} {d : Nat} {Y : rs_Y} (K : rs_K l g kd t cc nL own d Y) {M : rs_M} {pc : Nat} {lv : List (Nat × Value)} {rest : List Value} {n : Fin 4} {i : Nat} {x : Int32} (lv1 : List (Nat × Value)) (hd : decode cc pc = .ok (.istore_n n, 1)) (hi : (n : Nat) = i) (hn : i < nL) (hv : (i, Value.int x) :: lv.filter (fun q => !(q.1 == i) && !(q.1 + 1 == i && q.2.category == 2)) = lv1) (k : Y M (pc + 1) lv1 rest) : Y M pc lv (.int x :: rest) := by
  obtain ⟨p, e, s, m, args, below, meth, cd, Q, rfl, hx, hb, hml, hown, hts, hN, hZ⟩ := K
  intro H locs ls hI hl
  exact lv_istore_n hx hb hd hi hl hn hv (fun ls1 hl1 => k H locs ls1 hI hl1)
theorem r_istore {l : Launch} {g : rs_G} {kd : List rs_k} {t : Nat × Nat} {cc : ByteArray} {nL : Nat} {own : String} {d : Nat} {Y : rs_Y} (K : rs_K l g kd t cc nL own d Y) {M : rs_M} {pc : Nat} {lv : List (Nat × Value)} {rest : List Value} {i : Nat} {x : Int32} (lv1 : List (Nat × Value)) (hd : decode cc pc = .ok (.istore i, 2)) (hn : i < nL) (hv : (i, Value.int x) :: lv.filter (fun q => !(q.1 == i) && !(q.1 + 1 == i && q.2.category == 2)) = lv1) (k : Y M (pc + 2) lv1 rest) : Y M pc lv (.int x :: rest) := by
  obtain ⟨p, e, s, m, args, below, meth, cd, Q, rfl, hx, hb, hml, hown, hts, hN, hZ⟩ := K
  intro H locs ls hI hl
  exact lv_istore hx hb hd hl hn hv (fun ls1 hl1 => k H locs ls1 hI hl1)
theorem r_astore_n {l : Launch} {g : rs_G} {kd : List rs_k} {t : Nat × Nat} {cc : ByteArray} {nL : Nat} {own : String} {d : Nat} {Y : rs_Y} (K : rs_K l g kd t cc nL own d Y) {M : rs_M} {pc : Nat} {lv : List (Nat × Value)} {rest : List Value} {n : Fin 4} {i : Nat} {x : Nat} (lv1 : List (Nat × Value)) (hd : decode cc pc = .ok (.astore_n n, 1)) (hi : (n : Nat) = i) (hn : i < nL) (hv : (i, Value.ref x) :: lv.filter (fun q => !(q.1 == i) && !(q.1 + 1 == i && q.2.category == 2)) = lv1) (k : Y M (pc + 1) lv1 rest) : Y M pc lv (.ref x :: rest) := by
  obtain ⟨p, e, s, m, args, below, meth, cd, Q, rfl, hx, hb, hml, hown, hts, hN, hZ⟩ := K
  intro H locs ls hI hl
  exact lv_astore_n hx hb hd hi hl hn hv (fun ls1 hl1 => k H locs ls1 hI hl1)
theorem r_astore {l : Launch} {g : rs_G} {kd : List rs_k} {t : Nat × Nat} {cc : ByteArray} {nL : Nat} {own : String} {d : Nat} {Y : rs_Y} (K : rs_K l g kd t cc nL own d Y) {M : rs_M} {pc : Nat} {lv : List (Nat × Value)} {rest : List Value} {i : Nat} {x : Nat} (lv1 : List (Nat × Value)) (hd : decode cc pc = .ok (.astore i, 2)) (hn : i < nL) (hv : (i, Value.ref x) :: lv.filter (fun q => !(q.1 == i) && !(q.1 + 1 == i && q.2.category == 2)) = lv1) (k : Y M (pc + 2) lv1 rest) : Y M pc lv (.ref x :: rest) := by
  obtain ⟨p, e, s, m, args, below, meth, cd, Q, rfl, hx, hb, hml, hown, hts, hN, hZ⟩ := K
  intro H locs ls hI hl
  exact lv_astore hx hb hd hl hn hv (fun ls1 hl1 => k H locs ls1 hI hl1)
theorem r_lstore {l : Launch} {g : rs_G} {kd : List rs_k} {t : Nat × Nat} {cc : ByteArray} {nL : Nat} {own : String} {d : Nat} {Y : rs_Y} (K : rs_K l g kd t cc nL own d Y) {M : rs_M} {pc : Nat} {lv : List (Nat × Value)} {rest : List Value} {i : Nat} {x : Int64} (lv1 : List (Nat × Value)) (hd : decode cc pc = .ok (.lstore i, 2)) (hn : i + 1 < nL) (hv : (i, Value.long x) :: lv.filter (fun q => !(q.1 == i) && (!(q.1 == i + 1) && !(q.1 + 1 == i && q.2.category == 2))) = lv1) (k : Y M (pc + 2) lv1 rest) : Y M pc lv (.long x :: rest) := by
  obtain ⟨p, e, s, m, args, below, meth, cd, Q, rfl, hx, hb, hml, hown, hts, hN, hZ⟩ := K
  intro H locs ls hI hl
  exact lv_lstore hx hb hd hl hn hv (fun ls1 hl1 => k H locs ls1 hI hl1)
theorem r_iinc {l : Launch} {g : rs_G} {kd : List rs_k} {t : Nat × Nat} {cc : ByteArray} {nL : Nat} {own : String} {d : Nat} {Y : rs_Y} (K : rs_K l g kd t cc nL own d Y) {M : rs_M} {pc : Nat} {lv : List (Nat × Value)} {rest : List Value} {i : Nat} {n : Int} {x v : Int32} (j : Nat) (lv1 : List (Nat × Value)) (hd : decode cc pc = .ok (.iinc i n, 3)) (hj : lv[j]? = some (i, .int x)) (hx1 : x + Int32.ofInt n = v) (hn : i < nL) (hv : (i, Value.int v) :: lv.filter (fun q => !(q.1 == i) && !(q.1 + 1 == i && q.2.category == 2)) = lv1) (k : Y M (pc + 3) lv1 rest) : Y M pc lv rest := by
  obtain ⟨p, e, s, m, args, below, meth, cd, Q, rfl, hx, hb, hml, hown, hts, hN, hZ⟩ := K
  intro H locs ls hI hl
  exact lv_iinc hx hb hd hl hj hx1 hn hv (fun ls1 hl1 => k H locs ls1 hI hl1)
theorem r_iadd {l : Launch} {g : rs_G} {kd : List rs_k} {t : Nat × Nat} {cc : ByteArray} {nL : Nat} {own : String} {d : Nat} {Y : rs_Y} (K : rs_K l g kd t cc nL own d Y) {M : rs_M} {pc : Nat} {lv : List (Nat × Value)} {rest : List Value} {x y : Int32} (hd : decode cc pc = .ok (.iadd, 1)) (k : Y M (pc + 1) lv (.int (x + y) :: rest)) : Y M pc lv (.int y :: .int x :: rest) := by
  obtain ⟨p, e, s, m, args, below, meth, cd, Q, rfl, hx, hb, hml, hown, hts, hN, hZ⟩ := K
  intro H locs ls hI hl
  exact lv_iadd hx hb hd (k H locs ls hI hl)
theorem r_isub {l : Launch} {g : rs_G} {kd : List rs_k} {t : Nat × Nat} {cc : ByteArray} {nL : Nat} {own : String} {d : Nat} {Y : rs_Y} (K : rs_K l g kd t cc nL own d Y) {M : rs_M} {pc : Nat} {lv : List (Nat × Value)} {rest : List Value} {x y : Int32} (hd : decode cc pc = .ok (.isub, 1)) (k : Y M (pc + 1) lv (.int (x - y) :: rest)) : Y M pc lv (.int y :: .int x :: rest) := by
  obtain ⟨p, e, s, m, args, below, meth, cd, Q, rfl, hx, hb, hml, hown, hts, hN, hZ⟩ := K
  intro H locs ls hI hl
  exact lv_isub hx hb hd (k H locs ls hI hl)
theorem r_imul {l : Launch} {g : rs_G} {kd : List rs_k} {t : Nat × Nat} {cc : ByteArray} {nL : Nat} {own : String} {d : Nat} {Y : rs_Y} (K : rs_K l g kd t cc nL own d Y) {M : rs_M} {pc : Nat} {lv : List (Nat × Value)} {rest : List Value} {x y : Int32} (hd : decode cc pc = .ok (.imul, 1)) (k : Y M (pc + 1) lv (.int (x * y) :: rest)) : Y M pc lv (.int y :: .int x :: rest) := by
  obtain ⟨p, e, s, m, args, below, meth, cd, Q, rfl, hx, hb, hml, hown, hts, hN, hZ⟩ := K
  intro H locs ls hI hl
  exact lv_imul hx hb hd (k H locs ls hI hl)
theorem r_iand {l : Launch} {g : rs_G} {kd : List rs_k} {t : Nat × Nat} {cc : ByteArray} {nL : Nat} {own : String} {d : Nat} {Y : rs_Y} (K : rs_K l g kd t cc nL own d Y) {M : rs_M} {pc : Nat} {lv : List (Nat × Value)} {rest : List Value} {x y : Int32} (hd : decode cc pc = .ok (.iand, 1)) (k : Y M (pc + 1) lv (.int (x &&& y) :: rest)) : Y M pc lv (.int y :: .int x :: rest) := by
  obtain ⟨p, e, s, m, args, below, meth, cd, Q, rfl, hx, hb, hml, hown, hts, hN, hZ⟩ := K
  intro H locs ls hI hl
  exact lv_iand hx hb hd (k H locs ls hI hl)
theorem r_ior {l : Launch} {g : rs_G} {kd : List rs_k} {t : Nat × Nat} {cc : ByteArray} {nL : Nat} {own : String} {d : Nat} {Y : rs_Y} (K : rs_K l g kd t cc nL own d Y) {M : rs_M} {pc : Nat} {lv : List (Nat × Value)} {rest : List Value} {x y : Int32} (hd : decode cc pc = .ok (.ior, 1)) (k : Y M (pc + 1) lv (.int (x ||| y) :: rest)) : Y M pc lv (.int y :: .int x :: rest) := by
  obtain ⟨p, e, s, m, args, below, meth, cd, Q, rfl, hx, hb, hml, hown, hts, hN, hZ⟩ := K
  intro H locs ls hI hl
  exact lv_ior hx hb hd (k H locs ls hI hl)
theorem r_ixor {l : Launch} {g : rs_G} {kd : List rs_k} {t : Nat × Nat} {cc : ByteArray} {nL : Nat} {own : String} {d : Nat} {Y : rs_Y} (K : rs_K l g kd t cc nL own d Y) {M : rs_M} {pc : Nat} {lv : List (Nat × Value)} {rest : List Value} {x y : Int32} (hd : decode cc pc = .ok (.ixor, 1)) (k : Y M (pc + 1) lv (.int (x ^^^ y) :: rest)) : Y M pc lv (.int y :: .int x :: rest) := by
  obtain ⟨p, e, s, m, args, below, meth, cd, Q, rfl, hx, hb, hml, hown, hts, hN, hZ⟩ := K
  intro H locs ls hI hl
  exact lv_ixor hx hb hd (k H locs ls hI hl)
theorem r_ishl {l : Launch} {g : rs_G} {kd : List rs_k} {t : Nat × Nat} {cc : ByteArray} {nL : Nat} {own : String} {d : Nat} {Y : rs_Y} (K : rs_K l g kd t cc nL own d Y) {M : rs_M} {pc : Nat} {lv : List (Nat × Value)} {rest : List Value} {x y : Int32} (hd : decode cc pc = .ok (.ishl, 1)) (k : Y M (pc + 1) lv (.int (x <<< (y &&& 31)) :: rest)) : Y M pc lv (.int y :: .int x :: rest) := by
  obtain ⟨p, e, s, m, args, below, meth, cd, Q, rfl, hx, hb, hml, hown, hts, hN, hZ⟩ := K
  intro H locs ls hI hl
  exact lv_ishl hx hb hd (k H locs ls hI hl)
theorem r_ishr {l : Launch} {g : rs_G} {kd : List rs_k} {t : Nat × Nat} {cc : ByteArray} {nL : Nat} {own : String} {d : Nat} {Y : rs_Y} (K : rs_K l g kd t cc nL own d Y) {M : rs_M} {pc : Nat} {lv : List (Nat × Value)} {rest : List Value} {x y : Int32} (hd : decode cc pc = .ok (.ishr, 1)) (k : Y M (pc + 1) lv (.int (x >>> (y &&& 31)) :: rest)) : Y M pc lv (.int y :: .int x :: rest) := by
  obtain ⟨p, e, s, m, args, below, meth, cd, Q, rfl, hx, hb, hml, hown, hts, hN, hZ⟩ := K
  intro H locs ls hI hl
  exact lv_ishr hx hb hd (k H locs ls hI hl)
theorem r_iushr {l : Launch} {g : rs_G} {kd : List rs_k} {t : Nat × Nat} {cc : ByteArray} {nL : Nat} {own : String} {d : Nat} {Y : rs_Y} (K : rs_K l g kd t cc nL own d Y) {M : rs_M} {pc : Nat} {lv : List (Nat × Value)} {rest : List Value} {x y : Int32} (hd : decode cc pc = .ok (.iushr, 1)) (k : Y M (pc + 1) lv (.int ((x.toUInt32 >>> (y.toUInt32 &&& Int32.toUInt32 31)).toInt32) :: rest)) : Y M pc lv (.int y :: .int x :: rest) := by
  obtain ⟨p, e, s, m, args, below, meth, cd, Q, rfl, hx, hb, hml, hown, hts, hN, hZ⟩ := K
  intro H locs ls hI hl
  exact lv_iushr hx hb hd rfl (k H locs ls hI hl)
theorem r_ineg {l : Launch} {g : rs_G} {kd : List rs_k} {t : Nat × Nat} {cc : ByteArray} {nL : Nat} {own : String} {d : Nat} {Y : rs_Y} (K : rs_K l g kd t cc nL own d Y) {M : rs_M} {pc : Nat} {lv : List (Nat × Value)} {rest : List Value} {x : Int32} (hd : decode cc pc = .ok (.ineg, 1)) (k : Y M (pc + 1) lv (.int (-x) :: rest)) : Y M pc lv (.int x :: rest) := by
  obtain ⟨p, e, s, m, args, below, meth, cd, Q, rfl, hx, hb, hml, hown, hts, hN, hZ⟩ := K
  intro H locs ls hI hl
  exact lv_ineg hx hb hd (k H locs ls hI hl)
theorem r_idiv {l : Launch} {g : rs_G} {kd : List rs_k} {t : Nat × Nat} {cc : ByteArray} {nL : Nat} {own : String} {d : Nat} {Y : rs_Y} (K : rs_K l g kd t cc nL own d Y) {M : rs_M} {pc : Nat} {lv : List (Nat × Value)} {rest : List Value} {x y : Int32} (hd : decode cc pc = .ok (.idiv, 1)) (h0 : ¬ y = 0) (k : Y M (pc + 1) lv (.int (x / y) :: rest)) : Y M pc lv (.int y :: .int x :: rest) := by
  obtain ⟨p, e, s, m, args, below, meth, cd, Q, rfl, hx, hb, hml, hown, hts, hN, hZ⟩ := K
  intro H locs ls hI hl
  exact lv_idiv hx hb hd h0 (k H locs ls hI hl)
theorem r_irem {l : Launch} {g : rs_G} {kd : List rs_k} {t : Nat × Nat} {cc : ByteArray} {nL : Nat} {own : String} {d : Nat} {Y : rs_Y} (K : rs_K l g kd t cc nL own d Y) {M : rs_M} {pc : Nat} {lv : List (Nat × Value)} {rest : List Value} {x y : Int32} (hd : decode cc pc = .ok (.irem, 1)) (h0 : ¬ y = 0) (k : Y M (pc + 1) lv (.int (x - x / y * y) :: rest)) : Y M pc lv (.int y :: .int x :: rest) := by
  obtain ⟨p, e, s, m, args, below, meth, cd, Q, rfl, hx, hb, hml, hown, hts, hN, hZ⟩ := K
  intro H locs ls hI hl
  exact lv_irem hx hb hd h0 (k H locs ls hI hl)
theorem r_ladd {l : Launch} {g : rs_G} {kd : List rs_k} {t : Nat × Nat} {cc : ByteArray} {nL : Nat} {own : String} {d : Nat} {Y : rs_Y} (K : rs_K l g kd t cc nL own d Y) {M : rs_M} {pc : Nat} {lv : List (Nat × Value)} {rest : List Value} {x y : Int64} (hd : decode cc pc = .ok (.ladd, 1)) (k : Y M (pc + 1) lv (.long (x + y) :: rest)) : Y M pc lv (.long y :: .long x :: rest) := by
  obtain ⟨p, e, s, m, args, below, meth, cd, Q, rfl, hx, hb, hml, hown, hts, hN, hZ⟩ := K
  intro H locs ls hI hl
  exact lv_ladd hx hb hd (k H locs ls hI hl)
theorem r_lmul {l : Launch} {g : rs_G} {kd : List rs_k} {t : Nat × Nat} {cc : ByteArray} {nL : Nat} {own : String} {d : Nat} {Y : rs_Y} (K : rs_K l g kd t cc nL own d Y) {M : rs_M} {pc : Nat} {lv : List (Nat × Value)} {rest : List Value} {x y : Int64} (hd : decode cc pc = .ok (.lmul, 1)) (k : Y M (pc + 1) lv (.long (x * y) :: rest)) : Y M pc lv (.long y :: .long x :: rest) := by
  obtain ⟨p, e, s, m, args, below, meth, cd, Q, rfl, hx, hb, hml, hown, hts, hN, hZ⟩ := K
  intro H locs ls hI hl
  exact lv_lmul hx hb hd (k H locs ls hI hl)
theorem r_ldiv {l : Launch} {g : rs_G} {kd : List rs_k} {t : Nat × Nat} {cc : ByteArray} {nL : Nat} {own : String} {d : Nat} {Y : rs_Y} (K : rs_K l g kd t cc nL own d Y) {M : rs_M} {pc : Nat} {lv : List (Nat × Value)} {rest : List Value} {x y : Int64} (hd : decode cc pc = .ok (.ldiv, 1)) (h0 : ¬ y = 0) (k : Y M (pc + 1) lv (.long (x / y) :: rest)) : Y M pc lv (.long y :: .long x :: rest) := by
  obtain ⟨p, e, s, m, args, below, meth, cd, Q, rfl, hx, hb, hml, hown, hts, hN, hZ⟩ := K
  intro H locs ls hI hl
  exact lv_ldiv hx hb hd h0 (k H locs ls hI hl)
theorem r_lrem {l : Launch} {g : rs_G} {kd : List rs_k} {t : Nat × Nat} {cc : ByteArray} {nL : Nat} {own : String} {d : Nat} {Y : rs_Y} (K : rs_K l g kd t cc nL own d Y) {M : rs_M} {pc : Nat} {lv : List (Nat × Value)} {rest : List Value} {x y : Int64} (hd : decode cc pc = .ok (.lrem, 1)) (h0 : ¬ y = 0) (k : Y M (pc + 1) lv (.long (x - x / y * y) :: rest)) : Y M pc lv (.long y :: .long x :: rest) := by
  obtain ⟨p, e, s, m, args, below, meth, cd, Q, rfl, hx, hb, hml, hown, hts, hN, hZ⟩ := K
  intro H locs ls hI hl
  exact lv_lrem hx hb hd h0 (k H locs ls hI hl)
theorem r_lcmp {l : Launch} {g : rs_G} {kd : List rs_k} {t : Nat × Nat} {cc : ByteArray} {nL : Nat} {own : String} {d : Nat} {Y : rs_Y} (K : rs_K l g kd t cc nL own d Y) {M : rs_M} {pc : Nat} {lv : List (Nat × Value)} {rest : List Value} {x y : Int64} (hd : decode cc pc = .ok (.lcmp, 1)) (k : Y M (pc + 1) lv (.int (lg_cmp x y) :: rest)) : Y M pc lv (.long y :: .long x :: rest) := by
  obtain ⟨p, e, s, m, args, below, meth, cd, Q, rfl, hx, hb, hml, hown, hts, hN, hZ⟩ := K
  intro H locs ls hI hl
  exact W.lcmp hx hb hd (k H locs ls hI hl)
theorem r_i2l {l : Launch} {g : rs_G} {kd : List rs_k} {t : Nat × Nat} {cc : ByteArray} {nL : Nat} {own : String} {d : Nat} {Y : rs_Y} (K : rs_K l g kd t cc nL own d Y) {M : rs_M} {pc : Nat} {lv : List (Nat × Value)} {rest : List Value} {x : Int32} (hd : decode cc pc = .ok (.i2l, 1)) (k : Y M (pc + 1) lv (.long x.toInt64 :: rest)) : Y M pc lv (.int x :: rest) := by
  obtain ⟨p, e, s, m, args, below, meth, cd, Q, rfl, hx, hb, hml, hown, hts, hN, hZ⟩ := K
  intro H locs ls hI hl
  exact lv_i2l hx hb hd rfl (k H locs ls hI hl)
theorem r_l2i {l : Launch} {g : rs_G} {kd : List rs_k} {t : Nat × Nat} {cc : ByteArray} {nL : Nat} {own : String} {d : Nat} {Y : rs_Y} (K : rs_K l g kd t cc nL own d Y) {M : rs_M} {pc : Nat} {lv : List (Nat × Value)} {rest : List Value} {x : Int64} (hd : decode cc pc = .ok (.l2i, 1)) (k : Y M (pc + 1) lv (.int x.toInt32 :: rest)) : Y M pc lv (.long x :: rest) := by
  obtain ⟨p, e, s, m, args, below, meth, cd, Q, rfl, hx, hb, hml, hown, hts, hN, hZ⟩ := K
  intro H locs ls hI hl
  exact lv_l2i hx hb hd rfl (k H locs ls hI hl)
theorem r_dup {l : Launch} {g : rs_G} {kd : List rs_k} {t : Nat × Nat} {cc : ByteArray} {nL : Nat} {own : String} {d : Nat} {Y : rs_Y} (K : rs_K l g kd t cc nL own d Y) {M : rs_M} {pc : Nat} {lv : List (Nat × Value)} {rest : List Value} {v : Value} (hd : decode cc pc = .ok (.dup, 1)) (hv : v.category = 1) (k : Y M (pc + 1) lv (v :: v :: rest)) : Y M pc lv (v :: rest) := by
  obtain ⟨p, e, s, m, args, below, meth, cd, Q, rfl, hx, hb, hml, hown, hts, hN, hZ⟩ := K
  intro H locs ls hI hl
  exact lv_dup hx hb hd hv (k H locs ls hI hl)
theorem r_dup2 {l : Launch} {g : rs_G} {kd : List rs_k} {t : Nat × Nat} {cc : ByteArray} {nL : Nat} {own : String} {d : Nat} {Y : rs_Y} (K : rs_K l g kd t cc nL own d Y) {M : rs_M} {pc : Nat} {lv : List (Nat × Value)} {rest : List Value} {v w : Value} (hd : decode cc pc = .ok (.dup2, 1)) (hv : v.category = 1) (hw : w.category = 1) (k : Y M (pc + 1) lv (v :: w :: v :: w :: rest)) : Y M pc lv (v :: w :: rest) := by
  obtain ⟨p, e, s, m, args, below, meth, cd, Q, rfl, hx, hb, hml, hown, hts, hN, hZ⟩ := K
  intro H locs ls hI hl
  exact lv_dup2_11 hx hb hd hv hw (k H locs ls hI hl)
theorem r_dup_x1 {l : Launch} {g : rs_G} {kd : List rs_k} {t : Nat × Nat} {cc : ByteArray} {nL : Nat} {own : String} {d : Nat} {Y : rs_Y} (K : rs_K l g kd t cc nL own d Y) {M : rs_M} {pc : Nat} {lv : List (Nat × Value)} {rest : List Value} {v w : Value} (hd : decode cc pc = .ok (.dup_x1, 1)) (hv : v.category = 1) (hw : w.category = 1) (k : Y M (pc + 1) lv (v :: w :: v :: rest)) : Y M pc lv (v :: w :: rest) := by
  obtain ⟨p, e, s, m, args, below, meth, cd, Q, rfl, hx, hb, hml, hown, hts, hN, hZ⟩ := K
  intro H locs ls hI hl
  exact lv_dup_x1 hx hb hd hv hw (k H locs ls hI hl)
theorem r_goto {l : Launch} {g : rs_G} {kd : List rs_k} {t : Nat × Nat} {cc : ByteArray} {nL : Nat} {own : String} {d : Nat} {Y : rs_Y} (K : rs_K l g kd t cc nL own d Y) {M : rs_M} {pc : Nat} {lv : List (Nat × Value)} {rest : List Value} {o : Int} (tgt : Nat) (hd : decode cc pc = .ok (.goto o, 3)) (ht : (pc : Int) + o = (tgt : Int)) (k : Y M tgt lv rest) : Y M pc lv rest := by
  obtain ⟨p, e, s, m, args, below, meth, cd, Q, rfl, hx, hb, hml, hown, hts, hN, hZ⟩ := K
  intro H locs ls hI hl
  exact lv_goto hx hb hd ht (k H locs ls hI hl)
theorem r_if_eq {l : Launch} {g : rs_G} {kd : List rs_k} {t : Nat × Nat} {cc : ByteArray} {nL : Nat} {own : String} {d : Nat} {Y : rs_Y} (K : rs_K l g kd t cc nL own d Y) {M : rs_M} {pc : Nat} {lv : List (Nat × Value)} {rest : List Value} {x : Int32} {o : Int} (tgt : Nat) (hd : decode cc pc = .ok (.ifCond .eq o, 3)) (ht : (pc : Int) + o = (tgt : Int)) (kt : x = 0 → Y M tgt lv rest) (kf : ¬ x = 0 → Y M (pc + 3) lv rest) : Y M pc lv (.int x :: rest) := by
  obtain ⟨p, e, s, m, args, below, meth, cd, Q, rfl, hx, hb, hml, hown, hts, hN, hZ⟩ := K
  intro H locs ls hI hl
  exact lv_if_eq hx hb hd ht (fun h => kt h H locs ls hI hl) (fun h => kf h H locs ls hI hl)
theorem r_icmp_eq {l : Launch} {g : rs_G} {kd : List rs_k} {t : Nat × Nat} {cc : ByteArray} {nL : Nat} {own : String} {d : Nat} {Y : rs_Y} (K : rs_K l g kd t cc nL own d Y) {M : rs_M} {pc : Nat} {lv : List (Nat × Value)} {rest : List Value} {x y : Int32} {o : Int} (tgt : Nat) (hd : decode cc pc = .ok (.if_icmp .eq o, 3)) (ht : (pc : Int) + o = (tgt : Int)) (kt : x = y → Y M tgt lv rest) (kf : ¬ x = y → Y M (pc + 3) lv rest) : Y M pc lv (.int y :: .int x :: rest) := by
  obtain ⟨p, e, s, m, args, below, meth, cd, Q, rfl, hx, hb, hml, hown, hts, hN, hZ⟩ := K
  intro H locs ls hI hl
  exact lv_icmp_eq hx hb hd ht (fun h => kt h H locs ls hI hl) (fun h => kf h H locs ls hI hl)
theorem r_if_ne {l : Launch} {g : rs_G} {kd : List rs_k} {t : Nat × Nat} {cc : ByteArray} {nL : Nat} {own : String} {d : Nat} {Y : rs_Y} (K : rs_K l g kd t cc nL own d Y) {M : rs_M} {pc : Nat} {lv : List (Nat × Value)} {rest : List Value} {x : Int32} {o : Int} (tgt : Nat) (hd : decode cc pc = .ok (.ifCond .ne o, 3)) (ht : (pc : Int) + o = (tgt : Int)) (kt : ¬ x = 0 → Y M tgt lv rest) (kf : x = 0 → Y M (pc + 3) lv rest) : Y M pc lv (.int x :: rest) := by
  obtain ⟨p, e, s, m, args, below, meth, cd, Q, rfl, hx, hb, hml, hown, hts, hN, hZ⟩ := K
  intro H locs ls hI hl
  exact lv_if_ne hx hb hd ht (fun h => kt h H locs ls hI hl) (fun h => kf h H locs ls hI hl)
theorem r_icmp_ne {l : Launch} {g : rs_G} {kd : List rs_k} {t : Nat × Nat} {cc : ByteArray} {nL : Nat} {own : String} {d : Nat} {Y : rs_Y} (K : rs_K l g kd t cc nL own d Y) {M : rs_M} {pc : Nat} {lv : List (Nat × Value)} {rest : List Value} {x y : Int32} {o : Int} (tgt : Nat) (hd : decode cc pc = .ok (.if_icmp .ne o, 3)) (ht : (pc : Int) + o = (tgt : Int)) (kt : ¬ x = y → Y M tgt lv rest) (kf : x = y → Y M (pc + 3) lv rest) : Y M pc lv (.int y :: .int x :: rest) := by
  obtain ⟨p, e, s, m, args, below, meth, cd, Q, rfl, hx, hb, hml, hown, hts, hN, hZ⟩ := K
  intro H locs ls hI hl
  exact lv_icmp_ne hx hb hd ht (fun h => kt h H locs ls hI hl) (fun h => kf h H locs ls hI hl)
theorem r_if_lt {l : Launch} {g : rs_G} {kd : List rs_k} {t : Nat × Nat} {cc : ByteArray} {nL : Nat} {own : String} {d : Nat} {Y : rs_Y} (K : rs_K l g kd t cc nL own d Y) {M : rs_M} {pc : Nat} {lv : List (Nat × Value)} {rest : List Value} {x : Int32} {o : Int} (tgt : Nat) (hd : decode cc pc = .ok (.ifCond .lt o, 3)) (ht : (pc : Int) + o = (tgt : Int)) (kt : x < 0 → Y M tgt lv rest) (kf : ¬ x < 0 → Y M (pc + 3) lv rest) : Y M pc lv (.int x :: rest) := by
  obtain ⟨p, e, s, m, args, below, meth, cd, Q, rfl, hx, hb, hml, hown, hts, hN, hZ⟩ := K
  intro H locs ls hI hl
  exact lv_if_lt hx hb hd ht (fun h => kt h H locs ls hI hl) (fun h => kf h H locs ls hI hl)
theorem r_icmp_lt {l : Launch} {g : rs_G} {kd : List rs_k} {t : Nat × Nat} {cc : ByteArray} {nL : Nat} {own : String} {d : Nat} {Y : rs_Y} (K : rs_K l g kd t cc nL own d Y) {M : rs_M} {pc : Nat} {lv : List (Nat × Value)} {rest : List Value} {x y : Int32} {o : Int} (tgt : Nat) (hd : decode cc pc = .ok (.if_icmp .lt o, 3)) (ht : (pc : Int) + o = (tgt : Int)) (kt : x < y → Y M tgt lv rest) (kf : ¬ x < y → Y M (pc + 3) lv rest) : Y M pc lv (.int y :: .int x :: rest) := by
  obtain ⟨p, e, s, m, args, below, meth, cd, Q, rfl, hx, hb, hml, hown, hts, hN, hZ⟩ := K
  intro H locs ls hI hl
  exact lv_icmp_lt hx hb hd ht (fun h => kt h H locs ls hI hl) (fun h => kf h H locs ls hI hl)
theorem r_if_ge {l : Launch} {g : rs_G} {kd : List rs_k} {t : Nat × Nat} {cc : ByteArray} {nL : Nat} {own : String} {d : Nat} {Y : rs_Y} (K : rs_K l g kd t cc nL own d Y) {M : rs_M} {pc : Nat} {lv : List (Nat × Value)} {rest : List Value} {x : Int32} {o : Int} (tgt : Nat) (hd : decode cc pc = .ok (.ifCond .ge o, 3)) (ht : (pc : Int) + o = (tgt : Int)) (kt : 0 ≤ x → Y M tgt lv rest) (kf : ¬ 0 ≤ x → Y M (pc + 3) lv rest) : Y M pc lv (.int x :: rest) := by
  obtain ⟨p, e, s, m, args, below, meth, cd, Q, rfl, hx, hb, hml, hown, hts, hN, hZ⟩ := K
  intro H locs ls hI hl
  exact lv_if_ge hx hb hd ht (fun h => kt h H locs ls hI hl) (fun h => kf h H locs ls hI hl)
theorem r_icmp_ge {l : Launch} {g : rs_G} {kd : List rs_k} {t : Nat × Nat} {cc : ByteArray} {nL : Nat} {own : String} {d : Nat} {Y : rs_Y} (K : rs_K l g kd t cc nL own d Y) {M : rs_M} {pc : Nat} {lv : List (Nat × Value)} {rest : List Value} {x y : Int32} {o : Int} (tgt : Nat) (hd : decode cc pc = .ok (.if_icmp .ge o, 3)) (ht : (pc : Int) + o = (tgt : Int)) (kt : y ≤ x → Y M tgt lv rest) (kf : ¬ y ≤ x → Y M (pc + 3) lv rest) : Y M pc lv (.int y :: .int x :: rest) := by
  obtain ⟨p, e, s, m, args, below, meth, cd, Q, rfl, hx, hb, hml, hown, hts, hN, hZ⟩ := K
  intro H locs ls hI hl
  exact lv_icmp_ge hx hb hd ht (fun h => kt h H locs ls hI hl) (fun h => kf h H locs ls hI hl)
theorem r_if_gt {l : Launch} {g : rs_G} {kd : List rs_k} {t : Nat × Nat} {cc : ByteArray} {nL : Nat} {own : String} {d : Nat} {Y : rs_Y} (K : rs_K l g kd t cc nL own d Y) {M : rs_M} {pc : Nat} {lv : List (Nat × Value)} {rest : List Value} {x : Int32} {o : Int} (tgt : Nat) (hd : decode cc pc = .ok (.ifCond .gt o, 3)) (ht : (pc : Int) + o = (tgt : Int)) (kt : 0 < x → Y M tgt lv rest) (kf : ¬ 0 < x → Y M (pc + 3) lv rest) : Y M pc lv (.int x :: rest) := by
  obtain ⟨p, e, s, m, args, below, meth, cd, Q, rfl, hx, hb, hml, hown, hts, hN, hZ⟩ := K
  intro H locs ls hI hl
  exact lv_if_gt hx hb hd ht (fun h => kt h H locs ls hI hl) (fun h => kf h H locs ls hI hl)
theorem r_icmp_gt {l : Launch} {g : rs_G} {kd : List rs_k} {t : Nat × Nat} {cc : ByteArray} {nL : Nat} {own : String} {d : Nat} {Y : rs_Y} (K : rs_K l g kd t cc nL own d Y) {M : rs_M} {pc : Nat} {lv : List (Nat × Value)} {rest : List Value} {x y : Int32} {o : Int} (tgt : Nat) (hd : decode cc pc = .ok (.if_icmp .gt o, 3)) (ht : (pc : Int) + o = (tgt : Int)) (kt : y < x → Y M tgt lv rest) (kf : ¬ y < x → Y M (pc + 3) lv rest) : Y M pc lv (.int y :: .int x :: rest) := by
  obtain ⟨p, e, s, m, args, below, meth, cd, Q, rfl, hx, hb, hml, hown, hts, hN, hZ⟩ := K
  intro H locs ls hI hl
  exact lv_icmp_gt hx hb hd ht (fun h => kt h H locs ls hI hl) (fun h => kf h H locs ls hI hl)
theorem r_if_le {l : Launch} {g : rs_G} {kd : List rs_k} {t : Nat × Nat} {cc : ByteArray} {nL : Nat} {own : String} {d : Nat} {Y : rs_Y} (K : rs_K l g kd t cc nL own d Y) {M : rs_M} {pc : Nat} {lv : List (Nat × Value)} {rest : List Value} {x : Int32} {o : Int} (tgt : Nat) (hd : decode cc pc = .ok (.ifCond .le o, 3)) (ht : (pc : Int) + o = (tgt : Int)) (kt : x ≤ 0 → Y M tgt lv rest) (kf : ¬ x ≤ 0 → Y M (pc + 3) lv rest) : Y M pc lv (.int x :: rest) := by
  obtain ⟨p, e, s, m, args, below, meth, cd, Q, rfl, hx, hb, hml, hown, hts, hN, hZ⟩ := K
  intro H locs ls hI hl
  exact lv_if_le hx hb hd ht (fun h => kt h H locs ls hI hl) (fun h => kf h H locs ls hI hl)
theorem r_icmp_le {l : Launch} {g : rs_G} {kd : List rs_k} {t : Nat × Nat} {cc : ByteArray} {nL : Nat} {own : String} {d : Nat} {Y : rs_Y} (K : rs_K l g kd t cc nL own d Y) {M : rs_M} {pc : Nat} {lv : List (Nat × Value)} {rest : List Value} {x y : Int32} {o : Int} (tgt : Nat) (hd : decode cc pc = .ok (.if_icmp .le o, 3)) (ht : (pc : Int) + o = (tgt : Int)) (kt : x ≤ y → Y M tgt lv rest) (kf : ¬ x ≤ y → Y M (pc + 3) lv rest) : Y M pc lv (.int y :: .int x :: rest) := by
  obtain ⟨p, e, s, m, args, below, meth, cd, Q, rfl, hx, hb, hml, hown, hts, hN, hZ⟩ := K
  intro H locs ls hI hl
  exact lv_icmp_le hx hb hd ht (fun h => kt h H locs ls hI hl) (fun h => kf h H locs ls hI hl)
theorem r_top {Y : rs_Y} {M : rs_M} {pc : Nat} {lv : List (Nat × Value)} {rest : List Value} {x : Int32} (k : ∀ y : Int32, y = x → Y M pc lv (.int y :: rest)) : Y M pc lv (.int x :: rest) := k x rfl
theorem r_top_eq {Y : rs_Y} {M : rs_M} {pc : Nat} {lv : List (Nat × Value)} {rest : List Value} {x : Int32} (y : Int32) (h : x = y) (k : Y M pc lv (.int y :: rest)) : Y M pc lv (.int x :: rest) := h ▸ k
theorem r_topl_eq {Y : rs_Y} {M : rs_M} {pc : Nat} {lv : List (Nat × Value)} {rest : List Value} {x : Int64} (y : Int64) (h : x = y) (k : Y M pc lv (.long y :: rest)) : Y M pc lv (.long x :: rest) := h ▸ k
theorem r_mem {Y : rs_Y} {M : rs_M} {pc : Nat} {lv : List (Nat × Value)} {rest : List Value} (M1 : rs_M) (h : M = M1) (k : Y M1 pc lv rest) : Y M pc lv rest := h ▸ k
def rs_ff (ti j : Nat) (C nm ds : String) (ty : FieldType) (fin : Bool) : Prop := ∃ (Cn : String) (T : u_T) (N : Nat) (ty0 : Nat → FieldType), vwCl[ti]? = some (Cn, T, N) ∧ j < N ∧ T j = (C, nm, ds, fin) ∧ (∀ w ∈ u_ws Cn T N, w ∈ rs_T) ∧ (∀ k, k < N → parseFieldDescriptor (T k).2.2.1 = some (ty0 k)) ∧ (∀ a, a < N → ∀ b, b < N → a ≠ b → (T a).2.1 ≠ (T b).2.1) ∧ parseFieldDescriptor ds = some ty
theorem r_getI {l : Launch} {g : rs_G} {kd : List rs_k} {t : Nat × Nat} {cc : ByteArray} {nL : Nat} {own : String} {d : Nat} {Y : rs_Y} (K : rs_K l g kd t cc nL own d Y) {M : rs_M} {pc : Nat} {lv : List (Nat × Value)} {rest : List Value} {c ti n j idx : Nat} {refs : List Nat} {C nm ds : String} {ty : FieldType} {fin : Bool} (hk : kd[c]? = some (ti + 4, n, refs)) (hj : refs[j]? = some 0) (ff : rs_ff ti j C nm ds ty fin) (hq : Cond.fieldLink own idx C nm ds ∈ rs_T) (hd : decode cc pc = .ok (.getfield idx, 3)) (k : Y M (pc + 3) lv (.int (M c j) :: rest)) : Y M pc lv (.ref (g.2.2 c) :: rest) := by
  obtain ⟨p, e, s, m, args, below, meth, cd, Q, rfl, hx, hb, hml, hown, hts, hN, hZ⟩ := K
  intro H locs ls hI hl
  obtain ⟨Cn, T, N, ty0, f1, f2, f3, f4, f5, f6, f7⟩ := ff
  have hv := rs_fl_0 g.2.2 (M c) refs 0 j hj
  rw [Nat.zero_add] at hv
  exact va_get (ref := C) hx hb hts f4 hown hN.1 hI.1 c (rs_ws_get hk) f1 j f2 (by rw [f3]; exact hts _ hq) (fun _ h9 => by rw [f3] at h9 ⊢; exact h9) hv hd (k H locs ls hI hl)
theorem r_getR {l : Launch} {g : rs_G} {kd : List rs_k} {t : Nat × Nat} {cc : ByteArray} {nL : Nat} {own : String} {d : Nat} {Y : rs_Y} (K : rs_K l g kd t cc nL own d Y) {M : rs_M} {pc : Nat} {lv : List (Nat × Value)} {rest : List Value} {c ti n j r idx : Nat} {refs : List Nat} {C nm ds : String} {ty : FieldType} {fin : Bool} (hk : kd[c]? = some (ti + 4, n, refs)) (hj : refs[j]? = some (r + 1)) (ff : rs_ff ti j C nm ds ty fin) (hq : Cond.fieldLink own idx C nm ds ∈ rs_T) (hd : decode cc pc = .ok (.getfield idx, 3)) (k : Y M (pc + 3) lv (.ref (g.2.2 r) :: rest)) : Y M pc lv (.ref (g.2.2 c) :: rest) := by
  obtain ⟨p, e, s, m, args, below, meth, cd, Q, rfl, hx, hb, hml, hown, hts, hN, hZ⟩ := K
  intro H locs ls hI hl
  obtain ⟨Cn, T, N, ty0, f1, f2, f3, f4, f5, f6, f7⟩ := ff
  exact va_get (ref := C) hx hb hts f4 hown hN.1 hI.1 c (rs_ws_get hk) f1 j f2 (by rw [f3]; exact hts _ hq) (fun _ h9 => by rw [f3] at h9 ⊢; exact h9) (rs_fl_s g.2.2 (M c) refs 0 j r hj) hd (k H locs ls hI hl)
theorem r_put {l : Launch} {g : rs_G} {kd : List rs_k} {t : Nat × Nat} {cc : ByteArray} {nL : Nat} {own : String} {d : Nat} {Y : rs_Y} (K : rs_K l g kd t cc nL own d Y) {M : rs_M} {pc : Nat} {lv : List (Nat × Value)} {rest : List Value} {c ti n j idx : Nat} {refs : List Nat} {C nm ds : String} {ty : FieldType} {x : Int32} (hk : kd[c]? = some (ti + 4, n, refs)) (hj : refs[j]? = some 0) (ff : rs_ff ti j C nm ds ty false) (hq : Cond.fieldLink own idx C nm ds ∈ rs_T) (hn : narrow ty (.int x) = .int x) (hf : fits ty (.int x) = true) (hd : decode cc pc = .ok (.putfield idx, 3)) (k : Y (rs_st M c j x) (pc + 3) lv rest) : Y M pc lv (.int x :: .ref (g.2.2 c) :: rest) := by
  obtain ⟨p, e, s, m, args, below, meth, cd, Q, rfl, hx, hb, hml, hown, hts, hN, hZ⟩ := K
  intro H locs ls hI hl
  obtain ⟨Cn, T, N, ty0, f1, f2, f3, f4, f5, f6, f7⟩ := ff
  refine va_put (ref := C) hx hb hts f4 ty0 f5 f6 hown hN.1 hI.1 hI.2.1 hI.2.2 c (rs_ws_get hk) f1 j f2 (by rw [f3]; exact hts _ hq) (fun _ h9 => by rw [f3] at h9 ⊢; exact h9) (by rw [f3]) (by rw [f3]; exact f7) hn hf (by rw [rs_fl_len]; exact (List.getElem?_eq_some_iff.mp hj).1) hd (fun H1 locs1 hP hD hS => ?_)
  have e0 : (rs_ws g kd M).set c (g.2.2 c, .inr (ti, (rs_fl g.2.2 (M c) 0 refs).set j (.int x))) = rs_ws g kd (rs_st M c j x) := by
    refine rs_ws_set hk ?_ (fun c' hc' => rs_st_ne M j x hc')
    rw [rs_fl_set _ _ _ _ _ _ hj, Nat.zero_add, rs_st_row]
    rfl
  have hP : va_P g.1 vwCl ((rs_ws g kd M).set c (g.2.2 c, .inr (ti, (rs_fl g.2.2 (M c) 0 refs).set j (.int x)))) H1 := hP
  have hD : va_D _ ((rs_ws g kd M).set c (g.2.2 c, .inr (ti, (rs_fl g.2.2 (M c) 0 refs).set j (.int x)))) := hD
  rw [e0] at hP hD
  exact k H1 locs1 ls ⟨hP, hD, hS⟩ hl
theorem r_iald {l : Launch} {g : rs_G} {kd : List rs_k} {t : Nat × Nat} {cc : ByteArray} {nL : Nat} {own : String} {d : Nat} {Y : rs_Y} (K : rs_K l g kd t cc nL own d Y) {M : rs_M} {pc : Nat} {lv : List (Nat × Value)} {rest : List Value} {c n j : Nat} {refs : List Nat} {i : Int32} (hk : kd[c]? = some (0, n, refs)) (hi : i = nI j) (hj : j < n) (hn : n < 2 ^ 31) (hd : decode cc pc = .ok (.iaload, 1)) (k : Y M (pc + 1) lv (.int (M c j) :: rest)) : Y M pc lv (.int i :: .ref (g.2.2 c) :: rest) := by
  obtain ⟨p, e, s, m, args, below, meth, cd, Q, rfl, hx, hb, hml, hown, hts, hN, hZ⟩ := K
  intro H locs ls hI hl
  subst hi
  refine va_iald hx hb hN.1 hI.1 c 0 (rs_ws_get hk) rfl (vp_in_nI hj hn) hd ?_
  rw [nI_clamp (Nat.lt_trans hj hn)]
  exact k H locs ls hI hl
theorem r_zald {l : Launch} {g : rs_G} {kd : List rs_k} {t : Nat × Nat} {cc : ByteArray} {nL : Nat} {own : String} {d : Nat} {Y : rs_Y} (K : rs_K l g kd t cc nL own d Y) {M : rs_M} {pc : Nat} {lv : List (Nat × Value)} {rest : List Value} {c n j : Nat} {refs : List Nat} {i : Int32} (hk : kd[c]? = some (1, n, refs)) (hi : i = nI j) (hj : j < n) (hn : n < 2 ^ 31) (hd : decode cc pc = .ok (.baload, 1)) (k : Y M (pc + 1) lv (.int (M c j) :: rest)) : Y M pc lv (.int i :: .ref (g.2.2 c) :: rest) := by
  obtain ⟨p, e, s, m, args, below, meth, cd, Q, rfl, hx, hb, hml, hown, hts, hN, hZ⟩ := K
  intro H locs ls hI hl
  subst hi
  refine va_zald hx hb hN.1 hI.1 c 1 (rs_ws_get hk) rfl (vp_in_nI hj hn) hd ?_
  rw [nI_clamp (Nat.lt_trans hj hn)]
  exact k H locs ls hI hl
theorem r_iast {l : Launch} {g : rs_G} {kd : List rs_k} {t : Nat × Nat} {cc : ByteArray} {nL : Nat} {own : String} {d : Nat} {Y : rs_Y} (K : rs_K l g kd t cc nL own d Y) {M : rs_M} {pc : Nat} {lv : List (Nat × Value)} {rest : List Value} {c n j : Nat} {refs : List Nat} {i x : Int32} (hk : kd[c]? = some (0, n, refs)) (hi : i = nI j) (hj : j < n) (hn : n < 2 ^ 31) (hd : decode cc pc = .ok (.iastore, 1)) (k : Y (rs_st M c j (x)) (pc + 1) lv rest) : Y M pc lv (.int x :: .int i :: .ref (g.2.2 c) :: rest) := by
  obtain ⟨p, e, s, m, args, below, meth, cd, Q, rfl, hx, hb, hml, hown, hts, hN, hZ⟩ := K
  intro H locs ls hI hl
  subst hi
  refine va_iast hx hb hN.1 hI.1 hI.2.1 hI.2.2 c 0 (rs_ws_get hk) rfl (vp_in_nI hj hn) hd (fun H1 locs1 hP hD hS => ?_)
  rw [nI_clamp (Nat.lt_trans hj hn)] at hP hD
  have e0 : (rs_ws g kd M).set c (g.2.2 c, rs_E g (0, n, refs) (upd (M c) j (x))) = rs_ws g kd (rs_st M c j (x)) := rs_ws_set hk (by rw [rs_st_row]) (fun c' hc' => rs_st_ne M j _ hc')
  have hP : va_P g.1 vwCl ((rs_ws g kd M).set c (g.2.2 c, rs_E g (0, n, refs) (upd (M c) j (x)))) H1 := hP
  have hD : va_D _ ((rs_ws g kd M).set c (g.2.2 c, rs_E g (0, n, refs) (upd (M c) j (x)))) := hD
  rw [e0] at hP hD
  exact k H1 locs1 ls ⟨hP, hD, hS⟩ hl
theorem r_zast {l : Launch} {g : rs_G} {kd : List rs_k} {t : Nat × Nat} {cc : ByteArray} {nL : Nat} {own : String} {d : Nat} {Y : rs_Y} (K : rs_K l g kd t cc nL own d Y) {M : rs_M} {pc : Nat} {lv : List (Nat × Value)} {rest : List Value} {c n j : Nat} {refs : List Nat} {i x : Int32} (hk : kd[c]? = some (1, n, refs)) (hi : i = nI j) (hj : j < n) (hn : n < 2 ^ 31) (hd : decode cc pc = .ok (.bastore, 1)) (k : Y (rs_st M c j (vp_nar .boolean x)) (pc + 1) lv rest) : Y M pc lv (.int x :: .int i :: .ref (g.2.2 c) :: rest) := by
  obtain ⟨p, e, s, m, args, below, meth, cd, Q, rfl, hx, hb, hml, hown, hts, hN, hZ⟩ := K
  intro H locs ls hI hl
  subst hi
  refine va_zast hx hb hN.1 hI.1 hI.2.1 hI.2.2 c 1 (rs_ws_get hk) rfl (vp_in_nI hj hn) hd (fun H1 locs1 hP hD hS => ?_)
  rw [nI_clamp (Nat.lt_trans hj hn)] at hP hD
  have e0 : (rs_ws g kd M).set c (g.2.2 c, rs_E g (1, n, refs) (upd (M c) j (vp_nar .boolean x))) = rs_ws g kd (rs_st M c j (vp_nar .boolean x)) := rs_ws_set hk (by rw [rs_st_row]) (fun c' hc' => rs_st_ne M j _ hc')
  have hP : va_P g.1 vwCl ((rs_ws g kd M).set c (g.2.2 c, rs_E g (1, n, refs) (upd (M c) j (vp_nar .boolean x)))) H1 := hP
  have hD : va_D _ ((rs_ws g kd M).set c (g.2.2 c, rs_E g (1, n, refs) (upd (M c) j (vp_nar .boolean x)))) := hD
  rw [e0] at hP hD
  exact k H1 locs1 ls ⟨hP, hD, hS⟩ hl
theorem r_aaldS {l : Launch} {g : rs_G} {kd : List rs_k} {t : Nat × Nat} {cc : ByteArray} {nL : Nat} {own : String} {d : Nat} {Y : rs_Y} (K : rs_K l g kd t cc nL own d Y) {M : rs_M} {pc : Nat} {lv : List (Nat × Value)} {rest : List Value} {c n j r : Nat} {refs : List Nat} {i : Int32} (hk : kd[c]? = some (2, n, refs)) (hi : i = nI j) (hr : refs[j]? = some r) (hj : j < n) (hn : n < 2 ^ 31) (hd : decode cc pc = .ok (.aaload, 1)) (k : Y M (pc + 1) lv (.ref (g.2.2 r) :: rest)) : Y M pc lv (.int i :: .ref (g.2.2 c) :: rest) := by
  obtain ⟨p, e, s, m, args, below, meth, cd, Q, rfl, hx, hb, hml, hown, hts, hN, hZ⟩ := K
  intro H locs ls hI hl
  subst hi
  refine va_aldq hx hb hN.1 hI.1 c 2 (rs_ws_get hk) rfl (vp_in_nI hj hn) hd ?_
  rw [nI_clamp (Nat.lt_trans hj hn)]
  simp only [hr, Option.map_some, va_rf]
  exact k H locs ls hI hl
theorem r_aaldL {l : Launch} {g : rs_G} {kd : List rs_k} {t : Nat × Nat} {cc : ByteArray} {nL : Nat} {own : String} {d : Nat} {Y : rs_Y} (K : rs_K l g kd t cc nL own d Y) {M : rs_M} {pc : Nat} {lv : List (Nat × Value)} {rest : List Value} {c n j r : Nat} {refs : List Nat} {i : Int32} (hk : kd[c]? = some (3, n, refs)) (hi : i = nI j) (hr : refs[j]? = some r) (hj : j < n) (hn : n < 2 ^ 31) (hd : decode cc pc = .ok (.aaload, 1)) (k : Y M (pc + 1) lv (.ref (g.2.2 r) :: rest)) : Y M pc lv (.int i :: .ref (g.2.2 c) :: rest) := by
  obtain ⟨p, e, s, m, args, below, meth, cd, Q, rfl, hx, hb, hml, hown, hts, hN, hZ⟩ := K
  intro H locs ls hI hl
  subst hi
  refine va_aldq hx hb hN.1 hI.1 c 3 (rs_ws_get hk) rfl (vp_in_nI hj hn) hd ?_
  rw [nI_clamp (Nat.lt_trans hj hn)]
  simp only [hr, Option.map_some, va_rf]
  exact k H locs ls hI hl
theorem r_getsLX {l : Launch} {g : rs_G} {kd : List rs_k} {t : Nat × Nat} {cc : ByteArray} {nL : Nat} {own : String} {d : Nat} {Y : rs_Y} (K : rs_K l g kd t cc nL own d Y) {M : rs_M} {pc : Nat} {lv : List (Nat × Value)} {rest : List Value} {idx : Nat} (hq : Cond.fieldLink own idx "RingSteer" "LEAN_X" "[I" ∈ rs_T) (hd : decode cc pc = .ok (.getstatic idx, 3)) (k : Y M (pc + 3) lv (.ref t.1 :: rest)) : Y M pc lv rest := by
  obtain ⟨p, e, s, m, args, below, meth, cd, Q, rfl, hx, hb, hml, hown, hts, hN, hZ⟩ := K
  intro H locs ls hI hl
  exact va_gets (ref := "RingSteer") hx hb hZ.1.1 hI.2.2 hown (hts _ hq) (fun _ h9 => h9) hd (k H locs ls hI hl)
theorem r_tabLX {l : Launch} {g : rs_G} {kd : List rs_k} {t : Nat × Nat} {cc : ByteArray} {nL : Nat} {own : String} {d : Nat} {Y : rs_Y} (K : rs_K l g kd t cc nL own d Y) {M : rs_M} {pc : Nat} {lv : List (Nat × Value)} {rest : List Value} {j : Nat} {i : Int32} (hi : i = nI j) (hj : j < 8) (hd : decode cc pc = .ok (.iaload, 1)) (k : Y M (pc + 1) lv (.int (rs_lX j) :: rest)) : Y M pc lv (.int i :: .ref t.1 :: rest) := by
  obtain ⟨p, e, s, m, args, below, meth, cd, Q, rfl, hx, hb, hml, hown, hts, hN, hZ⟩ := K
  intro H locs ls hI hl
  subst hi
  refine va_ti hx hb hZ.1.2 hI.2.2 (vp_in_nI hj (Nat.le_of_ble_eq_true rfl)) (v := .int (rs_lX j)) (by rw [nI_clamp (Nat.lt_trans hj (Nat.le_of_ble_eq_true rfl))]) hd (k H locs ls hI hl)
theorem r_getsLY {l : Launch} {g : rs_G} {kd : List rs_k} {t : Nat × Nat} {cc : ByteArray} {nL : Nat} {own : String} {d : Nat} {Y : rs_Y} (K : rs_K l g kd t cc nL own d Y) {M : rs_M} {pc : Nat} {lv : List (Nat × Value)} {rest : List Value} {idx : Nat} (hq : Cond.fieldLink own idx "RingSteer" "LEAN_Y" "[I" ∈ rs_T) (hd : decode cc pc = .ok (.getstatic idx, 3)) (k : Y M (pc + 3) lv (.ref t.2 :: rest)) : Y M pc lv rest := by
  obtain ⟨p, e, s, m, args, below, meth, cd, Q, rfl, hx, hb, hml, hown, hts, hN, hZ⟩ := K
  intro H locs ls hI hl
  exact va_gets (ref := "RingSteer") hx hb hZ.2.1 hI.2.2 hown (hts _ hq) (fun _ h9 => h9) hd (k H locs ls hI hl)
theorem r_tabLY {l : Launch} {g : rs_G} {kd : List rs_k} {t : Nat × Nat} {cc : ByteArray} {nL : Nat} {own : String} {d : Nat} {Y : rs_Y} (K : rs_K l g kd t cc nL own d Y) {M : rs_M} {pc : Nat} {lv : List (Nat × Value)} {rest : List Value} {j : Nat} {i : Int32} (hi : i = nI j) (hj : j < 8) (hd : decode cc pc = .ok (.iaload, 1)) (k : Y M (pc + 1) lv (.int (rs_lY j) :: rest)) : Y M pc lv (.int i :: .ref t.2 :: rest) := by
  obtain ⟨p, e, s, m, args, below, meth, cd, Q, rfl, hx, hb, hml, hown, hts, hN, hZ⟩ := K
  intro H locs ls hI hl
  subst hi
  refine va_ti hx hb hZ.2.2 hI.2.2 (vp_in_nI hj (Nat.le_of_ble_eq_true rfl)) (v := .int (rs_lY j)) (by rw [nI_clamp (Nat.lt_trans hj (Nat.le_of_ble_eq_true rfl))]) hd (k H locs ls hI hl)
def rs_swp (P : Nat → Prop) (x : Int32) : List (Int32 × Nat) → Nat → Prop
  | [], dt => P dt
  | (a, tg) :: r, dt => (x = a → P tg) ∧ (¬ x = a → rs_swp P x r dt)
def rs_swl (pc : Nat) : List (Int × Int) → List (Int32 × Nat) → Bool
  | [], [] => true
  | (a, o) :: r, (b, tg) :: s => decide (b.toInt = a) && decide ((pc : Int) + o = (tg : Int)) && rs_swl pc r s
  | _, _ => false
theorem rs_swl_off (P : Nat → Prop) (x : Int32) (pc dt : Nat) (df : Int) (hdt : (pc : Int) + df = (dt : Int)) : ∀ (ps : List (Int × Int)) (cs : List (Int32 × Nat)), rs_swl pc ps cs = true → rs_swp P x cs dt → ∃ tg : Nat, (pc : Int) + Op.lookupswitch.offset ps df x.toInt = (tg : Int) ∧ P tg
  | [], [], _, h => ⟨dt, by rw [Op.lookupswitch.offset_nil]; exact hdt, h⟩
  | [], _ :: _, h, _ => by simp [rs_swl] at h
  | _ :: _, [], h, _ => by simp [rs_swl] at h
  | (a, o) :: r, (b, tg) :: s, h, k => by
    simp only [rs_swl, Bool.and_eq_true, decide_eq_true_eq] at h
    obtain ⟨⟨h1, h2⟩, h3⟩ := h
    by_cases e : x = b
    · refine ⟨tg, ?_, k.1 e⟩
      rw [Op.lookupswitch.offset_cons, if_pos (by rw [e, h1])]
      exact h2
    · obtain ⟨tg2, i1, i2⟩ := rs_swl_off P x pc dt df hdt r s h3 (k.2 e)
      refine ⟨tg2, ?_, i2⟩
      rw [Op.lookupswitch.offset_cons, if_neg (fun q => e (Int32.toInt_inj.mp (by rw [← q, h1])))]
      exact i1
def rs_swt (pc : Nat) : Int → List Int → List (Int32 × Nat) → Bool
  | _, [], [] => true
  | lo, o :: r, (b, tg) :: s => decide (b.toInt = lo) && decide ((pc : Int) + o = (tg : Int)) && rs_swt pc (lo + 1) r s
  | _, _, _ => false
theorem rs_swt_out (P : Nat → Prop) (x : Int32) (pc dt : Nat) : ∀ (offs : List Int) (cs : List (Int32 × Nat)) (lo : Int), rs_swt pc lo offs cs = true → (x.toInt < lo ∨ lo + offs.length ≤ x.toInt) → rs_swp P x cs dt → P dt
  | [], [], _, _, _, k => k
  | [], _ :: _, _, h, _, _ => by simp [rs_swt] at h
  | _ :: _, [], _, h, _, _ => by simp [rs_swt] at h
  | o :: r, (b, tg) :: s, lo, h, hx, k => by
    simp only [rs_swt, Bool.and_eq_true, decide_eq_true_eq] at h
    obtain ⟨⟨h1, h2⟩, h3⟩ := h
    simp only [List.length_cons] at hx
    exact rs_swt_out P x pc dt r s (lo + 1) h3 (by omega) (k.2 (fun e => by rw [e, h1] at hx; omega))
theorem rs_swt_in (P : Nat → Prop) (x : Int32) (pc dt : Nat) : ∀ (offs : List Int) (cs : List (Int32 × Nat)) (lo : Int), rs_swt pc lo offs cs = true → ¬ x.toInt < lo → x.toInt < lo + offs.length → rs_swp P x cs dt → ∃ (o : Int) (tg : Nat), offs[(x.toInt - lo).toNat]? = some o ∧ (pc : Int) + o = (tg : Int) ∧ P tg
  | [], [], _, _, h1, h2, _ => by simp at h2; omega
  | [], _ :: _, _, h, _, _, _ => by simp [rs_swt] at h
  | _ :: _, [], _, h, _, _, _ => by simp [rs_swt] at h
  | o :: r, (b, tg) :: s, lo, h, hx1, hx2, k => by
    simp only [rs_swt, Bool.and_eq_true, decide_eq_true_eq] at h
    obtain ⟨⟨h1, h2⟩, h3⟩ := h
    simp only [List.length_cons] at hx2
    by_cases e : x = b
    · exact ⟨o, tg, by rw [e, h1]; simp, h2, k.1 e⟩
    · have hne : x.toInt ≠ lo := fun q => e (Int32.toInt_inj.mp (by rw [q, h1]))
      obtain ⟨o2, tg2, i1, i2, i3⟩ := rs_swt_in P x pc dt r s (lo + 1) h3 (by omega) (by omega) (k.2 e)
      refine ⟨o2, tg2, ?_, i2, i3⟩
      rw [show (x.toInt - lo).toNat = (x.toInt - (lo + 1)).toNat + 1 by omega, List.getElem?_cons_succ]
      exact i1
theorem r_lookup {l : Launch} {g : rs_G} {kd : List rs_k} {t : Nat × Nat} {cc : ByteArray} {nL : Nat} {own : String} {d : Nat} {Y : rs_Y} (K : rs_K l g kd t cc nL own d Y) {M : rs_M} {pc : Nat} {lv : List (Nat × Value)} {rest : List Value} {x : Int32} {df : Int} {ps : Array (Int × Int)} {len : Nat} (cs : List (Int32 × Nat)) (dt : Nat) (hd : decode cc pc = .ok (.lookupswitch df ps, len)) (hp : (ps.toList.zip (ps.toList.drop 1)).all (fun (a, next) => a.1 < next.1) = true) (hdt : (pc : Int) + df = (dt : Int)) (hs : rs_swl pc ps.toList cs = true) (k : rs_swp (fun tg => Y M tg lv rest) x cs dt) : Y M pc lv (.int x :: rest) := by
  obtain ⟨p, e, s, m, args, below, meth, cd, Q, rfl, hx, hb, hml, hown, hts, hN, hZ⟩ := K
  intro H locs ls hI hl
  obtain ⟨tg, h1, h2⟩ := rs_swl_off _ x pc dt df hdt ps.toList cs hs k
  exact lv_lookup hx hb hd hp rfl h1 (h2 H locs ls hI hl)
theorem r_table {l : Launch} {g : rs_G} {kd : List rs_k} {t : Nat × Nat} {cc : ByteArray} {nL : Nat} {own : String} {d : Nat} {Y : rs_Y} (K : rs_K l g kd t cc nL own d Y) {M : rs_M} {pc : Nat} {lv : List (Nat × Value)} {rest : List Value} {x : Int32} {df lo hi : Int} {offs : Array Int} {len : Nat} (cs : List (Int32 × Nat)) (dt : Nat) (hd : decode cc pc = .ok (.tableswitch df lo hi offs, len)) (hdt : (pc : Int) + df = (dt : Int)) (hh : hi + 1 = lo + offs.toList.length) (hs : rs_swt pc lo offs.toList cs = true) (k : rs_swp (fun tg => Y M tg lv rest) x cs dt) : Y M pc lv (.int x :: rest) := by
  obtain ⟨p, e, s, m, args, below, meth, cd, Q, rfl, hx, hb, hml, hown, hts, hN, hZ⟩ := K
  intro H locs ls hI hl
  by_cases ho : x.toInt < lo ∨ hi < x.toInt
  · exact lv_tableOut hx hb hd ho hdt (rs_swt_out (fun tg => rs_J p l e d s m args below meth cd Q g kd nL M tg lv rest) x pc dt offs.toList cs lo hs (by omega) k H locs ls hI hl)
  · obtain ⟨o, tg, h1, h2, h3⟩ := rs_swt_in _ x pc dt offs.toList cs lo hs (by omega) (by omega) k
    rw [Array.getElem?_toList] at h1
    exact lv_tableIn hx hb hd (by omega) (by omega) h1 h2 (h3 H locs ls hI hl)
theorem r_mabs {l : Launch} {g : rs_G} {kd : List rs_k} {t : Nat × Nat} {cc : ByteArray} {nL : Nat} {own : String} {d : Nat} {Y : rs_Y} (K : rs_K l g kd t cc nL own d Y) {M : rs_M} {pc : Nat} {lv : List (Nat × Value)} {rest : List Value} {idx : Nat} {x : Int32} (hd : decode cc pc = .ok (.invokestatic idx, 3)) (hq : Cond.methodLink own idx Lib.Math.abs.name ∈ rs_T) (h1 : Cond.static Lib.Math.abs.name ∈ rs_T) (h2 : Cond.initialized "java/lang/Math" ∈ rs_T) (h3 : Cond.code Lib.Math.abs.name Lib.Math.abs.code 1 (some .int) ∈ rs_T) (hd0 : 1 ≤ d) (hc0 : (rest.map fun v => v.category).sum ≤ 8) (k : Y M (pc + 3) lv (.int (if 0 ≤ x then x else 0 - x) :: rest)) : Y M pc lv (.int x :: rest) := by
  obtain ⟨p, e, s, m, args, below, meth, cd, Q, rfl, hx, hb, hml, hown, hts, hN, hZ⟩ := K
  intro H locs ls hI hl
  exact va_mabs hx hb (hml.trans hl.1.symm) hown (hts _ hq) (hts _ h1) (hts _ h2) (hts _ h3) hd0 (by show _ ≤ 40 * d; omega) (Nat.le_refl 0) (Nat.le_refl 0) hd (k H locs ls hI hl)
theorem r_mmax {l : Launch} {g : rs_G} {kd : List rs_k} {t : Nat × Nat} {cc : ByteArray} {nL : Nat} {own : String} {d : Nat} {Y : rs_Y} (K : rs_K l g kd t cc nL own d Y) {M : rs_M} {pc : Nat} {lv : List (Nat × Value)} {rest : List Value} {idx : Nat} {x y : Int32} (hd : decode cc pc = .ok (.invokestatic idx, 3)) (hq : Cond.methodLink own idx Lib.Math.max.name ∈ rs_T) (h1 : Cond.static Lib.Math.max.name ∈ rs_T) (h2 : Cond.initialized "java/lang/Math" ∈ rs_T) (h3 : Cond.code Lib.Math.max.name Lib.Math.max.code 2 (some .int) ∈ rs_T) (hd0 : 1 ≤ d) (hc0 : (rest.map fun v => v.category).sum ≤ 8) (k : Y M (pc + 3) lv (.int (if x < y then y else x) :: rest)) : Y M pc lv (.int y :: .int x :: rest) := by
  obtain ⟨p, e, s, m, args, below, meth, cd, Q, rfl, hx, hb, hml, hown, hts, hN, hZ⟩ := K
  intro H locs ls hI hl
  exact va_mmax hx hb (hml.trans hl.1.symm) hown (hts _ hq) (hts _ h1) (hts _ h2) (hts _ h3) hd0 (by show _ ≤ 40 * d; omega) (Nat.le_refl 0) (Nat.le_refl 0) hd (k H locs ls hI hl)
theorem r_mmin {l : Launch} {g : rs_G} {kd : List rs_k} {t : Nat × Nat} {cc : ByteArray} {nL : Nat} {own : String} {d : Nat} {Y : rs_Y} (K : rs_K l g kd t cc nL own d Y) {M : rs_M} {pc : Nat} {lv : List (Nat × Value)} {rest : List Value} {idx : Nat} {x y : Int32} (hd : decode cc pc = .ok (.invokestatic idx, 3)) (hq : Cond.methodLink own idx Lib.Math.min.name ∈ rs_T) (h1 : Cond.static Lib.Math.min.name ∈ rs_T) (h2 : Cond.initialized "java/lang/Math" ∈ rs_T) (h3 : Cond.code Lib.Math.min.name Lib.Math.min.code 2 (some .int) ∈ rs_T) (hd0 : 1 ≤ d) (hc0 : (rest.map fun v => v.category).sum ≤ 8) (k : Y M (pc + 3) lv (.int (if y < x then y else x) :: rest)) : Y M pc lv (.int y :: .int x :: rest) := by
  obtain ⟨p, e, s, m, args, below, meth, cd, Q, rfl, hx, hb, hml, hown, hts, hN, hZ⟩ := K
  intro H locs ls hI hl
  exact va_mmin hx hb (hml.trans hl.1.symm) hown (hts _ hq) (hts _ h1) (hts _ h2) (hts _ h3) hd0 (by show _ ≤ 40 * d; omega) (Nat.le_refl 0) (Nat.le_refl 0) hd (k H locs ls hI hl)
end
section
theorem rs_good {w : Cond} (h : w ∈ rs_T) : GoodIn rs_T (w :: rs_T) := fun v hv => by
  rcases List.mem_cons.mp hv with e | e
  · subst e; exact ⟨h, good_of_word (rs_T_good _ h)⟩
  · exact ⟨e, good_of_word (rs_T_good _ e)⟩
theorem rs_blind (av : List Value) (g : rs_G) (kd : List rs_k) (t : Nat × Nat) (M : rs_M) (sz : Nat) : FrameBlind (va_Pc av (rs_pre g kd t M sz)) := fun a U gf mk q => by
  obtain ⟨q0, q1, qP, qN, qD, qZ⟩ := q
  exact ⟨q0, q1, qP, rs_N.same qN rfl, qD, rs_Z.moved (u := U) (U := U.calling gf mk a) (Vm.Alike.refl U.vm) qZ⟩
theorem rs_D_any {g : rs_G} {kd : List rs_k} {M : rs_M} {A : Nat → Prop} {sz : Nat} (h : va_D A (rs_ws g kd M)) : va_D (rs_A g kd sz) (rs_ws g kd M) := h.weaken (fun k q hk _ => by
  obtain ⟨h1, h2⟩ := rs_ws_inv hk
  exact Or.inl ⟨k, h1, h2⟩)
/-- a callee's start, out of the caller's state -/
theorem rs_pre_at {g : rs_G} {kd : List rs_k} {t : Nat × Nat} {M : rs_M} {s : State} {H : Heap} {locs : List Loc} (hN : rs_N g s) (hZ : rs_Z t (rs_A g kd s.heap.size) s s.heap) (hI : rs_I g kd s M H locs) {U : State} (hU : U.heap = H) (hW : s.WarmedH U.vm) : rs_pre g kd t M H.size U := by
  refine ⟨by rw [hU], by rw [hU]; exact hI.1, hN.warm hW, rs_D_any hI.2.1, ?_⟩
  rw [hU]
  exact ((hZ.kept (fun a h1 h2 => hI.2.2.2.1 a h1 h2)).narrow (rs_A_mono hI.2.2.1)).moved hW.alike
/-- what is known of a method: its code, its class, how many arguments -/
def rs_mf (y : MethodName) (cc : ByteArray) (n : Nat) (ret : Option FieldType) (k : Nat) : Prop := Cond.code y cc n ret ∈ rs_T ∧ Cond.initialized y.cls ∈ rs_T ∧ (y.cls ≠ "java/lang/invoke/MethodHandle" ∧ y.cls ≠ "java/lang/invoke/VarHandle" ∧ (parseMethodDescriptor y.desc).map (fun d => d.parameters.length) = some k) ∧ n ≤ 16
theorem rs_cB {R : Room} {s : State} {args : Array Value} {own : String} {idx : Nat} {y : MethodName} {cc : ByteArray} {n : Nat} {ret : Option FieldType} {k d : Nat} (hts : ∀ w ∈ rs_T, w.before args s = true) (mf : rs_mf y cc n ret k) (hq : Cond.methodLink own idx y ∈ rs_T) (hR : d + 1 ≤ R.frames ∧ 40 * (d + 1) ≤ R.locals) : CallB R s args own idx y cc n ret (.code y cc n ret :: rs_T) (rs_R d) 0 0 k :=
  callB_of k hts (rs_good mf.1) rfl rfl rfl (hts _ mf.2.1) (hts _ hq) mf.2.2.1 ⟨hR.1, by have h1 := mf.2.2.2; have h2 := hR.2; show 8 + (n + 11) + 40 * d ≤ R.locals; omega⟩
theorem rs_cN {R : Room} {s : State} {args : Array Value} {own : String} {idx : Nat} {y : MethodName} {cc : ByteArray} {n : Nat} {ret : Option FieldType} {k d : Nat} {g : rs_G} (hts : ∀ w ∈ rs_T, w.before args s = true) (mf : rs_mf y cc n ret k) (hN : rs_N g s) (hq : (own, idx, y) ∈ rs_nest) (hR : d + 1 ≤ R.frames ∧ 40 * (d + 1) ≤ R.locals) : va_CN R s args own idx y "RingSteer" cc n ret (.code y cc n ret :: rs_T) (rs_R d) 0 0 k :=
  va_cnB k hts (rs_good mf.1) rfl rfl rfl (hN.2 _ hq) (hts _ mf.2.1) mf.2.2.1 ⟨hR.1, by have h1 := mf.2.2.2; have h2 := hR.2; show 8 + (n + 11) + 40 * d ≤ R.locals; omega⟩
theorem rs_dR {d' d : Nat} (h : d' < d) : d' + 1 ≤ (rs_R d).frames ∧ 40 * (d' + 1) ≤ (rs_R d).locals := ⟨h, by show 40 * (d' + 1) ≤ 40 * d; omega⟩
theorem r_callVi {l : Launch} {g : rs_G} {kd : List rs_k} {t : Nat × Nat} {cc : ByteArray} {nL : Nat} {own : String} {d : Nat} {Y : rs_Y} (K : rs_K l g kd t cc nL own d Y) {M : rs_M} {pc : Nat} {lv : List (Nat × Value)} {stk : List Value} {y : MethodName} {c1 : ByteArray} {n1 d1 ka idx : Nat} {rt : FieldType} {post : Int32 → rs_M → Prop} (As rest : List Value) (hd : decode cc pc = .ok (.invokevirtual idx, 3)) (mf : rs_mf y c1 n1 (some rt) ka) {c ti n : Nat} {refs : List Nat} {T : u_T} {N : Nat} (hk : kd[c]? = some (ti + 4, n, refs)) (hcl : vwCl[ti]? = some (y.cls, T, N)) (hq : Cond.methodLink own idx y ∈ rs_T) (h1 : Cond.instanceMethod y ∈ rs_T) (h2 : Cond.selects y.cls y y ∈ rs_T) (hM : rs_Ci l g kd t y c1 n1 rt d1 (.ref (g.2.2 c) :: As) M post) (hst : stk = As.reverse ++ .ref (g.2.2 c) :: rest) (hn : As.length = ka) (hdd : d1 < d) (hc0 : (rest.map fun v => v.category).sum ≤ 8) (k : ∀ (r : Int32) (M1 : rs_M), post r M1 → Y M1 (pc + 3) lv (.int r :: rest)) : Y M pc lv stk := by
  obtain ⟨p, e, s, m, args, below, meth, cd, Q, rfl, hx, hb, hml, hown, hts, hN, hZ⟩ := K
  intro H locs ls hI hl
  subst hst
  refine va_calli (va_runV (As := As) (rest := rest) ⟨hx, hb, hml, hown, hts⟩ (hM H.size) ⟨rs_cB hts mf hq (rs_dR hdd), hts _ h1, hts _ h2⟩ ⟨rs_blind _ g kd t M H.size, va_recv hN.1 hI.1 hcl (rs_ws_get hk), fun U hU hW => ⟨rfl, rs_pre_at hN hZ hI hU hW⟩⟩ rfl hn hl.1 rfl (lv_room hc0) hd ⟨Nat.le_refl 0, Nat.le_refl 0⟩) hI.2.2 (fun q _ h => rs_A_mono hI.2.2.1 q h) (rs_A_mono hI.2.2.1) (fun r u t1 H1 locs1 ht hvm hw hB hz1 hk1 hS => ?_)
  exact k r u hw H1 locs1 ls ⟨by rw [← ht]; exact hB.1, rs_D_any hB.2, hS⟩ hl
theorem r_callVv {l : Launch} {g : rs_G} {kd : List rs_k} {t : Nat × Nat} {cc : ByteArray} {nL : Nat} {own : String} {d : Nat} {Y : rs_Y} (K : rs_K l g kd t cc nL own d Y) {M : rs_M} {pc : Nat} {lv : List (Nat × Value)} {stk : List Value} {y : MethodName} {c1 : ByteArray} {n1 d1 ka idx : Nat} {post : rs_M → Prop} (As rest : List Value) (hd : decode cc pc = .ok (.invokevirtual idx, 3)) (mf : rs_mf y c1 n1 none ka) {c ti n : Nat} {refs : List Nat} {T : u_T} {N : Nat} (hk : kd[c]? = some (ti + 4, n, refs)) (hcl : vwCl[ti]? = some (y.cls, T, N)) (hq : Cond.methodLink own idx y ∈ rs_T) (h1 : Cond.instanceMethod y ∈ rs_T) (h2 : Cond.selects y.cls y y ∈ rs_T) (hM : rs_Cv l g kd t y c1 n1 d1 (.ref (g.2.2 c) :: As) M post) (hst : stk = As.reverse ++ .ref (g.2.2 c) :: rest) (hn : As.length = ka) (hdd : d1 < d) (hc0 : (rest.map fun v => v.category).sum ≤ 8) (k : ∀ M1 : rs_M, post M1 → Y M1 (pc + 3) lv rest) : Y M pc lv stk := by
  obtain ⟨p, e, s, m, args, below, meth, cd, Q, rfl, hx, hb, hml, hown, hts, hN, hZ⟩ := K
  intro H locs ls hI hl
  subst hst
  refine va_callv (va_runV (As := As) (rest := rest) ⟨hx, hb, hml, hown, hts⟩ (hM H.size) ⟨rs_cB hts mf hq (rs_dR hdd), hts _ h1, hts _ h2⟩ ⟨rs_blind _ g kd t M H.size, va_recv hN.1 hI.1 hcl (rs_ws_get hk), fun U hU hW => ⟨rfl, rs_pre_at hN hZ hI hU hW⟩⟩ rfl hn hl.1 rfl (lv_room hc0) hd ⟨Nat.le_refl 0, Nat.le_refl 0⟩) hI.2.2 (fun q _ h => rs_A_mono hI.2.2.1 q h) (rs_A_mono hI.2.2.1) (fun u t1 H1 locs1 ht hvm hw hB hz1 hk1 hS => ?_)
  exact k u hw H1 locs1 ls ⟨by rw [← ht]; exact hB.1, rs_D_any hB.2, hS⟩ hl
theorem r_callVr {l : Launch} {g : rs_G} {kd : List rs_k} {t : Nat × Nat} {cc : ByteArray} {nL : Nat} {own : String} {d : Nat} {Y : rs_Y} (K : rs_K l g kd t cc nL own d Y) {M : rs_M} {pc : Nat} {lv : List (Nat × Value)} {stk : List Value} {y : MethodName} {c1 : ByteArray} {n1 d1 ka idx : Nat} {rt : FieldType} {post : Nat → rs_M → Prop} (As rest : List Value) (hd : decode cc pc = .ok (.invokevirtual idx, 3)) (mf : rs_mf y c1 n1 (some rt) ka) {c ti n : Nat} {refs : List Nat} {T : u_T} {N : Nat} (hk : kd[c]? = some (ti + 4, n, refs)) (hcl : vwCl[ti]? = some (y.cls, T, N)) (hq : Cond.methodLink own idx y ∈ rs_T) (h1 : Cond.instanceMethod y ∈ rs_T) (h2 : Cond.selects y.cls y y ∈ rs_T) (hM : rs_Cr l g kd t y c1 n1 rt d1 (.ref (g.2.2 c) :: As) M post) (hst : stk = As.reverse ++ .ref (g.2.2 c) :: rest) (hn : As.length = ka) (hdd : d1 < d) (hc0 : (rest.map fun v => v.category).sum ≤ 8) (k : ∀ (r : Nat) (M1 : rs_M), post r M1 → Y M1 (pc + 3) lv (.ref (g.2.2 r) :: rest)) : Y M pc lv stk := by
  obtain ⟨p, e, s, m, args, below, meth, cd, Q, rfl, hx, hb, hml, hown, hts, hN, hZ⟩ := K
  intro H locs ls hI hl
  subst hst
  refine va_callr (va_runV (As := As) (rest := rest) ⟨hx, hb, hml, hown, hts⟩ (hM H.size) ⟨rs_cB hts mf hq (rs_dR hdd), hts _ h1, hts _ h2⟩ ⟨rs_blind _ g kd t M H.size, va_recv hN.1 hI.1 hcl (rs_ws_get hk), fun U hU hW => ⟨rfl, rs_pre_at hN hZ hI hU hW⟩⟩ rfl hn hl.1 rfl (lv_room hc0) hd ⟨Nat.le_refl 0, Nat.le_refl 0⟩) hI.2.2 (fun q _ h => rs_A_mono hI.2.2.1 q h) (rs_A_mono hI.2.2.1) (fun u ra t1 H1 locs1 ht hvm hw hB hz1 hk1 hS => ?_)
  obtain ⟨rfl, hB⟩ := hB
  exact k u.1 u.2 hw H1 locs1 ls ⟨by rw [← ht]; exact hB.1, rs_D_any hB.2, hS⟩ hl
theorem r_callSi {l : Launch} {g : rs_G} {kd : List rs_k} {t : Nat × Nat} {cc : ByteArray} {nL : Nat} {own : String} {d : Nat} {Y : rs_Y} (K : rs_K l g kd t cc nL own d Y) {M : rs_M} {pc : Nat} {lv : List (Nat × Value)} {stk : List Value} {y : MethodName} {c1 : ByteArray} {n1 d1 ka idx : Nat} {rt : FieldType} {post : Int32 → rs_M → Prop} (As rest : List Value) (hd : decode cc pc = .ok (.invokestatic idx, 3)) (mf : rs_mf y c1 n1 (some rt) ka) (hq : Cond.methodLink own idx y ∈ rs_T) (h1 : Cond.static y ∈ rs_T) (hM : rs_Ci l g kd t y c1 n1 rt d1 As M post) (hst : stk = As.reverse ++ rest) (hn : As.length = ka) (hdd : d1 < d) (hc0 : (rest.map fun v => v.category).sum ≤ 8) (k : ∀ (r : Int32) (M1 : rs_M), post r M1 → Y M1 (pc + 3) lv (.int r :: rest)) : Y M pc lv stk := by
  obtain ⟨p, e, s, m, args, below, meth, cd, Q, rfl, hx, hb, hml, hown, hts, hN, hZ⟩ := K
  intro H locs ls hI hl
  subst hst
  refine va_calli (va_runS (As := As) (rest := rest) ⟨hx, hb, hml, hown, hts⟩ (hM H.size) ⟨rs_cB hts mf hq (rs_dR hdd), hts _ h1⟩ ⟨rs_blind _ g kd t M H.size, fun U hU hW => ⟨rfl, rs_pre_at hN hZ hI hU hW⟩⟩ rfl hn hl.1 rfl (lv_room hc0) hd ⟨Nat.le_refl 0, Nat.le_refl 0⟩) hI.2.2 (fun q _ h => rs_A_mono hI.2.2.1 q h) (rs_A_mono hI.2.2.1) (fun r u t1 H1 locs1 ht hvm hw hB hz1 hk1 hS => ?_)
  exact k r u hw H1 locs1 ls ⟨by rw [← ht]; exact hB.1, rs_D_any hB.2, hS⟩ hl
theorem r_callSv {l : Launch} {g : rs_G} {kd : List rs_k} {t : Nat × Nat} {cc : ByteArray} {nL : Nat} {own : String} {d : Nat} {Y : rs_Y} (K : rs_K l g kd t cc nL own d Y) {M : rs_M} {pc : Nat} {lv : List (Nat × Value)} {stk : List Value} {y : MethodName} {c1 : ByteArray} {n1 d1 ka idx : Nat} {post : rs_M → Prop} (As rest : List Value) (hd : decode cc pc = .ok (.invokestatic idx, 3)) (mf : rs_mf y c1 n1 none ka) (hq : Cond.methodLink own idx y ∈ rs_T) (h1 : Cond.static y ∈ rs_T) (hM : rs_Cv l g kd t y c1 n1 d1 As M post) (hst : stk = As.reverse ++ rest) (hn : As.length = ka) (hdd : d1 < d) (hc0 : (rest.map fun v => v.category).sum ≤ 8) (k : ∀ M1 : rs_M, post M1 → Y M1 (pc + 3) lv rest) : Y M pc lv stk := by
  obtain ⟨p, e, s, m, args, below, meth, cd, Q, rfl, hx, hb, hml, hown, hts, hN, hZ⟩ := K
  intro H locs ls hI hl
  subst hst
  refine va_callv (va_runS (As := As) (rest := rest) ⟨hx, hb, hml, hown, hts⟩ (hM H.size) ⟨rs_cB hts mf hq (rs_dR hdd), hts _ h1⟩ ⟨rs_blind _ g kd t M H.size, fun U hU hW => ⟨rfl, rs_pre_at hN hZ hI hU hW⟩⟩ rfl hn hl.1 rfl (lv_room hc0) hd ⟨Nat.le_refl 0, Nat.le_refl 0⟩) hI.2.2 (fun q _ h => rs_A_mono hI.2.2.1 q h) (rs_A_mono hI.2.2.1) (fun u t1 H1 locs1 ht hvm hw hB hz1 hk1 hS => ?_)
  exact k u hw H1 locs1 ls ⟨by rw [← ht]; exact hB.1, rs_D_any hB.2, hS⟩ hl
theorem r_callSr {l : Launch} {g : rs_G} {kd : List rs_k} {t : Nat × Nat} {cc : ByteArray} {nL : Nat} {own : String} {d : Nat} {Y : rs_Y} (K : rs_K l g kd t cc nL own d Y) {M : rs_M} {pc : Nat} {lv : List (Nat × Value)} {stk : List Value} {y : MethodName} {c1 : ByteArray} {n1 d1 ka idx : Nat} {rt : FieldType} {post : Nat → rs_M → Prop} (As rest : List Value) (hd : decode cc pc = .ok (.invokestatic idx, 3)) (mf : rs_mf y c1 n1 (some rt) ka) (hq : Cond.methodLink own idx y ∈ rs_T) (h1 : Cond.static y ∈ rs_T) (hM : rs_Cr l g kd t y c1 n1 rt d1 As M post) (hst : stk = As.reverse ++ rest) (hn : As.length = ka) (hdd : d1 < d) (hc0 : (rest.map fun v => v.category).sum ≤ 8) (k : ∀ (r : Nat) (M1 : rs_M), post r M1 → Y M1 (pc + 3) lv (.ref (g.2.2 r) :: rest)) : Y M pc lv stk := by
  obtain ⟨p, e, s, m, args, below, meth, cd, Q, rfl, hx, hb, hml, hown, hts, hN, hZ⟩ := K
  intro H locs ls hI hl
  subst hst
  refine va_callr (va_runS (As := As) (rest := rest) ⟨hx, hb, hml, hown, hts⟩ (hM H.size) ⟨rs_cB hts mf hq (rs_dR hdd), hts _ h1⟩ ⟨rs_blind _ g kd t M H.size, fun U hU hW => ⟨rfl, rs_pre_at hN hZ hI hU hW⟩⟩ rfl hn hl.1 rfl (lv_room hc0) hd ⟨Nat.le_refl 0, Nat.le_refl 0⟩) hI.2.2 (fun q _ h => rs_A_mono hI.2.2.1 q h) (rs_A_mono hI.2.2.1) (fun u ra t1 H1 locs1 ht hvm hw hB hz1 hk1 hS => ?_)
  obtain ⟨rfl, hB⟩ := hB
  exact k u.1 u.2 hw H1 locs1 ls ⟨by rw [← ht]; exact hB.1, rs_D_any hB.2, hS⟩ hl
theorem r_callNi {l : Launch} {g : rs_G} {kd : List rs_k} {t : Nat × Nat} {cc : ByteArray} {nL : Nat} {own : String} {d : Nat} {Y : rs_Y} (K : rs_K l g kd t cc nL own d Y) {M : rs_M} {pc : Nat} {lv : List (Nat × Value)} {stk : List Value} {y : MethodName} {c1 : ByteArray} {n1 d1 ka idx : Nat} {rt : FieldType} {post : Int32 → rs_M → Prop} (As rest : List Value) (hd : decode cc pc = .ok (.invokestatic idx, 3)) (mf : rs_mf y c1 n1 (some rt) ka) (hq : (own, idx, y) ∈ rs_nest) (h1 : Cond.static y ∈ rs_T) (hM : rs_Ci l g kd t y c1 n1 rt d1 As M post) (hst : stk = As.reverse ++ rest) (hn : As.length = ka) (hdd : d1 < d) (hc0 : (rest.map fun v => v.category).sum ≤ 8) (k : ∀ (r : Int32) (M1 : rs_M), post r M1 → Y M1 (pc + 3) lv (.int r :: rest)) : Y M pc lv stk := by
  obtain ⟨p, e, s, m, args, below, meth, cd, Q, rfl, hx, hb, hml, hown, hts, hN, hZ⟩ := K
  intro H locs ls hI hl
  subst hst
  refine va_calli (va_runSN (As := As) (rest := rest) ⟨hx, hb, hml, hown, hts⟩ (hM H.size) ⟨rs_cN hts mf hN hq (rs_dR hdd), hts _ h1, trivial⟩ ⟨rs_blind _ g kd t M H.size, fun U hU hW => ⟨rfl, rs_pre_at hN hZ hI hU hW⟩⟩ rfl hn hl.1 rfl (lv_room hc0) hd ⟨Nat.le_refl 0, Nat.le_refl 0⟩) hI.2.2 (fun q _ h => rs_A_mono hI.2.2.1 q h) (rs_A_mono hI.2.2.1) (fun r u t1 H1 locs1 ht hvm hw hB hz1 hk1 hS => ?_)
  exact k r u hw H1 locs1 ls ⟨by rw [← ht]; exact hB.1, rs_D_any hB.2, hS⟩ hl
theorem r_callNv {l : Launch} {g : rs_G} {kd : List rs_k} {t : Nat × Nat} {cc : ByteArray} {nL : Nat} {own : String} {d : Nat} {Y : rs_Y} (K : rs_K l g kd t cc nL own d Y) {M : rs_M} {pc : Nat} {lv : List (Nat × Value)} {stk : List Value} {y : MethodName} {c1 : ByteArray} {n1 d1 ka idx : Nat} {post : rs_M → Prop} (As rest : List Value) (hd : decode cc pc = .ok (.invokestatic idx, 3)) (mf : rs_mf y c1 n1 none ka) (hq : (own, idx, y) ∈ rs_nest) (h1 : Cond.static y ∈ rs_T) (hM : rs_Cv l g kd t y c1 n1 d1 As M post) (hst : stk = As.reverse ++ rest) (hn : As.length = ka) (hdd : d1 < d) (hc0 : (rest.map fun v => v.category).sum ≤ 8) (k : ∀ M1 : rs_M, post M1 → Y M1 (pc + 3) lv rest) : Y M pc lv stk := by
  obtain ⟨p, e, s, m, args, below, meth, cd, Q, rfl, hx, hb, hml, hown, hts, hN, hZ⟩ := K
  intro H locs ls hI hl
  subst hst
  refine va_callv (va_runSN (As := As) (rest := rest) ⟨hx, hb, hml, hown, hts⟩ (hM H.size) ⟨rs_cN hts mf hN hq (rs_dR hdd), hts _ h1, trivial⟩ ⟨rs_blind _ g kd t M H.size, fun U hU hW => ⟨rfl, rs_pre_at hN hZ hI hU hW⟩⟩ rfl hn hl.1 rfl (lv_room hc0) hd ⟨Nat.le_refl 0, Nat.le_refl 0⟩) hI.2.2 (fun q _ h => rs_A_mono hI.2.2.1 q h) (rs_A_mono hI.2.2.1) (fun u t1 H1 locs1 ht hvm hw hB hz1 hk1 hS => ?_)
  exact k u hw H1 locs1 ls ⟨by rw [← ht]; exact hB.1, rs_D_any hB.2, hS⟩ hl
theorem r_callNr {l : Launch} {g : rs_G} {kd : List rs_k} {t : Nat × Nat} {cc : ByteArray} {nL : Nat} {own : String} {d : Nat} {Y : rs_Y} (K : rs_K l g kd t cc nL own d Y) {M : rs_M} {pc : Nat} {lv : List (Nat × Value)} {stk : List Value} {y : MethodName} {c1 : ByteArray} {n1 d1 ka idx : Nat} {rt : FieldType} {post : Nat → rs_M → Prop} (As rest : List Value) (hd : decode cc pc = .ok (.invokestatic idx, 3)) (mf : rs_mf y c1 n1 (some rt) ka) (hq : (own, idx, y) ∈ rs_nest) (h1 : Cond.static y ∈ rs_T) (hM : rs_Cr l g kd t y c1 n1 rt d1 As M post) (hst : stk = As.reverse ++ rest) (hn : As.length = ka) (hdd : d1 < d) (hc0 : (rest.map fun v => v.category).sum ≤ 8) (k : ∀ (r : Nat) (M1 : rs_M), post r M1 → Y M1 (pc + 3) lv (.ref (g.2.2 r) :: rest)) : Y M pc lv stk := by
  obtain ⟨p, e, s, m, args, below, meth, cd, Q, rfl, hx, hb, hml, hown, hts, hN, hZ⟩ := K
  intro H locs ls hI hl
  subst hst
  refine va_callr (va_runSN (As := As) (rest := rest) ⟨hx, hb, hml, hown, hts⟩ (hM H.size) ⟨rs_cN hts mf hN hq (rs_dR hdd), hts _ h1, trivial⟩ ⟨rs_blind _ g kd t M H.size, fun U hU hW => ⟨rfl, rs_pre_at hN hZ hI hU hW⟩⟩ rfl hn hl.1 rfl (lv_room hc0) hd ⟨Nat.le_refl 0, Nat.le_refl 0⟩) hI.2.2 (fun q _ h => rs_A_mono hI.2.2.1 q h) (rs_A_mono hI.2.2.1) (fun u ra t1 H1 locs1 ht hvm hw hB hz1 hk1 hS => ?_)
  obtain ⟨rfl, hB⟩ := hB
  exact k u.1 u.2 hw H1 locs1 ls ⟨by rw [← ht]; exact hB.1, rs_D_any hB.2, hS⟩ hl
theorem rs_ofi {l : Launch} {g : rs_G} {kd : List rs_k} {t : Nat × Nat} {y : MethodName} {cc : ByteArray} {n d : Nat} {av : List Value} {M : rs_M} {post : Int32 → rs_M → Prop} (hy : plainFor y = true) (hav : (lg_sl av).length ≤ n) (body : ∀ Y : rs_Y, rs_K l g kd t cc n y.cls d Y → (∀ (M1 : rs_M) (r : Int32) (pc : Nat) (lv : List (Nat × Value)), decode cc pc = .ok (.ireturn, 1) → post r M1 → Y M1 pc lv [.int r]) → Y M 0 (lv_args 0 av) []) : rs_Ci l g kd t y cc n .int d av M post := by
  intro sz
  refine va_MetF (cc := cc) (maxL := n) (ret := (some .int)) hy rfl ?_
  intro p e s m args below meth c s₁ B hml hv
  obtain ⟨rfl, hsz, hP, hN, hD0, hZ⟩ := hv
  have hx := B.exec
  have hb := B.bytes
  have hr := B.returns
  have hts0 := atoms_spec (ws := .code y cc n (some .int) :: rs_T) B.pre
  have hts : ∀ w ∈ rs_T, w.before av.toArray s = true := fun w h => hts0 w (List.mem_cons_of_mem _ h)
  have hown : s.vm.findClass y.cls = some m.cls := findClass_of_methodNamed B.named
  have hlocks := B.notSynchronized
  subst hsz
  have hS : va_S (rs_A g kd s.heap.size) s.heap s.heap [] := va_S.rf
  have hl := lv_entry av (n := n) hav
  rw [lg_entry_eq]
  exact body (rs_J p l e d s m av.toArray below meth c _ g kd n) ⟨p, e, s, m, av.toArray, below, meth, c, _, rfl, hx, hb, hml, hown, hts, hN, hZ⟩ (fun M1 r pc lv hd hp H locs ls hI hl => W.iret (v := r) hx hb hr (fun t1 ht hW => ⟨⟨r, M1, rfl, hp, ⟨by rw [ht]; exact hI.1, hI.2.1⟩⟩, hI.2.2.F ht⟩) hI.2.2.2.2 hd) s.heap [] _ ⟨hP, hD0, hS⟩ hl
theorem rs_ofz {l : Launch} {g : rs_G} {kd : List rs_k} {t : Nat × Nat} {y : MethodName} {cc : ByteArray} {n d : Nat} {av : List Value} {M : rs_M} {post : Int32 → rs_M → Prop} (hy : plainFor y = true) (hav : (lg_sl av).length ≤ n) (body : ∀ Y : rs_Y, rs_K l g kd t cc n y.cls d Y → (∀ (M1 : rs_M) (r : Int32) (pc : Nat) (lv : List (Nat × Value)), decode cc pc = .ok (.ireturn, 1) → (r = 0 ∨ r = 1) → post r M1 → Y M1 pc lv [.int r]) → Y M 0 (lv_args 0 av) []) : rs_Ci l g kd t y cc n .boolean d av M post := by
  intro sz
  refine va_MetF (cc := cc) (maxL := n) (ret := (some .boolean)) hy rfl ?_
  intro p e s m args below meth c s₁ B hml hv
  obtain ⟨rfl, hsz, hP, hN, hD0, hZ⟩ := hv
  have hx := B.exec
  have hb := B.bytes
  have hr := B.returns
  have hts0 := atoms_spec (ws := .code y cc n (some .boolean) :: rs_T) B.pre
  have hts : ∀ w ∈ rs_T, w.before av.toArray s = true := fun w h => hts0 w (List.mem_cons_of_mem _ h)
  have hown : s.vm.findClass y.cls = some m.cls := findClass_of_methodNamed B.named
  have hlocks := B.notSynchronized
  subst hsz
  have hS : va_S (rs_A g kd s.heap.size) s.heap s.heap [] := va_S.rf
  have hl := lv_entry av (n := n) hav
  rw [lg_entry_eq]
  exact body (rs_J p l e d s m av.toArray below meth c _ g kd n) ⟨p, e, s, m, av.toArray, below, meth, c, _, rfl, hx, hb, hml, hown, hts, hN, hZ⟩ (fun M1 r pc lv hd h01 hp H locs ls hI hl => W.zret (v := r) hx hb hr (by rcases h01 with e | e <;> subst e <;> rfl) (fun t1 ht hW => ⟨⟨r, M1, rfl, hp, ⟨by rw [ht]; exact hI.1, hI.2.1⟩⟩, hI.2.2.F ht⟩) hI.2.2.2.2 hd) s.heap [] _ ⟨hP, hD0, hS⟩ hl
theorem rs_ofv {l : Launch} {g : rs_G} {kd : List rs_k} {t : Nat × Nat} {y : MethodName} {cc : ByteArray} {n d : Nat} {av : List Value} {M : rs_M} {post : rs_M → Prop} (hy : plainFor y = true) (hav : (lg_sl av).length ≤ n) (body : ∀ Y : rs_Y, rs_K l g kd t cc n y.cls d Y → (∀ (M1 : rs_M) (pc : Nat) (lv : List (Nat × Value)), decode cc pc = .ok (.return_, 1) → post M1 → Y M1 pc lv []) → Y M 0 (lv_args 0 av) []) : rs_Cv l g kd t y cc n d av M post := by
  intro sz
  refine va_MetF (cc := cc) (maxL := n) (ret := none) hy rfl ?_
  intro p e s m args below meth c s₁ B hml hv
  obtain ⟨rfl, hsz, hP, hN, hD0, hZ⟩ := hv
  have hx := B.exec
  have hb := B.bytes
  have hr := B.returns
  have hts0 := atoms_spec (ws := .code y cc n none :: rs_T) B.pre
  have hts : ∀ w ∈ rs_T, w.before av.toArray s = true := fun w h => hts0 w (List.mem_cons_of_mem _ h)
  have hown : s.vm.findClass y.cls = some m.cls := findClass_of_methodNamed B.named
  have hlocks := B.notSynchronized
  subst hsz
  have hS : va_S (rs_A g kd s.heap.size) s.heap s.heap [] := va_S.rf
  have hl := lv_entry av (n := n) hav
  rw [lg_entry_eq]
  exact body (rs_J p l e d s m av.toArray below meth c _ g kd n) ⟨p, e, s, m, av.toArray, below, meth, c, _, rfl, hx, hb, hml, hown, hts, hN, hZ⟩ (fun M1 pc lv hd hp H locs ls hI hl => W.vret hx hb hr (fun t1 ht hW => ⟨⟨M1, rfl, hp, ⟨by rw [ht]; exact hI.1, hI.2.1⟩⟩, hI.2.2.F ht⟩) hI.2.2.2.2 hd) s.heap [] _ ⟨hP, hD0, hS⟩ hl
theorem rs_ofr {l : Launch} {g : rs_G} {kd : List rs_k} {t : Nat × Nat} {y : MethodName} {cc : ByteArray} {n d : Nat} {av : List Value} {M : rs_M} {C : String} {post : Nat → rs_M → Prop} (hy : plainFor y = true) (hav : (lg_sl av).length ≤ n) (body : ∀ Y : rs_Y, rs_K l g kd t cc n y.cls d Y → (∀ (M1 : rs_M) (r pc : Nat) (lv : List (Nat × Value)), decode cc pc = .ok (.areturn, 1) → post r M1 → Y M1 pc lv [.ref (g.2.2 r)]) → Y M 0 (lv_args 0 av) []) : rs_Cr l g kd t y cc n (.object C) d av M post := by
  intro sz
  refine va_MetF (cc := cc) (maxL := n) (ret := (some (.object C))) hy rfl ?_
  intro p e s m args below meth c s₁ B hml hv
  obtain ⟨rfl, hsz, hP, hN, hD0, hZ⟩ := hv
  have hx := B.exec
  have hb := B.bytes
  have hr := B.returns
  have hts0 := atoms_spec (ws := .code y cc n (some (.object C)) :: rs_T) B.pre
  have hts : ∀ w ∈ rs_T, w.before av.toArray s = true := fun w h => hts0 w (List.mem_cons_of_mem _ h)
  have hown : s.vm.findClass y.cls = some m.cls := findClass_of_methodNamed B.named
  have hlocks := B.notSynchronized
  subst hsz
  have hS : va_S (rs_A g kd s.heap.size) s.heap s.heap [] := va_S.rf
  have hl := lv_entry av (n := n) hav
  rw [lg_entry_eq]
  exact body (rs_J p l e d s m av.toArray below meth c _ g kd n) ⟨p, e, s, m, av.toArray, below, meth, c, _, rfl, hx, hb, hml, hown, hts, hN, hZ⟩ (fun M1 r pc lv hd hp H locs ls hI hl => W.aret hx hb hr (Or.inl ⟨C, rfl⟩) (Or.inr ⟨_, rfl⟩) (fun t1 ht hW => ⟨⟨(r, M1), _, rfl, hp, rfl, ⟨by rw [ht]; exact hI.1, hI.2.1⟩⟩, hI.2.2.F ht⟩) hI.2.2.2.2 hd) s.heap [] _ ⟨hP, hD0, hS⟩ hl
end
section
theorem uw_0 : ∀ w ∈ u_ws RX0 TX0 5, w ∈ rs_T := by
  have e : u_ws RX0 TX0 5 = [Cond.laysFinal RX0 "RingSteer$Deeds" "kinds" "[I", Cond.laysFinal RX0 "RingSteer$Deeds" "which" "[I", Cond.laysFinal RX0 "RingSteer$Deeds" "wasFirst" "[I", Cond.laysFinal RX0 "RingSteer$Deeds" "wasSecond" "[I", Cond.lays RX0 "RingSteer$Deeds" "size" "I"] := by decide +kernel
  rw [e]
  exact List.forall_mem_cons.mpr ⟨qw_148, List.forall_mem_cons.mpr ⟨qw_150, List.forall_mem_cons.mpr ⟨qw_152, List.forall_mem_cons.mpr ⟨qw_154, List.forall_mem_cons.mpr ⟨qw_156, fun _ h => absurd h List.not_mem_nil⟩⟩⟩⟩⟩
theorem ff_0_kinds : rs_ff 0 0 "RingSteer$Deeds" "kinds" "[I" (.array .int) true := ⟨RX0, TX0, 5, tyX0, rfl, by decide, rfl, uw_0, tyX0_ok, nmX0, by decide +kernel⟩
theorem ff_0_which : rs_ff 0 1 "RingSteer$Deeds" "which" "[I" (.array .int) true := ⟨RX0, TX0, 5, tyX0, rfl, by decide, rfl, uw_0, tyX0_ok, nmX0, by decide +kernel⟩
theorem ff_0_wasFirst : rs_ff 0 2 "RingSteer$Deeds" "wasFirst" "[I" (.array .int) true := ⟨RX0, TX0, 5, tyX0, rfl, by decide, rfl, uw_0, tyX0_ok, nmX0, by decide +kernel⟩
theorem ff_0_wasSecond : rs_ff 0 3 "RingSteer$Deeds" "wasSecond" "[I" (.array .int) true := ⟨RX0, TX0, 5, tyX0, rfl, by decide, rfl, uw_0, tyX0_ok, nmX0, by decide +kernel⟩
theorem ff_0_size : rs_ff 0 4 "RingSteer$Deeds" "size" "I" .int false := ⟨RX0, TX0, 5, tyX0, rfl, by decide, rfl, uw_0, tyX0_ok, nmX0, by decide +kernel⟩
theorem uw_1 : ∀ w ∈ u_ws RX1 TX1 8, w ∈ rs_T := by
  have e : u_ws RX1 TX1 8 = [Cond.laysFinal RX1 "RingSteer$Line" "spots" "[LRingSteer$Spot;", Cond.laysFinal RX1 "RingSteer$Line" "wishX" "[I", Cond.laysFinal RX1 "RingSteer$Line" "wishY" "[I", Cond.lays RX1 "RingSteer$Line" "rings" "I", Cond.lays RX1 "RingSteer$Line" "taper" "I", Cond.lays RX1 "RingSteer$Line" "bar" "I", Cond.lays RX1 "RingSteer$Line" "way" "I", Cond.lays RX1 "RingSteer$Line" "tail" "I"] := by decide +kernel
  rw [e]
  exact List.forall_mem_cons.mpr ⟨qw_82, List.forall_mem_cons.mpr ⟨qw_84, List.forall_mem_cons.mpr ⟨qw_86, List.forall_mem_cons.mpr ⟨qw_88, List.forall_mem_cons.mpr ⟨qw_90, List.forall_mem_cons.mpr ⟨qw_92, List.forall_mem_cons.mpr ⟨qw_94, List.forall_mem_cons.mpr ⟨qw_96, fun _ h => absurd h List.not_mem_nil⟩⟩⟩⟩⟩⟩⟩⟩
theorem ff_1_spots : rs_ff 1 0 "RingSteer$Line" "spots" "[LRingSteer$Spot;" (.array (.object "RingSteer$Spot")) true := ⟨RX1, TX1, 8, tyX1, rfl, by decide, rfl, uw_1, tyX1_ok, nmX1, by decide +kernel⟩
theorem ff_1_wishX : rs_ff 1 1 "RingSteer$Line" "wishX" "[I" (.array .int) true := ⟨RX1, TX1, 8, tyX1, rfl, by decide, rfl, uw_1, tyX1_ok, nmX1, by decide +kernel⟩
theorem ff_1_wishY : rs_ff 1 2 "RingSteer$Line" "wishY" "[I" (.array .int) true := ⟨RX1, TX1, 8, tyX1, rfl, by decide, rfl, uw_1, tyX1_ok, nmX1, by decide +kernel⟩
theorem ff_1_rings : rs_ff 1 3 "RingSteer$Line" "rings" "I" .int false := ⟨RX1, TX1, 8, tyX1, rfl, by decide, rfl, uw_1, tyX1_ok, nmX1, by decide +kernel⟩
theorem ff_1_taper : rs_ff 1 4 "RingSteer$Line" "taper" "I" .int false := ⟨RX1, TX1, 8, tyX1, rfl, by decide, rfl, uw_1, tyX1_ok, nmX1, by decide +kernel⟩
theorem ff_1_bar : rs_ff 1 5 "RingSteer$Line" "bar" "I" .int false := ⟨RX1, TX1, 8, tyX1, rfl, by decide, rfl, uw_1, tyX1_ok, nmX1, by decide +kernel⟩
theorem ff_1_way : rs_ff 1 6 "RingSteer$Line" "way" "I" .int false := ⟨RX1, TX1, 8, tyX1, rfl, by decide, rfl, uw_1, tyX1_ok, nmX1, by decide +kernel⟩
theorem ff_1_tail : rs_ff 1 7 "RingSteer$Line" "tail" "I" .int false := ⟨RX1, TX1, 8, tyX1, rfl, by decide, rfl, uw_1, tyX1_ok, nmX1, by decide +kernel⟩
theorem uw_2 : ∀ w ∈ u_ws RX2 TX2 9, w ∈ rs_T := by
  have e : u_ws RX2 TX2 9 = [Cond.laysFinal RX2 "RingSteer$Script" "letters" "[I", Cond.lays RX2 "RingSteer$Script" "length" "I", Cond.lays RX2 "RingSteer$Script" "start" "I", Cond.lays RX2 "RingSteer$Script" "kind" "I", Cond.lays RX2 "RingSteer$Script" "number" "I", Cond.lays RX2 "RingSteer$Script" "behind" "I", Cond.lays RX2 "RingSteer$Script" "wishesTold" "I", Cond.lays RX2 "RingSteer$Script" "taperTold" "Z", Cond.laysFinal RX2 "RingSteer$Script" "ruleTold" "[Z"] := by decide +kernel
  rw [e]
  exact List.forall_mem_cons.mpr ⟨qw_116, List.forall_mem_cons.mpr ⟨qw_118, List.forall_mem_cons.mpr ⟨qw_120, List.forall_mem_cons.mpr ⟨qw_122, List.forall_mem_cons.mpr ⟨qw_124, List.forall_mem_cons.mpr ⟨qw_126, List.forall_mem_cons.mpr ⟨qw_128, List.forall_mem_cons.mpr ⟨qw_130, List.forall_mem_cons.mpr ⟨qw_132, fun _ h => absurd h List.not_mem_nil⟩⟩⟩⟩⟩⟩⟩⟩⟩
theorem ff_2_letters : rs_ff 2 0 "RingSteer$Script" "letters" "[I" (.array .int) true := ⟨RX2, TX2, 9, tyX2, rfl, by decide, rfl, uw_2, tyX2_ok, nmX2, by decide +kernel⟩
theorem ff_2_length : rs_ff 2 1 "RingSteer$Script" "length" "I" .int false := ⟨RX2, TX2, 9, tyX2, rfl, by decide, rfl, uw_2, tyX2_ok, nmX2, by decide +kernel⟩
theorem ff_2_start : rs_ff 2 2 "RingSteer$Script" "start" "I" .int false := ⟨RX2, TX2, 9, tyX2, rfl, by decide, rfl, uw_2, tyX2_ok, nmX2, by decide +kernel⟩
theorem ff_2_kind : rs_ff 2 3 "RingSteer$Script" "kind" "I" .int false := ⟨RX2, TX2, 9, tyX2, rfl, by decide, rfl, uw_2, tyX2_ok, nmX2, by decide +kernel⟩
theorem ff_2_number : rs_ff 2 4 "RingSteer$Script" "number" "I" .int false := ⟨RX2, TX2, 9, tyX2, rfl, by decide, rfl, uw_2, tyX2_ok, nmX2, by decide +kernel⟩
theorem ff_2_behind : rs_ff 2 5 "RingSteer$Script" "behind" "I" .int false := ⟨RX2, TX2, 9, tyX2, rfl, by decide, rfl, uw_2, tyX2_ok, nmX2, by decide +kernel⟩
theorem ff_2_wishesTold : rs_ff 2 6 "RingSteer$Script" "wishesTold" "I" .int false := ⟨RX2, TX2, 9, tyX2, rfl, by decide, rfl, uw_2, tyX2_ok, nmX2, by decide +kernel⟩
theorem ff_2_taperTold : rs_ff 2 7 "RingSteer$Script" "taperTold" "Z" .boolean false := ⟨RX2, TX2, 9, tyX2, rfl, by decide, rfl, uw_2, tyX2_ok, nmX2, by decide +kernel⟩
theorem ff_2_ruleTold : rs_ff 2 8 "RingSteer$Script" "ruleTold" "[Z" (.array .boolean) true := ⟨RX2, TX2, 9, tyX2, rfl, by decide, rfl, uw_2, tyX2_ok, nmX2, by decide +kernel⟩
theorem uw_3 : ∀ w ∈ u_ws RX3 TX3 5, w ∈ rs_T := by
  have e : u_ws RX3 TX3 5 = [Cond.laysFinal RX3 "RingSteer$Search" "spots" "[LRingSteer$Spot;", Cond.laysFinal RX3 "RingSteer$Search" "firstRow" "[I", Cond.lays RX3 "RingSteer$Search" "ahead" "I", Cond.lays RX3 "RingSteer$Search" "rows" "I", Cond.lays RX3 "RingSteer$Search" "least" "I"] := by decide +kernel
  rw [e]
  exact List.forall_mem_cons.mpr ⟨qw_176, List.forall_mem_cons.mpr ⟨qw_178, List.forall_mem_cons.mpr ⟨qw_180, List.forall_mem_cons.mpr ⟨qw_182, List.forall_mem_cons.mpr ⟨qw_184, fun _ h => absurd h List.not_mem_nil⟩⟩⟩⟩⟩
theorem ff_3_spots : rs_ff 3 0 "RingSteer$Search" "spots" "[LRingSteer$Spot;" (.array (.object "RingSteer$Spot")) true := ⟨RX3, TX3, 5, tyX3, rfl, by decide, rfl, uw_3, tyX3_ok, nmX3, by decide +kernel⟩
theorem ff_3_firstRow : rs_ff 3 1 "RingSteer$Search" "firstRow" "[I" (.array .int) true := ⟨RX3, TX3, 5, tyX3, rfl, by decide, rfl, uw_3, tyX3_ok, nmX3, by decide +kernel⟩
theorem ff_3_ahead : rs_ff 3 2 "RingSteer$Search" "ahead" "I" .int false := ⟨RX3, TX3, 5, tyX3, rfl, by decide, rfl, uw_3, tyX3_ok, nmX3, by decide +kernel⟩
theorem ff_3_rows : rs_ff 3 3 "RingSteer$Search" "rows" "I" .int false := ⟨RX3, TX3, 5, tyX3, rfl, by decide, rfl, uw_3, tyX3_ok, nmX3, by decide +kernel⟩
theorem ff_3_least : rs_ff 3 4 "RingSteer$Search" "least" "I" .int false := ⟨RX3, TX3, 5, tyX3, rfl, by decide, rfl, uw_3, tyX3_ok, nmX3, by decide +kernel⟩
theorem uw_4 : ∀ w ∈ u_ws RX4 TX4 6, w ∈ rs_T := by
  have e : u_ws RX4 TX4 6 = [Cond.lays RX4 "RingSteer$Spot" "ringNumber" "I", Cond.lays RX4 "RingSteer$Spot" "key" "I", Cond.lays RX4 "RingSteer$Spot" "slopeX" "I", Cond.lays RX4 "RingSteer$Spot" "slopeY" "I", Cond.lays RX4 "RingSteer$Spot" "placeX" "I", Cond.lays RX4 "RingSteer$Spot" "placeY" "I"] := by decide +kernel
  rw [e]
  exact List.forall_mem_cons.mpr ⟨qw_49, List.forall_mem_cons.mpr ⟨qw_51, List.forall_mem_cons.mpr ⟨qw_53, List.forall_mem_cons.mpr ⟨qw_55, List.forall_mem_cons.mpr ⟨qw_57, List.forall_mem_cons.mpr ⟨qw_59, fun _ h => absurd h List.not_mem_nil⟩⟩⟩⟩⟩⟩
theorem ff_4_ringNumber : rs_ff 4 0 "RingSteer$Spot" "ringNumber" "I" .int false := ⟨RX4, TX4, 6, tyX4, rfl, by decide, rfl, uw_4, tyX4_ok, nmX4, by decide +kernel⟩
theorem ff_4_key : rs_ff 4 1 "RingSteer$Spot" "key" "I" .int false := ⟨RX4, TX4, 6, tyX4, rfl, by decide, rfl, uw_4, tyX4_ok, nmX4, by decide +kernel⟩
theorem ff_4_slopeX : rs_ff 4 2 "RingSteer$Spot" "slopeX" "I" .int false := ⟨RX4, TX4, 6, tyX4, rfl, by decide, rfl, uw_4, tyX4_ok, nmX4, by decide +kernel⟩
theorem ff_4_slopeY : rs_ff 4 3 "RingSteer$Spot" "slopeY" "I" .int false := ⟨RX4, TX4, 6, tyX4, rfl, by decide, rfl, uw_4, tyX4_ok, nmX4, by decide +kernel⟩
theorem ff_4_placeX : rs_ff 4 4 "RingSteer$Spot" "placeX" "I" .int false := ⟨RX4, TX4, 6, tyX4, rfl, by decide, rfl, uw_4, tyX4_ok, nmX4, by decide +kernel⟩
theorem ff_4_placeY : rs_ff 4 5 "RingSteer$Spot" "placeY" "I" .int false := ⟨RX4, TX4, 6, tyX4, rfl, by decide, rfl, uw_4, tyX4_ok, nmX4, by decide +kernel⟩
theorem uw_5 : ∀ w ∈ u_ws RX5 TX5 11, w ∈ rs_T := by
  have e : u_ws RX5 TX5 11 = [Cond.laysFinal RX5 "RingSteer" "line" "LRingSteer$Line;", Cond.laysFinal RX5 "RingSteer" "draft" "LRingSteer$Line;", Cond.laysFinal RX5 "RingSteer" "images" "[LRingSteer$Line;", Cond.laysFinal RX5 "RingSteer" "kept" "[Z", Cond.laysFinal RX5 "RingSteer" "script" "LRingSteer$Script;", Cond.laysFinal RX5 "RingSteer" "deeds" "LRingSteer$Deeds;", Cond.laysFinal RX5 "RingSteer" "search" "LRingSteer$Search;", Cond.laysFinal RX5 "RingSteer" "probe" "LRingSteer$Spot;", Cond.laysFinal RX5 "RingSteer" "seenX" "[I", Cond.laysFinal RX5 "RingSteer" "seenY" "[I", Cond.lays RX5 "RingSteer" "seen" "I"] := by decide +kernel
  rw [e]
  exact List.forall_mem_cons.mpr ⟨qw_200, List.forall_mem_cons.mpr ⟨qw_202, List.forall_mem_cons.mpr ⟨qw_204, List.forall_mem_cons.mpr ⟨qw_206, List.forall_mem_cons.mpr ⟨qw_208, List.forall_mem_cons.mpr ⟨qw_210, List.forall_mem_cons.mpr ⟨qw_212, List.forall_mem_cons.mpr ⟨qw_214, List.forall_mem_cons.mpr ⟨qw_216, List.forall_mem_cons.mpr ⟨qw_218, List.forall_mem_cons.mpr ⟨qw_220, fun _ h => absurd h List.not_mem_nil⟩⟩⟩⟩⟩⟩⟩⟩⟩⟩⟩
theorem ff_5_line : rs_ff 5 0 "RingSteer" "line" "LRingSteer$Line;" (.object "RingSteer$Line") true := ⟨RX5, TX5, 11, tyX5, rfl, by decide, rfl, uw_5, tyX5_ok, nmX5, by decide +kernel⟩
theorem ff_5_draft : rs_ff 5 1 "RingSteer" "draft" "LRingSteer$Line;" (.object "RingSteer$Line") true := ⟨RX5, TX5, 11, tyX5, rfl, by decide, rfl, uw_5, tyX5_ok, nmX5, by decide +kernel⟩
theorem ff_5_images : rs_ff 5 2 "RingSteer" "images" "[LRingSteer$Line;" (.array (.object "RingSteer$Line")) true := ⟨RX5, TX5, 11, tyX5, rfl, by decide, rfl, uw_5, tyX5_ok, nmX5, by decide +kernel⟩
theorem ff_5_kept : rs_ff 5 3 "RingSteer" "kept" "[Z" (.array .boolean) true := ⟨RX5, TX5, 11, tyX5, rfl, by decide, rfl, uw_5, tyX5_ok, nmX5, by decide +kernel⟩
theorem ff_5_script : rs_ff 5 4 "RingSteer" "script" "LRingSteer$Script;" (.object "RingSteer$Script") true := ⟨RX5, TX5, 11, tyX5, rfl, by decide, rfl, uw_5, tyX5_ok, nmX5, by decide +kernel⟩
theorem ff_5_deeds : rs_ff 5 5 "RingSteer" "deeds" "LRingSteer$Deeds;" (.object "RingSteer$Deeds") true := ⟨RX5, TX5, 11, tyX5, rfl, by decide, rfl, uw_5, tyX5_ok, nmX5, by decide +kernel⟩
theorem ff_5_search : rs_ff 5 6 "RingSteer" "search" "LRingSteer$Search;" (.object "RingSteer$Search") true := ⟨RX5, TX5, 11, tyX5, rfl, by decide, rfl, uw_5, tyX5_ok, nmX5, by decide +kernel⟩
theorem ff_5_probe : rs_ff 5 7 "RingSteer" "probe" "LRingSteer$Spot;" (.object "RingSteer$Spot") true := ⟨RX5, TX5, 11, tyX5, rfl, by decide, rfl, uw_5, tyX5_ok, nmX5, by decide +kernel⟩
theorem ff_5_seenX : rs_ff 5 8 "RingSteer" "seenX" "[I" (.array .int) true := ⟨RX5, TX5, 11, tyX5, rfl, by decide, rfl, uw_5, tyX5_ok, nmX5, by decide +kernel⟩
theorem ff_5_seenY : rs_ff 5 9 "RingSteer" "seenY" "[I" (.array .int) true := ⟨RX5, TX5, 11, tyX5, rfl, by decide, rfl, uw_5, tyX5_ok, nmX5, by decide +kernel⟩
theorem ff_5_seen : rs_ff 5 10 "RingSteer" "seen" "I" .int false := ⟨RX5, TX5, 11, tyX5, rfl, by decide, rfl, uw_5, tyX5_ok, nmX5, by decide +kernel⟩
theorem uw_6 : ∀ w ∈ u_ws RX6 TX6 29, w ∈ rs_T := by
  have e : u_ws RX6 TX6 29 = [Cond.lays RX6 "RingSteerModel" "taper" "I", Cond.laysFinal RX6 "RingSteerModel" "now" "[I", Cond.lays RX6 "RingSteerModel" "undoMany" "I", Cond.lays RX6 "RingSteerModel" "undoAt" "I", Cond.laysFinal RX6 "RingSteerModel" "undos" "[I", Cond.lays RX6 "RingSteerModel" "seenMany" "I", Cond.laysFinal RX6 "RingSteerModel" "seenX" "[I", Cond.laysFinal RX6 "RingSteerModel" "seenY" "[I", Cond.laysFinal RX6 "RingSteerModel" "isKept" "[Z", Cond.laysFinal RX6 "RingSteerModel" "kept" "[I", Cond.laysFinal RX6 "RingSteerModel" "keys" "[I", Cond.laysFinal RX6 "RingSteerModel" "slopeX" "[I", Cond.laysFinal RX6 "RingSteerModel" "slopeY" "[I", Cond.laysFinal RX6 "RingSteerModel" "placeX" "[I", Cond.laysFinal RX6 "RingSteerModel" "placeY" "[I", Cond.lays RX6 "RingSteerModel" "letterMany" "I", Cond.laysFinal RX6 "RingSteerModel" "text" "[I", Cond.lays RX6 "RingSteerModel" "readAt" "I", Cond.lays RX6 "RingSteerModel" "tokenAt" "I", Cond.lays RX6 "RingSteerModel" "token" "I", Cond.lays RX6 "RingSteerModel" "value" "I", Cond.lays RX6 "RingSteerModel" "faultAt" "I", Cond.lays RX6 "RingSteerModel" "readOnce" "I", Cond.lays RX6 "RingSteerModel" "readTaper" "I", Cond.lays RX6 "RingSteerModel" "readWishes" "I", Cond.laysFinal RX6 "RingSteerModel" "read" "[I", Cond.lays RX6 "RingSteerModel" "planMany" "I", Cond.lays RX6 "RingSteerModel" "planFirst" "I", Cond.lays RX6 "RingSteerModel" "planCost" "I"] := by decide +kernel
  rw [e]
  exact List.forall_mem_cons.mpr ⟨qw_573, List.forall_mem_cons.mpr ⟨qw_575, List.forall_mem_cons.mpr ⟨qw_577, List.forall_mem_cons.mpr ⟨qw_579, List.forall_mem_cons.mpr ⟨qw_581, List.forall_mem_cons.mpr ⟨qw_583, List.forall_mem_cons.mpr ⟨qw_585, List.forall_mem_cons.mpr ⟨qw_587, List.forall_mem_cons.mpr ⟨qw_589, List.forall_mem_cons.mpr ⟨qw_591, List.forall_mem_cons.mpr ⟨qw_593, List.forall_mem_cons.mpr ⟨qw_595, List.forall_mem_cons.mpr ⟨qw_597, List.forall_mem_cons.mpr ⟨qw_599, List.forall_mem_cons.mpr ⟨qw_601, List.forall_mem_cons.mpr ⟨qw_603, List.forall_mem_cons.mpr ⟨qw_605, List.forall_mem_cons.mpr ⟨qw_607, List.forall_mem_cons.mpr ⟨qw_609, List.forall_mem_cons.mpr ⟨qw_611, List.forall_mem_cons.mpr ⟨qw_613, List.forall_mem_cons.mpr ⟨qw_615, List.forall_mem_cons.mpr ⟨qw_617, List.forall_mem_cons.mpr ⟨qw_619, List.forall_mem_cons.mpr ⟨qw_621, List.forall_mem_cons.mpr ⟨qw_623, List.forall_mem_cons.mpr ⟨qw_625, List.forall_mem_cons.mpr ⟨qw_627, List.forall_mem_cons.mpr ⟨qw_629, fun _ h => absurd h List.not_mem_nil⟩⟩⟩⟩⟩⟩⟩⟩⟩⟩⟩⟩⟩⟩⟩⟩⟩⟩⟩⟩⟩⟩⟩⟩⟩⟩⟩⟩⟩
theorem ff_6_taper : rs_ff 6 0 "RingSteerModel" "taper" "I" .int false := ⟨RX6, TX6, 29, tyX6, rfl, by decide, rfl, uw_6, tyX6_ok, nmX6, by decide +kernel⟩
theorem ff_6_now : rs_ff 6 1 "RingSteerModel" "now" "[I" (.array .int) true := ⟨RX6, TX6, 29, tyX6, rfl, by decide, rfl, uw_6, tyX6_ok, nmX6, by decide +kernel⟩
theorem ff_6_undoMany : rs_ff 6 2 "RingSteerModel" "undoMany" "I" .int false := ⟨RX6, TX6, 29, tyX6, rfl, by decide, rfl, uw_6, tyX6_ok, nmX6, by decide +kernel⟩
theorem ff_6_undoAt : rs_ff 6 3 "RingSteerModel" "undoAt" "I" .int false := ⟨RX6, TX6, 29, tyX6, rfl, by decide, rfl, uw_6, tyX6_ok, nmX6, by decide +kernel⟩
theorem ff_6_undos : rs_ff 6 4 "RingSteerModel" "undos" "[I" (.array .int) true := ⟨RX6, TX6, 29, tyX6, rfl, by decide, rfl, uw_6, tyX6_ok, nmX6, by decide +kernel⟩
theorem ff_6_seenMany : rs_ff 6 5 "RingSteerModel" "seenMany" "I" .int false := ⟨RX6, TX6, 29, tyX6, rfl, by decide, rfl, uw_6, tyX6_ok, nmX6, by decide +kernel⟩
theorem ff_6_seenX : rs_ff 6 6 "RingSteerModel" "seenX" "[I" (.array .int) true := ⟨RX6, TX6, 29, tyX6, rfl, by decide, rfl, uw_6, tyX6_ok, nmX6, by decide +kernel⟩
theorem ff_6_seenY : rs_ff 6 7 "RingSteerModel" "seenY" "[I" (.array .int) true := ⟨RX6, TX6, 29, tyX6, rfl, by decide, rfl, uw_6, tyX6_ok, nmX6, by decide +kernel⟩
theorem ff_6_isKept : rs_ff 6 8 "RingSteerModel" "isKept" "[Z" (.array .boolean) true := ⟨RX6, TX6, 29, tyX6, rfl, by decide, rfl, uw_6, tyX6_ok, nmX6, by decide +kernel⟩
theorem ff_6_kept : rs_ff 6 9 "RingSteerModel" "kept" "[I" (.array .int) true := ⟨RX6, TX6, 29, tyX6, rfl, by decide, rfl, uw_6, tyX6_ok, nmX6, by decide +kernel⟩
theorem ff_6_keys : rs_ff 6 10 "RingSteerModel" "keys" "[I" (.array .int) true := ⟨RX6, TX6, 29, tyX6, rfl, by decide, rfl, uw_6, tyX6_ok, nmX6, by decide +kernel⟩
theorem ff_6_slopeX : rs_ff 6 11 "RingSteerModel" "slopeX" "[I" (.array .int) true := ⟨RX6, TX6, 29, tyX6, rfl, by decide, rfl, uw_6, tyX6_ok, nmX6, by decide +kernel⟩
theorem ff_6_slopeY : rs_ff 6 12 "RingSteerModel" "slopeY" "[I" (.array .int) true := ⟨RX6, TX6, 29, tyX6, rfl, by decide, rfl, uw_6, tyX6_ok, nmX6, by decide +kernel⟩
theorem ff_6_placeX : rs_ff 6 13 "RingSteerModel" "placeX" "[I" (.array .int) true := ⟨RX6, TX6, 29, tyX6, rfl, by decide, rfl, uw_6, tyX6_ok, nmX6, by decide +kernel⟩
theorem ff_6_placeY : rs_ff 6 14 "RingSteerModel" "placeY" "[I" (.array .int) true := ⟨RX6, TX6, 29, tyX6, rfl, by decide, rfl, uw_6, tyX6_ok, nmX6, by decide +kernel⟩
theorem ff_6_letterMany : rs_ff 6 15 "RingSteerModel" "letterMany" "I" .int false := ⟨RX6, TX6, 29, tyX6, rfl, by decide, rfl, uw_6, tyX6_ok, nmX6, by decide +kernel⟩
theorem ff_6_text : rs_ff 6 16 "RingSteerModel" "text" "[I" (.array .int) true := ⟨RX6, TX6, 29, tyX6, rfl, by decide, rfl, uw_6, tyX6_ok, nmX6, by decide +kernel⟩
theorem ff_6_readAt : rs_ff 6 17 "RingSteerModel" "readAt" "I" .int false := ⟨RX6, TX6, 29, tyX6, rfl, by decide, rfl, uw_6, tyX6_ok, nmX6, by decide +kernel⟩
theorem ff_6_tokenAt : rs_ff 6 18 "RingSteerModel" "tokenAt" "I" .int false := ⟨RX6, TX6, 29, tyX6, rfl, by decide, rfl, uw_6, tyX6_ok, nmX6, by decide +kernel⟩
theorem ff_6_token : rs_ff 6 19 "RingSteerModel" "token" "I" .int false := ⟨RX6, TX6, 29, tyX6, rfl, by decide, rfl, uw_6, tyX6_ok, nmX6, by decide +kernel⟩
theorem ff_6_value : rs_ff 6 20 "RingSteerModel" "value" "I" .int false := ⟨RX6, TX6, 29, tyX6, rfl, by decide, rfl, uw_6, tyX6_ok, nmX6, by decide +kernel⟩
theorem ff_6_faultAt : rs_ff 6 21 "RingSteerModel" "faultAt" "I" .int false := ⟨RX6, TX6, 29, tyX6, rfl, by decide, rfl, uw_6, tyX6_ok, nmX6, by decide +kernel⟩
theorem ff_6_readOnce : rs_ff 6 22 "RingSteerModel" "readOnce" "I" .int false := ⟨RX6, TX6, 29, tyX6, rfl, by decide, rfl, uw_6, tyX6_ok, nmX6, by decide +kernel⟩
theorem ff_6_readTaper : rs_ff 6 23 "RingSteerModel" "readTaper" "I" .int false := ⟨RX6, TX6, 29, tyX6, rfl, by decide, rfl, uw_6, tyX6_ok, nmX6, by decide +kernel⟩
theorem ff_6_readWishes : rs_ff 6 24 "RingSteerModel" "readWishes" "I" .int false := ⟨RX6, TX6, 29, tyX6, rfl, by decide, rfl, uw_6, tyX6_ok, nmX6, by decide +kernel⟩
theorem ff_6_read : rs_ff 6 25 "RingSteerModel" "read" "[I" (.array .int) true := ⟨RX6, TX6, 29, tyX6, rfl, by decide, rfl, uw_6, tyX6_ok, nmX6, by decide +kernel⟩
theorem ff_6_planMany : rs_ff 6 26 "RingSteerModel" "planMany" "I" .int false := ⟨RX6, TX6, 29, tyX6, rfl, by decide, rfl, uw_6, tyX6_ok, nmX6, by decide +kernel⟩
theorem ff_6_planFirst : rs_ff 6 27 "RingSteerModel" "planFirst" "I" .int false := ⟨RX6, TX6, 29, tyX6, rfl, by decide, rfl, uw_6, tyX6_ok, nmX6, by decide +kernel⟩
theorem ff_6_planCost : rs_ff 6 28 "RingSteerModel" "planCost" "I" .int false := ⟨RX6, TX6, 29, tyX6, rfl, by decide, rfl, uw_6, tyX6_ok, nmX6, by decide +kernel⟩
theorem mf_X5_init : rs_mf yX5_init cX5_init 2 none 0 := ⟨qw_14, qw_1, ⟨by decide, by decide, by decide +kernel⟩, by decide⟩
theorem mf_X1_init : rs_mf yX1_init cX1_init 2 none 0 := ⟨qw_22, qw_2, ⟨by decide, by decide, by decide +kernel⟩, by decide⟩
theorem mf_X4_init : rs_mf yX4_init cX4_init 1 none 0 := ⟨qw_29, qw_3, ⟨by decide, by decide, by decide +kernel⟩, by decide⟩
theorem mf_X2_init : rs_mf yX2_init cX2_init 1 none 0 := ⟨qw_104, qw_4, ⟨by decide, by decide, by decide +kernel⟩, by decide⟩
theorem mf_X0_init : rs_mf yX0_init cX0_init 1 none 0 := ⟨qw_140, qw_5, ⟨by decide, by decide, by decide +kernel⟩, by decide⟩
theorem mf_X3_init : rs_mf yX3_init cX3_init 2 none 0 := ⟨qw_163, qw_6, ⟨by decide, by decide, by decide +kernel⟩, by decide⟩
theorem mf_X5_type : rs_mf yX5_type cX5_type 2 (some .int) 1 := ⟨qw_226, qw_1, ⟨by decide, by decide, by decide +kernel⟩, by decide⟩
theorem mf_X5_isWithin : rs_mf yX5_isWithin cX5_isWithin 3 (some .boolean) 3 := ⟨qw_229, qw_1, ⟨by decide, by decide, by decide +kernel⟩, by decide⟩
theorem mf_X2_add : rs_mf yX2_add cX2_add 2 (some .boolean) 1 := ⟨qw_233, qw_4, ⟨by decide, by decide, by decide +kernel⟩, by decide⟩
theorem mf_X5_clear : rs_mf yX5_clear cX5_clear 2 (some .int) 0 := ⟨qw_238, qw_1, ⟨by decide, by decide, by decide +kernel⟩, by decide⟩
theorem mf_X5_tunnel : rs_mf yX5_tunnel cX5_tunnel 3 (some .int) 0 := ⟨qw_242, qw_1, ⟨by decide, by decide, by decide +kernel⟩, by decide⟩
theorem mf_X1_reset : rs_mf yX1_reset cX1_reset 2 none 0 := ⟨qw_246, qw_2, ⟨by decide, by decide, by decide +kernel⟩, by decide⟩
theorem mf_X2_readInto : rs_mf yX2_readInto cX2_readInto 3 (some .int) 1 := ⟨qw_250, qw_4, ⟨by decide, by decide, by decide +kernel⟩, by decide⟩
theorem mf_X2_toNextToken : rs_mf yX2_toNextToken cX2_toNextToken 1 none 0 := ⟨qw_254, qw_4, ⟨by decide, by decide, by decide +kernel⟩, by decide⟩
theorem mf_X2_kindAt : rs_mf yX2_kindAt cX2_kindAt 3 (some .int) 1 := ⟨qw_258, qw_4, ⟨by decide, by decide, by decide +kernel⟩, by decide⟩
theorem mf_X2_digitAt : rs_mf yX2_digitAt cX2_digitAt 3 (some .int) 1 := ⟨qw_262, qw_4, ⟨by decide, by decide, by decide +kernel⟩, by decide⟩
theorem mf_X2_isNumber : rs_mf yX2_isNumber cX2_isNumber 2 (some .boolean) 2 := ⟨qw_265, qw_4, ⟨by decide, by decide, by decide +kernel⟩, by decide⟩
theorem mf_X2_readItem : rs_mf yX2_readItem cX2_readItem 2 (some .boolean) 1 := ⟨qw_269, qw_4, ⟨by decide, by decide, by decide +kernel⟩, by decide⟩
theorem mf_X2_readTaper : rs_mf yX2_readTaper cX2_readTaper 2 (some .boolean) 1 := ⟨qw_273, qw_4, ⟨by decide, by decide, by decide +kernel⟩, by decide⟩
theorem mf_X2_readRule : rs_mf yX2_readRule cX2_readRule 3 (some .boolean) 2 := ⟨qw_277, qw_4, ⟨by decide, by decide, by decide +kernel⟩, by decide⟩
theorem mf_X5_isRule : rs_mf yX5_isRule cX5_isRule 2 (some .boolean) 2 := ⟨qw_280, qw_1, ⟨by decide, by decide, by decide +kernel⟩, by decide⟩
theorem mf_X1_setRule : rs_mf yX1_setRule cX1_setRule 3 none 2 := ⟨qw_284, qw_2, ⟨by decide, by decide, by decide +kernel⟩, by decide⟩
theorem mf_X2_readWish : rs_mf yX2_readWish cX2_readWish 3 (some .boolean) 1 := ⟨qw_288, qw_4, ⟨by decide, by decide, by decide +kernel⟩, by decide⟩
theorem mf_X2_readSigned : rs_mf yX2_readSigned cX2_readSigned 2 (some .boolean) 0 := ⟨qw_292, qw_4, ⟨by decide, by decide, by decide +kernel⟩, by decide⟩
theorem mf_X1_setWish : rs_mf yX1_setWish cX1_setWish 4 none 3 := ⟨qw_296, qw_2, ⟨by decide, by decide, by decide +kernel⟩, by decide⟩
theorem mf_X2_readKey : rs_mf yX2_readKey cX2_readKey 2 (some .boolean) 1 := ⟨qw_301, qw_4, ⟨by decide, by decide, by decide +kernel⟩, by decide⟩
theorem mf_X5_isKey : rs_mf yX5_isKey cX5_isKey 1 (some .boolean) 1 := ⟨qw_304, qw_1, ⟨by decide, by decide, by decide +kernel⟩, by decide⟩
theorem mf_X1_last : rs_mf yX1_last cX1_last 1 (some (.object "RingSteer$Spot")) 0 := ⟨qw_308, qw_2, ⟨by decide, by decide, by decide +kernel⟩, by decide⟩
theorem mf_X1_mayFollow : rs_mf yX1_mayFollow cX1_mayFollow 3 (some .boolean) 2 := ⟨qw_312, qw_2, ⟨by decide, by decide, by decide +kernel⟩, by decide⟩
theorem mf_X1_isBarred : rs_mf yX1_isBarred cX1_isBarred 4 (some .boolean) 2 := ⟨qw_316, qw_2, ⟨by decide, by decide, by decide +kernel⟩, by decide⟩
theorem mf_J9_floorMod_7cf53 : rs_mf yJ9_floorMod_7cf53 cJ9_floorMod_7cf53 3 (some .int) 2 := ⟨qw_319, qw_8, ⟨by decide, by decide, by decide +kernel⟩, by decide⟩
theorem mf_X1_hasRoom : rs_mf yX1_hasRoom cX1_hasRoom 6 (some .boolean) 2 := ⟨qw_323, qw_2, ⟨by decide, by decide, by decide +kernel⟩, by decide⟩
theorem mf_X5_leanX : rs_mf yX5_leanX cX5_leanX 1 (some .int) 1 := ⟨qw_326, qw_1, ⟨by decide, by decide, by decide +kernel⟩, by decide⟩
theorem mf_J9_abs_0f7a4 : rs_mf yJ9_abs_0f7a4 cJ9_abs_0f7a4 1 (some .int) 1 := ⟨qw_331, qw_8, ⟨by decide, by decide, by decide +kernel⟩, by decide⟩
theorem mf_X5_leanY : rs_mf yX5_leanY cX5_leanY 1 (some .int) 1 := ⟨qw_334, qw_1, ⟨by decide, by decide, by decide +kernel⟩, by decide⟩
theorem mf_X1_build : rs_mf yX1_build cX1_build 3 none 1 := ⟨qw_340, qw_2, ⟨by decide, by decide, by decide +kernel⟩, by decide⟩
theorem mf_X4_copy : rs_mf yX4_copy cX4_copy 2 none 1 := ⟨qw_345, qw_3, ⟨by decide, by decide, by decide +kernel⟩, by decide⟩
theorem mf_X4_advance : rs_mf yX4_advance cX4_advance 3 none 2 := ⟨qw_349, qw_3, ⟨by decide, by decide, by decide +kernel⟩, by decide⟩
theorem mf_X1_copy : rs_mf yX1_copy cX1_copy 3 none 1 := ⟨qw_355, qw_2, ⟨by decide, by decide, by decide +kernel⟩, by decide⟩
theorem mf_X5_lineChanged : rs_mf yX5_lineChanged cX5_lineChanged 1 none 0 := ⟨qw_359, qw_1, ⟨by decide, by decide, by decide +kernel⟩, by decide⟩
theorem mf_X5_builds : rs_mf yX5_builds cX5_builds 2 (some .int) 1 := ⟨qw_363, qw_1, ⟨by decide, by decide, by decide +kernel⟩, by decide⟩
theorem mf_X5_buildKnown : rs_mf yX5_buildKnown cX5_buildKnown 2 none 1 := ⟨qw_370, qw_1, ⟨by decide, by decide, by decide +kernel⟩, by decide⟩
theorem mf_X0_add : rs_mf yX0_add cX0_add 5 none 4 := ⟨qw_374, qw_5, ⟨by decide, by decide, by decide +kernel⟩, by decide⟩
theorem mf_X0_loseOldest : rs_mf yX0_loseOldest cX0_loseOldest 2 none 0 := ⟨qw_378, qw_5, ⟨by decide, by decide, by decide +kernel⟩, by decide⟩
theorem mf_X1_cost : rs_mf yX1_cost cX1_cost 5 (some .int) 1 := ⟨qw_383, qw_2, ⟨by decide, by decide, by decide +kernel⟩, by decide⟩
theorem mf_J9_max_7cf53 : rs_mf yJ9_max_7cf53 cJ9_max_7cf53 2 (some .int) 2 := ⟨qw_386, qw_8, ⟨by decide, by decide, by decide +kernel⟩, by decide⟩
theorem mf_X5_follows : rs_mf yX5_follows cX5_follows 3 (some .int) 1 := ⟨qw_390, qw_1, ⟨by decide, by decide, by decide +kernel⟩, by decide⟩
theorem mf_X3_look : rs_mf yX3_look cX3_look 3 none 2 := ⟨qw_394, qw_6, ⟨by decide, by decide, by decide +kernel⟩, by decide⟩
theorem mf_J9_min_7cf53 : rs_mf yJ9_min_7cf53 cJ9_min_7cf53 2 (some .int) 2 := ⟨qw_397, qw_8, ⟨by decide, by decide, by decide +kernel⟩, by decide⟩
theorem mf_X3_extend : rs_mf yX3_extend cX3_extend 8 none 4 := ⟨qw_402, qw_6, ⟨by decide, by decide, by decide +kernel⟩, by decide⟩
theorem mf_X3_note : rs_mf yX3_note cX3_note 3 none 1 := ⟨qw_406, qw_6, ⟨by decide, by decide, by decide +kernel⟩, by decide⟩
theorem mf_X5_wishes : rs_mf yX5_wishes cX5_wishes 4 (some .int) 3 := ⟨qw_413, qw_1, ⟨by decide, by decide, by decide +kernel⟩, by decide⟩
theorem mf_X5_isWish : rs_mf yX5_isWish cX5_isWish 1 (some .boolean) 1 := ⟨qw_416, qw_1, ⟨by decide, by decide, by decide +kernel⟩, by decide⟩
theorem mf_X5_rules : rs_mf yX5_rules cX5_rules 4 (some .int) 2 := ⟨qw_421, qw_1, ⟨by decide, by decide, by decide +kernel⟩, by decide⟩
theorem mf_X1_rule : rs_mf yX1_rule cX1_rule 2 (some .int) 1 := ⟨qw_426, qw_2, ⟨by decide, by decide, by decide +kernel⟩, by decide⟩
theorem mf_X5_undo : rs_mf yX5_undo cX5_undo 1 (some .int) 0 := ⟨qw_431, qw_1, ⟨by decide, by decide, by decide +kernel⟩, by decide⟩
theorem mf_X0_takeBack : rs_mf yX0_takeBack cX0_takeBack 2 none 1 := ⟨qw_435, qw_5, ⟨by decide, by decide, by decide +kernel⟩, by decide⟩
theorem mf_X1_dropLast : rs_mf yX1_dropLast cX1_dropLast 1 none 0 := ⟨qw_440, qw_2, ⟨by decide, by decide, by decide +kernel⟩, by decide⟩
theorem mf_X5_ring : rs_mf yX5_ring cX5_ring 4 (some .int) 2 := ⟨qw_446, qw_1, ⟨by decide, by decide, by decide +kernel⟩, by decide⟩
theorem mf_X5_wish : rs_mf yX5_wish cX5_wish 3 (some .int) 2 := ⟨qw_451, qw_1, ⟨by decide, by decide, by decide +kernel⟩, by decide⟩
theorem mf_X5_worst : rs_mf yX5_worst cX5_worst 3 (some .int) 1 := ⟨qw_455, qw_1, ⟨by decide, by decide, by decide +kernel⟩, by decide⟩
theorem mf_X1_worseThan : rs_mf yX1_worseThan cX1_worseThan 6 (some .int) 1 := ⟨qw_459, qw_2, ⟨by decide, by decide, by decide +kernel⟩, by decide⟩
theorem mf_X5_plan : rs_mf yX5_plan cX5_plan 3 (some .int) 2 := ⟨qw_464, qw_1, ⟨by decide, by decide, by decide +kernel⟩, by decide⟩
theorem mf_X5_trying : rs_mf yX5_trying cX5_trying 2 (some .int) 1 := ⟨qw_468, qw_1, ⟨by decide, by decide, by decide +kernel⟩, by decide⟩
theorem mf_X5_sees : rs_mf yX5_sees cX5_sees 3 (some .int) 2 := ⟨qw_474, qw_1, ⟨by decide, by decide, by decide +kernel⟩, by decide⟩
theorem mf_X5_forget : rs_mf yX5_forget cX5_forget 2 (some .int) 0 := ⟨qw_478, qw_1, ⟨by decide, by decide, by decide +kernel⟩, by decide⟩
theorem mf_X5_unseen : rs_mf yX5_unseen cX5_unseen 4 (some .int) 1 := ⟨qw_482, qw_1, ⟨by decide, by decide, by decide +kernel⟩, by decide⟩
theorem mf_X5_explainsAllSeen : rs_mf yX5_explainsAllSeen cX5_explainsAllSeen 9 (some .boolean) 2 := ⟨qw_486, qw_1, ⟨by decide, by decide, by decide +kernel⟩, by decide⟩
theorem mf_X5_odds : rs_mf yX5_odds cX5_odds 9 (some .int) 3 := ⟨qw_492, qw_1, ⟨by decide, by decide, by decide +kernel⟩, by decide⟩
theorem mf_X5_nearParts : rs_mf yX5_nearParts cX5_nearParts 7 (some .int) 3 := ⟨qw_497, qw_1, ⟨by decide, by decide, by decide +kernel⟩, by decide⟩
theorem mf_X5_slip : rs_mf yX5_slip cX5_slip 6 none 2 := ⟨qw_501, qw_1, ⟨by decide, by decide, by decide +kernel⟩, by decide⟩
theorem mf_J6_bitCount_0f7a4 : rs_mf yJ6_bitCount_0f7a4 cJ6_bitCount_0f7a4 1 (some .int) 1 := ⟨qw_504, qw_9, ⟨by decide, by decide, by decide +kernel⟩, by decide⟩
theorem mf_X5_power : rs_mf yX5_power cX5_power 4 (some .int) 2 := ⟨qw_510, qw_1, ⟨by decide, by decide, by decide +kernel⟩, by decide⟩
theorem mf_X5_commonDivisor : rs_mf yX5_commonDivisor cX5_commonDivisor 6 (some .int) 2 := ⟨qw_513, qw_1, ⟨by decide, by decide, by decide +kernel⟩, by decide⟩
theorem mf_X5_keep : rs_mf yX5_keep cX5_keep 2 (some .int) 1 := ⟨qw_517, qw_1, ⟨by decide, by decide, by decide +kernel⟩, by decide⟩
theorem mf_X5_back : rs_mf yX5_back cX5_back 2 (some .int) 1 := ⟨qw_521, qw_1, ⟨by decide, by decide, by decide +kernel⟩, by decide⟩
theorem mf_X5_count : rs_mf yX5_count cX5_count 2 (some .int) 1 := ⟨qw_525, qw_1, ⟨by decide, by decide, by decide +kernel⟩, by decide⟩
theorem mf_X1_nextKeys : rs_mf yX1_nextKeys cX1_nextKeys 3 (some .int) 0 := ⟨qw_529, qw_2, ⟨by decide, by decide, by decide +kernel⟩, by decide⟩
theorem mf_X1_wholeCost : rs_mf yX1_wholeCost cX1_wholeCost 3 (some .int) 0 := ⟨qw_534, qw_2, ⟨by decide, by decide, by decide +kernel⟩, by decide⟩
theorem mf_X6_init : rs_mf yX6_init cX6_init 1 none 0 := ⟨qw_539, qw_7, ⟨by decide, by decide, by decide +kernel⟩, by decide⟩
theorem mf_X6_begins : rs_mf yX6_begins cX6_begins 2 none 1 := ⟨qw_543, qw_7, ⟨by decide, by decide, by decide +kernel⟩, by decide⟩
theorem mf_X6_type : rs_mf yX6_type cX6_type 2 (some .int) 1 := ⟨qw_635, qw_7, ⟨by decide, by decide, by decide +kernel⟩, by decide⟩
theorem mf_X6_in : rs_mf yX6_in cX6_in 3 (some .boolean) 3 := ⟨qw_638, qw_7, ⟨by decide, by decide, by decide +kernel⟩, by decide⟩
theorem mf_X6_clear : rs_mf yX6_clear cX6_clear 2 (some .int) 0 := ⟨qw_642, qw_7, ⟨by decide, by decide, by decide +kernel⟩, by decide⟩
theorem mf_X6_tunnel : rs_mf yX6_tunnel cX6_tunnel 3 (some .int) 0 := ⟨qw_646, qw_7, ⟨by decide, by decide, by decide +kernel⟩, by decide⟩
theorem mf_X6_blanks : rs_mf yX6_blanks cX6_blanks 1 none 0 := ⟨qw_650, qw_7, ⟨by decide, by decide, by decide +kernel⟩, by decide⟩
theorem mf_X6_readsItem : rs_mf yX6_readsItem cX6_readsItem 1 (some .boolean) 0 := ⟨qw_654, qw_7, ⟨by decide, by decide, by decide +kernel⟩, by decide⟩
theorem mf_X6_next : rs_mf yX6_next cX6_next 1 none 0 := ⟨qw_658, qw_7, ⟨by decide, by decide, by decide +kernel⟩, by decide⟩
theorem mf_X6_isFigure : rs_mf yX6_isFigure cX6_isFigure 1 (some .boolean) 0 := ⟨qw_662, qw_7, ⟨by decide, by decide, by decide +kernel⟩, by decide⟩
theorem mf_X6_isToken : rs_mf yX6_isToken cX6_isToken 1 (some .boolean) 1 := ⟨qw_665, qw_7, ⟨by decide, by decide, by decide +kernel⟩, by decide⟩
theorem mf_X6_readsOnce : rs_mf yX6_readsOnce cX6_readsOnce 4 (some .boolean) 3 := ⟨qw_669, qw_7, ⟨by decide, by decide, by decide +kernel⟩, by decide⟩
theorem mf_X6_has : rs_mf yX6_has cX6_has 2 (some .boolean) 2 := ⟨qw_672, qw_7, ⟨by decide, by decide, by decide +kernel⟩, by decide⟩
theorem mf_X6_fails : rs_mf yX6_fails cX6_fails 1 (some .boolean) 0 := ⟨qw_676, qw_7, ⟨by decide, by decide, by decide +kernel⟩, by decide⟩
theorem mf_X6_number : rs_mf yX6_number cX6_number 3 (some .boolean) 2 := ⟨qw_680, qw_7, ⟨by decide, by decide, by decide +kernel⟩, by decide⟩
theorem mf_X6_ends : rs_mf yX6_ends cX6_ends 1 (some .boolean) 0 := ⟨qw_684, qw_7, ⟨by decide, by decide, by decide +kernel⟩, by decide⟩
theorem mf_X6_readsWish : rs_mf yX6_readsWish cX6_readsWish 2 (some .boolean) 0 := ⟨qw_688, qw_7, ⟨by decide, by decide, by decide +kernel⟩, by decide⟩
theorem mf_X6_whole : rs_mf yX6_whole cX6_whole 2 (some .boolean) 0 := ⟨qw_692, qw_7, ⟨by decide, by decide, by decide +kernel⟩, by decide⟩
theorem mf_X6_readsRing : rs_mf yX6_readsRing cX6_readsRing 1 (some .boolean) 0 := ⟨qw_696, qw_7, ⟨by decide, by decide, by decide +kernel⟩, by decide⟩
theorem mf_X6_layRings : rs_mf yX6_layRings cX6_layRings 4 none 2 := ⟨qw_700, qw_7, ⟨by decide, by decide, by decide +kernel⟩, by decide⟩
theorem mf_X6_lays : rs_mf yX6_lays cX6_lays 3 none 2 := ⟨qw_704, qw_7, ⟨by decide, by decide, by decide +kernel⟩, by decide⟩
theorem mf_X6_leanX : rs_mf yX6_leanX cX6_leanX 1 (some .int) 1 := ⟨qw_707, qw_7, ⟨by decide, by decide, by decide +kernel⟩, by decide⟩
theorem mf_X6_leanY : rs_mf yX6_leanY cX6_leanY 1 (some .int) 1 := ⟨qw_710, qw_7, ⟨by decide, by decide, by decide +kernel⟩, by decide⟩
theorem mf_X6_mayBe : rs_mf yX6_mayBe cX6_mayBe 7 (some .boolean) 4 := ⟨qw_714, qw_7, ⟨by decide, by decide, by decide +kernel⟩, by decide⟩
theorem mf_X6_far : rs_mf yX6_far cX6_far 1 (some .int) 1 := ⟨qw_717, qw_7, ⟨by decide, by decide, by decide +kernel⟩, by decide⟩
theorem mf_X6_isBarred : rs_mf yX6_isBarred cX6_isBarred 4 (some .boolean) 3 := ⟨qw_720, qw_7, ⟨by decide, by decide, by decide +kernel⟩, by decide⟩
theorem mf_X6_builds : rs_mf yX6_builds cX6_builds 2 (some .int) 1 := ⟨qw_724, qw_7, ⟨by decide, by decide, by decide +kernel⟩, by decide⟩
theorem mf_X6_mayBeNext : rs_mf yX6_mayBeNext cX6_mayBeNext 2 (some .boolean) 1 := ⟨qw_728, qw_7, ⟨by decide, by decide, by decide +kernel⟩, by decide⟩
theorem mf_X6_laysKey : rs_mf yX6_laysKey cX6_laysKey 2 none 1 := ⟨qw_732, qw_7, ⟨by decide, by decide, by decide +kernel⟩, by decide⟩
theorem mf_X6_remember : rs_mf yX6_remember cX6_remember 2 none 0 := ⟨qw_736, qw_7, ⟨by decide, by decide, by decide +kernel⟩, by decide⟩
theorem mf_X6_costOf : rs_mf yX6_costOf cX6_costOf 4 (some .int) 1 := ⟨qw_740, qw_7, ⟨by decide, by decide, by decide +kernel⟩, by decide⟩
theorem mf_X6_follows : rs_mf yX6_follows cX6_follows 3 (some .int) 1 := ⟨qw_744, qw_7, ⟨by decide, by decide, by decide +kernel⟩, by decide⟩
theorem mf_X6_layPlan : rs_mf yX6_layPlan cX6_layPlan 7 none 1 := ⟨qw_748, qw_7, ⟨by decide, by decide, by decide +kernel⟩, by decide⟩
theorem mf_X6_keyOf : rs_mf yX6_keyOf cX6_keyOf 3 (some .int) 3 := ⟨qw_751, qw_7, ⟨by decide, by decide, by decide +kernel⟩, by decide⟩
theorem mf_X6_wishes : rs_mf yX6_wishes cX6_wishes 4 (some .int) 3 := ⟨qw_755, qw_7, ⟨by decide, by decide, by decide +kernel⟩, by decide⟩
theorem mf_X6_rules : rs_mf yX6_rules cX6_rules 4 (some .int) 2 := ⟨qw_759, qw_7, ⟨by decide, by decide, by decide +kernel⟩, by decide⟩
theorem mf_X6_undo : rs_mf yX6_undo cX6_undo 2 (some .int) 0 := ⟨qw_763, qw_7, ⟨by decide, by decide, by decide +kernel⟩, by decide⟩
theorem mf_X6_ring : rs_mf yX6_ring cX6_ring 3 (some .int) 2 := ⟨qw_767, qw_7, ⟨by decide, by decide, by decide +kernel⟩, by decide⟩
theorem mf_X6_wish : rs_mf yX6_wish cX6_wish 3 (some .int) 2 := ⟨qw_772, qw_7, ⟨by decide, by decide, by decide +kernel⟩, by decide⟩
theorem mf_X6_worst : rs_mf yX6_worst cX6_worst 5 (some .int) 1 := ⟨qw_776, qw_7, ⟨by decide, by decide, by decide +kernel⟩, by decide⟩
theorem mf_X6_plan : rs_mf yX6_plan cX6_plan 3 (some .int) 2 := ⟨qw_780, qw_7, ⟨by decide, by decide, by decide +kernel⟩, by decide⟩
theorem mf_X6_trying : rs_mf yX6_trying cX6_trying 2 (some .int) 1 := ⟨qw_784, qw_7, ⟨by decide, by decide, by decide +kernel⟩, by decide⟩
theorem mf_X6_sees : rs_mf yX6_sees cX6_sees 3 (some .int) 2 := ⟨qw_788, qw_7, ⟨by decide, by decide, by decide +kernel⟩, by decide⟩
theorem mf_X6_forget : rs_mf yX6_forget cX6_forget 2 (some .int) 0 := ⟨qw_792, qw_7, ⟨by decide, by decide, by decide +kernel⟩, by decide⟩
theorem mf_X6_unseen : rs_mf yX6_unseen cX6_unseen 6 (some .int) 1 := ⟨qw_796, qw_7, ⟨by decide, by decide, by decide +kernel⟩, by decide⟩
theorem mf_X6_layAgain : rs_mf yX6_layAgain cX6_layAgain 3 none 1 := ⟨qw_800, qw_7, ⟨by decide, by decide, by decide +kernel⟩, by decide⟩
theorem mf_X6_odds : rs_mf yX6_odds cX6_odds 16 (some .int) 3 := ⟨qw_804, qw_7, ⟨by decide, by decide, by decide +kernel⟩, by decide⟩
theorem mf_X6_keep : rs_mf yX6_keep cX6_keep 3 (some .int) 1 := ⟨qw_809, qw_7, ⟨by decide, by decide, by decide +kernel⟩, by decide⟩
theorem mf_X6_back : rs_mf yX6_back cX6_back 3 (some .int) 1 := ⟨qw_813, qw_7, ⟨by decide, by decide, by decide +kernel⟩, by decide⟩
theorem mf_X6_count : rs_mf yX6_count cX6_count 2 (some .int) 1 := ⟨qw_817, qw_7, ⟨by decide, by decide, by decide +kernel⟩, by decide⟩
theorem mf_X6_nextKeys : rs_mf yX6_nextKeys cX6_nextKeys 3 (some .int) 0 := ⟨qw_821, qw_7, ⟨by decide, by decide, by decide +kernel⟩, by decide⟩
theorem mf_X6_allCosts : rs_mf yX6_allCosts cX6_allCosts 3 (some .int) 0 := ⟨qw_825, qw_7, ⟨by decide, by decide, by decide +kernel⟩, by decide⟩
def xk : List rs_k := [(9, 0, [2, 19, 36, 37, 38, 41, 46, 55, 56, 57, 0]), (5, 0, [3, 4, 5, 0, 0, 0, 0, 0]), (2, 13, [5, 6, 7, 8, 9, 10, 11, 12, 13, 14, 15, 16, 17]), (0, 18, []), (0, 18, []), (8, 0, [0, 0, 0, 0, 0, 0]), (8, 0, [0, 0, 0, 0, 0, 0]), (8, 0, [0, 0, 0, 0, 0, 0]), (8, 0, [0, 0, 0, 0, 0, 0]), (8, 0, [0, 0, 0, 0, 0, 0]), (8, 0, [0, 0, 0, 0, 0, 0]), (8, 0, [0, 0, 0, 0, 0, 0]), (8, 0, [0, 0, 0, 0, 0, 0]), (8, 0, [0, 0, 0, 0, 0, 0]), (8, 0, [0, 0, 0, 0, 0, 0]), (8, 0, [0, 0, 0, 0, 0, 0]), (8, 0, [0, 0, 0, 0, 0, 0]), (8, 0, [0, 0, 0, 0, 0, 0]), (5, 0, [20, 21, 22, 0, 0, 0, 0, 0]), (2, 13, [22, 23, 24, 25, 26, 27, 28, 29, 30, 31, 32, 33, 34]), (0, 18, []), (0, 18, []), (8, 0, [0, 0, 0, 0, 0, 0]), (8, 0, [0, 0, 0, 0, 0, 0]), (8, 0, [0, 0, 0, 0, 0, 0]), (8, 0, [0, 0, 0, 0, 0, 0]), (8, 0, [0, 0, 0, 0, 0, 0]), (8, 0, [0, 0, 0, 0, 0, 0]), (8, 0, [0, 0, 0, 0, 0, 0]), (8, 0, [0, 0, 0, 0, 0, 0]), (8, 0, [0, 0, 0, 0, 0, 0]), (8, 0, [0, 0, 0, 0, 0, 0]), (8, 0, [0, 0, 0, 0, 0, 0]), (8, 0, [0, 0, 0, 0, 0, 0]), (8, 0, [0, 0, 0, 0, 0, 0]), (3, 2, [57, 74]), (1, 2, []), (6, 0, [39, 0, 0, 0, 0, 0, 0, 0, 40]), (0, 120, []), (1, 3, []), (4, 0, [42, 43, 44, 45, 0]), (0, 12, []), (0, 12, []), (0, 12, []), (0, 12, []), (7, 0, [47, 48, 0, 0, 0]), (2, 6, [48, 49, 50, 51, 52, 53]), (0, 5, []), (8, 0, [0, 0, 0, 0, 0, 0]), (8, 0, [0, 0, 0, 0, 0, 0]), (8, 0, [0, 0, 0, 0, 0, 0]), (8, 0, [0, 0, 0, 0, 0, 0]), (8, 0, [0, 0, 0, 0, 0, 0]), (8, 0, [0, 0, 0, 0, 0, 0]), (8, 0, [0, 0, 0, 0, 0, 0]), (0, 4, []), (0, 4, []), (5, 0, [59, 60, 61, 0, 0, 0, 0, 0]), (2, 13, [61, 62, 63, 64, 65, 66, 67, 68, 69, 70, 71, 72, 73]), (0, 18, []), (0, 18, []), (8, 0, [0, 0, 0, 0, 0, 0]), (8, 0, [0, 0, 0, 0, 0, 0]), (8, 0, [0, 0, 0, 0, 0, 0]), (8, 0, [0, 0, 0, 0, 0, 0]), (8, 0, [0, 0, 0, 0, 0, 0]), (8, 0, [0, 0, 0, 0, 0, 0]), (8, 0, [0, 0, 0, 0, 0, 0]), (8, 0, [0, 0, 0, 0, 0, 0]), (8, 0, [0, 0, 0, 0, 0, 0]), (8, 0, [0, 0, 0, 0, 0, 0]), (8, 0, [0, 0, 0, 0, 0, 0]), (8, 0, [0, 0, 0, 0, 0, 0]), (8, 0, [0, 0, 0, 0, 0, 0]), (5, 0, [76, 77, 78, 0, 0, 0, 0, 0]), (2, 13, [78, 79, 80, 81, 82, 83, 84, 85, 86, 87, 88, 89, 90]), (0, 18, []), (0, 18, []), (8, 0, [0, 0, 0, 0, 0, 0]), (8, 0, [0, 0, 0, 0, 0, 0]), (8, 0, [0, 0, 0, 0, 0, 0]), (8, 0, [0, 0, 0, 0, 0, 0]), (8, 0, [0, 0, 0, 0, 0, 0]), (8, 0, [0, 0, 0, 0, 0, 0]), (8, 0, [0, 0, 0, 0, 0, 0]), (8, 0, [0, 0, 0, 0, 0, 0]), (8, 0, [0, 0, 0, 0, 0, 0]), (8, 0, [0, 0, 0, 0, 0, 0]), (8, 0, [0, 0, 0, 0, 0, 0]), (8, 0, [0, 0, 0, 0, 0, 0]), (8, 0, [0, 0, 0, 0, 0, 0])]
def mk : List rs_k := [(10, 0, [0, 2, 0, 0, 3, 0, 4, 5, 6, 7, 8, 9, 10, 11, 12, 0, 13, 0, 0, 0, 0, 0, 0, 0, 0, 14, 0, 0, 0]), (0, 53, []), (0, 636, []), (0, 4, []), (0, 4, []), (1, 2, []), (0, 106, []), (0, 18, []), (0, 18, []), (0, 18, []), (0, 18, []), (0, 18, []), (0, 120, []), (0, 53, [])]
end
section
/-! the abstract line: keys in their order, wishes x and y, bar, way, tail -/
abbrev ab_L : Type := List Nat × (Nat → Int32) × (Nat → Int32) × Nat × Nat × Nat
abbrev ab_ks (L : ab_L) : List Nat := L.1
abbrev ab_wx (L : ab_L) : Nat → Int32 := L.2.1
abbrev ab_wy (L : ab_L) : Nat → Int32 := L.2.2.1
abbrev ab_bar (L : ab_L) : Nat := L.2.2.2.1
abbrev ab_way (L : ab_L) : Nat := L.2.2.2.2.1
abbrev ab_tail (L : ab_L) : Nat := L.2.2.2.2.2
abbrev ab_abs (x : Int32) : Int32 := if 0 ≤ x then x else 0 - x
/-- slope x, slope y, place x, place y -/
abbrev ab_P : Type := Int32 × Int32 × Int32 × Int32
def ab_step (tp : Int32) (q : ab_P) (k : Nat) : ab_P := (q.1 + tp * rs_lX k, q.2.1 + tp * rs_lY k, q.2.2.1 + (q.1 + tp * rs_lX k), q.2.2.2 + (q.2.1 + tp * rs_lY k))
def ab_geo (tp : Int32) (ks : List Nat) : ab_P := ks.foldl (ab_step tp) (0, 0, 0, 0)
theorem ab_geo_app (tp : Int32) (ks : List Nat) (k : Nat) : ab_geo tp (ks ++ [k]) = ab_step tp (ab_geo tp ks) k := by simp [ab_geo, List.foldl_append]
theorem ab_geo_nil (tp : Int32) : ab_geo tp [] = (0, 0, 0, 0) := rfl
/-- the last key, -9 without one -/
def ab_last (ks : List Nat) : Int32 := match ks.getLast? with
  | none => -9
  | some k => nI k
theorem ab_last_app (ks : List Nat) (k : Nat) : ab_last (ks ++ [k]) = nI k := by simp [ab_last]
def ab_way_cost (way : Nat) (dx dy : Int32) : Int32 := match way with
  | 1 => if dx < dy then dy else dx
  | 2 => dx * dx + dy * dy
  | _ => dx + dy
/-- what a ring i costs at a place -/
def ab_cost (L : ab_L) (i : Nat) (px py : Int32) : Int32 := ab_way_cost (ab_way L) (ab_abs (px - ab_wx L i)) (ab_abs (py - ab_wy L i))
def ab_apart (last key : Nat) : Nat := (key + 8 - last) % 8
def ab_barred (bar last key : Nat) : Prop := (0 < bar ∧ ab_apart last key = 0) ∨ (bar = 2 ∧ ab_apart last key = 4) ∨ (bar = 3 ∧ (ab_apart last key = 1 ∨ ab_apart last key = 7))
/-- room in the tail: i the next ring, sx sy the slope behind it -/
def ab_room (L : ab_L) (i : Nat) (sx sy : Int32) : Prop := ab_tail L = 0 ∨ (ab_abs (sx - (ab_wx L i - ab_wx L (i - 1))) ≤ nI (ab_tail L) ∧ ab_abs (sy - (ab_wy L i - ab_wy L (i - 1))) ≤ nI (ab_tail L))
/-- key k may be next behind the keys ks -/
def ab_may (tp : Int32) (L : ab_L) (ks : List Nat) (k : Nat) : Prop := (∀ j, ks.getLast? = some j → ¬ ab_barred (ab_bar L) j k) ∧ ab_room L (ks.length + 1) (ab_step tp (ab_geo tp ks) k).1 (ab_step tp (ab_geo tp ks) k).2.1
def ab_b01 (r : Int32) (P : Prop) : Prop := (r = 1 ∧ P) ∨ (r = 0 ∧ ¬ P)
/-- an abstract line is as the document says -/
def ab_ok (L : ab_L) : Prop := (ab_ks L).length ≤ 12 ∧ (∀ k ∈ ab_ks L, k < 8) ∧ ab_bar L ≤ 3 ∧ ab_way L ≤ 2 ∧ ab_tail L ≤ 20 ∧ (∀ p, p ≤ 17 → -99 ≤ (ab_wx L p).toInt ∧ (ab_wx L p).toInt ≤ 99 ∧ -99 ≤ (ab_wy L p).toInt ∧ (ab_wy L p).toInt ≤ 99) ∧ ab_wx L 0 = 0 ∧ ab_wy L 0 = 0
end
section
set_option maxHeartbeats 4000000 in
set_option maxRecDepth 100000 in
theorem c_isWithin (l : Launch) (g : rs_G) (kd : List rs_k) (t : Nat × Nat) (M : rs_M) (n a b : Int32) : rs_Ci l g kd t yX5_isWithin cX5_isWithin 3 .boolean 0 [.int n, .int a, .int b] M (fun r M1 => ab_b01 r (a ≤ n ∧ n ≤ b) ∧ M1 = M) := by
  refine rs_ofz (plainFor_of_name (by decide)) (Nat.le_of_ble_eq_true rfl) ?_
  intro Y K hr
  show Y M 0 [(0, .int n), (1, .int a), (2, .int b)] []
  refine r_iload_n K 0 dX5_isWithin_0 rfl rfl ?_
  refine r_iload_n K 1 dX5_isWithin_1 rfl rfl ?_
  refine r_icmp_lt K 14 dX5_isWithin_2 (by decide) (fun h_1 => ?_) (fun h_1 => ?_)
  · refine r_iconst K (v := 0) dX5_isWithin_14 (by decide) ?_
    exact hr _ _ _ _ dX5_isWithin_15 (Or.inl rfl) ⟨Or.inr ⟨rfl, fun q => absurd q.1 (Int32.not_le.mpr h_1)⟩, rfl⟩
  · refine r_iload_n K 0 dX5_isWithin_5 rfl rfl ?_
    refine r_iload_n K 2 dX5_isWithin_6 rfl rfl ?_
    refine r_icmp_gt K 14 dX5_isWithin_7 (by decide) (fun h_2 => ?_) (fun h_2 => ?_)
    · refine r_iconst K (v := 0) dX5_isWithin_14 (by decide) ?_
      exact hr _ _ _ _ dX5_isWithin_15 (Or.inl rfl) ⟨Or.inr ⟨rfl, fun q => absurd q.2 (Int32.not_le.mpr h_2)⟩, rfl⟩
    · refine r_iconst K (v := 1) dX5_isWithin_10 (by decide) ?_
      refine r_goto K 15 dX5_isWithin_11 (by decide) ?_
      exact hr _ _ _ _ dX5_isWithin_15 (Or.inr rfl) ⟨Or.inl ⟨rfl, Int32.not_lt.mp h_1, Int32.not_lt.mp h_2⟩, rfl⟩
set_option maxHeartbeats 4000000 in
set_option maxRecDepth 100000 in
theorem c_isKey (l : Launch) (g : rs_G) (kd : List rs_k) (t : Nat × Nat) (M : rs_M) (n : Int32) : rs_Ci l g kd t yX5_isKey cX5_isKey 1 .boolean 1 [.int n] M (fun r M1 => ab_b01 r (0 ≤ n ∧ n ≤ 7) ∧ M1 = M) := by
  refine rs_ofz (plainFor_of_name (by decide)) (Nat.le_of_ble_eq_true rfl) ?_
  intro Y K hr
  show Y M 0 [(0, .int n)] []
  refine r_iload_n K 0 dX5_isKey_0 rfl rfl ?_
  refine r_iconst K (v := 0) dX5_isKey_1 (by decide) ?_
  refine r_bipush K (v := 7) dX5_isKey_2 (by decide) ?_
  refine r_callSi K [.int n, .int 0, .int 7] [] dX5_isKey_4 mf_X5_isWithin qw_227 qw_228 (c_isWithin l g kd t M n 0 7) rfl rfl (by decide) (Nat.le_of_ble_eq_true rfl) (fun r M1 hp => ?_)
  obtain ⟨hp, he⟩ := hp
  have he := he.symm
  subst he
  rcases hp with ⟨rfl, hb_1⟩ | ⟨rfl, hb_1⟩
  · exact hr _ _ _ _ dX5_isKey_7 (Or.inr rfl) ⟨Or.inl ⟨rfl, hb_1⟩, rfl⟩
  · exact hr _ _ _ _ dX5_isKey_7 (Or.inl rfl) ⟨Or.inr ⟨rfl, hb_1⟩, rfl⟩
set_option maxHeartbeats 4000000 in
set_option maxRecDepth 100000 in
theorem c_isWish (l : Launch) (g : rs_G) (kd : List rs_k) (t : Nat × Nat) (M : rs_M) (n : Int32) : rs_Ci l g kd t yX5_isWish cX5_isWish 1 .boolean 1 [.int n] M (fun r M1 => ab_b01 r ((-99) ≤ n ∧ n ≤ 99) ∧ M1 = M) := by
  refine rs_ofz (plainFor_of_name (by decide)) (Nat.le_of_ble_eq_true rfl) ?_
  intro Y K hr
  show Y M 0 [(0, .int n)] []
  refine r_iload_n K 0 dX5_isWish_0 rfl rfl ?_
  refine r_bipush K (v := (-99)) dX5_isWish_1 (by decide) ?_
  refine r_bipush K (v := 99) dX5_isWish_3 (by decide) ?_
  refine r_callSi K [.int n, .int (-99), .int 99] [] dX5_isWish_5 mf_X5_isWithin qw_227 qw_228 (c_isWithin l g kd t M n (-99) 99) rfl rfl (by decide) (Nat.le_of_ble_eq_true rfl) (fun r M1 hp => ?_)
  obtain ⟨hp, he⟩ := hp
  have he := he.symm
  subst he
  rcases hp with ⟨rfl, hb_1⟩ | ⟨rfl, hb_1⟩
  · exact hr _ _ _ _ dX5_isWish_8 (Or.inr rfl) ⟨Or.inl ⟨rfl, hb_1⟩, rfl⟩
  · exact hr _ _ _ _ dX5_isWish_8 (Or.inl rfl) ⟨Or.inr ⟨rfl, hb_1⟩, rfl⟩
set_option maxHeartbeats 4000000 in
set_option maxRecDepth 100000 in
theorem c_isRule (l : Launch) (g : rs_G) (kd : List rs_k) (t : Nat × Nat) (M : rs_M) (w v : Int32) : rs_Ci l g kd t yX5_isRule cX5_isRule 2 .boolean 1 [.int w, .int v] M (fun r M1 => ab_b01 r (0 ≤ v ∧ ((w = 0 ∧ v ≤ 3) ∨ (w = 1 ∧ v ≤ 2) ∨ (w = 2 ∧ v ≤ 20))) ∧ M1 = M) := by
  refine rs_ofz (plainFor_of_name (by decide)) (Nat.le_of_ble_eq_true rfl) ?_
  intro Y K hr
  show Y M 0 [(0, .int w), (1, .int v)] []
  refine r_iload_n K 0 dX5_isRule_0 rfl rfl ?_
  refine r_table K [(0, 28), (1, 35), (2, 42)] 50 dX5_isRule_1 (by decide) (by decide) (by decide) ?_
  simp only [rs_swp]
  refine ⟨fun h_1_0 => ?_, fun h_1_0 => ⟨fun h_1_1 => ?_, fun h_1_1 => ⟨fun h_1_2 => ?_, fun h_1_2 => ?_⟩⟩⟩
  · refine r_iload_n K 1 dX5_isRule_28 rfl rfl ?_
    refine r_iconst K (v := 0) dX5_isRule_29 (by decide) ?_
    refine r_iconst K (v := 3) dX5_isRule_30 (by decide) ?_
    refine r_callSi K [.int v, .int 0, .int 3] [] dX5_isRule_31 mf_X5_isWithin qw_227 qw_228 (c_isWithin l g kd t M v 0 3) rfl rfl (by decide) (Nat.le_of_ble_eq_true rfl) (fun r M1 hp => ?_)
    obtain ⟨hp, he⟩ := hp
    have he := he.symm
    subst he
    rcases hp with ⟨rfl, hb_2⟩ | ⟨rfl, hb_2⟩
    · exact hr _ _ _ _ dX5_isRule_34 (Or.inr rfl) ⟨by simp_all [ab_b01], rfl⟩
    · exact hr _ _ _ _ dX5_isRule_34 (Or.inl rfl) ⟨by simp_all [ab_b01], rfl⟩
  · refine r_iload_n K 1 dX5_isRule_35 rfl rfl ?_
    refine r_iconst K (v := 0) dX5_isRule_36 (by decide) ?_
    refine r_iconst K (v := 2) dX5_isRule_37 (by decide) ?_
    refine r_callSi K [.int v, .int 0, .int 2] [] dX5_isRule_38 mf_X5_isWithin qw_227 qw_228 (c_isWithin l g kd t M v 0 2) rfl rfl (by decide) (Nat.le_of_ble_eq_true rfl) (fun r M1 hp => ?_)
    obtain ⟨hp, he⟩ := hp
    have he := he.symm
    subst he
    rcases hp with ⟨rfl, hb_3⟩ | ⟨rfl, hb_3⟩
    · exact hr _ _ _ _ dX5_isRule_41 (Or.inr rfl) ⟨by simp_all [ab_b01], rfl⟩
    · exact hr _ _ _ _ dX5_isRule_41 (Or.inl rfl) ⟨by simp_all [ab_b01], rfl⟩
  · refine r_iload_n K 1 dX5_isRule_42 rfl rfl ?_
    refine r_iconst K (v := 0) dX5_isRule_43 (by decide) ?_
    refine r_bipush K (v := 20) dX5_isRule_44 (by decide) ?_
    refine r_callSi K [.int v, .int 0, .int 20] [] dX5_isRule_46 mf_X5_isWithin qw_227 qw_228 (c_isWithin l g kd t M v 0 20) rfl rfl (by decide) (Nat.le_of_ble_eq_true rfl) (fun r M1 hp => ?_)
    obtain ⟨hp, he⟩ := hp
    have he := he.symm
    subst he
    rcases hp with ⟨rfl, hb_4⟩ | ⟨rfl, hb_4⟩
    · exact hr _ _ _ _ dX5_isRule_49 (Or.inr rfl) ⟨by simp_all [ab_b01], rfl⟩
    · exact hr _ _ _ _ dX5_isRule_49 (Or.inl rfl) ⟨by simp_all [ab_b01], rfl⟩
  · refine r_iconst K (v := 0) dX5_isRule_50 (by decide) ?_
    exact hr _ _ _ _ dX5_isRule_51 (Or.inl rfl) ⟨by simp_all [ab_b01], rfl⟩
set_option maxHeartbeats 4000000 in
set_option maxRecDepth 100000 in
theorem c_leanX (l : Launch) (g : rs_G) (kd : List rs_k) (t : Nat × Nat) (M : rs_M) (k : Nat) (hk : k < 8) : rs_Ci l g kd t yX5_leanX cX5_leanX 1 .int 0 [.int (nI k)] M (fun r M1 => r = rs_lX k ∧ M1 = M) := by
  refine rs_ofi (plainFor_of_name (by decide)) (Nat.le_of_ble_eq_true rfl) ?_
  intro Y K hr
  show Y M 0 [(0, .int (nI k))] []
  refine r_iload_n K 0 dX5_leanX_0 rfl rfl ?_
  refine r_if_lt K 18 dX5_leanX_1 (by decide) (fun h => absurd h (nI_pos (by omega))) (fun _ => ?_)
  refine r_iload_n K 0 dX5_leanX_4 rfl rfl ?_
  refine r_bipush K (v := 8) dX5_leanX_5 (by decide) ?_
  refine r_icmp_ge K 18 dX5_leanX_7 (by decide) (fun h => absurd h (by rw [show (8 : Int32) = nI 8 from rfl]; exact fun q => nI_ge hk (by decide) q)) (fun _ => ?_)
  refine r_getsLX K qw_327 dX5_leanX_10 ?_
  refine r_iload_n K 0 dX5_leanX_13 rfl rfl ?_
  refine r_tabLX K (j := k) rfl hk dX5_leanX_14 ?_
  refine r_goto K 19 dX5_leanX_15 (by decide) ?_
  exact hr _ _ _ _ dX5_leanX_19 ⟨rfl, rfl⟩
set_option maxHeartbeats 4000000 in
set_option maxRecDepth 100000 in
theorem c_leanY (l : Launch) (g : rs_G) (kd : List rs_k) (t : Nat × Nat) (M : rs_M) (k : Nat) (hk : k < 8) : rs_Ci l g kd t yX5_leanY cX5_leanY 1 .int 0 [.int (nI k)] M (fun r M1 => r = rs_lY k ∧ M1 = M) := by
  refine rs_ofi (plainFor_of_name (by decide)) (Nat.le_of_ble_eq_true rfl) ?_
  intro Y K hr
  show Y M 0 [(0, .int (nI k))] []
  refine r_iload_n K 0 dX5_leanY_0 rfl rfl ?_
  refine r_if_lt K 18 dX5_leanY_1 (by decide) (fun h => absurd h (nI_pos (by omega))) (fun _ => ?_)
  refine r_iload_n K 0 dX5_leanY_4 rfl rfl ?_
  refine r_bipush K (v := 8) dX5_leanY_5 (by decide) ?_
  refine r_icmp_ge K 18 dX5_leanY_7 (by decide) (fun h => absurd h (by rw [show (8 : Int32) = nI 8 from rfl]; exact fun q => nI_ge hk (by decide) q)) (fun _ => ?_)
  refine r_getsLY K qw_335 dX5_leanY_10 ?_
  refine r_iload_n K 0 dX5_leanY_13 rfl rfl ?_
  refine r_tabLY K (j := k) rfl hk dX5_leanY_14 ?_
  refine r_goto K 19 dX5_leanY_15 (by decide) ?_
  exact hr _ _ _ _ dX5_leanY_19 ⟨rfl, rfl⟩
end
section
abbrev x_spot : rs_k := (8, 0, [0, 0, 0, 0, 0, 0])
/-- Spot c becomes like Spot d -/
def x_cp (M : rs_M) (c d : Nat) : rs_M := fun c' j => if c' = c ∧ j < 6 then M d j else M c' j
/-- Spot c goes one ring on -/
def x_adv (M : rs_M) (c : Nat) (tp : Int32) (k : Nat) : rs_M := fun c' j => if c' = c then (match j with
  | 0 => M c 0 + 1
  | 1 => nI k
  | 2 => M c 2 + tp * rs_lX k
  | 3 => M c 3 + tp * rs_lY k
  | 4 => M c 4 + (M c 2 + tp * rs_lX k)
  | 5 => M c 5 + (M c 3 + tp * rs_lY k)
  | j => M c j) else M c' j
theorem x_cp_st (M : rs_M) (c d : Nat) : rs_st (rs_st (rs_st (rs_st (rs_st (rs_st M c 0 (M d 0)) c 1 (M d 1)) c 2 (M d 2)) c 3 (M d 3)) c 4 (M d 4)) c 5 (M d 5) = x_cp M c d := by
  funext c' j
  by_cases h : c' = c
  · subst h
    rcases j with _|_|_|_|_|_|j <;> simp [rs_st, x_cp] <;> (intro h; omega)
  · simp [rs_st, x_cp, h]
set_option maxHeartbeats 4000000 in
set_option maxRecDepth 100000 in
theorem c_Spot_copy (l : Launch) (g : rs_G) (t : Nat × Nat) (M : rs_M) (c d : Nat) (hc : xk[c]? = some x_spot) (hd : xk[d]? = some x_spot) : rs_Cv l g xk t yX4_copy cX4_copy 2 0 [.ref (g.2.2 c), .ref (g.2.2 d)] M (fun M1 => M1 = x_cp M c d) := by
  refine rs_ofv (plainFor_of_name (by decide)) (Nat.le_of_ble_eq_true rfl) ?_
  intro Y K hr
  show Y M 0 [(0, .ref (g.2.2 c)), (1, .ref (g.2.2 d))] []
  refine r_aload_n K 0 dX4_copy_0 rfl rfl ?_
  refine r_aload_n K 1 dX4_copy_1 rfl rfl ?_
  refine r_getI K hd rfl ff_4_ringNumber qw_31 dX4_copy_2 ?_
  refine r_put K hc rfl ff_4_ringNumber qw_31 rfl rfl dX4_copy_5 ?_
  refine r_aload_n K 0 dX4_copy_8 rfl rfl ?_
  refine r_aload_n K 1 dX4_copy_9 rfl rfl ?_
  refine r_getI K hd rfl ff_4_key qw_33 dX4_copy_10 ?_
  refine r_top_eq (M d 1) (by simp [rs_st]) ?_
  refine r_put K hc rfl ff_4_key qw_33 rfl rfl dX4_copy_13 ?_
  refine r_aload_n K 0 dX4_copy_16 rfl rfl ?_
  refine r_aload_n K 1 dX4_copy_17 rfl rfl ?_
  refine r_getI K hd rfl ff_4_slopeX qw_37 dX4_copy_18 ?_
  refine r_top_eq (M d 2) (by simp [rs_st]) ?_
  refine r_put K hc rfl ff_4_slopeX qw_37 rfl rfl dX4_copy_21 ?_
  refine r_aload_n K 0 dX4_copy_24 rfl rfl ?_
  refine r_aload_n K 1 dX4_copy_25 rfl rfl ?_
  refine r_getI K hd rfl ff_4_slopeY qw_40 dX4_copy_26 ?_
  refine r_top_eq (M d 3) (by simp [rs_st]) ?_
  refine r_put K hc rfl ff_4_slopeY qw_40 rfl rfl dX4_copy_29 ?_
  refine r_aload_n K 0 dX4_copy_32 rfl rfl ?_
  refine r_aload_n K 1 dX4_copy_33 rfl rfl ?_
  refine r_getI K hd rfl ff_4_placeX qw_43 dX4_copy_34 ?_
  refine r_top_eq (M d 4) (by simp [rs_st]) ?_
  refine r_put K hc rfl ff_4_placeX qw_43 rfl rfl dX4_copy_37 ?_
  refine r_aload_n K 0 dX4_copy_40 rfl rfl ?_
  refine r_aload_n K 1 dX4_copy_41 rfl rfl ?_
  refine r_getI K hd rfl ff_4_placeY qw_46 dX4_copy_42 ?_
  refine r_top_eq (M d 5) (by simp [rs_st]) ?_
  refine r_put K hc rfl ff_4_placeY qw_46 rfl rfl dX4_copy_45 ?_
  exact hr _ _ _ dX4_copy_48 (x_cp_st M c d)
theorem x_adv_st (M : rs_M) (c : Nat) (tp : Int32) (k : Nat) : rs_st (rs_st (rs_st (rs_st (rs_st (rs_st M c 0 (M c 0 + 1)) c 1 (nI k)) c 2 (M c 2 + tp * rs_lX k)) c 3 (M c 3 + tp * rs_lY k)) c 4 (M c 4 + (M c 2 + tp * rs_lX k))) c 5 (M c 5 + (M c 3 + tp * rs_lY k)) = x_adv M c tp k := by
  funext c' j
  by_cases h : c' = c
  · subst h
    rcases j with _|_|_|_|_|_|j <;> simp [rs_st, x_adv]
  · simp [rs_st, x_adv, h]
set_option maxHeartbeats 4000000 in
set_option maxRecDepth 100000 in
theorem c_Spot_advance (l : Launch) (g : rs_G) (t : Nat × Nat) (M : rs_M) (c : Nat) (hc : xk[c]? = some x_spot) (k : Nat) (hk : k < 8) (tp : Int32) : rs_Cv l g xk t yX4_advance cX4_advance 3 1 [.ref (g.2.2 c), .int (nI k), .int tp] M (fun M1 => M1 = x_adv M c tp k) := by
  refine rs_ofv (plainFor_of_name (by decide)) (Nat.le_of_ble_eq_true rfl) ?_
  intro Y K hr
  show Y M 0 [(0, .ref (g.2.2 c)), (1, .int (nI k)), (2, .int tp)] []
  refine r_aload_n K 0 dX4_advance_0 rfl rfl ?_
  refine r_dup K dX4_advance_1 rfl ?_
  refine r_getI K hc rfl ff_4_ringNumber qw_31 dX4_advance_2 ?_
  refine r_iconst K (v := 1) dX4_advance_5 (by decide) ?_
  refine r_iadd K dX4_advance_6 ?_
  refine r_put K hc rfl ff_4_ringNumber qw_31 rfl rfl dX4_advance_7 ?_
  refine r_aload_n K 0 dX4_advance_10 rfl rfl ?_
  refine r_iload_n K 1 dX4_advance_11 rfl rfl ?_
  refine r_put K hc rfl ff_4_key qw_33 rfl rfl dX4_advance_12 ?_
  refine r_aload_n K 0 dX4_advance_15 rfl rfl ?_
  refine r_dup K dX4_advance_16 rfl ?_
  refine r_getI K hc rfl ff_4_slopeX qw_37 dX4_advance_17 ?_
  refine r_top_eq (M c 2) (by simp [rs_st]) ?_
  refine r_iload_n K 2 dX4_advance_20 rfl rfl ?_
  refine r_iload_n K 1 dX4_advance_21 rfl rfl ?_
  refine r_callNi K [.int (nI k)] [.int tp, .int (M c 2), .ref (g.2.2 c)] dX4_advance_22 mf_X5_leanX (by decide) qw_325 (c_leanX l g xk t (rs_st (rs_st M c 0 ((M c 0) + 1)) c 1 (nI k)) k hk) rfl rfl (by decide) (Nat.le_of_ble_eq_true rfl) (fun r M1 hp => ?_)
  obtain ⟨hp, he⟩ := hp
  have he := he.symm
  subst he
  subst hp
  refine r_imul K dX4_advance_25 ?_
  refine r_iadd K dX4_advance_26 ?_
  refine r_put K hc rfl ff_4_slopeX qw_37 rfl rfl dX4_advance_27 ?_
  refine r_aload_n K 0 dX4_advance_30 rfl rfl ?_
  refine r_dup K dX4_advance_31 rfl ?_
  refine r_getI K hc rfl ff_4_slopeY qw_40 dX4_advance_32 ?_
  refine r_top_eq (M c 3) (by simp [rs_st]) ?_
  refine r_iload_n K 2 dX4_advance_35 rfl rfl ?_
  refine r_iload_n K 1 dX4_advance_36 rfl rfl ?_
  refine r_callNi K [.int (nI k)] [.int tp, .int (M c 3), .ref (g.2.2 c)] dX4_advance_37 mf_X5_leanY (by decide) qw_333 (c_leanY l g xk t (rs_st (rs_st (rs_st M c 0 ((M c 0) + 1)) c 1 (nI k)) c 2 ((M c 2) + (tp * (rs_lX k)))) k hk) rfl rfl (by decide) (Nat.le_of_ble_eq_true rfl) (fun r M1 hp => ?_)
  obtain ⟨hp, he⟩ := hp
  have he := he.symm
  subst he
  subst hp
  refine r_imul K dX4_advance_40 ?_
  refine r_iadd K dX4_advance_41 ?_
  refine r_put K hc rfl ff_4_slopeY qw_40 rfl rfl dX4_advance_42 ?_
  refine r_aload_n K 0 dX4_advance_45 rfl rfl ?_
  refine r_dup K dX4_advance_46 rfl ?_
  refine r_getI K hc rfl ff_4_placeX qw_43 dX4_advance_47 ?_
  refine r_top_eq (M c 4) (by simp [rs_st]) ?_
  refine r_aload_n K 0 dX4_advance_50 rfl rfl ?_
  refine r_getI K hc rfl ff_4_slopeX qw_37 dX4_advance_51 ?_
  refine r_top_eq ((M c 2) + (tp * (rs_lX k))) (by simp [rs_st]) ?_
  refine r_iadd K dX4_advance_54 ?_
  refine r_put K hc rfl ff_4_placeX qw_43 rfl rfl dX4_advance_55 ?_
  refine r_aload_n K 0 dX4_advance_58 rfl rfl ?_
  refine r_dup K dX4_advance_59 rfl ?_
  refine r_getI K hc rfl ff_4_placeY qw_46 dX4_advance_60 ?_
  refine r_top_eq (M c 5) (by simp [rs_st]) ?_
  refine r_aload_n K 0 dX4_advance_63 rfl rfl ?_
  refine r_getI K hc rfl ff_4_slopeY qw_40 dX4_advance_64 ?_
  refine r_top_eq ((M c 3) + (tp * (rs_lY k))) (by simp [rs_st]) ?_
  refine r_iadd K dX4_advance_67 ?_
  refine r_put K hc rfl ff_4_placeY qw_46 rfl rfl dX4_advance_68 ?_
  exact hr _ _ _ dX4_advance_71 (x_adv_st M c tp k)
end
section
/-! the four lines of a RingSteer -/
def xL (b : Nat) : Prop := b = 1 ∨ b = 18 ∨ b = 57 ∨ b = 74
theorem xL_0 {b : Nat} (h : xL b) : xk[b]? = some (5, 0, [b + 1 + 1, b + 2 + 1, b + 3 + 1, 0, 0, 0, 0, 0]) := by rcases h with rfl | rfl | rfl | rfl <;> rfl
theorem xL_1 {b : Nat} (h : xL b) : xk[b + 1]? = some (2, 13, (List.range 13).map (fun i => b + 4 + i)) := by rcases h with rfl | rfl | rfl | rfl <;> rfl
theorem xL_2 {b : Nat} (h : xL b) : xk[b + 2]? = some (0, 18, []) := by rcases h with rfl | rfl | rfl | rfl <;> rfl
theorem xL_3 {b : Nat} (h : xL b) : xk[b + 3]? = some (0, 18, []) := by rcases h with rfl | rfl | rfl | rfl <;> rfl
theorem xL_s1 : ∀ i, i < 13 → xk[1 + 4 + i]? = some x_spot := by decide
theorem xL_s2 : ∀ i, i < 13 → xk[18 + 4 + i]? = some x_spot := by decide
theorem xL_s3 : ∀ i, i < 13 → xk[57 + 4 + i]? = some x_spot := by decide
theorem xL_s4 : ∀ i, i < 13 → xk[74 + 4 + i]? = some x_spot := by decide
theorem xL_s {b i : Nat} (h : xL b) (hi : i < 13) : xk[b + 4 + i]? = some x_spot := by
  rcases h with rfl | rfl | rfl | rfl
  · exact xL_s1 i hi
  · exact xL_s2 i hi
  · exact xL_s3 i hi
  · exact xL_s4 i hi
theorem xL_e {b i : Nat} (hi : i < 13) : ((List.range 13).map (fun i => b + 4 + i))[i]? = some (b + 4 + i) := by
  rw [List.getElem?_map, List.getElem?_range hi]; rfl
theorem x_within {x : Int32} {n a b : Nat} (hx : x = nI n) (h1 : a ≤ n) (h2 : n ≤ b) (hb : b < 2 ^ 31) : nI a ≤ x ∧ x ≤ nI b := by
  rw [hx]
  exact ⟨nI_le h1 (by omega), nI_le h2 hb⟩
/-- a Spot, a Line in memory -/
def x_sp (M : rs_M) (c : Nat) (tp : Int32) (ks : List Nat) : Prop := M c 0 = nI ks.length ∧ M c 1 = ab_last ks ∧ M c 2 = (ab_geo tp ks).1 ∧ M c 3 = (ab_geo tp ks).2.1 ∧ M c 4 = (ab_geo tp ks).2.2.1 ∧ M c 5 = (ab_geo tp ks).2.2.2
def x_rl (M : rs_M) (b : Nat) (tp : Int32) (L : ab_L) : Prop := M b 4 = tp ∧ M b 5 = nI (ab_bar L) ∧ M b 6 = nI (ab_way L) ∧ M b 7 = nI (ab_tail L) ∧ ∀ p, p < 18 → M (b + 2) p = ab_wx L p ∧ M (b + 3) p = ab_wy L p
def x_ln (M : rs_M) (b : Nat) (tp : Int32) (L : ab_L) : Prop := M b 3 = nI (ab_ks L).length ∧ (∀ i, i ≤ (ab_ks L).length → x_sp M (b + 4 + i) tp ((ab_ks L).take i)) ∧ x_rl M b tp L
theorem x_sp_cp {M : rs_M} {c d : Nat} {tp : Int32} {ks : List Nat} (h : x_sp M d tp ks) : x_sp (x_cp M c d) c tp ks := by
  obtain ⟨h0, h1, h2, h3, h4, h5⟩ := h
  refine ⟨?_, ?_, ?_, ?_, ?_, ?_⟩ <;> simp [x_cp, *]
theorem x_sp_adv {M : rs_M} {c : Nat} {tp : Int32} {ks : List Nat} (k : Nat) (h : x_sp M c tp ks) : x_sp (x_adv M c tp k) c tp (ks ++ [k]) := by
  obtain ⟨h0, h1, h2, h3, h4, h5⟩ := h
  refine ⟨?_, ?_, ?_, ?_, ?_, ?_⟩ <;> simp only [x_adv, if_pos trivial, if_true, ab_geo_app, ab_last_app, ab_step, h0, h1, h2, h3, h4, h5]
  rw [nI_1, List.length_append]
  rfl
theorem x_sp_same {M M1 : rs_M} {c : Nat} {tp : Int32} {ks : List Nat} (h : x_sp M c tp ks) (e : ∀ j, j < 6 → M1 c j = M c j) : x_sp M1 c tp ks := by
  obtain ⟨h0, h1, h2, h3, h4, h5⟩ := h
  exact ⟨by rw [e 0 (by decide), h0], by rw [e 1 (by decide), h1], by rw [e 2 (by decide), h2], by rw [e 3 (by decide), h3], by rw [e 4 (by decide), h4], by rw [e 5 (by decide), h5]⟩
/-- Math.floorMod by 8 -/
def x_fm (x : Int32) : Int32 := if 0 ≤ x ^^^ 8 then x - x / 8 * 8 else if x - x / 8 * 8 = 0 then x - x / 8 * 8 else x - x / 8 * 8 + 8
theorem x_fm_apart : ∀ j, j < 8 → ∀ k, k < 8 → x_fm (nI k - nI j) = nI (ab_apart j k) := by decide
set_option maxHeartbeats 4000000 in
set_option maxRecDepth 100000 in
theorem c_floorMod (l : Launch) (g : rs_G) (kd : List rs_k) (t : Nat × Nat) (M : rs_M) (x : Int32) : rs_Ci l g kd t yJ9_floorMod_7cf53 cJ9_floorMod_7cf53 3 .int 0 [.int x, .int 8] M (fun r M1 => r = x_fm x ∧ M1 = M) := by
  refine rs_ofi (by decide +kernel) (Nat.le_of_ble_eq_true rfl) ?_
  intro Y K hr
  show Y M 0 [(0, .int x), (1, .int 8)] []
  refine r_iload_n K 0 dJ9_floorMod_7cf53_0 rfl rfl ?_
  refine r_iload_n K 1 dJ9_floorMod_7cf53_1 rfl rfl ?_
  refine r_irem K dJ9_floorMod_7cf53_2 (by decide) ?_
  refine r_istore_n K [(2, .int (x - x / 8 * 8)), (0, .int x), (1, .int 8)] dJ9_floorMod_7cf53_3 rfl (by decide) rfl ?_
  refine r_iload_n K 1 dJ9_floorMod_7cf53_4 rfl rfl ?_
  refine r_iload_n K 2 dJ9_floorMod_7cf53_5 rfl rfl ?_
  refine r_ixor K dJ9_floorMod_7cf53_6 ?_
  refine r_if_ge K 18 dJ9_floorMod_7cf53_7 (by decide) (fun h_1 => ?_) (fun h_1 => ?_)
  · refine r_iload_n K 0 dJ9_floorMod_7cf53_18 rfl rfl ?_
    exact hr _ _ _ _ dJ9_floorMod_7cf53_19 ⟨by rw [x_fm, if_pos h_1], rfl⟩
  · refine r_iload_n K 0 dJ9_floorMod_7cf53_10 rfl rfl ?_
    refine r_if_eq K 18 dJ9_floorMod_7cf53_11 (by decide) (fun h_2 => ?_) (fun h_2 => ?_)
    · refine r_iload_n K 0 dJ9_floorMod_7cf53_18 rfl rfl ?_
      exact hr _ _ _ _ dJ9_floorMod_7cf53_19 ⟨by rw [x_fm, if_neg h_1, if_pos h_2], rfl⟩
    · refine r_iload_n K 0 dJ9_floorMod_7cf53_14 rfl rfl ?_
      refine r_iload_n K 2 dJ9_floorMod_7cf53_15 rfl rfl ?_
      refine r_iadd K dJ9_floorMod_7cf53_16 ?_
      exact hr _ _ _ _ dJ9_floorMod_7cf53_17 ⟨by rw [x_fm, if_neg h_1, if_neg h_2], rfl⟩
set_option maxHeartbeats 4000000 in
set_option maxRecDepth 100000 in
theorem c_Line_last (l : Launch) (g : rs_G) (t : Nat × Nat) (M : rs_M) (b : Nat) (hb : xL b) (n : Nat) (hn : n ≤ 12) (h3 : M b 3 = nI n) : rs_Cr l g xk t yX1_last cX1_last 1 (.object "RingSteer$Spot") 1 [.ref (g.2.2 b)] M (fun r M1 => r = b + 4 + n ∧ M1 = M) := by
  refine rs_ofr (plainFor_of_name (by decide)) (Nat.le_of_ble_eq_true rfl) ?_
  intro Y K hr
  show Y M 0 [(0, .ref (g.2.2 b))] []
  refine r_aload_n K 0 dX1_last_0 rfl rfl ?_
  refine r_getR K (xL_0 hb) rfl ff_1_spots qw_63 dX1_last_1 ?_
  refine r_aload_n K 0 dX1_last_4 rfl rfl ?_
  refine r_getI K (xL_0 hb) rfl ff_1_rings qw_69 dX1_last_5 ?_
  refine r_iconst K (v := 0) dX1_last_8 (by decide) ?_
  refine r_bipush K (v := 12) dX1_last_9 (by decide) ?_
  refine r_callNi K [.int (M b 3), .int 0, .int 12] [.ref (g.2.2 (b + 1))] dX1_last_11 mf_X5_isWithin (by decide) qw_228 (c_isWithin l g xk t M (M b 3) 0 12) rfl rfl (by decide) (Nat.le_of_ble_eq_true rfl) (fun r M1 hp => ?_)
  obtain ⟨hp, he⟩ := hp
  have he := he.symm
  subst he
  rcases hp with ⟨rfl, hb_1⟩ | ⟨rfl, hb_1⟩
  rotate_left
  · exact absurd (x_within (a := 0) (b := 12) h3 (by omega) hn (by decide)) hb_1
  refine r_if_eq K 24 dX1_last_14 (by decide) (fun h => absurd h (by decide)) (fun _ => ?_)
  refine r_aload_n K 0 dX1_last_17 rfl rfl ?_
  refine r_getI K (xL_0 hb) rfl ff_1_rings qw_69 dX1_last_18 ?_
  refine r_goto K 25 dX1_last_21 (by decide) ?_
  refine r_aaldS K (j := n) (xL_1 hb) h3 (xL_e (by omega)) (by omega) (by decide) dX1_last_25 ?_
  exact hr _ _ _ _ dX1_last_26 ⟨rfl, rfl⟩
set_option maxHeartbeats 4000000 in
set_option maxRecDepth 100000 in
theorem c_Line_cost (l : Launch) (g : rs_G) (t : Nat × Nat) (M : rs_M) (b : Nat) (hb : xL b) (tp : Int32) (L : ab_L) (hok : ab_ok L) (hL : x_rl M b tp L) (c i : Nat) (hc : xk[c]? = some x_spot) (hi : i ≤ 17) (hc0 : M c 0 = nI i) : rs_Ci l g xk t yX1_cost cX1_cost 5 .int 1 [.ref (g.2.2 b), .ref (g.2.2 c)] M (fun r M1 => r = ab_cost L i (M c 4) (M c 5) ∧ M1 = M) := by
  refine rs_ofi (plainFor_of_name (by decide)) (Nat.le_of_ble_eq_true rfl) ?_
  intro Y K hr
  show Y M 0 [(0, .ref (g.2.2 b)), (1, .ref (g.2.2 c))] []
  refine r_aload_n K 1 dX1_cost_0 rfl rfl ?_
  refine r_getI K hc rfl ff_4_ringNumber qw_32 dX1_cost_1 ?_
  refine r_istore_n K [(2, .int (M c 0)), (0, .ref (g.2.2 b)), (1, .ref (g.2.2 c))] dX1_cost_4 rfl (by decide) rfl ?_
  refine r_iload_n K 0 dX1_cost_5 rfl rfl ?_
  refine r_iconst K (v := 0) dX1_cost_6 (by decide) ?_
  refine r_bipush K (v := 17) dX1_cost_7 (by decide) ?_
  refine r_callNi K [.int (M c 0), .int 0, .int 17] [] dX1_cost_9 mf_X5_isWithin (by decide) qw_228 (c_isWithin l g xk t M (M c 0) 0 17) rfl rfl (by decide) (Nat.le_of_ble_eq_true rfl) (fun r M1 hp => ?_)
  obtain ⟨hp, he⟩ := hp
  have he := he.symm
  subst he
  rcases hp with ⟨rfl, hb_1⟩ | ⟨rfl, hb_1⟩
  rotate_left
  · exact absurd (x_within (a := 0) (b := 17) hc0 (by omega) hi (by decide)) hb_1
  refine r_if_ne K 17 dX1_cost_12 (by decide) (fun _ => ?_) (fun h => absurd h (by decide))
  refine r_aload_n K 2 dX1_cost_17 rfl rfl ?_
  refine r_getI K hc rfl ff_4_placeX qw_45 dX1_cost_18 ?_
  refine r_aload_n K 1 dX1_cost_21 rfl rfl ?_
  refine r_getR K (xL_0 hb) rfl ff_1_wishX qw_65 dX1_cost_22 ?_
  refine r_iload_n K 0 dX1_cost_25 rfl rfl ?_
  refine r_iald K (j := i) (xL_2 hb) hc0 (by omega) (by decide) dX1_cost_26 ?_
  refine r_isub K dX1_cost_27 ?_
  refine r_mabs K dX1_cost_28 qw_329 qw_330 qw_8 qw_331 (by decide) (Nat.le_of_ble_eq_true rfl) ?_
  refine r_istore_n K [(3, .int (ab_abs ((M c 4) - (M (b + 2) i)))), (2, .int (M c 0)), (0, .ref (g.2.2 b)), (1, .ref (g.2.2 c))] dX1_cost_31 rfl (by decide) rfl ?_
  refine r_aload_n K 3 dX1_cost_32 rfl rfl ?_
  refine r_getI K hc rfl ff_4_placeY qw_48 dX1_cost_33 ?_
  refine r_aload_n K 2 dX1_cost_36 rfl rfl ?_
  refine r_getR K (xL_0 hb) rfl ff_1_wishY qw_67 dX1_cost_37 ?_
  refine r_iload_n K 1 dX1_cost_40 rfl rfl ?_
  refine r_iald K (j := i) (xL_3 hb) hc0 (by omega) (by decide) dX1_cost_41 ?_
  refine r_isub K dX1_cost_42 ?_
  refine r_mabs K dX1_cost_43 qw_329 qw_330 qw_8 qw_331 (by decide) (Nat.le_of_ble_eq_true rfl) ?_
  refine r_istore K [(4, .int (ab_abs ((M c 5) - (M (b + 3) i)))), (3, .int (ab_abs ((M c 4) - (M (b + 2) i)))), (2, .int (M c 0)), (0, .ref (g.2.2 b)), (1, .ref (g.2.2 c))] dX1_cost_46 (by decide) rfl ?_
  refine r_aload_n K 3 dX1_cost_48 rfl rfl ?_
  refine r_getI K (xL_0 hb) rfl ff_1_way qw_78 dX1_cost_49 ?_
  refine r_lookup K [(1, 80), (2, 87)] 97 dX1_cost_52 (by decide) (by decide) (by decide) ?_
  simp only [rs_swp]
  refine ⟨fun h_2_0 => ?_, fun h_2_0 => ⟨fun h_2_1 => ?_, fun h_2_1 => ?_⟩⟩
  · refine r_iload_n K 1 dX1_cost_80 rfl rfl ?_
    refine r_iload K 0 dX1_cost_81 rfl ?_
    refine r_mmax K dX1_cost_83 qw_384 qw_385 qw_8 qw_386 (by decide) (Nat.le_of_ble_eq_true rfl) ?_
    refine hr _ _ _ _ dX1_cost_86 ⟨?_, rfl⟩
    obtain ⟨e4, e5, e6, e7, ew⟩ := hL
    have hw2 := hok.2.2.2.1
    have hw : ab_way L = 1 := by rw [e6] at h_2_0; exact (nI_eq (by omega) (by decide)).mp h_2_0
    simp only [ab_cost, hw, ab_way_cost, (ew i (by omega)).1, (ew i (by omega)).2]
  · refine r_iload_n K 1 dX1_cost_87 rfl rfl ?_
    refine r_iload_n K 1 dX1_cost_88 rfl rfl ?_
    refine r_imul K dX1_cost_89 ?_
    refine r_iload K 0 dX1_cost_90 rfl ?_
    refine r_iload K 0 dX1_cost_92 rfl ?_
    refine r_imul K dX1_cost_94 ?_
    refine r_iadd K dX1_cost_95 ?_
    refine hr _ _ _ _ dX1_cost_96 ⟨?_, rfl⟩
    obtain ⟨e4, e5, e6, e7, ew⟩ := hL
    have hw2 := hok.2.2.2.1
    have hw : ab_way L = 2 := by rw [e6] at h_2_1; exact (nI_eq (by omega) (by decide)).mp h_2_1
    simp only [ab_cost, hw, ab_way_cost, (ew i (by omega)).1, (ew i (by omega)).2]
  · refine r_iload_n K 1 dX1_cost_97 rfl rfl ?_
    refine r_iload K 0 dX1_cost_98 rfl ?_
    refine r_iadd K dX1_cost_100 ?_
    refine hr _ _ _ _ dX1_cost_101 ⟨?_, rfl⟩
    obtain ⟨e4, e5, e6, e7, ew⟩ := hL
    have hw2 := hok.2.2.2.1
    have hw : ab_way L = 0 := by
      rw [e6] at h_2_0 h_2_1
      have a1 : ab_way L ≠ 1 := fun q => h_2_0 (by rw [q]; rfl)
      have a2 : ab_way L ≠ 2 := fun q => h_2_1 (by rw [q]; rfl)
      omega
    simp only [ab_cost, hw, ab_way_cost, (ew i (by omega)).1, (ew i (by omega)).2]
end
section
theorem nf_eq {x y : Int32} {X Y : Nat} (ex : x = nI X) (ey : y = nI Y) (hX : X < 2 ^ 31) (hY : Y < 2 ^ 31) : x = y ↔ X = Y := by subst ex; subst ey; exact nI_eq hX hY
theorem nf_lt {x y : Int32} {X Y : Nat} (ex : x = nI X) (ey : y = nI Y) (hX : X < 2 ^ 31) (hY : Y < 2 ^ 31) : x < y ↔ X < Y := by subst ex; subst ey; exact nI_ltI hX hY
theorem nf_le {x y : Int32} {X Y : Nat} (ex : x = nI X) (ey : y = nI Y) (hX : X < 2 ^ 31) (hY : Y < 2 ^ 31) : x ≤ y ↔ X ≤ Y := by subst ex; subst ey; exact nI_leI hX hY
theorem nI_ne9 (j : Nat) (hj : j < 8) : ¬ nI j = -9 := by
  intro h
  have := congrArg Int32.toInt h
  rw [nI_toInt (by omega)] at this
  have e : (-9 : Int32).toInt = -9 := by decide
  omega
theorem ab_apart_lt (j k : Nat) : ab_apart j k < 8 := Nat.mod_lt _ (by decide)
set_option maxHeartbeats 4000000 in
set_option maxRecDepth 100000 in
theorem c_isBarred0 (l : Launch) (g : rs_G) (t : Nat × Nat) (M : rs_M) (b : Nat) (hb : xL b) (k : Int32) : rs_Ci l g xk t yX1_isBarred cX1_isBarred 4 .boolean 1 [.ref (g.2.2 b), .int (-9), .int k] M (fun r M1 => r = 0 ∧ M1 = M) := by
  refine rs_ofz (plainFor_of_name (by decide)) (Nat.le_of_ble_eq_true rfl) ?_
  intro Y K hr
  show Y M 0 [(0, .ref (g.2.2 b)), (1, .int (-9)), (2, .int k)] []
  refine r_iload_n K 1 dX1_isBarred_0 rfl rfl ?_
  refine r_bipush K (v := (-9)) dX1_isBarred_1 (by decide) ?_
  refine r_icmp_ne K 8 dX1_isBarred_3 (by decide) (fun h => absurd h (by decide)) (fun _ => ?_)
  refine r_iconst K (v := 0) dX1_isBarred_6 (by decide) ?_
  exact hr _ _ _ _ dX1_isBarred_7 (Or.inl rfl) ⟨rfl, rfl⟩
set_option maxHeartbeats 4000000 in
set_option maxRecDepth 100000 in
theorem c_isBarred1 (l : Launch) (g : rs_G) (t : Nat × Nat) (M : rs_M) (b : Nat) (hb : xL b) (br : Nat) (hbr : br ≤ 3) (h5 : M b 5 = nI br) (j k : Nat) (hj : j < 8) (hk : k < 8) : rs_Ci l g xk t yX1_isBarred cX1_isBarred 4 .boolean 1 [.ref (g.2.2 b), .int (nI j), .int (nI k)] M (fun r M1 => ab_b01 r (ab_barred br j k) ∧ M1 = M) := by
  refine rs_ofz (plainFor_of_name (by decide)) (Nat.le_of_ble_eq_true rfl) ?_
  intro Y K hr
  show Y M 0 [(0, .ref (g.2.2 b)), (1, .int (nI j)), (2, .int (nI k))] []
  refine r_iload_n K 1 dX1_isBarred_0 rfl rfl ?_
  refine r_bipush K (v := (-9)) dX1_isBarred_1 (by decide) ?_
  refine r_icmp_ne K 8 dX1_isBarred_3 (by decide) (fun _ => ?_) (fun h => absurd h (nI_ne9 j hj))
  refine r_iload_n K 2 dX1_isBarred_8 rfl rfl ?_
  refine r_iload_n K 1 dX1_isBarred_9 rfl rfl ?_
  refine r_isub K dX1_isBarred_10 ?_
  refine r_bipush K (v := 8) dX1_isBarred_11 (by decide) ?_
  refine r_callSi K [.int ((nI k) - (nI j)), .int 8] [] dX1_isBarred_13 mf_J9_floorMod_7cf53 qw_317 qw_318 (c_floorMod l g xk t M ((nI k) - (nI j))) rfl rfl (by decide) (Nat.le_of_ble_eq_true rfl) (fun r M1 hp => ?_)
  obtain ⟨hp, he⟩ := hp
  have he := he.symm
  subst he
  subst hp
  refine r_top_eq (nI (ab_apart j k)) (x_fm_apart j hj k hk) ?_
  refine r_istore_n K [(3, .int (nI (ab_apart j k))), (0, .ref (g.2.2 b)), (1, .int (nI j)), (2, .int (nI k))] dX1_isBarred_16 rfl (by decide) rfl ?_
  refine r_aload_n K 1 dX1_isBarred_17 rfl rfl ?_
  refine r_getI K (xL_0 hb) rfl ff_1_bar qw_76 dX1_isBarred_18 ?_
  refine r_table K [(1, 48), (2, 58), (3, 73)] 94 dX1_isBarred_21 (by decide) (by decide) (by decide) ?_
  simp only [rs_swp]
  refine ⟨fun h_1_0 => ?_, fun h_1_0 => ⟨fun h_1_1 => ?_, fun h_1_1 => ⟨fun h_1_2 => ?_, fun h_1_2 => ?_⟩⟩⟩
  · refine r_iload_n K 0 dX1_isBarred_48 rfl rfl ?_
    refine r_if_ne K 56 dX1_isBarred_49 (by decide) (fun h_2 => ?_) (fun h_2 => ?_)
    · refine r_iconst K (v := 0) dX1_isBarred_56 (by decide) ?_
      have hap := ab_apart_lt j k
      have nh_1_0 : br = 1 := (nf_eq h5 rfl (by omega) (by omega)).mp h_1_0
      have nh_2 : ¬ (ab_apart j k) = 0 := mt (nf_eq rfl rfl (by omega) (by omega)).mpr h_2
      exact hr _ _ _ _ dX1_isBarred_57 (Or.inl rfl) ⟨Or.inr ⟨rfl, by simp only [ab_barred]; omega⟩, rfl⟩
    · refine r_iconst K (v := 1) dX1_isBarred_52 (by decide) ?_
      refine r_goto K 57 dX1_isBarred_53 (by decide) ?_
      have hap := ab_apart_lt j k
      have nh_1_0 : br = 1 := (nf_eq h5 rfl (by omega) (by omega)).mp h_1_0
      have nh_2 : (ab_apart j k) = 0 := (nf_eq rfl rfl (by omega) (by omega)).mp h_2
      exact hr _ _ _ _ dX1_isBarred_57 (Or.inr rfl) ⟨Or.inl ⟨rfl, by simp only [ab_barred]; omega⟩, rfl⟩
  · refine r_iload_n K 0 dX1_isBarred_58 rfl rfl ?_
    refine r_if_eq K 67 dX1_isBarred_59 (by decide) (fun h_3 => ?_) (fun h_3 => ?_)
    · refine r_iconst K (v := 1) dX1_isBarred_67 (by decide) ?_
      refine r_goto K 72 dX1_isBarred_68 (by decide) ?_
      have hap := ab_apart_lt j k
      have nh_1_0 : ¬ br = 1 := mt (nf_eq h5 rfl (by omega) (by omega)).mpr h_1_0
      have nh_1_1 : br = 2 := (nf_eq h5 rfl (by omega) (by omega)).mp h_1_1
      have nh_3 : (ab_apart j k) = 0 := (nf_eq rfl rfl (by omega) (by omega)).mp h_3
      exact hr _ _ _ _ dX1_isBarred_72 (Or.inr rfl) ⟨Or.inl ⟨rfl, by simp only [ab_barred]; omega⟩, rfl⟩
    · refine r_iload_n K 0 dX1_isBarred_62 rfl rfl ?_
      refine r_iconst K (v := 4) dX1_isBarred_63 (by decide) ?_
      refine r_icmp_ne K 71 dX1_isBarred_64 (by decide) (fun h_4 => ?_) (fun h_4 => ?_)
      · refine r_iconst K (v := 0) dX1_isBarred_71 (by decide) ?_
        have hap := ab_apart_lt j k
        have nh_1_0 : ¬ br = 1 := mt (nf_eq h5 rfl (by omega) (by omega)).mpr h_1_0
        have nh_1_1 : br = 2 := (nf_eq h5 rfl (by omega) (by omega)).mp h_1_1
        have nh_3 : ¬ (ab_apart j k) = 0 := mt (nf_eq rfl rfl (by omega) (by omega)).mpr h_3
        have nh_4 : ¬ (ab_apart j k) = 4 := mt (nf_eq rfl rfl (by omega) (by omega)).mpr h_4
        exact hr _ _ _ _ dX1_isBarred_72 (Or.inl rfl) ⟨Or.inr ⟨rfl, by simp only [ab_barred]; omega⟩, rfl⟩
      · refine r_iconst K (v := 1) dX1_isBarred_67 (by decide) ?_
        refine r_goto K 72 dX1_isBarred_68 (by decide) ?_
        have hap := ab_apart_lt j k
        have nh_1_0 : ¬ br = 1 := mt (nf_eq h5 rfl (by omega) (by omega)).mpr h_1_0
        have nh_1_1 : br = 2 := (nf_eq h5 rfl (by omega) (by omega)).mp h_1_1
        have nh_3 : ¬ (ab_apart j k) = 0 := mt (nf_eq rfl rfl (by omega) (by omega)).mpr h_3
        have nh_4 : (ab_apart j k) = 4 := (nf_eq rfl rfl (by omega) (by omega)).mp h_4
        exact hr _ _ _ _ dX1_isBarred_72 (Or.inr rfl) ⟨Or.inl ⟨rfl, by simp only [ab_barred]; omega⟩, rfl⟩
  · refine r_iload_n K 0 dX1_isBarred_73 rfl rfl ?_
    refine r_if_eq K 88 dX1_isBarred_74 (by decide) (fun h_5 => ?_) (fun h_5 => ?_)
    · refine r_iconst K (v := 1) dX1_isBarred_88 (by decide) ?_
      refine r_goto K 93 dX1_isBarred_89 (by decide) ?_
      have hap := ab_apart_lt j k
      have nh_1_0 : ¬ br = 1 := mt (nf_eq h5 rfl (by omega) (by omega)).mpr h_1_0
      have nh_1_1 : ¬ br = 2 := mt (nf_eq h5 rfl (by omega) (by omega)).mpr h_1_1
      have nh_1_2 : br = 3 := (nf_eq h5 rfl (by omega) (by omega)).mp h_1_2
      have nh_5 : (ab_apart j k) = 0 := (nf_eq rfl rfl (by omega) (by omega)).mp h_5
      exact hr _ _ _ _ dX1_isBarred_93 (Or.inr rfl) ⟨Or.inl ⟨rfl, by simp only [ab_barred]; omega⟩, rfl⟩
    · refine r_iload_n K 0 dX1_isBarred_77 rfl rfl ?_
      refine r_iconst K (v := 1) dX1_isBarred_78 (by decide) ?_
      refine r_icmp_eq K 88 dX1_isBarred_79 (by decide) (fun h_6 => ?_) (fun h_6 => ?_)
      · refine r_iconst K (v := 1) dX1_isBarred_88 (by decide) ?_
        refine r_goto K 93 dX1_isBarred_89 (by decide) ?_
        have hap := ab_apart_lt j k
        have nh_1_0 : ¬ br = 1 := mt (nf_eq h5 rfl (by omega) (by omega)).mpr h_1_0
        have nh_1_1 : ¬ br = 2 := mt (nf_eq h5 rfl (by omega) (by omega)).mpr h_1_1
        have nh_1_2 : br = 3 := (nf_eq h5 rfl (by omega) (by omega)).mp h_1_2
        have nh_5 : ¬ (ab_apart j k) = 0 := mt (nf_eq rfl rfl (by omega) (by omega)).mpr h_5
        have nh_6 : (ab_apart j k) = 1 := (nf_eq rfl rfl (by omega) (by omega)).mp h_6
        exact hr _ _ _ _ dX1_isBarred_93 (Or.inr rfl) ⟨Or.inl ⟨rfl, by simp only [ab_barred]; omega⟩, rfl⟩
      · refine r_iload_n K 0 dX1_isBarred_82 rfl rfl ?_
        refine r_bipush K (v := 7) dX1_isBarred_83 (by decide) ?_
        refine r_icmp_ne K 92 dX1_isBarred_85 (by decide) (fun h_7 => ?_) (fun h_7 => ?_)
        · refine r_iconst K (v := 0) dX1_isBarred_92 (by decide) ?_
          have hap := ab_apart_lt j k
          have nh_1_0 : ¬ br = 1 := mt (nf_eq h5 rfl (by omega) (by omega)).mpr h_1_0
          have nh_1_1 : ¬ br = 2 := mt (nf_eq h5 rfl (by omega) (by omega)).mpr h_1_1
          have nh_1_2 : br = 3 := (nf_eq h5 rfl (by omega) (by omega)).mp h_1_2
          have nh_5 : ¬ (ab_apart j k) = 0 := mt (nf_eq rfl rfl (by omega) (by omega)).mpr h_5
          have nh_6 : ¬ (ab_apart j k) = 1 := mt (nf_eq rfl rfl (by omega) (by omega)).mpr h_6
          have nh_7 : ¬ (ab_apart j k) = 7 := mt (nf_eq rfl rfl (by omega) (by omega)).mpr h_7
          exact hr _ _ _ _ dX1_isBarred_93 (Or.inl rfl) ⟨Or.inr ⟨rfl, by simp only [ab_barred]; omega⟩, rfl⟩
        · refine r_iconst K (v := 1) dX1_isBarred_88 (by decide) ?_
          refine r_goto K 93 dX1_isBarred_89 (by decide) ?_
          have hap := ab_apart_lt j k
          have nh_1_0 : ¬ br = 1 := mt (nf_eq h5 rfl (by omega) (by omega)).mpr h_1_0
          have nh_1_1 : ¬ br = 2 := mt (nf_eq h5 rfl (by omega) (by omega)).mpr h_1_1
          have nh_1_2 : br = 3 := (nf_eq h5 rfl (by omega) (by omega)).mp h_1_2
          have nh_5 : ¬ (ab_apart j k) = 0 := mt (nf_eq rfl rfl (by omega) (by omega)).mpr h_5
          have nh_6 : ¬ (ab_apart j k) = 1 := mt (nf_eq rfl rfl (by omega) (by omega)).mpr h_6
          have nh_7 : (ab_apart j k) = 7 := (nf_eq rfl rfl (by omega) (by omega)).mp h_7
          exact hr _ _ _ _ dX1_isBarred_93 (Or.inr rfl) ⟨Or.inl ⟨rfl, by simp only [ab_barred]; omega⟩, rfl⟩
  · refine r_iconst K (v := 0) dX1_isBarred_94 (by decide) ?_
    have hap := ab_apart_lt j k
    have nh_1_0 : ¬ br = 1 := mt (nf_eq h5 rfl (by omega) (by omega)).mpr h_1_0
    have nh_1_1 : ¬ br = 2 := mt (nf_eq h5 rfl (by omega) (by omega)).mpr h_1_1
    have nh_1_2 : ¬ br = 3 := mt (nf_eq h5 rfl (by omega) (by omega)).mpr h_1_2
    exact hr _ _ _ _ dX1_isBarred_95 (Or.inl rfl) ⟨Or.inr ⟨rfl, by simp only [ab_barred]; omega⟩, rfl⟩
set_option maxHeartbeats 4000000 in
set_option maxRecDepth 100000 in
theorem c_hasRoom (l : Launch) (g : rs_G) (t : Nat × Nat) (M : rs_M) (b : Nat) (hb : xL b) (tp : Int32) (L : ab_L) (hok : ab_ok L) (hL : x_rl M b tp L) (c : Nat) (hc : xk[c]? = some x_spot) (ks : List Nat) (hm : ks.length ≤ 16) (hs : x_sp M c tp ks) (k : Nat) (hk : k < 8) : rs_Ci l g xk t yX1_hasRoom cX1_hasRoom 6 .boolean 1 [.ref (g.2.2 b), .ref (g.2.2 c), .int (nI k)] M (fun r M1 => ab_b01 r (ab_room L (ks.length + 1) (ab_step tp (ab_geo tp ks) k).1 (ab_step tp (ab_geo tp ks) k).2.1) ∧ M1 = M) := by
  obtain ⟨e4, e5, e6, e7, ew⟩ := id hL
  have ht20 := hok.2.2.2.2.1
  have eX : M c 2 + M b 4 * rs_lX k - (M (b + 2) (ks.length + 1) - M (b + 2) ks.length) = (ab_step tp (ab_geo tp ks) k).1 - (ab_wx L (ks.length + 1) - ab_wx L (ks.length + 1 - 1)) := by rw [hs.2.2.1, e4, (ew _ (by omega)).1, (ew _ (by omega)).1]; rfl
  have eY : M c 3 + M b 4 * rs_lY k - (M (b + 3) (ks.length + 1) - M (b + 3) ks.length) = (ab_step tp (ab_geo tp ks) k).2.1 - (ab_wy L (ks.length + 1) - ab_wy L (ks.length + 1 - 1)) := by rw [hs.2.2.2.1, e4, (ew _ (by omega)).2, (ew _ (by omega)).2]; rfl
  refine rs_ofz (plainFor_of_name (by decide)) (Nat.le_of_ble_eq_true rfl) ?_
  intro Y K hr
  show Y M 0 [(0, .ref (g.2.2 b)), (1, .ref (g.2.2 c)), (2, .int (nI k))] []
  refine r_aload_n K 0 dX1_hasRoom_0 rfl rfl ?_
  refine r_getI K (xL_0 hb) rfl ff_1_tail qw_80 dX1_hasRoom_1 ?_
  refine r_if_ne K 9 dX1_hasRoom_4 (by decide) (fun h_1 => ?_) (fun h_1 => ?_)
  · refine r_aload_n K 1 dX1_hasRoom_9 rfl rfl ?_
    refine r_getI K hc rfl ff_4_ringNumber qw_32 dX1_hasRoom_10 ?_
    refine r_iconst K (v := 1) dX1_hasRoom_13 (by decide) ?_
    refine r_iadd K dX1_hasRoom_14 ?_
    refine r_top_eq (nI (ks.length + 1)) (by rw [hs.1]; exact nI_1 _) ?_
    refine r_istore_n K [(3, .int (nI (ks.length + 1))), (0, .ref (g.2.2 b)), (1, .ref (g.2.2 c)), (2, .int (nI k))] dX1_hasRoom_15 rfl (by decide) rfl ?_
    refine r_iload_n K 0 dX1_hasRoom_16 rfl rfl ?_
    refine r_iconst K (v := 1) dX1_hasRoom_17 (by decide) ?_
    refine r_bipush K (v := 17) dX1_hasRoom_18 (by decide) ?_
    refine r_callNi K [.int (nI (ks.length + 1)), .int 1, .int 17] [] dX1_hasRoom_20 mf_X5_isWithin (by decide) qw_228 (c_isWithin l g xk t M (nI (ks.length + 1)) 1 17) rfl rfl (by decide) (Nat.le_of_ble_eq_true rfl) (fun r M1 hp => ?_)
    obtain ⟨hp, he⟩ := hp
    have he := he.symm
    subst he
    rcases hp with ⟨rfl, hb_2⟩ | ⟨rfl, hb_2⟩
    rotate_left
    · exact absurd (x_within (a := 1) (b := 17) rfl (by omega) (by omega) (by decide)) hb_2
    refine r_if_ne K 28 dX1_hasRoom_23 (by decide) (fun _ => ?_) (fun h => absurd h (by decide))
    refine r_aload_n K 1 dX1_hasRoom_28 rfl rfl ?_
    refine r_getR K (xL_0 hb) rfl ff_1_wishX qw_65 dX1_hasRoom_29 ?_
    refine r_iload_n K 0 dX1_hasRoom_32 rfl rfl ?_
    refine r_iald K (j := ks.length + 1) (xL_2 hb) rfl (by omega) (by decide) dX1_hasRoom_33 ?_
    refine r_aload_n K 1 dX1_hasRoom_34 rfl rfl ?_
    refine r_getR K (xL_0 hb) rfl ff_1_wishX qw_65 dX1_hasRoom_35 ?_
    refine r_iload_n K 0 dX1_hasRoom_38 rfl rfl ?_
    refine r_iconst K (v := 1) dX1_hasRoom_39 (by decide) ?_
    refine r_isub K dX1_hasRoom_40 ?_
    refine r_iald K (j := ks.length) (xL_2 hb) (nI_pred _) (by omega) (by decide) dX1_hasRoom_41 ?_
    refine r_isub K dX1_hasRoom_42 ?_
    refine r_istore K [(4, .int ((M (b + 2) (ks.length + 1)) - (M (b + 2) ks.length))), (3, .int (nI (ks.length + 1))), (0, .ref (g.2.2 b)), (1, .ref (g.2.2 c)), (2, .int (nI k))] dX1_hasRoom_43 (by decide) rfl ?_
    refine r_aload_n K 2 dX1_hasRoom_45 rfl rfl ?_
    refine r_getR K (xL_0 hb) rfl ff_1_wishY qw_67 dX1_hasRoom_46 ?_
    refine r_iload_n K 1 dX1_hasRoom_49 rfl rfl ?_
    refine r_iald K (j := ks.length + 1) (xL_3 hb) rfl (by omega) (by decide) dX1_hasRoom_50 ?_
    refine r_aload_n K 2 dX1_hasRoom_51 rfl rfl ?_
    refine r_getR K (xL_0 hb) rfl ff_1_wishY qw_67 dX1_hasRoom_52 ?_
    refine r_iload_n K 1 dX1_hasRoom_55 rfl rfl ?_
    refine r_iconst K (v := 1) dX1_hasRoom_56 (by decide) ?_
    refine r_isub K dX1_hasRoom_57 ?_
    refine r_iald K (j := ks.length) (xL_3 hb) (nI_pred _) (by omega) (by decide) dX1_hasRoom_58 ?_
    refine r_isub K dX1_hasRoom_59 ?_
    refine r_istore K [(5, .int ((M (b + 3) (ks.length + 1)) - (M (b + 3) ks.length))), (4, .int ((M (b + 2) (ks.length + 1)) - (M (b + 2) ks.length))), (3, .int (nI (ks.length + 1))), (0, .ref (g.2.2 b)), (1, .ref (g.2.2 c)), (2, .int (nI k))] dX1_hasRoom_60 (by decide) rfl ?_
    refine r_aload_n K 4 dX1_hasRoom_62 rfl rfl ?_
    refine r_getI K hc rfl ff_4_slopeX qw_39 dX1_hasRoom_63 ?_
    refine r_aload_n K 3 dX1_hasRoom_66 rfl rfl ?_
    refine r_getI K (xL_0 hb) rfl ff_1_taper qw_72 dX1_hasRoom_67 ?_
    refine r_iload_n K 5 dX1_hasRoom_70 rfl rfl ?_
    refine r_callNi K [.int (nI k)] [.int (M b 4), .int (M c 2)] dX1_hasRoom_71 mf_X5_leanX (by decide) qw_325 (c_leanX l g xk t M k hk) rfl rfl (by decide) (Nat.le_of_ble_eq_true rfl) (fun r M1 hp => ?_)
    obtain ⟨hp, he⟩ := hp
    have he := he.symm
    subst he
    subst hp
    refine r_imul K dX1_hasRoom_74 ?_
    refine r_iadd K dX1_hasRoom_75 ?_
    refine r_iload K 1 dX1_hasRoom_76 rfl ?_
    refine r_isub K dX1_hasRoom_78 ?_
    refine r_mabs K dX1_hasRoom_79 qw_329 qw_330 qw_8 qw_331 (by decide) (Nat.le_of_ble_eq_true rfl) ?_
    refine r_aload_n K 3 dX1_hasRoom_82 rfl rfl ?_
    refine r_getI K (xL_0 hb) rfl ff_1_tail qw_80 dX1_hasRoom_83 ?_
    refine r_icmp_gt K 120 dX1_hasRoom_86 (by decide) (fun h_3 => ?_) (fun h_3 => ?_)
    · refine r_iconst K (v := 0) dX1_hasRoom_120 (by decide) ?_
      have ht0 : ¬ ab_tail L = 0 := mt (nf_eq e7 rfl (by omega) (by decide)).mpr h_1
      rw [eX, e7] at h_3
      exact hr _ _ _ _ dX1_hasRoom_121 (Or.inl rfl) ⟨Or.inr ⟨rfl, fun q => q.elim (fun q => ht0 q) (fun q => absurd q.1 (Int32.not_le.mpr h_3))⟩, rfl⟩
    · refine r_aload_n K 4 dX1_hasRoom_89 rfl rfl ?_
      refine r_getI K hc rfl ff_4_slopeY qw_42 dX1_hasRoom_90 ?_
      refine r_aload_n K 3 dX1_hasRoom_93 rfl rfl ?_
      refine r_getI K (xL_0 hb) rfl ff_1_taper qw_72 dX1_hasRoom_94 ?_
      refine r_iload_n K 5 dX1_hasRoom_97 rfl rfl ?_
      refine r_callNi K [.int (nI k)] [.int (M b 4), .int (M c 3)] dX1_hasRoom_98 mf_X5_leanY (by decide) qw_333 (c_leanY l g xk t M k hk) rfl rfl (by decide) (Nat.le_of_ble_eq_true rfl) (fun r M1 hp => ?_)
      obtain ⟨hp, he⟩ := hp
      have he := he.symm
      subst he
      subst hp
      refine r_imul K dX1_hasRoom_101 ?_
      refine r_iadd K dX1_hasRoom_102 ?_
      refine r_iload K 0 dX1_hasRoom_103 rfl ?_
      refine r_isub K dX1_hasRoom_105 ?_
      refine r_mabs K dX1_hasRoom_106 qw_329 qw_330 qw_8 qw_331 (by decide) (Nat.le_of_ble_eq_true rfl) ?_
      refine r_aload_n K 3 dX1_hasRoom_109 rfl rfl ?_
      refine r_getI K (xL_0 hb) rfl ff_1_tail qw_80 dX1_hasRoom_110 ?_
      refine r_icmp_gt K 120 dX1_hasRoom_113 (by decide) (fun h_4 => ?_) (fun h_4 => ?_)
      · refine r_iconst K (v := 0) dX1_hasRoom_120 (by decide) ?_
        have ht0 : ¬ ab_tail L = 0 := mt (nf_eq e7 rfl (by omega) (by decide)).mpr h_1
        rw [eX, e7] at h_3
        rw [eY, e7] at h_4
        exact hr _ _ _ _ dX1_hasRoom_121 (Or.inl rfl) ⟨Or.inr ⟨rfl, fun q => q.elim (fun q => ht0 q) (fun q => absurd q.2 (Int32.not_le.mpr h_4))⟩, rfl⟩
      · refine r_iconst K (v := 1) dX1_hasRoom_116 (by decide) ?_
        refine r_goto K 121 dX1_hasRoom_117 (by decide) ?_
        have ht0 : ¬ ab_tail L = 0 := mt (nf_eq e7 rfl (by omega) (by decide)).mpr h_1
        rw [eX, e7] at h_3
        rw [eY, e7] at h_4
        exact hr _ _ _ _ dX1_hasRoom_121 (Or.inr rfl) ⟨Or.inl ⟨rfl, Or.inr ⟨Int32.not_lt.mp h_3, Int32.not_lt.mp h_4⟩⟩, rfl⟩
  · refine r_iconst K (v := 1) dX1_hasRoom_7 (by decide) ?_
    exact hr _ _ _ _ dX1_hasRoom_8 (Or.inr rfl) ⟨Or.inl ⟨rfl, Or.inl ((nf_eq e7 rfl (by omega) (by decide)).mp h_1)⟩, rfl⟩
end
section
theorem rs_st_nk (M : rs_M) (c : Nat) {k k' : Nat} (v : Int32) (h : k' ≠ k) : rs_st M c k v c k' = M c k' := by simp [rs_st, h]
theorem rs_st_eq (M : rs_M) (c k : Nat) (v : Int32) : rs_st M c k v c k = v := by simp [rs_st]
/-- what lies outside the cells lo .. hi - 1 stays -/
def x_fr (M M1 : rs_M) (lo hi : Nat) : Prop := ∀ c, (c < lo ∨ hi ≤ c) → M1 c = M c
theorem x_fr_rf (M : rs_M) (lo hi : Nat) : x_fr M M lo hi := fun _ _ => rfl
theorem x_fr_tr {M M1 M2 : rs_M} {lo hi : Nat} (h : x_fr M M1 lo hi) (h2 : x_fr M1 M2 lo hi) : x_fr M M2 lo hi := fun c hc => (h2 c hc).trans (h c hc)
theorem x_fr_mono {M M1 : rs_M} {lo hi lo2 hi2 : Nat} (h : x_fr M M1 lo hi) (h1 : lo2 ≤ lo) (h2 : hi ≤ hi2) : x_fr M M1 lo2 hi2 := fun c hc => h c (by omega)
theorem x_fr_st {M : rs_M} {lo hi c k : Nat} {v : Int32} (h1 : lo ≤ c) (h2 : c < hi) : x_fr M (rs_st M c k v) lo hi := fun c' hc => rs_st_ne M k v (by omega)
theorem x_fr_cp {M : rs_M} {lo hi c d : Nat} (h1 : lo ≤ c) (h2 : c < hi) : x_fr M (x_cp M c d) lo hi := fun c' hc => by
  funext j
  simp only [x_cp, if_neg (show ¬ (c' = c ∧ j < 6) by omega)]
theorem x_fr_adv {M : rs_M} {lo hi c k : Nat} {tp : Int32} (h1 : lo ≤ c) (h2 : c < hi) : x_fr M (x_adv M c tp k) lo hi := fun c' hc => by
  funext j
  simp only [x_adv, if_neg (show ¬ c' = c by omega)]
theorem x_ln_fr {M M1 : rs_M} {b lo hi : Nat} {tp : Int32} {L : ab_L} (hL : (ab_ks L).length ≤ 12) (h : x_ln M b tp L) (hf : x_fr M M1 lo hi) (hd : b + 17 ≤ lo ∨ hi ≤ b) : x_ln M1 b tp L := by
  obtain ⟨h3, hs, h4, h5, h6, h7, hw⟩ := h
  refine ⟨by rw [hf b (by omega)]; exact h3, fun i hi => x_sp_same (hs i hi) (fun j _ => by rw [hf (b + 4 + i) (by omega)]), by rw [hf b (by omega)]; exact h4, by rw [hf b (by omega)]; exact h5, by rw [hf b (by omega)]; exact h6, by rw [hf b (by omega)]; exact h7, fun p hp => ⟨by rw [hf (b + 2) (by omega)]; exact (hw p hp).1, by rw [hf (b + 3) (by omega)]; exact (hw p hp).2⟩⟩
def ab_rule (L : ab_L) (w : Nat) : Nat := match w with
  | 0 => ab_bar L
  | 1 => ab_way L
  | _ => ab_tail L
def ab_setrule (L : ab_L) (w v : Nat) : ab_L := match w with
  | 0 => (ab_ks L, ab_wx L, ab_wy L, v, ab_way L, ab_tail L)
  | 1 => (ab_ks L, ab_wx L, ab_wy L, ab_bar L, v, ab_tail L)
  | _ => (ab_ks L, ab_wx L, ab_wy L, ab_bar L, ab_way L, v)
def ab_setwish (L : ab_L) (p : Nat) (x y : Int32) : ab_L := (ab_ks L, upd (ab_wx L) p x, upd (ab_wy L) p y, L.2.2.2)
def ab_build (L : ab_L) (k : Nat) : ab_L := (ab_ks L ++ [k], L.2)
def ab_drop (L : ab_L) : ab_L := ((ab_ks L).dropLast, L.2)
theorem x_build_ok {M : rs_M} {b : Nat} {tp : Int32} {L : ab_L} (h : x_ln M b tp L) (hn : (ab_ks L).length < 12) (k : Nat) : x_ln (rs_st (x_adv (x_cp M (b + 4 + ((ab_ks L).length + 1)) (b + 4 + (ab_ks L).length)) (b + 4 + ((ab_ks L).length + 1)) tp k) b 3 (nI ((ab_ks L).length + 1))) b tp (ab_build L k) := by
  obtain ⟨h3, hs, h4, h5, h6, h7, hw⟩ := h
  have fr : ∀ c, c ≠ b → c ≠ b + 4 + ((ab_ks L).length + 1) → (rs_st (x_adv (x_cp M (b + 4 + ((ab_ks L).length + 1)) (b + 4 + (ab_ks L).length)) (b + 4 + ((ab_ks L).length + 1)) tp k) b 3 (nI ((ab_ks L).length + 1))) c = M c := by
    intro c c1 c2
    rw [rs_st_ne _ _ _ c1]
    funext j
    simp only [x_adv, if_neg c2, x_cp, if_neg (show ¬ (c = b + 4 + ((ab_ks L).length + 1) ∧ j < 6) from fun q => c2 q.1)]
  have frb : ∀ j, j ≠ 3 → (rs_st (x_adv (x_cp M (b + 4 + ((ab_ks L).length + 1)) (b + 4 + (ab_ks L).length)) (b + 4 + ((ab_ks L).length + 1)) tp k) b 3 (nI ((ab_ks L).length + 1))) b j = M b j := by
    intro j hj
    rw [rs_st_nk _ _ _ hj]
    simp only [x_adv, if_neg (show ¬ b = b + 4 + ((ab_ks L).length + 1) by omega), x_cp, if_neg (show ¬ (b = b + 4 + ((ab_ks L).length + 1) ∧ j < 6) by omega)]
  refine ⟨?_, fun i hi => ?_, by rw [frb 4 (by decide)]; exact h4, by rw [frb 5 (by decide)]; exact h5, by rw [frb 6 (by decide)]; exact h6, by rw [frb 7 (by decide)]; exact h7, fun p hp => ⟨by rw [fr (b + 2) (by omega) (by omega)]; exact (hw p hp).1, by rw [fr (b + 3) (by omega) (by omega)]; exact (hw p hp).2⟩⟩
  · rw [rs_st_eq]; simp [ab_build, ab_ks]
  · have hi' : i ≤ (ab_ks L).length + 1 := by simpa [ab_build, ab_ks] using hi
    show x_sp _ (b + 4 + i) tp ((ab_ks L ++ [k]).take i)
    rcases Nat.lt_or_ge (ab_ks L).length i with q | q
    · have e : i = (ab_ks L).length + 1 := by omega
      subst e
      rw [List.take_of_length_le (by simp)]
      refine x_sp_same (x_sp_adv k (x_sp_cp (c := b + 4 + ((ab_ks L).length + 1)) (by have := hs _ (Nat.le_refl _); rwa [List.take_length] at this))) (fun j _ => ?_)
      rw [rs_st_ne _ _ _ (by omega)]
    · rw [List.take_append_of_le_length q]
      exact x_sp_same (hs i q) (fun j _ => by rw [fr (b + 4 + i) (by omega) (by omega)])
theorem x_drop_ok {M : rs_M} {b : Nat} {tp : Int32} {L : ab_L} (h : x_ln M b tp L) : x_ln (rs_st M b 3 (nI ((ab_ks L).length - 1))) b tp (ab_drop L) := by
  obtain ⟨h3, hs, h4, h5, h6, h7, hw⟩ := h
  have frb : ∀ j, j ≠ 3 → (rs_st M b 3 (nI ((ab_ks L).length - 1))) b j = M b j := fun j hj => rs_st_nk _ _ _ hj
  refine ⟨?_, fun i hi => ?_, by rw [frb 4 (by decide)]; exact h4, by rw [frb 5 (by decide)]; exact h5, by rw [frb 6 (by decide)]; exact h6, by rw [frb 7 (by decide)]; exact h7, fun p hp => ⟨by rw [rs_st_ne _ _ _ (by omega)]; exact (hw p hp).1, by rw [rs_st_ne _ _ _ (by omega)]; exact (hw p hp).2⟩⟩
  · rw [rs_st_eq]; simp [ab_drop, ab_ks]
  · have hi' : i ≤ (ab_ks L).length - 1 := by simpa [ab_drop, ab_ks] using hi
    show x_sp _ (b + 4 + i) tp ((ab_ks L).dropLast.take i)
    rw [List.dropLast_eq_take, List.take_take, Nat.min_eq_left hi']
    exact x_sp_same (hs i (by omega)) (fun j _ => by rw [rs_st_ne _ _ _ (by omega)])
theorem x_wish_ok {M : rs_M} {b : Nat} {tp : Int32} {L : ab_L} (h : x_ln M b tp L) (p : Nat) (x y : Int32) : x_ln (rs_st (rs_st M (b + 2) p x) (b + 3) p y) b tp (ab_setwish L p x y) := by
  obtain ⟨h3, hs, h4, h5, h6, h7, hw⟩ := h
  have fr : ∀ c, c ≠ b + 2 → c ≠ b + 3 → (rs_st (rs_st M (b + 2) p x) (b + 3) p y) c = M c := fun c c1 c2 => by rw [rs_st_ne _ _ _ c2, rs_st_ne _ _ _ c1]
  refine ⟨by rw [fr b (by omega) (by omega)]; exact h3, fun i hi => x_sp_same (hs i hi) (fun j _ => by rw [fr (b + 4 + i) (by omega) (by omega)]), by rw [fr b (by omega) (by omega)]; exact h4, by rw [fr b (by omega) (by omega)]; exact h5, by rw [fr b (by omega) (by omega)]; exact h6, by rw [fr b (by omega) (by omega)]; exact h7, fun q hq => ⟨?_, ?_⟩⟩
  · rw [rs_st_ne _ _ _ (by omega), rs_st_row]
    show upd (M (b + 2)) p x q = upd (ab_wx L) p x q
    simp only [upd]
    split
    · rfl
    · exact (hw q hq).1
  · rw [rs_st_row, rs_st_ne _ _ _ (by omega)]
    show upd (M (b + 3)) p y q = upd (ab_wy L) p y q
    simp only [upd]
    split
    · rfl
    · exact (hw q hq).2
theorem x_rule_ok {M : rs_M} {b : Nat} {tp : Int32} {L : ab_L} (h : x_ln M b tp L) (w v : Nat) (hw2 : w ≤ 2) : x_ln (rs_st M b (5 + w) (nI v)) b tp (ab_setrule L w v) := by
  obtain ⟨h3, hs, h4, h5, h6, h7, hw⟩ := h
  have fr : ∀ c, c ≠ b → (rs_st M b (5 + w) (nI v)) c = M c := fun c c1 => rs_st_ne _ _ _ c1
  have hk : ab_ks (ab_setrule L w v) = ab_ks L ∧ ab_wx (ab_setrule L w v) = ab_wx L ∧ ab_wy (ab_setrule L w v) = ab_wy L := by
    rcases (show w = 0 ∨ w = 1 ∨ w = 2 by omega) with rfl | rfl | rfl <;> exact ⟨rfl, rfl, rfl⟩
  refine ⟨by rw [hk.1, rs_st_nk _ _ _ (by omega)]; exact h3, by rw [hk.1]; exact fun i hi => x_sp_same (hs i hi) (fun j _ => by rw [fr (b + 4 + i) (by omega)]), by rw [rs_st_nk _ _ _ (by omega)]; exact h4, ?_, ?_, ?_, by rw [hk.2.1, hk.2.2]; exact fun q hq => ⟨by rw [fr _ (by omega)]; exact (hw q hq).1, by rw [fr _ (by omega)]; exact (hw q hq).2⟩⟩
  all_goals rcases (show w = 0 ∨ w = 1 ∨ w = 2 by omega) with rfl | rfl | rfl <;> simp [rs_st, ab_setrule, ab_bar, ab_way, ab_tail, h5, h6, h7]
set_option maxHeartbeats 4000000 in
set_option maxRecDepth 100000 in
theorem c_mayFollow0 (l : Launch) (g : rs_G) (t : Nat × Nat) (M : rs_M) (b : Nat) (hb : xL b) (tp : Int32) (L : ab_L) (hok : ab_ok L) (hL : x_rl M b tp L) (c : Nat) (hc : xk[c]? = some x_spot) (ks : List Nat) (hm : ks.length ≤ 16) (hs : x_sp M c tp ks) (k : Nat) (hk : k < 8) (hg : ks.getLast? = none) : rs_Ci l g xk t yX1_mayFollow cX1_mayFollow 3 .boolean 2 [.ref (g.2.2 b), .ref (g.2.2 c), .int (nI k)] M (fun r M1 => ab_b01 r (ab_may tp L ks k) ∧ M1 = M) := by
  refine rs_ofz (plainFor_of_name (by decide)) (Nat.le_of_ble_eq_true rfl) ?_
  intro Y K hr
  show Y M 0 [(0, .ref (g.2.2 b)), (1, .ref (g.2.2 c)), (2, .int (nI k))] []
  refine r_aload_n K 0 dX1_mayFollow_0 rfl rfl ?_
  refine r_aload_n K 1 dX1_mayFollow_1 rfl rfl ?_
  refine r_getI K hc rfl ff_4_key qw_35 dX1_mayFollow_2 ?_
  refine r_top_eq (-9) (by rw [hs.2.1]; simp [ab_last, hg]) ?_
  refine r_iload_n K 2 dX1_mayFollow_5 rfl rfl ?_
  refine r_callVi K [.int (-9), .int (nI k)] [] dX1_mayFollow_6 mf_X1_isBarred (xL_0 hb) rfl qw_313 qw_315 qs_9 (c_isBarred0 l g t M b hb (nI k)) rfl rfl (by decide) (Nat.le_of_ble_eq_true rfl) (fun r M1 hp => ?_)
  obtain ⟨hp, he⟩ := hp
  have he := he.symm
  subst he
  subst hp
  refine r_if_ne K 25 dX1_mayFollow_9 (by decide) (fun h => absurd h (by decide)) (fun _ => ?_)
  refine r_aload_n K 0 dX1_mayFollow_12 rfl rfl ?_
  refine r_aload_n K 1 dX1_mayFollow_13 rfl rfl ?_
  refine r_iload_n K 2 dX1_mayFollow_14 rfl rfl ?_
  refine r_callVi K [.ref (g.2.2 c), .int (nI k)] [] dX1_mayFollow_15 mf_X1_hasRoom (xL_0 hb) rfl qw_320 qw_322 qs_10 (c_hasRoom l g t M b hb tp L hok hL c hc ks hm hs k hk) rfl rfl (by decide) (Nat.le_of_ble_eq_true rfl) (fun r M1 hp => ?_)
  obtain ⟨hp, he⟩ := hp
  have he := he.symm
  subst he
  rcases hp with ⟨rfl, hb_1⟩ | ⟨rfl, hb_1⟩
  · refine r_if_eq K 25 dX1_mayFollow_18 (by decide) (fun h => absurd h (by decide)) (fun _ => ?_)
    refine r_iconst K (v := 1) dX1_mayFollow_21 (by decide) ?_
    refine r_goto K 26 dX1_mayFollow_22 (by decide) ?_
    exact hr _ _ _ _ dX1_mayFollow_26 (Or.inr rfl) ⟨Or.inl ⟨rfl, ⟨fun j q => (by rw [hg] at q; cases q), hb_1⟩⟩, rfl⟩
  · refine r_if_eq K 25 dX1_mayFollow_18 (by decide) (fun _ => ?_) (fun h => absurd h (by decide))
    refine r_iconst K (v := 0) dX1_mayFollow_25 (by decide) ?_
    exact hr _ _ _ _ dX1_mayFollow_26 (Or.inl rfl) ⟨Or.inr ⟨rfl, fun q => hb_1 q.2⟩, rfl⟩
set_option maxHeartbeats 4000000 in
set_option maxRecDepth 100000 in
theorem c_mayFollow1 (l : Launch) (g : rs_G) (t : Nat × Nat) (M : rs_M) (b : Nat) (hb : xL b) (tp : Int32) (L : ab_L) (hok : ab_ok L) (hL : x_rl M b tp L) (c : Nat) (hc : xk[c]? = some x_spot) (ks : List Nat) (hm : ks.length ≤ 16) (hs : x_sp M c tp ks) (k : Nat) (hk : k < 8) (j : Nat) (hj : j < 8) (hg : ks.getLast? = some j) : rs_Ci l g xk t yX1_mayFollow cX1_mayFollow 3 .boolean 2 [.ref (g.2.2 b), .ref (g.2.2 c), .int (nI k)] M (fun r M1 => ab_b01 r (ab_may tp L ks k) ∧ M1 = M) := by
  refine rs_ofz (plainFor_of_name (by decide)) (Nat.le_of_ble_eq_true rfl) ?_
  intro Y K hr
  show Y M 0 [(0, .ref (g.2.2 b)), (1, .ref (g.2.2 c)), (2, .int (nI k))] []
  refine r_aload_n K 0 dX1_mayFollow_0 rfl rfl ?_
  refine r_aload_n K 1 dX1_mayFollow_1 rfl rfl ?_
  refine r_getI K hc rfl ff_4_key qw_35 dX1_mayFollow_2 ?_
  refine r_top_eq (nI j) (by rw [hs.2.1]; simp [ab_last, hg]) ?_
  refine r_iload_n K 2 dX1_mayFollow_5 rfl rfl ?_
  refine r_callVi K [.int (nI j), .int (nI k)] [] dX1_mayFollow_6 mf_X1_isBarred (xL_0 hb) rfl qw_313 qw_315 qs_9 (c_isBarred1 l g t M b hb (ab_bar L) hok.2.2.1 hL.2.1 j k hj hk) rfl rfl (by decide) (Nat.le_of_ble_eq_true rfl) (fun r M1 hp => ?_)
  obtain ⟨hp, he⟩ := hp
  have he := he.symm
  subst he
  rcases hp with ⟨rfl, hb_1⟩ | ⟨rfl, hb_1⟩
  · refine r_if_ne K 25 dX1_mayFollow_9 (by decide) (fun _ => ?_) (fun h => absurd h (by decide))
    refine r_iconst K (v := 0) dX1_mayFollow_25 (by decide) ?_
    exact hr _ _ _ _ dX1_mayFollow_26 (Or.inl rfl) ⟨Or.inr ⟨rfl, fun q => q.1 j hg hb_1⟩, rfl⟩
  · refine r_if_ne K 25 dX1_mayFollow_9 (by decide) (fun h => absurd h (by decide)) (fun _ => ?_)
    refine r_aload_n K 0 dX1_mayFollow_12 rfl rfl ?_
    refine r_aload_n K 1 dX1_mayFollow_13 rfl rfl ?_
    refine r_iload_n K 2 dX1_mayFollow_14 rfl rfl ?_
    refine r_callVi K [.ref (g.2.2 c), .int (nI k)] [] dX1_mayFollow_15 mf_X1_hasRoom (xL_0 hb) rfl qw_320 qw_322 qs_10 (c_hasRoom l g t M b hb tp L hok hL c hc ks hm hs k hk) rfl rfl (by decide) (Nat.le_of_ble_eq_true rfl) (fun r M1 hp => ?_)
    obtain ⟨hp, he⟩ := hp
    have he := he.symm
    subst he
    rcases hp with ⟨rfl, hb_2⟩ | ⟨rfl, hb_2⟩
    · refine r_if_eq K 25 dX1_mayFollow_18 (by decide) (fun h => absurd h (by decide)) (fun _ => ?_)
      refine r_iconst K (v := 1) dX1_mayFollow_21 (by decide) ?_
      refine r_goto K 26 dX1_mayFollow_22 (by decide) ?_
      exact hr _ _ _ _ dX1_mayFollow_26 (Or.inr rfl) ⟨Or.inl ⟨rfl, ⟨fun j2 q => (by rw [hg] at q; cases q; exact hb_1), hb_2⟩⟩, rfl⟩
    · refine r_if_eq K 25 dX1_mayFollow_18 (by decide) (fun _ => ?_) (fun h => absurd h (by decide))
      refine r_iconst K (v := 0) dX1_mayFollow_25 (by decide) ?_
      exact hr _ _ _ _ dX1_mayFollow_26 (Or.inl rfl) ⟨Or.inr ⟨rfl, fun q => hb_2 q.2⟩, rfl⟩
theorem c_mayFollow (l : Launch) (g : rs_G) (t : Nat × Nat) (M : rs_M) (b : Nat) (hb : xL b) (tp : Int32) (L : ab_L) (hok : ab_ok L) (hL : x_rl M b tp L) (c : Nat) (hc : xk[c]? = some x_spot) (ks : List Nat) (hm : ks.length ≤ 16) (hs : x_sp M c tp ks) (k : Nat) (hk : k < 8) (h8 : ∀ x ∈ ks, x < 8) : rs_Ci l g xk t yX1_mayFollow cX1_mayFollow 3 .boolean 2 [.ref (g.2.2 b), .ref (g.2.2 c), .int (nI k)] M (fun r M1 => ab_b01 r (ab_may tp L ks k) ∧ M1 = M) := by
  cases hg : ks.getLast? with
  | none => exact c_mayFollow0 l g t M b hb tp L hok hL c hc ks hm hs k hk hg
  | some j => exact c_mayFollow1 l g t M b hb tp L hok hL c hc ks hm hs k hk j (h8 j (List.mem_of_getLast? hg)) hg
set_option maxHeartbeats 4000000 in
set_option maxRecDepth 100000 in
theorem c_setWish (l : Launch) (g : rs_G) (t : Nat × Nat) (M : rs_M) (b : Nat) (hb : xL b) (tp : Int32) (L : ab_L) (hL : x_ln M b tp L) (p : Nat) (h1 : 1 ≤ p) (h17 : p ≤ 17) (x y : Int32) : rs_Cv l g xk t yX1_setWish cX1_setWish 4 1 [.ref (g.2.2 b), .int (nI p), .int x, .int y] M (fun M1 => x_ln M1 b tp (ab_setwish L p x y) ∧ x_fr M M1 b (b + 17)) := by
  refine rs_ofv (plainFor_of_name (by decide)) (Nat.le_of_ble_eq_true rfl) ?_
  intro Y K hr
  show Y M 0 [(0, .ref (g.2.2 b)), (1, .int (nI p)), (2, .int x), (3, .int y)] []
  refine r_iload_n K 1 dX1_setWish_0 rfl rfl ?_
  refine r_iconst K (v := 1) dX1_setWish_1 (by decide) ?_
  refine r_bipush K (v := 17) dX1_setWish_2 (by decide) ?_
  refine r_callNi K [.int (nI p), .int 1, .int 17] [] dX1_setWish_4 mf_X5_isWithin (by decide) qw_228 (c_isWithin l g xk t M (nI p) 1 17) rfl rfl (by decide) (Nat.le_of_ble_eq_true rfl) (fun r M1 hp => ?_)
  obtain ⟨hp, he⟩ := hp
  have he := he.symm
  subst he
  rcases hp with ⟨rfl, hb_1⟩ | ⟨rfl, hb_1⟩
  rotate_left
  · exact absurd (x_within (a := 1) (b := 17) rfl h1 h17 (by decide)) hb_1
  refine r_if_eq K 24 dX1_setWish_7 (by decide) (fun h => absurd h (by decide)) (fun _ => ?_)
  refine r_aload_n K 0 dX1_setWish_10 rfl rfl ?_
  refine r_getR K (xL_0 hb) rfl ff_1_wishX qw_65 dX1_setWish_11 ?_
  refine r_iload_n K 1 dX1_setWish_14 rfl rfl ?_
  refine r_iload_n K 2 dX1_setWish_15 rfl rfl ?_
  refine r_iast K (j := p) (xL_2 hb) rfl (by omega) (by decide) dX1_setWish_16 ?_
  refine r_aload_n K 0 dX1_setWish_17 rfl rfl ?_
  refine r_getR K (xL_0 hb) rfl ff_1_wishY qw_67 dX1_setWish_18 ?_
  refine r_iload_n K 1 dX1_setWish_21 rfl rfl ?_
  refine r_iload_n K 3 dX1_setWish_22 rfl rfl ?_
  refine r_iast K (j := p) (xL_3 hb) rfl (by omega) (by decide) dX1_setWish_23 ?_
  exact hr _ _ _ dX1_setWish_24 ⟨x_wish_ok hL p x y, x_fr_tr (x_fr_st (by omega) (by omega)) (x_fr_st (by omega) (by omega))⟩
set_option maxHeartbeats 4000000 in
set_option maxRecDepth 100000 in
theorem c_rule (l : Launch) (g : rs_G) (t : Nat × Nat) (M : rs_M) (b : Nat) (hb : xL b) (tp : Int32) (L : ab_L) (hL : x_ln M b tp L) (w : Nat) (hw : w ≤ 2) : rs_Ci l g xk t yX1_rule cX1_rule 2 .int 0 [.ref (g.2.2 b), .int (nI w)] M (fun r M1 => r = nI (ab_rule L w) ∧ M1 = M) := by
  refine rs_ofi (plainFor_of_name (by decide)) (Nat.le_of_ble_eq_true rfl) ?_
  intro Y K hr
  show Y M 0 [(0, .ref (g.2.2 b)), (1, .int (nI w))] []
  refine r_iload_n K 1 dX1_rule_0 rfl rfl ?_
  refine r_lookup K [(0, 28), (1, 33)] 38 dX1_rule_1 (by decide) (by decide) (by decide) ?_
  simp only [rs_swp]
  refine ⟨fun h_1_0 => ?_, fun h_1_0 => ⟨fun h_1_1 => ?_, fun h_1_1 => ?_⟩⟩
  · refine r_aload_n K 0 dX1_rule_28 rfl rfl ?_
    refine r_getI K (xL_0 hb) rfl ff_1_bar qw_76 dX1_rule_29 ?_
    obtain ⟨-, -, -, e5, e6, e7, -⟩ := hL
    have nh_1_0 : w = 0 := (nf_eq rfl rfl (by omega) (by omega)).mp h_1_0
    have hww : w = 0 := by omega
    subst hww
    exact hr _ _ _ _ dX1_rule_32 ⟨e5, rfl⟩
  · refine r_aload_n K 0 dX1_rule_33 rfl rfl ?_
    refine r_getI K (xL_0 hb) rfl ff_1_way qw_78 dX1_rule_34 ?_
    obtain ⟨-, -, -, e5, e6, e7, -⟩ := hL
    have nh_1_0 : ¬ w = 0 := mt (nf_eq rfl rfl (by omega) (by omega)).mpr h_1_0
    have nh_1_1 : w = 1 := (nf_eq rfl rfl (by omega) (by omega)).mp h_1_1
    have hww : w = 1 := by omega
    subst hww
    exact hr _ _ _ _ dX1_rule_37 ⟨e6, rfl⟩
  · refine r_aload_n K 0 dX1_rule_38 rfl rfl ?_
    refine r_getI K (xL_0 hb) rfl ff_1_tail qw_80 dX1_rule_39 ?_
    obtain ⟨-, -, -, e5, e6, e7, -⟩ := hL
    have nh_1_0 : ¬ w = 0 := mt (nf_eq rfl rfl (by omega) (by omega)).mpr h_1_0
    have nh_1_1 : ¬ w = 1 := mt (nf_eq rfl rfl (by omega) (by omega)).mpr h_1_1
    have hww : w = 2 := by omega
    subst hww
    exact hr _ _ _ _ dX1_rule_42 ⟨e7, rfl⟩
set_option maxHeartbeats 4000000 in
set_option maxRecDepth 100000 in
theorem c_setRule (l : Launch) (g : rs_G) (t : Nat × Nat) (M : rs_M) (b : Nat) (hb : xL b) (tp : Int32) (L : ab_L) (hL : x_ln M b tp L) (w : Nat) (hw : w ≤ 2) (v : Nat) : rs_Cv l g xk t yX1_setRule cX1_setRule 3 0 [.ref (g.2.2 b), .int (nI w), .int (nI v)] M (fun M1 => x_ln M1 b tp (ab_setrule L w v) ∧ x_fr M M1 b (b + 17)) := by
  refine rs_ofv (plainFor_of_name (by decide)) (Nat.le_of_ble_eq_true rfl) ?_
  intro Y K hr
  show Y M 0 [(0, .ref (g.2.2 b)), (1, .int (nI w)), (2, .int (nI v))] []
  refine r_iload_n K 1 dX1_setRule_0 rfl rfl ?_
  refine r_lookup K [(0, 28), (1, 36)] 44 dX1_setRule_1 (by decide) (by decide) (by decide) ?_
  simp only [rs_swp]
  refine ⟨fun h_1_0 => ?_, fun h_1_0 => ⟨fun h_1_1 => ?_, fun h_1_1 => ?_⟩⟩
  · refine r_aload_n K 0 dX1_setRule_28 rfl rfl ?_
    refine r_iload_n K 2 dX1_setRule_29 rfl rfl ?_
    refine r_put K (xL_0 hb) rfl ff_1_bar qw_76 rfl rfl dX1_setRule_30 ?_
    refine r_goto K 49 dX1_setRule_33 (by decide) ?_
    have nh_1_0 : w = 0 := (nf_eq rfl rfl (by omega) (by omega)).mp h_1_0
    have hww : w = 0 := by omega
    subst hww
    exact hr _ _ _ dX1_setRule_49 ⟨x_rule_ok hL 0 v (by decide), x_fr_st (by omega) (by omega)⟩
  · refine r_aload_n K 0 dX1_setRule_36 rfl rfl ?_
    refine r_iload_n K 2 dX1_setRule_37 rfl rfl ?_
    refine r_put K (xL_0 hb) rfl ff_1_way qw_78 rfl rfl dX1_setRule_38 ?_
    refine r_goto K 49 dX1_setRule_41 (by decide) ?_
    have nh_1_0 : ¬ w = 0 := mt (nf_eq rfl rfl (by omega) (by omega)).mpr h_1_0
    have nh_1_1 : w = 1 := (nf_eq rfl rfl (by omega) (by omega)).mp h_1_1
    have hww : w = 1 := by omega
    subst hww
    exact hr _ _ _ dX1_setRule_49 ⟨x_rule_ok hL 1 v (by decide), x_fr_st (by omega) (by omega)⟩
  · refine r_aload_n K 0 dX1_setRule_44 rfl rfl ?_
    refine r_iload_n K 2 dX1_setRule_45 rfl rfl ?_
    refine r_put K (xL_0 hb) rfl ff_1_tail qw_80 rfl rfl dX1_setRule_46 ?_
    have nh_1_0 : ¬ w = 0 := mt (nf_eq rfl rfl (by omega) (by omega)).mpr h_1_0
    have nh_1_1 : ¬ w = 1 := mt (nf_eq rfl rfl (by omega) (by omega)).mpr h_1_1
    have hww : w = 2 := by omega
    subst hww
    exact hr _ _ _ dX1_setRule_49 ⟨x_rule_ok hL 2 v (by decide), x_fr_st (by omega) (by omega)⟩
set_option maxHeartbeats 4000000 in
set_option maxRecDepth 100000 in
theorem c_dropLast (l : Launch) (g : rs_G) (t : Nat × Nat) (M : rs_M) (b : Nat) (hb : xL b) (tp : Int32) (L : ab_L) (hL : x_ln M b tp L) (h0 : 0 < (ab_ks L).length) (h12 : (ab_ks L).length ≤ 12) : rs_Cv l g xk t yX1_dropLast cX1_dropLast 1 0 [.ref (g.2.2 b)] M (fun M1 => x_ln M1 b tp (ab_drop L) ∧ x_fr M M1 b (b + 17)) := by
  refine rs_ofv (plainFor_of_name (by decide)) (Nat.le_of_ble_eq_true rfl) ?_
  intro Y K hr
  show Y M 0 [(0, .ref (g.2.2 b))] []
  refine r_aload_n K 0 dX1_dropLast_0 rfl rfl ?_
  refine r_getI K (xL_0 hb) rfl ff_1_rings qw_69 dX1_dropLast_1 ?_
  refine r_top_eq (nI (ab_ks L).length) hL.1 ?_
  refine r_if_le K 17 dX1_dropLast_4 (by decide) (fun h => absurd h (mt (nf_le (X := (ab_ks L).length) (Y := 0) rfl rfl (by omega) (by decide)).mp (by omega))) (fun _ => ?_)
  refine r_aload_n K 0 dX1_dropLast_7 rfl rfl ?_
  refine r_dup K dX1_dropLast_8 rfl ?_
  refine r_getI K (xL_0 hb) rfl ff_1_rings qw_69 dX1_dropLast_9 ?_
  refine r_top_eq (nI (ab_ks L).length) hL.1 ?_
  refine r_iconst K (v := 1) dX1_dropLast_12 (by decide) ?_
  refine r_isub K dX1_dropLast_13 ?_
  refine r_top_eq (nI ((ab_ks L).length - 1)) (by rw [show (1 : Int32) = nI 1 from rfl, pk_sub (by omega)]) ?_
  refine r_put K (xL_0 hb) rfl ff_1_rings qw_69 rfl rfl dX1_dropLast_14 ?_
  exact hr _ _ _ dX1_dropLast_17 ⟨x_drop_ok hL, x_fr_st (by omega) (by omega)⟩
set_option maxHeartbeats 4000000 in
set_option maxRecDepth 100000 in
theorem c_build (l : Launch) (g : rs_G) (t : Nat × Nat) (M : rs_M) (b : Nat) (hb : xL b) (tp : Int32) (L : ab_L) (hL : x_ln M b tp L) (hn : (ab_ks L).length < 12) (k : Nat) (hk : k < 8) : rs_Cv l g xk t yX1_build cX1_build 3 2 [.ref (g.2.2 b), .int (nI k)] M (fun M1 => x_ln M1 b tp (ab_build L k) ∧ x_fr M M1 b (b + 17)) := by
  refine rs_ofv (plainFor_of_name (by decide)) (Nat.le_of_ble_eq_true rfl) ?_
  intro Y K hr
  show Y M 0 [(0, .ref (g.2.2 b)), (1, .int (nI k))] []
  refine r_aload_n K 0 dX1_build_0 rfl rfl ?_
  refine r_getI K (xL_0 hb) rfl ff_1_rings qw_69 dX1_build_1 ?_
  refine r_top_eq (nI (ab_ks L).length) hL.1 ?_
  refine r_bipush K (v := 12) dX1_build_4 (by decide) ?_
  refine r_icmp_lt K 10 dX1_build_6 (by decide) (fun _ => ?_) (fun h => absurd ((nf_lt rfl rfl (by omega) (by decide)).mpr hn) h)
  refine r_aload_n K 0 dX1_build_10 rfl rfl ?_
  refine r_getR K (xL_0 hb) rfl ff_1_spots qw_63 dX1_build_11 ?_
  refine r_aload_n K 0 dX1_build_14 rfl rfl ?_
  refine r_getI K (xL_0 hb) rfl ff_1_rings qw_69 dX1_build_15 ?_
  refine r_top_eq (nI (ab_ks L).length) hL.1 ?_
  refine r_iconst K (v := 1) dX1_build_18 (by decide) ?_
  refine r_iadd K dX1_build_19 ?_
  refine r_top_eq (nI ((ab_ks L).length + 1)) (nI_1 _) ?_
  refine r_aaldS K (j := (ab_ks L).length + 1) (xL_1 hb) rfl (xL_e (by omega)) (by omega) (by decide) dX1_build_20 ?_
  refine r_astore_n K [(2, .ref (g.2.2 (b + 4 + ((ab_ks L).length + 1)))), (0, .ref (g.2.2 b)), (1, .int (nI k))] dX1_build_21 rfl (by decide) rfl ?_
  refine r_aload_n K 0 dX1_build_22 rfl rfl ?_
  refine r_aload_n K 1 dX1_build_23 rfl rfl ?_
  refine r_callVr K [] [.ref (g.2.2 (b + 4 + ((ab_ks L).length + 1)))] dX1_build_24 mf_X1_last (xL_0 hb) rfl qw_341 qw_306 qw_307 (c_Line_last l g t M b hb (ab_ks L).length (by omega) hL.1) rfl rfl (by decide) (Nat.le_of_ble_eq_true rfl) (fun r M1 hp => ?_)
  obtain ⟨hp, he⟩ := hp
  have he := he.symm
  subst he
  subst hp
  refine r_callVv K [.ref (g.2.2 (b + 4 + (ab_ks L).length))] [] dX1_build_27 mf_X4_copy (xL_s hb (by omega)) rfl qw_342 qw_343 qw_344 (c_Spot_copy l g t M (b + 4 + ((ab_ks L).length + 1)) (b + 4 + (ab_ks L).length) (xL_s hb (by omega)) (xL_s hb (by omega))) rfl rfl (by decide) (Nat.le_of_ble_eq_true rfl) (fun M1 hp => ?_)
  subst hp
  refine r_aload_n K 0 dX1_build_30 rfl rfl ?_
  refine r_iload_n K 2 dX1_build_31 rfl rfl ?_
  refine r_aload_n K 1 dX1_build_32 rfl rfl ?_
  refine r_getI K (xL_0 hb) rfl ff_1_taper qw_72 dX1_build_33 ?_
  refine r_top_eq tp (by rw [x_fr_cp (lo := b + 4) (hi := b + 17) (by omega) (by omega) b (by omega)]; exact hL.2.2.1) ?_
  refine r_callVv K [.int (nI k), .int tp] [] dX1_build_36 mf_X4_advance (xL_s hb (by omega)) rfl qw_346 qw_347 qw_348 (c_Spot_advance l g t (x_cp M (b + 4 + ((ab_ks L).length + 1)) (b + 4 + (ab_ks L).length)) (b + 4 + ((ab_ks L).length + 1)) (xL_s hb (by omega)) k hk tp) rfl rfl (by decide) (Nat.le_of_ble_eq_true rfl) (fun M1 hp => ?_)
  subst hp
  refine r_aload_n K 1 dX1_build_39 rfl rfl ?_
  refine r_dup K dX1_build_40 rfl ?_
  refine r_getI K (xL_0 hb) rfl ff_1_rings qw_69 dX1_build_41 ?_
  refine r_top_eq (nI (ab_ks L).length) (by rw [x_fr_adv (lo := b + 4) (hi := b + 17) (by omega) (by omega) b (by omega), x_fr_cp (lo := b + 4) (hi := b + 17) (by omega) (by omega) b (by omega)]; exact hL.1) ?_
  refine r_iconst K (v := 1) dX1_build_44 (by decide) ?_
  refine r_iadd K dX1_build_45 ?_
  refine r_top_eq (nI ((ab_ks L).length + 1)) (nI_1 _) ?_
  refine r_put K (xL_0 hb) rfl ff_1_rings qw_69 rfl rfl dX1_build_46 ?_
  exact hr _ _ _ dX1_build_49 ⟨x_build_ok hL hn k, x_fr_tr (x_fr_tr (x_fr_cp (by omega) (by omega)) (x_fr_adv (by omega) (by omega))) (x_fr_st (by omega) (by omega))⟩
end
section
theorem r_sub {l : Launch} {g : rs_G} {kd : List rs_k} {t : Nat × Nat} {cc : ByteArray} {nL : Nat} {own : String} {d : Nat} {Y : rs_Y} (K : rs_K l g kd t cc nL own d Y) {M : rs_M} {pc : Nat} {lv lv1 : List (Nat × Value)} {stk : List Value} (ks : List Nat) (h : lv_pick lv ks = lv1) (k : Y M pc lv1 stk) : Y M pc lv stk := by
  obtain ⟨p, e, s, m, args, below, meth, cd, Q, rfl, hx, hb, hml, hown, hts, hN, hZ⟩ := K
  intro H locs ls hI hl
  exact k H locs ls hI (lv_sub hl ks h)
theorem r_iinc_n {l : Launch} {g : rs_G} {kd : List rs_k} {t : Nat × Nat} {cc : ByteArray} {nL : Nat} {own : String} {d : Nat} {Y : rs_Y} (K : rs_K l g kd t cc nL own d Y) {M : rs_M} {pc : Nat} {lv : List (Nat × Value)} {rest : List Value} {i x : Nat} (j : Nat) (lv1 : List (Nat × Value)) (hd : decode cc pc = .ok (.iinc i 1, 3)) (hj : lv[j]? = some (i, .int (nI x))) (hn : i < nL) (hv : (i, Value.int (nI (x + 1))) :: lv.filter (fun q => !(q.1 == i) && !(q.1 + 1 == i && q.2.category == 2)) = lv1) (k : Y M (pc + 3) lv1 rest) : Y M pc lv rest :=
  r_iinc K j lv1 hd hj (show nI x + 1 = nI (x + 1) from nI_1 x) hn hv k
/-- what ring i costs -/
def ab_ringcost (tp : Int32) (L : ab_L) (i : Nat) : Int32 := ab_cost L i (ab_geo tp ((ab_ks L).take i)).2.2.1 (ab_geo tp ((ab_ks L).take i)).2.2.2
def ab_whole (tp : Int32) (L : ab_L) : Nat → Int32
  | 0 => 0
  | i + 1 => ab_whole tp L i + ab_ringcost tp L (i + 1)
def ab_ahead (c : Nat → Int32) (i : Nat) : Nat → Nat
  | 0 => 0
  | j + 1 => ab_ahead c i j + (if c i < c (j + 1) ∨ (c (j + 1) = c i ∧ j + 1 < i) then 1 else 0)
theorem ab_ahead_le (c : Nat → Int32) (i : Nat) : ∀ j, ab_ahead c i j ≤ j
  | 0 => Nat.le_refl 0
  | j + 1 => by
    have := ab_ahead_le c i j
    simp only [ab_ahead]
    split <;> omega
noncomputable def ab_mask (P : Nat → Prop) : Nat → Int32
  | 0 => 0
  | k + 1 => @ite Int32 (P k) (Classical.propDecidable _) (ab_mask P k ||| ((1 : Int32) <<< (nI k &&& 31))) (ab_mask P k)
theorem x_ln_c0 {M : rs_M} {b : Nat} {tp : Int32} {L : ab_L} (h : x_ln M b tp L) {i : Nat} (hi : i ≤ (ab_ks L).length) : M (b + 4 + i) 0 = nI i := by
  have := (h.2.1 i hi).1
  rwa [List.length_take, Nat.min_eq_left hi] at this
theorem x_ln_cost {M : rs_M} {b : Nat} {tp : Int32} {L : ab_L} (h : x_ln M b tp L) {i : Nat} (hi : i ≤ (ab_ks L).length) : ab_cost L i (M (b + 4 + i) 4) (M (b + 4 + i) 5) = ab_ringcost tp L i := by
  obtain ⟨-, -, -, -, h4, h5⟩ := h.2.1 i hi
  rw [h4, h5]
  rfl
theorem x_ln_last {M : rs_M} {b : Nat} {tp : Int32} {L : ab_L} (h : x_ln M b tp L) : x_sp M (b + 4 + (ab_ks L).length) tp (ab_ks L) := by
  have := h.2.1 _ (Nat.le_refl _)
  rwa [List.take_length] at this
def ab_L0 : ab_L := ([], fun _ => 0, fun _ => 0, 1, 0, 0)
/-- reset, behind its rules' writes, i places done -/
def x_rI (M Mi : rs_M) (b i : Nat) : Prop := (Mi b 3 = 0 ∧ Mi b 4 = 1 ∧ Mi b 5 = 1 ∧ Mi b 6 = 0 ∧ Mi b 7 = 0) ∧ (∀ p, p < i → Mi (b + 2) p = 0 ∧ Mi (b + 3) p = 0) ∧ x_sp Mi (b + 4) 1 [] ∧ x_fr M Mi b (b + 17)
theorem x_rI_0 {M : rs_M} {b : Nat} {tp : Int32} (h : x_sp M (b + 4) tp []) : x_rI M (rs_st (rs_st (rs_st (rs_st (rs_st M b 3 0) b 4 1) b 5 1) b 6 0) b 7 0) b 0 := by
  refine ⟨by simp [rs_st], fun p hp => absurd hp (Nat.not_lt_zero _), ?_, x_fr_tr (x_fr_tr (x_fr_tr (x_fr_tr (x_fr_st (by omega) (by omega)) (x_fr_st (by omega) (by omega))) (x_fr_st (by omega) (by omega))) (x_fr_st (by omega) (by omega))) (x_fr_st (by omega) (by omega))⟩
  have h' : x_sp M (b + 4) 1 [] := h
  exact x_sp_same h' (fun j _ => by simp [rs_st])
theorem x_rI_s {M Mi : rs_M} {b i : Nat} (h : x_rI M Mi b i) : x_rI M (rs_st (rs_st Mi (b + 2) i 0) (b + 3) i 0) b (i + 1) := by
  obtain ⟨h1, h2, h3, h4⟩ := h
  have fr : ∀ c, c ≠ b + 2 → c ≠ b + 3 → (rs_st (rs_st Mi (b + 2) i 0) (b + 3) i 0) c = Mi c := fun c c1 c2 => by rw [rs_st_ne _ _ _ c2, rs_st_ne _ _ _ c1]
  refine ⟨by rw [fr b (by omega) (by omega)]; exact h1, fun p hp => ?_, x_sp_same h3 (fun j _ => by rw [fr _ (by omega) (by omega)]), x_fr_tr h4 (x_fr_tr (x_fr_st (by omega) (by omega)) (x_fr_st (by omega) (by omega)))⟩
  rw [rs_st_ne _ _ _ (show b + 2 ≠ b + 3 by omega), rs_st_row, rs_st_row, rs_st_ne _ _ _ (show b + 3 ≠ b + 2 by omega)]
  simp only [upd]
  by_cases e : p = i
  · rw [if_pos e, if_pos e]; exact ⟨rfl, rfl⟩
  · rw [if_neg e, if_neg e]; exact h2 p (by omega)
theorem x_rI_e {M Mi : rs_M} {b : Nat} (h : x_rI M Mi b 18) : x_ln Mi b 1 ab_L0 ∧ x_fr M Mi b (b + 17) := by
  obtain ⟨⟨h3, h4, h5, h6, h7⟩, h2, hs, hf⟩ := h
  refine ⟨⟨h3, fun i hi => ?_, h4, h5, h6, h7, fun p hp => h2 p hp⟩, hf⟩
  have : i = 0 := Nat.le_zero.mp hi
  subst this
  exact hs
/-- copy, its scalars done, i spots done -/
def x_cs (Mi : rs_M) (b : Nat) (tp : Int32) (L : ab_L) : Prop := Mi b 3 = nI (ab_ks L).length ∧ Mi b 4 = tp ∧ Mi b 5 = nI (ab_bar L) ∧ Mi b 6 = nI (ab_way L) ∧ Mi b 7 = nI (ab_tail L)
def x_cI (M Mi : rs_M) (b : Nat) (tp : Int32) (L : ab_L) (i : Nat) : Prop := x_cs Mi b tp L ∧ (∀ j, j < i → j ≤ (ab_ks L).length → x_sp Mi (b + 4 + j) tp ((ab_ks L).take j)) ∧ x_fr M Mi b (b + 17)
theorem x_cI_0 {M : rs_M} {b b2 : Nat} {tp : Int32} {L : ab_L} (h : x_ln M b2 tp L) : x_cI M (rs_st (rs_st (rs_st (rs_st (rs_st M b 3 (nI (ab_ks L).length)) b 4 tp) b 5 (nI (ab_bar L))) b 6 (nI (ab_way L))) b 7 (nI (ab_tail L))) b tp L 0 :=
  ⟨by simp [x_cs, rs_st], fun j hj => absurd hj (Nat.not_lt_zero _), x_fr_tr (x_fr_tr (x_fr_tr (x_fr_tr (x_fr_st (by omega) (by omega)) (x_fr_st (by omega) (by omega))) (x_fr_st (by omega) (by omega))) (x_fr_st (by omega) (by omega))) (x_fr_st (by omega) (by omega))⟩
theorem x_cI_s {M Mi : rs_M} {b b2 i : Nat} {tp : Int32} {L : ab_L} (hn : (ab_ks L).length ≤ 12) (hd : b + 17 ≤ b2 ∨ b2 + 17 ≤ b) (hi : i ≤ (ab_ks L).length) (h0 : x_ln M b2 tp L) (h : x_cI M Mi b tp L i) : x_cI M (x_cp Mi (b + 4 + i) (b2 + 4 + i)) b tp L (i + 1) := by
  obtain ⟨h1, h2, h3⟩ := h
  have hL2 := x_ln_fr hn h0 h3 (by omega)
  have fr := x_fr_cp (M := Mi) (lo := b + 4 + i) (hi := b + 4 + i + 1) (c := b + 4 + i) (d := b2 + 4 + i) (by omega) (by omega)
  refine ⟨by rw [x_cs, fr b (by omega)]; exact h1, fun j hj hj2 => ?_, x_fr_tr h3 (x_fr_mono fr (by omega) (by omega))⟩
  by_cases e : j = i
  · subst e
    exact x_sp_cp (hL2.2.1 j hi)
  · exact x_sp_same (h2 j (by omega) hj2) (fun q _ => by rw [fr _ (by omega)])
def x_cJ (M Mi : rs_M) (b : Nat) (tp : Int32) (L : ab_L) (i : Nat) : Prop := x_cs Mi b tp L ∧ (∀ j, j ≤ (ab_ks L).length → x_sp Mi (b + 4 + j) tp ((ab_ks L).take j)) ∧ (∀ p, p < i → Mi (b + 2) p = ab_wx L p ∧ Mi (b + 3) p = ab_wy L p) ∧ x_fr M Mi b (b + 17)
theorem x_cJ_0 {M Mi : rs_M} {b i : Nat} {tp : Int32} {L : ab_L} (hi : (ab_ks L).length < i) (h : x_cI M Mi b tp L i) : x_cJ M Mi b tp L 0 := ⟨h.1, fun j hj => h.2.1 j (by omega) hj, fun p hp => absurd hp (Nat.not_lt_zero _), h.2.2⟩
theorem x_cJ_s {M Mi : rs_M} {b i : Nat} {tp : Int32} {L : ab_L} (h : x_cJ M Mi b tp L i) : x_cJ M (rs_st (rs_st Mi (b + 2) i (ab_wx L i)) (b + 3) i (ab_wy L i)) b tp L (i + 1) := by
  obtain ⟨h1, h2, h3, h4⟩ := h
  have fr : ∀ c, c ≠ b + 2 → c ≠ b + 3 → (rs_st (rs_st Mi (b + 2) i (ab_wx L i)) (b + 3) i (ab_wy L i)) c = Mi c := fun c c1 c2 => by rw [rs_st_ne _ _ _ c2, rs_st_ne _ _ _ c1]
  refine ⟨by rw [x_cs, fr b (by omega) (by omega)]; exact h1, fun j hj => x_sp_same (h2 j hj) (fun q _ => by rw [fr _ (by omega) (by omega)]), fun p hp => ?_, x_fr_tr h4 (x_fr_tr (x_fr_st (by omega) (by omega)) (x_fr_st (by omega) (by omega)))⟩
  rw [rs_st_ne _ _ _ (show b + 2 ≠ b + 3 by omega), rs_st_row, rs_st_row, rs_st_ne _ _ _ (show b + 3 ≠ b + 2 by omega)]
  simp only [upd]
  by_cases e : p = i
  · subst e; rw [if_pos rfl, if_pos rfl]; exact ⟨rfl, rfl⟩
  · rw [if_neg e, if_neg e]; exact h3 p (by omega)
theorem x_cJ_e {M Mi : rs_M} {b : Nat} {tp : Int32} {L : ab_L} (h : x_cJ M Mi b tp L 18) : x_ln Mi b tp L ∧ x_fr M Mi b (b + 17) := ⟨⟨h.1.1, h.2.1, h.1.2.1, h.1.2.2.1, h.1.2.2.2.1, h.1.2.2.2.2, fun p hp => h.2.2.1 p hp⟩, h.2.2.2⟩
set_option maxHeartbeats 4000000 in
set_option maxRecDepth 100000 in
theorem c_reset (l : Launch) (g : rs_G) (t : Nat × Nat) (M : rs_M) (b : Nat) (hb : xL b) (tp : Int32) (hs : x_sp M (b + 4) tp []) : rs_Cv l g xk t yX1_reset cX1_reset 2 0 [.ref (g.2.2 b)] M (fun M1 => x_ln M1 b 1 ab_L0 ∧ x_fr M M1 b (b + 17)) := by
  refine rs_ofv (plainFor_of_name (by decide)) (Nat.le_of_ble_eq_true rfl) ?_
  intro Y K hr
  show Y M 0 [(0, .ref (g.2.2 b))] []
  refine r_aload_n K 0 dX1_reset_0 rfl rfl ?_
  refine r_iconst K (v := 0) dX1_reset_1 (by decide) ?_
  refine r_put K (xL_0 hb) rfl ff_1_rings qw_69 rfl rfl dX1_reset_2 ?_
  refine r_aload_n K 0 dX1_reset_5 rfl rfl ?_
  refine r_iconst K (v := 1) dX1_reset_6 (by decide) ?_
  refine r_put K (xL_0 hb) rfl ff_1_taper qw_72 rfl rfl dX1_reset_7 ?_
  refine r_aload_n K 0 dX1_reset_10 rfl rfl ?_
  refine r_iconst K (v := 1) dX1_reset_11 (by decide) ?_
  refine r_put K (xL_0 hb) rfl ff_1_bar qw_76 rfl rfl dX1_reset_12 ?_
  refine r_aload_n K 0 dX1_reset_15 rfl rfl ?_
  refine r_iconst K (v := 0) dX1_reset_16 (by decide) ?_
  refine r_put K (xL_0 hb) rfl ff_1_way qw_78 rfl rfl dX1_reset_17 ?_
  refine r_aload_n K 0 dX1_reset_20 rfl rfl ?_
  refine r_iconst K (v := 0) dX1_reset_21 (by decide) ?_
  refine r_put K (xL_0 hb) rfl ff_1_tail qw_80 rfl rfl dX1_reset_22 ?_
  refine r_iconst K (v := 0) dX1_reset_25 (by decide) ?_
  refine r_istore_n K [(1, .int 0), (0, .ref (g.2.2 b))] dX1_reset_26 rfl (by decide) rfl ?_
  have lp : ∀ (f : Nat) (i : Nat) (Mi : rs_M), (18 - i < f) → (i ≤ 18) → (x_rI M Mi b i) → Y Mi 27 [(1, .int (nI i)), (0, .ref (g.2.2 b))] [] := by
    intro f
    induction f with
    | zero =>
      intro i Mi hf
      exact absurd hf (Nat.not_lt_zero _)
    | succ f ih =>
      intro i Mi hf hi hI
      refine r_iload_n K 0 dX1_reset_27 rfl rfl ?_
      refine r_bipush K (v := 17) dX1_reset_28 (by decide) ?_
      refine r_icmp_gt K 53 dX1_reset_30 (by decide) (fun h_1 => ?_) (fun h_1 => ?_)
      · have nh_1 : 17 < i := (nf_lt rfl rfl (by omega) (by omega)).mp h_1
        have hi18 : i = 18 := by omega
        subst hi18
        exact hr _ _ _ dX1_reset_53 (x_rI_e hI)
      · have nh_1 : ¬ 17 < i := mt (nf_lt rfl rfl (by omega) (by omega)).mpr h_1
        refine r_aload_n K 1 dX1_reset_33 rfl rfl ?_
        refine r_getR K (xL_0 hb) rfl ff_1_wishX qw_65 dX1_reset_34 ?_
        refine r_iload_n K 0 dX1_reset_37 rfl rfl ?_
        refine r_iconst K (v := 0) dX1_reset_38 (by decide) ?_
        refine r_iast K (j := i) (xL_2 hb) rfl (by omega) (by decide) dX1_reset_39 ?_
        refine r_aload_n K 1 dX1_reset_40 rfl rfl ?_
        refine r_getR K (xL_0 hb) rfl ff_1_wishY qw_67 dX1_reset_41 ?_
        refine r_iload_n K 0 dX1_reset_44 rfl rfl ?_
        refine r_iconst K (v := 0) dX1_reset_45 (by decide) ?_
        refine r_iast K (j := i) (xL_3 hb) rfl (by omega) (by decide) dX1_reset_46 ?_
        refine r_iinc_n K 0 [(1, .int (nI (i + 1))), (0, .ref (g.2.2 b))] dX1_reset_47 rfl (by decide) rfl ?_
        refine r_goto K 27 dX1_reset_50 (by decide) ?_
        exact ih (i + 1) _ (by omega) (by omega) (x_rI_s hI)
  exact lp 19 0 _ (by omega) (by omega) (x_rI_0 hs)
set_option maxHeartbeats 4000000 in
set_option maxRecDepth 100000 in
theorem c_Line_copy (l : Launch) (g : rs_G) (t : Nat × Nat) (M : rs_M) (b b2 : Nat) (hb : xL b) (hb2 : xL b2) (hdis : b + 17 ≤ b2 ∨ b2 + 17 ≤ b) (tp : Int32) (L : ab_L) (hn : (ab_ks L).length ≤ 12) (hL : x_ln M b2 tp L) : rs_Cv l g xk t yX1_copy cX1_copy 3 1 [.ref (g.2.2 b), .ref (g.2.2 b2)] M (fun M1 => x_ln M1 b tp L ∧ x_fr M M1 b (b + 17)) := by
  have hbb : ¬ b2 = b := by omega
  refine rs_ofv (plainFor_of_name (by decide)) (Nat.le_of_ble_eq_true rfl) ?_
  intro Y K hr
  show Y M 0 [(0, .ref (g.2.2 b)), (1, .ref (g.2.2 b2))] []
  refine r_aload_n K 0 dX1_copy_0 rfl rfl ?_
  refine r_aload_n K 1 dX1_copy_1 rfl rfl ?_
  refine r_getI K (xL_0 hb2) rfl ff_1_rings qw_69 dX1_copy_2 ?_
  refine r_top_eq (nI (ab_ks L).length) hL.1 ?_
  refine r_put K (xL_0 hb) rfl ff_1_rings qw_69 rfl rfl dX1_copy_5 ?_
  refine r_aload_n K 0 dX1_copy_8 rfl rfl ?_
  refine r_aload_n K 1 dX1_copy_9 rfl rfl ?_
  refine r_getI K (xL_0 hb2) rfl ff_1_taper qw_72 dX1_copy_10 ?_
  refine r_top_eq tp (by simp only [rs_st]; simp [hbb]; exact hL.2.2.1) ?_
  refine r_put K (xL_0 hb) rfl ff_1_taper qw_72 rfl rfl dX1_copy_13 ?_
  refine r_aload_n K 0 dX1_copy_16 rfl rfl ?_
  refine r_aload_n K 1 dX1_copy_17 rfl rfl ?_
  refine r_getI K (xL_0 hb2) rfl ff_1_bar qw_76 dX1_copy_18 ?_
  refine r_top_eq (nI (ab_bar L)) (by simp only [rs_st]; simp [hbb]; exact hL.2.2.2.1) ?_
  refine r_put K (xL_0 hb) rfl ff_1_bar qw_76 rfl rfl dX1_copy_21 ?_
  refine r_aload_n K 0 dX1_copy_24 rfl rfl ?_
  refine r_aload_n K 1 dX1_copy_25 rfl rfl ?_
  refine r_getI K (xL_0 hb2) rfl ff_1_way qw_78 dX1_copy_26 ?_
  refine r_top_eq (nI (ab_way L)) (by simp only [rs_st]; simp [hbb]; exact hL.2.2.2.2.1) ?_
  refine r_put K (xL_0 hb) rfl ff_1_way qw_78 rfl rfl dX1_copy_29 ?_
  refine r_aload_n K 0 dX1_copy_32 rfl rfl ?_
  refine r_aload_n K 1 dX1_copy_33 rfl rfl ?_
  refine r_getI K (xL_0 hb2) rfl ff_1_tail qw_80 dX1_copy_34 ?_
  refine r_top_eq (nI (ab_tail L)) (by simp only [rs_st]; simp [hbb]; exact hL.2.2.2.2.2.1) ?_
  refine r_put K (xL_0 hb) rfl ff_1_tail qw_80 rfl rfl dX1_copy_37 ?_
  refine r_iconst K (v := 0) dX1_copy_40 (by decide) ?_
  refine r_istore_n K [(2, .int 0), (0, .ref (g.2.2 b)), (1, .ref (g.2.2 b2))] dX1_copy_41 rfl (by decide) rfl ?_
  have lp : ∀ (f : Nat) (i : Nat) (Mi : rs_M), (13 - i < f) → (i ≤ (ab_ks L).length + 1) → (x_cI M Mi b tp L i) → Y Mi 42 [(2, .int (nI i)), (0, .ref (g.2.2 b)), (1, .ref (g.2.2 b2))] [] := by
    intro f
    induction f with
    | zero =>
      intro i Mi hf
      exact absurd hf (Nat.not_lt_zero _)
    | succ f ih =>
      intro i Mi hf hi hI
      refine r_iload_n K 0 dX1_copy_42 rfl rfl ?_
      refine r_aload_n K 1 dX1_copy_43 rfl rfl ?_
      refine r_getI K (xL_0 hb) rfl ff_1_rings qw_69 dX1_copy_44 ?_
      refine r_top_eq (nI (ab_ks L).length) hI.1.1 ?_
      refine r_icmp_gt K 77 dX1_copy_47 (by decide) (fun h_1 => ?_) (fun h_1 => ?_)
      · have nh_1 : (ab_ks L).length < i := (nf_lt rfl rfl (by omega) (by omega)).mp h_1
        refine r_iconst K (v := 0) dX1_copy_77 (by decide) ?_
        refine r_istore_n K [(2, .int 0), (0, .ref (g.2.2 b)), (1, .ref (g.2.2 b2))] dX1_copy_78 rfl (by decide) rfl ?_
        have lq : ∀ (f : Nat) (i : Nat) (Mi : rs_M), (18 - i < f) → (i ≤ 18) → (x_cJ M Mi b tp L i) → Y Mi 79 [(2, .int (nI i)), (0, .ref (g.2.2 b)), (1, .ref (g.2.2 b2))] [] := by
          intro f
          induction f with
          | zero =>
            intro i Mi hf
            exact absurd hf (Nat.not_lt_zero _)
          | succ f ih =>
            intro i Mi hf hi hJ
            refine r_iload_n K 0 dX1_copy_79 rfl rfl ?_
            refine r_bipush K (v := 17) dX1_copy_80 (by decide) ?_
            refine r_icmp_gt K 115 dX1_copy_82 (by decide) (fun h_2 => ?_) (fun h_2 => ?_)
            · have nh_2 : 17 < i := (nf_lt rfl rfl (by omega) (by omega)).mp h_2
              have hi18 : i = 18 := by omega
              subst hi18
              exact hr _ _ _ dX1_copy_115 (x_cJ_e hJ)
            · have nh_2 : ¬ 17 < i := mt (nf_lt rfl rfl (by omega) (by omega)).mpr h_2
              refine r_aload_n K 1 dX1_copy_85 rfl rfl ?_
              refine r_getR K (xL_0 hb) rfl ff_1_wishX qw_65 dX1_copy_86 ?_
              refine r_iload_n K 0 dX1_copy_89 rfl rfl ?_
              refine r_aload_n K 2 dX1_copy_90 rfl rfl ?_
              refine r_getR K (xL_0 hb2) rfl ff_1_wishX qw_65 dX1_copy_91 ?_
              refine r_iload_n K 0 dX1_copy_94 rfl rfl ?_
              refine r_iald K (j := i) (xL_2 hb2) rfl (by omega) (by decide) dX1_copy_95 ?_
              refine r_top_eq (ab_wx L i) (by rw [hJ.2.2.2 _ (by omega)]; exact (hL.2.2.2.2.2.2 i (by omega)).1) ?_
              refine r_iast K (j := i) (xL_2 hb) rfl (by omega) (by decide) dX1_copy_96 ?_
              refine r_aload_n K 1 dX1_copy_97 rfl rfl ?_
              refine r_getR K (xL_0 hb) rfl ff_1_wishY qw_67 dX1_copy_98 ?_
              refine r_iload_n K 0 dX1_copy_101 rfl rfl ?_
              refine r_aload_n K 2 dX1_copy_102 rfl rfl ?_
              refine r_getR K (xL_0 hb2) rfl ff_1_wishY qw_67 dX1_copy_103 ?_
              refine r_iload_n K 0 dX1_copy_106 rfl rfl ?_
              refine r_iald K (j := i) (xL_3 hb2) rfl (by omega) (by decide) dX1_copy_107 ?_
              refine r_top_eq (ab_wy L i) (by rw [rs_st_ne _ _ _ (by omega), hJ.2.2.2 _ (by omega)]; exact (hL.2.2.2.2.2.2 i (by omega)).2) ?_
              refine r_iast K (j := i) (xL_3 hb) rfl (by omega) (by decide) dX1_copy_108 ?_
              refine r_iinc_n K 0 [(2, .int (nI (i + 1))), (0, .ref (g.2.2 b)), (1, .ref (g.2.2 b2))] dX1_copy_109 rfl (by decide) rfl ?_
              refine r_goto K 79 dX1_copy_112 (by decide) ?_
              exact ih (i + 1) _ (by omega) (by omega) (x_cJ_s hJ)
        exact lq 19 0 _ (by omega) (by omega) (x_cJ_0 (by omega) hI)
      · have nh_1 : ¬ (ab_ks L).length < i := mt (nf_lt rfl rfl (by omega) (by omega)).mpr h_1
        refine r_iload_n K 0 dX1_copy_50 rfl rfl ?_
        refine r_bipush K (v := 12) dX1_copy_51 (by decide) ?_
        refine r_icmp_gt K 77 dX1_copy_53 (by decide) (fun h_3 => ?_) (fun h_3 => ?_)
        · have nh_3 : 12 < i := (nf_lt rfl rfl (by omega) (by omega)).mp h_3
          refine r_iconst K (v := 0) dX1_copy_77 (by decide) ?_
          refine r_istore_n K [(2, .int 0), (0, .ref (g.2.2 b)), (1, .ref (g.2.2 b2))] dX1_copy_78 rfl (by decide) rfl ?_
          have lq : ∀ (f : Nat) (i : Nat) (Mi : rs_M), (18 - i < f) → (i ≤ 18) → (x_cJ M Mi b tp L i) → Y Mi 79 [(2, .int (nI i)), (0, .ref (g.2.2 b)), (1, .ref (g.2.2 b2))] [] := by
            intro f
            induction f with
            | zero =>
              intro i Mi hf
              exact absurd hf (Nat.not_lt_zero _)
            | succ f ih =>
              intro i Mi hf hi hJ
              refine r_iload_n K 0 dX1_copy_79 rfl rfl ?_
              refine r_bipush K (v := 17) dX1_copy_80 (by decide) ?_
              refine r_icmp_gt K 115 dX1_copy_82 (by decide) (fun h_4 => ?_) (fun h_4 => ?_)
              · have nh_4 : 17 < i := (nf_lt rfl rfl (by omega) (by omega)).mp h_4
                have hi18 : i = 18 := by omega
                subst hi18
                exact hr _ _ _ dX1_copy_115 (x_cJ_e hJ)
              · have nh_4 : ¬ 17 < i := mt (nf_lt rfl rfl (by omega) (by omega)).mpr h_4
                refine r_aload_n K 1 dX1_copy_85 rfl rfl ?_
                refine r_getR K (xL_0 hb) rfl ff_1_wishX qw_65 dX1_copy_86 ?_
                refine r_iload_n K 0 dX1_copy_89 rfl rfl ?_
                refine r_aload_n K 2 dX1_copy_90 rfl rfl ?_
                refine r_getR K (xL_0 hb2) rfl ff_1_wishX qw_65 dX1_copy_91 ?_
                refine r_iload_n K 0 dX1_copy_94 rfl rfl ?_
                refine r_iald K (j := i) (xL_2 hb2) rfl (by omega) (by decide) dX1_copy_95 ?_
                refine r_top_eq (ab_wx L i) (by rw [hJ.2.2.2 _ (by omega)]; exact (hL.2.2.2.2.2.2 i (by omega)).1) ?_
                refine r_iast K (j := i) (xL_2 hb) rfl (by omega) (by decide) dX1_copy_96 ?_
                refine r_aload_n K 1 dX1_copy_97 rfl rfl ?_
                refine r_getR K (xL_0 hb) rfl ff_1_wishY qw_67 dX1_copy_98 ?_
                refine r_iload_n K 0 dX1_copy_101 rfl rfl ?_
                refine r_aload_n K 2 dX1_copy_102 rfl rfl ?_
                refine r_getR K (xL_0 hb2) rfl ff_1_wishY qw_67 dX1_copy_103 ?_
                refine r_iload_n K 0 dX1_copy_106 rfl rfl ?_
                refine r_iald K (j := i) (xL_3 hb2) rfl (by omega) (by decide) dX1_copy_107 ?_
                refine r_top_eq (ab_wy L i) (by rw [rs_st_ne _ _ _ (by omega), hJ.2.2.2 _ (by omega)]; exact (hL.2.2.2.2.2.2 i (by omega)).2) ?_
                refine r_iast K (j := i) (xL_3 hb) rfl (by omega) (by decide) dX1_copy_108 ?_
                refine r_iinc_n K 0 [(2, .int (nI (i + 1))), (0, .ref (g.2.2 b)), (1, .ref (g.2.2 b2))] dX1_copy_109 rfl (by decide) rfl ?_
                refine r_goto K 79 dX1_copy_112 (by decide) ?_
                exact ih (i + 1) _ (by omega) (by omega) (x_cJ_s hJ)
          exact lq 19 0 _ (by omega) (by omega) (x_cJ_0 (by omega) hI)
        · have nh_3 : ¬ 12 < i := mt (nf_lt rfl rfl (by omega) (by omega)).mpr h_3
          refine r_aload_n K 1 dX1_copy_56 rfl rfl ?_
          refine r_getR K (xL_0 hb) rfl ff_1_spots qw_63 dX1_copy_57 ?_
          refine r_iload_n K 0 dX1_copy_60 rfl rfl ?_
          refine r_aaldS K (j := i) (xL_1 hb) rfl (xL_e (by omega)) (by omega) (by decide) dX1_copy_61 ?_
          refine r_aload_n K 2 dX1_copy_62 rfl rfl ?_
          refine r_getR K (xL_0 hb2) rfl ff_1_spots qw_63 dX1_copy_63 ?_
          refine r_iload_n K 0 dX1_copy_66 rfl rfl ?_
          refine r_aaldS K (j := i) (xL_1 hb2) rfl (xL_e (by omega)) (by omega) (by decide) dX1_copy_67 ?_
          refine r_callVv K [.ref (g.2.2 (b2 + 4 + i))] [] dX1_copy_68 mf_X4_copy (xL_s hb (by omega)) rfl qw_342 qw_343 qw_344 (c_Spot_copy l g t Mi (b + 4 + i) (b2 + 4 + i) (xL_s hb (by omega)) (xL_s hb2 (by omega))) rfl rfl (by decide) (Nat.le_of_ble_eq_true rfl) (fun M1 hp => ?_)
          subst hp
          refine r_iinc_n K 0 [(2, .int (nI (i + 1))), (0, .ref (g.2.2 b)), (1, .ref (g.2.2 b2))] dX1_copy_71 rfl (by decide) rfl ?_
          refine r_goto K 42 dX1_copy_74 (by decide) ?_
          exact ih (i + 1) _ (by omega) (by omega) (x_cI_s hn hdis (by omega) hL hI)
  exact lp 14 0 _ (by omega) (by omega) (x_cI_0 hL)
set_option maxHeartbeats 4000000 in
set_option maxRecDepth 100000 in
theorem c_wholeCost (l : Launch) (g : rs_G) (t : Nat × Nat) (M : rs_M) (b : Nat) (hb : xL b) (tp : Int32) (L : ab_L) (hok : ab_ok L) (hL : x_ln M b tp L) : rs_Ci l g xk t yX1_wholeCost cX1_wholeCost 3 .int 2 [.ref (g.2.2 b)] M (fun r M1 => r = ab_whole tp L (ab_ks L).length ∧ M1 = M) := by
  have hn := hok.1
  refine rs_ofi (plainFor_of_name (by decide)) (Nat.le_of_ble_eq_true rfl) ?_
  intro Y K hr
  show Y M 0 [(0, .ref (g.2.2 b))] []
  refine r_iconst K (v := 0) dX1_wholeCost_0 (by decide) ?_
  refine r_istore_n K [(1, .int 0), (0, .ref (g.2.2 b))] dX1_wholeCost_1 rfl (by decide) rfl ?_
  refine r_iconst K (v := 1) dX1_wholeCost_2 (by decide) ?_
  refine r_istore_n K [(2, .int 1), (1, .int 0), (0, .ref (g.2.2 b))] dX1_wholeCost_3 rfl (by decide) rfl ?_
  have lp : ∀ (f : Nat) (i : Nat), (13 - i < f) → (i ≤ (ab_ks L).length) → Y M 4 [(2, .int (nI (i + 1))), (1, .int (ab_whole tp L i)), (0, .ref (g.2.2 b))] [] := by
    intro f
    induction f with
    | zero =>
      intro i hf
      exact absurd hf (Nat.not_lt_zero _)
    | succ f ih =>
      intro i hf hi
      refine r_iload_n K 0 dX1_wholeCost_4 rfl rfl ?_
      refine r_aload_n K 2 dX1_wholeCost_5 rfl rfl ?_
      refine r_getI K (xL_0 hb) rfl ff_1_rings qw_69 dX1_wholeCost_6 ?_
      refine r_top_eq (nI (ab_ks L).length) hL.1 ?_
      refine r_icmp_gt K 37 dX1_wholeCost_9 (by decide) (fun h_1 => ?_) (fun h_1 => ?_)
      · have nh_1 : (ab_ks L).length < (i + 1) := (nf_lt rfl rfl (by omega) (by omega)).mp h_1
        refine r_iload_n K 1 dX1_wholeCost_37 rfl rfl ?_
        have hin : i = (ab_ks L).length := by omega
        subst hin
        exact hr _ _ _ _ dX1_wholeCost_38 ⟨rfl, rfl⟩
      · have nh_1 : ¬ (ab_ks L).length < (i + 1) := mt (nf_lt rfl rfl (by omega) (by omega)).mpr h_1
        refine r_iload_n K 0 dX1_wholeCost_12 rfl rfl ?_
        refine r_bipush K (v := 12) dX1_wholeCost_13 (by decide) ?_
        refine r_icmp_gt K 37 dX1_wholeCost_15 (by decide) (fun h_2 => ?_) (fun h_2 => ?_)
        · have nh_2 : 12 < (i + 1) := (nf_lt rfl rfl (by omega) (by omega)).mp h_2
          refine r_iload_n K 1 dX1_wholeCost_37 rfl rfl ?_
          have hin : i = (ab_ks L).length := by omega
          subst hin
          exact hr _ _ _ _ dX1_wholeCost_38 ⟨rfl, rfl⟩
        · have nh_2 : ¬ 12 < (i + 1) := mt (nf_lt rfl rfl (by omega) (by omega)).mpr h_2
          refine r_iload_n K 1 dX1_wholeCost_18 rfl rfl ?_
          refine r_aload_n K 2 dX1_wholeCost_19 rfl rfl ?_
          refine r_aload_n K 2 dX1_wholeCost_20 rfl rfl ?_
          refine r_getR K (xL_0 hb) rfl ff_1_spots qw_63 dX1_wholeCost_21 ?_
          refine r_iload_n K 0 dX1_wholeCost_24 rfl rfl ?_
          refine r_aaldS K (j := i + 1) (xL_1 hb) rfl (xL_e (by omega)) (by omega) (by decide) dX1_wholeCost_25 ?_
          refine r_callVi K [.ref (g.2.2 (b + 4 + (i + 1)))] [.int (ab_whole tp L i)] dX1_wholeCost_26 mf_X1_cost (xL_0 hb) rfl qw_460 qw_381 qw_382 (c_Line_cost l g t M b hb tp L hok hL.2.2 (b + 4 + (i + 1)) (i + 1) (xL_s hb (by omega)) (by omega) (x_ln_c0 hL (by omega))) rfl rfl (by decide) (Nat.le_of_ble_eq_true rfl) (fun r M1 hp => ?_)
          obtain ⟨hp, he⟩ := hp
          have he := he.symm
          subst he
          subst hp
          refine r_top_eq (ab_ringcost tp L (i + 1)) (x_ln_cost hL (by omega)) ?_
          refine r_iadd K dX1_wholeCost_29 ?_
          refine r_istore_n K [(1, .int ((ab_whole tp L i) + (ab_ringcost tp L (i + 1)))), (2, .int (nI (i + 1))), (0, .ref (g.2.2 b))] dX1_wholeCost_30 rfl (by decide) rfl ?_
          refine r_iinc_n K 1 [(2, .int (nI (i + 1 + 1))), (1, .int ((ab_whole tp L i) + (ab_ringcost tp L (i + 1)))), (0, .ref (g.2.2 b))] dX1_wholeCost_31 rfl (by decide) rfl ?_
          refine r_goto K 4 dX1_wholeCost_34 (by decide) ?_
          exact ih (i + 1) (by omega) (by omega)
  exact lp 14 0 (by omega) (by omega)
set_option maxHeartbeats 4000000 in
set_option maxRecDepth 100000 in
theorem c_nextKeys (l : Launch) (g : rs_G) (t : Nat × Nat) (M : rs_M) (b : Nat) (hb : xL b) (tp : Int32) (L : ab_L) (hok : ab_ok L) (hL : x_ln M b tp L) : rs_Ci l g xk t yX1_nextKeys cX1_nextKeys 3 .int 3 [.ref (g.2.2 b)] M (fun r M1 => r = ab_mask (ab_may tp L (ab_ks L)) 8 ∧ M1 = M) := by
  have hn := hok.1
  refine rs_ofi (plainFor_of_name (by decide)) (Nat.le_of_ble_eq_true rfl) ?_
  intro Y K hr
  show Y M 0 [(0, .ref (g.2.2 b))] []
  refine r_iconst K (v := 0) dX1_nextKeys_0 (by decide) ?_
  refine r_istore_n K [(1, .int 0), (0, .ref (g.2.2 b))] dX1_nextKeys_1 rfl (by decide) rfl ?_
  refine r_iconst K (v := 0) dX1_nextKeys_2 (by decide) ?_
  refine r_istore_n K [(2, .int 0), (1, .int 0), (0, .ref (g.2.2 b))] dX1_nextKeys_3 rfl (by decide) rfl ?_
  have lp : ∀ (f : Nat) (k : Nat), (8 - k < f) → (k ≤ 8) → Y M 4 [(2, .int (nI k)), (1, .int (ab_mask (ab_may tp L (ab_ks L)) k)), (0, .ref (g.2.2 b))] [] := by
    intro f
    induction f with
    | zero =>
      intro k hf
      exact absurd hf (Nat.not_lt_zero _)
    | succ f ih =>
      intro k hf hi
      refine r_iload_n K 0 dX1_nextKeys_4 rfl rfl ?_
      refine r_bipush K (v := 8) dX1_nextKeys_5 (by decide) ?_
      refine r_icmp_ge K 34 dX1_nextKeys_7 (by decide) (fun h_1 => ?_) (fun h_1 => ?_)
      · have nh_1 : 8 ≤ k := (nf_le rfl rfl (by omega) (by omega)).mp h_1
        refine r_iload_n K 1 dX1_nextKeys_34 rfl rfl ?_
        have hk8 : k = 8 := by omega
        subst hk8
        exact hr _ _ _ _ dX1_nextKeys_35 ⟨rfl, rfl⟩
      · have nh_1 : ¬ 8 ≤ k := mt (nf_le rfl rfl (by omega) (by omega)).mpr h_1
        refine r_aload_n K 2 dX1_nextKeys_10 rfl rfl ?_
        refine r_aload_n K 2 dX1_nextKeys_11 rfl rfl ?_
        refine r_callVr K [] [.ref (g.2.2 b)] dX1_nextKeys_12 mf_X1_last (xL_0 hb) rfl qw_341 qw_306 qw_307 (c_Line_last l g t M b hb (ab_ks L).length hn hL.1) rfl rfl (by decide) (Nat.le_of_ble_eq_true rfl) (fun r M1 hp => ?_)
        obtain ⟨hp, he⟩ := hp
        have he := he.symm
        subst he
        subst hp
        refine r_iload_n K 0 dX1_nextKeys_15 rfl rfl ?_
        refine r_callVi K [.ref (g.2.2 (b + 4 + (ab_ks L).length)), .int (nI k)] [] dX1_nextKeys_16 mf_X1_mayFollow (xL_0 hb) rfl qw_530 qw_310 qw_311 (c_mayFollow l g t M b hb tp L hok hL.2.2 (b + 4 + (ab_ks L).length) (xL_s hb (by omega)) (ab_ks L) (by omega) (x_ln_last hL) k (by omega) hok.2.1) rfl rfl (by decide) (Nat.le_of_ble_eq_true rfl) (fun r M1 hp => ?_)
        obtain ⟨hp, he⟩ := hp
        have he := he.symm
        subst he
        rcases hp with ⟨rfl, hb_2⟩ | ⟨rfl, hb_2⟩
        · refine r_if_eq K 28 dX1_nextKeys_19 (by decide) (fun h => absurd h (by decide)) (fun _ => ?_)
          refine r_iload_n K 1 dX1_nextKeys_22 rfl rfl ?_
          refine r_iconst K (v := 1) dX1_nextKeys_23 (by decide) ?_
          refine r_iload_n K 0 dX1_nextKeys_24 rfl rfl ?_
          refine r_ishl K dX1_nextKeys_25 ?_
          refine r_ior K dX1_nextKeys_26 ?_
          refine r_istore_n K [(1, .int ((ab_mask (ab_may tp L (ab_ks L)) k) ||| (1 <<< ((nI k) &&& 31)))), (2, .int (nI k)), (0, .ref (g.2.2 b))] dX1_nextKeys_27 rfl (by decide) rfl ?_
          refine r_iinc_n K 1 [(2, .int (nI (k + 1))), (1, .int ((ab_mask (ab_may tp L (ab_ks L)) k) ||| (1 <<< ((nI k) &&& 31)))), (0, .ref (g.2.2 b))] dX1_nextKeys_28 rfl (by decide) rfl ?_
          refine r_goto K 4 dX1_nextKeys_31 (by decide) ?_
          have e : ab_mask (ab_may tp L (ab_ks L)) (k + 1) = _ := if_pos hb_2
          have q := ih (k + 1) (by omega) (by omega)
          rw [e] at q
          exact q
        · refine r_if_eq K 28 dX1_nextKeys_19 (by decide) (fun _ => ?_) (fun h => absurd h (by decide))
          refine r_iinc_n K 0 [(2, .int (nI (k + 1))), (1, .int (ab_mask (ab_may tp L (ab_ks L)) k)), (0, .ref (g.2.2 b))] dX1_nextKeys_28 rfl (by decide) rfl ?_
          refine r_goto K 4 dX1_nextKeys_31 (by decide) ?_
          have e : ab_mask (ab_may tp L (ab_ks L)) (k + 1) = _ := if_neg hb_2
          have q := ih (k + 1) (by omega) (by omega)
          rw [e] at q
          exact q
  exact lp 9 0 (by omega) (by omega)
set_option maxHeartbeats 4000000 in
set_option maxRecDepth 100000 in
theorem c_worseThan (l : Launch) (g : rs_G) (t : Nat × Nat) (M : rs_M) (b : Nat) (hb : xL b) (tp : Int32) (L : ab_L) (hok : ab_ok L) (hL : x_ln M b tp L) (i : Nat) (h1 : 1 ≤ i) (h2 : i ≤ (ab_ks L).length) : rs_Ci l g xk t yX1_worseThan cX1_worseThan 6 .int 2 [.ref (g.2.2 b), .int (nI i)] M (fun r M1 => r = nI (ab_ahead (ab_ringcost tp L) i (ab_ks L).length) ∧ M1 = M) := by
  have hn := hok.1
  refine rs_ofi (plainFor_of_name (by decide)) (Nat.le_of_ble_eq_true rfl) ?_
  intro Y K hr
  show Y M 0 [(0, .ref (g.2.2 b)), (1, .int (nI i))] []
  refine r_iload_n K 1 dX1_worseThan_0 rfl rfl ?_
  refine r_iconst K (v := 1) dX1_worseThan_1 (by decide) ?_
  refine r_aload_n K 0 dX1_worseThan_2 rfl rfl ?_
  refine r_getI K (xL_0 hb) rfl ff_1_rings qw_69 dX1_worseThan_3 ?_
  refine r_top_eq (nI (ab_ks L).length) hL.1 ?_
  refine r_callNi K [.int (nI i), .int 1, .int (nI (ab_ks L).length)] [] dX1_worseThan_6 mf_X5_isWithin (by decide) qw_228 (c_isWithin l g xk t M (nI i) 1 (nI (ab_ks L).length)) rfl rfl (by decide) (Nat.le_of_ble_eq_true rfl) (fun r M1 hp => ?_)
  obtain ⟨hp, he⟩ := hp
  have he := he.symm
  subst he
  rcases hp with ⟨rfl, hb_1⟩ | ⟨rfl, hb_1⟩
  rotate_left
  · exact absurd (x_within (a := 1) (b := (ab_ks L).length) rfl h1 h2 (by omega)) hb_1
  refine r_if_ne K 14 dX1_worseThan_9 (by decide) (fun _ => ?_) (fun h => absurd h (by decide))
  refine r_aload_n K 0 dX1_worseThan_14 rfl rfl ?_
  refine r_aload_n K 0 dX1_worseThan_15 rfl rfl ?_
  refine r_getR K (xL_0 hb) rfl ff_1_spots qw_63 dX1_worseThan_16 ?_
  refine r_iload_n K 1 dX1_worseThan_19 rfl rfl ?_
  refine r_aaldS K (j := i) (xL_1 hb) rfl (xL_e (by omega)) (by omega) (by decide) dX1_worseThan_20 ?_
  refine r_callVi K [.ref (g.2.2 (b + 4 + i))] [] dX1_worseThan_21 mf_X1_cost (xL_0 hb) rfl qw_460 qw_381 qw_382 (c_Line_cost l g t M b hb tp L hok hL.2.2 (b + 4 + i) i (xL_s hb (by omega)) (by omega) (x_ln_c0 hL (by omega))) rfl rfl (by decide) (Nat.le_of_ble_eq_true rfl) (fun r M1 hp => ?_)
  obtain ⟨hp, he⟩ := hp
  have he := he.symm
  subst he
  subst hp
  refine r_top_eq (ab_ringcost tp L i) (x_ln_cost hL (by omega)) ?_
  refine r_istore_n K [(2, .int (ab_ringcost tp L i)), (0, .ref (g.2.2 b)), (1, .int (nI i))] dX1_worseThan_24 rfl (by decide) rfl ?_
  refine r_iconst K (v := 0) dX1_worseThan_25 (by decide) ?_
  refine r_istore_n K [(3, .int 0), (2, .int (ab_ringcost tp L i)), (0, .ref (g.2.2 b)), (1, .int (nI i))] dX1_worseThan_26 rfl (by decide) rfl ?_
  refine r_iconst K (v := 1) dX1_worseThan_27 (by decide) ?_
  refine r_istore K [(4, .int 1), (3, .int 0), (2, .int (ab_ringcost tp L i)), (0, .ref (g.2.2 b)), (1, .int (nI i))] dX1_worseThan_28 (by decide) rfl ?_
  have lp : ∀ (f : Nat) (j : Nat), (13 - j < f) → (j ≤ (ab_ks L).length) → Y M 30 [(4, .int (nI (j + 1))), (3, .int (nI (ab_ahead (ab_ringcost tp L) i j))), (2, .int (ab_ringcost tp L i)), (0, .ref (g.2.2 b)), (1, .int (nI i))] [] := by
    intro f
    induction f with
    | zero =>
      intro j hf
      exact absurd hf (Nat.not_lt_zero _)
    | succ f ih =>
      intro j hf hj
      refine r_iload K 0 dX1_worseThan_30 rfl ?_
      refine r_aload_n K 3 dX1_worseThan_32 rfl rfl ?_
      refine r_getI K (xL_0 hb) rfl ff_1_rings qw_69 dX1_worseThan_33 ?_
      refine r_top_eq (nI (ab_ks L).length) hL.1 ?_
      refine r_icmp_gt K 86 dX1_worseThan_36 (by decide) (fun h_2 => ?_) (fun h_2 => ?_)
      · have nh_2 : (ab_ks L).length < (j + 1) := (nf_lt rfl rfl (by omega) (by omega)).mp h_2
        refine r_iload_n K 1 dX1_worseThan_86 rfl rfl ?_
        have hjn : j = (ab_ks L).length := by omega
        subst hjn
        exact hr _ _ _ _ dX1_worseThan_87 ⟨rfl, rfl⟩
      · have nh_2 : ¬ (ab_ks L).length < (j + 1) := mt (nf_lt rfl rfl (by omega) (by omega)).mpr h_2
        refine r_iload K 0 dX1_worseThan_39 rfl ?_
        refine r_bipush K (v := 12) dX1_worseThan_41 (by decide) ?_
        refine r_icmp_gt K 86 dX1_worseThan_43 (by decide) (fun h_3 => ?_) (fun h_3 => ?_)
        · have nh_3 : 12 < (j + 1) := (nf_lt rfl rfl (by omega) (by omega)).mp h_3
          refine r_iload_n K 1 dX1_worseThan_86 rfl rfl ?_
          have hjn : j = (ab_ks L).length := by omega
          subst hjn
          exact hr _ _ _ _ dX1_worseThan_87 ⟨rfl, rfl⟩
        · have nh_3 : ¬ 12 < (j + 1) := mt (nf_lt rfl rfl (by omega) (by omega)).mpr h_3
          refine r_aload_n K 3 dX1_worseThan_46 rfl rfl ?_
          refine r_aload_n K 3 dX1_worseThan_47 rfl rfl ?_
          refine r_getR K (xL_0 hb) rfl ff_1_spots qw_63 dX1_worseThan_48 ?_
          refine r_iload K 0 dX1_worseThan_51 rfl ?_
          refine r_aaldS K (j := j + 1) (xL_1 hb) rfl (xL_e (by omega)) (by omega) (by decide) dX1_worseThan_53 ?_
          refine r_callVi K [.ref (g.2.2 (b + 4 + (j + 1)))] [] dX1_worseThan_54 mf_X1_cost (xL_0 hb) rfl qw_460 qw_381 qw_382 (c_Line_cost l g t M b hb tp L hok hL.2.2 (b + 4 + (j + 1)) (j + 1) (xL_s hb (by omega)) (by omega) (x_ln_c0 hL (by omega))) rfl rfl (by decide) (Nat.le_of_ble_eq_true rfl) (fun r M1 hp => ?_)
          obtain ⟨hp, he⟩ := hp
          have he := he.symm
          subst he
          subst hp
          refine r_top_eq (ab_ringcost tp L (j + 1)) (x_ln_cost hL (by omega)) ?_
          refine r_istore K [(5, .int (ab_ringcost tp L (j + 1))), (4, .int (nI (j + 1))), (3, .int (nI (ab_ahead (ab_ringcost tp L) i j))), (2, .int (ab_ringcost tp L i)), (0, .ref (g.2.2 b)), (1, .int (nI i))] dX1_worseThan_57 (by decide) rfl ?_
          refine r_iload K 0 dX1_worseThan_59 rfl ?_
          refine r_iload_n K 3 dX1_worseThan_61 rfl rfl ?_
          refine r_icmp_gt K 77 dX1_worseThan_62 (by decide) (fun h_4 => ?_) (fun h_4 => ?_)
          · refine r_iinc_n K 2 [(3, .int (nI (ab_ahead (ab_ringcost tp L) i j + 1))), (5, .int (ab_ringcost tp L (j + 1))), (4, .int (nI (j + 1))), (2, .int (ab_ringcost tp L i)), (0, .ref (g.2.2 b)), (1, .int (nI i))] dX1_worseThan_77 rfl (by decide) rfl ?_
            refine r_iinc_n K 2 [(4, .int (nI (j + 1 + 1))), (3, .int (nI (ab_ahead (ab_ringcost tp L) i j + 1))), (5, .int (ab_ringcost tp L (j + 1))), (2, .int (ab_ringcost tp L i)), (0, .ref (g.2.2 b)), (1, .int (nI i))] dX1_worseThan_80 rfl (by decide) rfl ?_
            refine r_goto K 30 dX1_worseThan_83 (by decide) ?_
            refine r_sub K [0, 1, 3, 4, 5] rfl ?_
            have e : ab_ahead (ab_ringcost tp L) i (j + 1) = ab_ahead (ab_ringcost tp L) i j + _ := congrArg (fun z => ab_ahead (ab_ringcost tp L) i j + z) (if_pos (Or.inl h_4))
            have q := ih (j + 1) (by omega) (by omega)
            rw [e] at q
            exact q
          · refine r_iload K 0 dX1_worseThan_65 rfl ?_
            refine r_iload_n K 3 dX1_worseThan_67 rfl rfl ?_
            refine r_icmp_ne K 80 dX1_worseThan_68 (by decide) (fun h_5 => ?_) (fun h_5 => ?_)
            · refine r_iinc_n K 1 [(4, .int (nI (j + 1 + 1))), (5, .int (ab_ringcost tp L (j + 1))), (3, .int (nI (ab_ahead (ab_ringcost tp L) i j))), (2, .int (ab_ringcost tp L i)), (0, .ref (g.2.2 b)), (1, .int (nI i))] dX1_worseThan_80 rfl (by decide) rfl ?_
              refine r_goto K 30 dX1_worseThan_83 (by decide) ?_
              refine r_sub K [0, 2, 3, 4, 5] rfl ?_
              have e : ab_ahead (ab_ringcost tp L) i (j + 1) = ab_ahead (ab_ringcost tp L) i j + _ := congrArg (fun z => ab_ahead (ab_ringcost tp L) i j + z) (if_neg (fun q => q.elim (fun q => h_4 q) (fun q => h_5 q.1)))
              have q := ih (j + 1) (by omega) (by omega)
              rw [e] at q
              exact q
            · refine r_iload K 1 dX1_worseThan_71 rfl ?_
              refine r_iload_n K 5 dX1_worseThan_73 rfl rfl ?_
              refine r_icmp_ge K 80 dX1_worseThan_74 (by decide) (fun h_6 => ?_) (fun h_6 => ?_)
              · have nh_6 : i ≤ (j + 1) := (nf_le rfl rfl (by omega) (by omega)).mp h_6
                refine r_iinc_n K 1 [(4, .int (nI (j + 1 + 1))), (5, .int (ab_ringcost tp L (j + 1))), (3, .int (nI (ab_ahead (ab_ringcost tp L) i j))), (2, .int (ab_ringcost tp L i)), (0, .ref (g.2.2 b)), (1, .int (nI i))] dX1_worseThan_80 rfl (by decide) rfl ?_
                refine r_goto K 30 dX1_worseThan_83 (by decide) ?_
                refine r_sub K [0, 2, 3, 4, 5] rfl ?_
                have e : ab_ahead (ab_ringcost tp L) i (j + 1) = ab_ahead (ab_ringcost tp L) i j + _ := congrArg (fun z => ab_ahead (ab_ringcost tp L) i j + z) (if_neg (fun q => q.elim (fun q => h_4 q) (fun q => by omega)))
                have q := ih (j + 1) (by omega) (by omega)
                rw [e] at q
                exact q
              · have nh_6 : ¬ i ≤ (j + 1) := mt (nf_le rfl rfl (by omega) (by omega)).mpr h_6
                refine r_iinc_n K 2 [(3, .int (nI (ab_ahead (ab_ringcost tp L) i j + 1))), (5, .int (ab_ringcost tp L (j + 1))), (4, .int (nI (j + 1))), (2, .int (ab_ringcost tp L i)), (0, .ref (g.2.2 b)), (1, .int (nI i))] dX1_worseThan_77 rfl (by decide) rfl ?_
                refine r_iinc_n K 2 [(4, .int (nI (j + 1 + 1))), (3, .int (nI (ab_ahead (ab_ringcost tp L) i j + 1))), (5, .int (ab_ringcost tp L (j + 1))), (2, .int (ab_ringcost tp L i)), (0, .ref (g.2.2 b)), (1, .int (nI i))] dX1_worseThan_80 rfl (by decide) rfl ?_
                refine r_goto K 30 dX1_worseThan_83 (by decide) ?_
                refine r_sub K [0, 1, 3, 4, 5] rfl ?_
                have e : ab_ahead (ab_ringcost tp L) i (j + 1) = ab_ahead (ab_ringcost tp L) i j + _ := congrArg (fun z => ab_ahead (ab_ringcost tp L) i j + z) (if_pos (Or.inr ⟨h_5, by omega⟩))
                have q := ih (j + 1) (by omega) (by omega)
                rw [e] at q
                exact q
  exact lp 14 0 (by omega) (by omega)
end
section
/-! deeds: kind, which, first, second; the oldest first -/
abbrev ab_D : Type := Nat × Nat × Int32 × Int32
def x_dd (M : rs_M) (ds : List ab_D) : Prop := M 40 4 = nI ds.length ∧ ∀ i d, ds[i]? = some d → M 41 i = nI d.1 ∧ M 42 i = nI d.2.1 ∧ M 43 i = d.2.2.1 ∧ M 44 i = d.2.2.2
theorem x_dd_fr {M M1 : rs_M} {ds : List ab_D} (h : x_dd M ds) (e : ∀ c, 40 ≤ c → c < 45 → M1 c = M c) : x_dd M1 ds := ⟨by rw [e 40 (by decide) (by decide)]; exact h.1, fun i d hi => by rw [e 41 (by decide) (by decide), e 42 (by decide) (by decide), e 43 (by decide) (by decide), e 44 (by decide) (by decide)]; exact h.2 i d hi⟩
def x_lo (M : rs_M) (q : Nat) : rs_M := fun c j => if 41 ≤ c ∧ c ≤ 44 ∧ j < q then M c (j + 1) else M c j
theorem x_lo_0 (M : rs_M) : x_lo M 0 = M := by funext c j; simp [x_lo]
theorem x_lo_s (M : rs_M) (q : Nat) : rs_st (rs_st (rs_st (rs_st (x_lo M q) 41 q (M 41 (q + 1))) 42 q (M 42 (q + 1))) 43 q (M 43 (q + 1))) 44 q (M 44 (q + 1)) = x_lo M (q + 1) := by
  funext c j
  have hq : j ≠ q → (j < q + 1 ↔ j < q) := fun h => by omega
  by_cases h : 41 ≤ c ∧ c ≤ 44
  · rcases (show c = 41 ∨ c = 42 ∨ c = 43 ∨ c = 44 by omega) with rfl | rfl | rfl | rfl <;> by_cases hj : j = q
    all_goals first | (subst hj; simp [rs_st, x_lo]; done) | (simp [rs_st, x_lo, hj, hq hj]; done)
  · have c1 : c ≠ 41 := by omega
    have c2 : c ≠ 42 := by omega
    have c3 : c ≠ 43 := by omega
    have c4 : c ≠ 44 := by omega
    have k1 : ¬ (41 ≤ c ∧ c ≤ 44 ∧ j < q) := fun z => h ⟨z.1, z.2.1⟩
    have k2 : ¬ (41 ≤ c ∧ c ≤ 44 ∧ j < q + 1) := fun z => h ⟨z.1, z.2.1⟩
    simp only [rs_st, x_lo, if_neg k1, if_neg k2, c1, c2, c3, c4, false_and, if_false]
theorem x_lo_dd {M : rs_M} {ds : List ab_D} (h : x_dd M ds) (h12 : ds.length = 12) : x_dd (rs_st (x_lo M 11) 40 4 11) ds.tail := by
  refine ⟨?_, fun i d hi => ?_⟩
  · rw [rs_st_eq, List.length_tail, h12]; rfl
  · have hi2 : ds[i + 1]? = some d := by rw [List.getElem?_tail] at hi; exact hi
    have hlt : i + 1 < 12 := by rw [← h12]; exact (List.getElem?_eq_some_iff.mp hi2).1
    rw [rs_st_ne _ _ _ (by decide), rs_st_ne _ _ _ (by decide), rs_st_ne _ _ _ (by decide), rs_st_ne _ _ _ (by decide)]
    simp only [x_lo]
    rw [if_pos (by omega), if_pos (by omega), if_pos (by omega), if_pos (by omega)]
    exact h.2 _ _ hi2
theorem x_lo_fr (M : rs_M) (q : Nat) : x_fr M (x_lo M q) 40 45 := fun c hc => by
  funext j
  simp only [x_lo]
  rw [if_neg (by omega)]
theorem x_dd_push {M : rs_M} {ds : List ab_D} (h : x_dd M ds) (d : ab_D) : x_dd (rs_st (rs_st (rs_st (rs_st (rs_st M 41 ds.length (nI d.1)) 42 ds.length (nI d.2.1)) 43 ds.length d.2.2.1) 44 ds.length d.2.2.2) 40 4 (nI (ds.length + 1))) (ds ++ [d]) := by
  refine ⟨by rw [rs_st_eq]; simp, fun i e hi => ?_⟩
  rcases Nat.lt_or_ge i ds.length with q | q
  · rw [List.getElem?_append_left q] at hi
    obtain ⟨a1, a2, a3, a4⟩ := h.2 i e hi
    have hne : i ≠ ds.length := by omega
    simp [rs_st, hne, a1, a2, a3, a4]
  · rw [List.getElem?_append_right q] at hi
    have hz : i - ds.length = 0 := by
      have := (List.getElem?_eq_some_iff.mp hi).1
      simp at this
      omega
    have hi0 : i = ds.length := by omega
    subst hi0
    simp at hi
    subst hi
    simp [rs_st]
def ab_push (ds : List ab_D) (d : ab_D) : List ab_D := (if ds.length < 12 then ds else ds.tail) ++ [d]
/-- what taking back a deed does -/
def ab_undo (d : ab_D) (L : ab_L) : ab_L := match d.1 with
  | 0 => ab_drop L
  | 1 => ab_setwish L d.2.1 d.2.2.1 d.2.2.2
  | _ => ab_setrule L d.2.1 d.2.2.1.toNatClampNeg
theorem ab_undo_0 {d : ab_D} {L : ab_L} (h : d.1 = 0) : ab_undo d L = ab_drop L := by simp only [ab_undo, h]
theorem ab_undo_1 {d : ab_D} {L : ab_L} (h : d.1 = 1) : ab_undo d L = ab_setwish L d.2.1 d.2.2.1 d.2.2.2 := by simp only [ab_undo, h]
theorem ab_undo_2 {d : ab_D} {L : ab_L} (h : d.1 = 2) : ab_undo d L = ab_setrule L d.2.1 d.2.2.1.toNatClampNeg := by simp only [ab_undo, h]
/-- a deed that can be taken back from a line -/
def ab_dok (d : ab_D) (L : ab_L) : Prop := (d.1 = 0 ∧ 0 < (ab_ks L).length) ∨ (d.1 = 1 ∧ 1 ≤ d.2.1 ∧ d.2.1 ≤ 17) ∨ (d.1 = 2 ∧ d.2.1 ≤ 2 ∧ ∃ v, v < 2 ^ 31 ∧ d.2.2.1 = nI v)
set_option maxHeartbeats 4000000 in
set_option maxRecDepth 100000 in
theorem c_loseOldest (l : Launch) (g : rs_G) (t : Nat × Nat) (M : rs_M) (ds : List ab_D) (hd : x_dd M ds) (h12 : ds.length = 12) : rs_Cv l g xk t yX0_loseOldest cX0_loseOldest 2 0 [.ref (g.2.2 40)] M (fun M1 => x_dd M1 ds.tail ∧ x_fr M M1 40 45) := by
  refine rs_ofv (plainFor_of_name (by decide)) (Nat.le_of_ble_eq_true rfl) ?_
  intro Y K hr
  show Y M 0 [(0, .ref (g.2.2 40))] []
  refine r_iconst K (v := 1) dX0_loseOldest_0 (by decide) ?_
  refine r_istore_n K [(1, .int 1), (0, .ref (g.2.2 40))] dX0_loseOldest_1 rfl (by decide) rfl ?_
  have lp : ∀ (f : Nat) (q : Nat), (11 - q < f) → (q ≤ 11) → Y (x_lo M q) 2 [(1, .int (nI (q + 1))), (0, .ref (g.2.2 40))] [] := by
    intro f
    induction f with
    | zero =>
      intro q hf
      exact absurd hf (Nat.not_lt_zero _)
    | succ f ih =>
      intro q hf hq
      refine r_iload_n K 0 dX0_loseOldest_2 rfl rfl ?_
      refine r_bipush K (v := 12) dX0_loseOldest_3 (by decide) ?_
      refine r_icmp_ge K 70 dX0_loseOldest_5 (by decide) (fun h_1 => ?_) (fun h_1 => ?_)
      · have nh_1 : 12 ≤ (q + 1) := (nf_le rfl rfl (by omega) (by omega)).mp h_1
        refine r_aload_n K 1 dX0_loseOldest_70 rfl rfl ?_
        refine r_bipush K (v := 11) dX0_loseOldest_71 (by decide) ?_
        refine r_put K rfl rfl ff_0_size qw_146 rfl rfl dX0_loseOldest_73 ?_
        have hq11 : q = 11 := by omega
        subst hq11
        exact hr _ _ _ dX0_loseOldest_76 ⟨x_lo_dd hd h12, x_fr_tr (x_lo_fr M 11) (x_fr_st (by decide) (by decide))⟩
      · have nh_1 : ¬ 12 ≤ (q + 1) := mt (nf_le rfl rfl (by omega) (by omega)).mpr h_1
        refine r_aload_n K 1 dX0_loseOldest_8 rfl rfl ?_
        refine r_getR K rfl rfl ff_0_kinds qw_142 dX0_loseOldest_9 ?_
        refine r_iload_n K 0 dX0_loseOldest_12 rfl rfl ?_
        refine r_iconst K (v := 1) dX0_loseOldest_13 (by decide) ?_
        refine r_isub K dX0_loseOldest_14 ?_
        refine r_aload_n K 1 dX0_loseOldest_15 rfl rfl ?_
        refine r_getR K rfl rfl ff_0_kinds qw_142 dX0_loseOldest_16 ?_
        refine r_iload_n K 0 dX0_loseOldest_19 rfl rfl ?_
        refine r_iald K (j := q + 1) rfl rfl (by omega) (by decide) dX0_loseOldest_20 ?_
        refine r_top_eq (M 41 (q + 1)) (by simp [rs_st, x_lo]; intro h; exact absurd h (by omega)) ?_
        refine r_iast K (j := q) rfl (nI_pred q) (by omega) (by decide) dX0_loseOldest_21 ?_
        refine r_aload_n K 1 dX0_loseOldest_22 rfl rfl ?_
        refine r_getR K rfl rfl ff_0_which qw_143 dX0_loseOldest_23 ?_
        refine r_iload_n K 0 dX0_loseOldest_26 rfl rfl ?_
        refine r_iconst K (v := 1) dX0_loseOldest_27 (by decide) ?_
        refine r_isub K dX0_loseOldest_28 ?_
        refine r_aload_n K 1 dX0_loseOldest_29 rfl rfl ?_
        refine r_getR K rfl rfl ff_0_which qw_143 dX0_loseOldest_30 ?_
        refine r_iload_n K 0 dX0_loseOldest_33 rfl rfl ?_
        refine r_iald K (j := q + 1) rfl rfl (by omega) (by decide) dX0_loseOldest_34 ?_
        refine r_top_eq (M 42 (q + 1)) (by simp [rs_st, x_lo]; intro h; exact absurd h (by omega)) ?_
        refine r_iast K (j := q) rfl (nI_pred q) (by omega) (by decide) dX0_loseOldest_35 ?_
        refine r_aload_n K 1 dX0_loseOldest_36 rfl rfl ?_
        refine r_getR K rfl rfl ff_0_wasFirst qw_144 dX0_loseOldest_37 ?_
        refine r_iload_n K 0 dX0_loseOldest_40 rfl rfl ?_
        refine r_iconst K (v := 1) dX0_loseOldest_41 (by decide) ?_
        refine r_isub K dX0_loseOldest_42 ?_
        refine r_aload_n K 1 dX0_loseOldest_43 rfl rfl ?_
        refine r_getR K rfl rfl ff_0_wasFirst qw_144 dX0_loseOldest_44 ?_
        refine r_iload_n K 0 dX0_loseOldest_47 rfl rfl ?_
        refine r_iald K (j := q + 1) rfl rfl (by omega) (by decide) dX0_loseOldest_48 ?_
        refine r_top_eq (M 43 (q + 1)) (by simp [rs_st, x_lo]; intro h; exact absurd h (by omega)) ?_
        refine r_iast K (j := q) rfl (nI_pred q) (by omega) (by decide) dX0_loseOldest_49 ?_
        refine r_aload_n K 1 dX0_loseOldest_50 rfl rfl ?_
        refine r_getR K rfl rfl ff_0_wasSecond qw_145 dX0_loseOldest_51 ?_
        refine r_iload_n K 0 dX0_loseOldest_54 rfl rfl ?_
        refine r_iconst K (v := 1) dX0_loseOldest_55 (by decide) ?_
        refine r_isub K dX0_loseOldest_56 ?_
        refine r_aload_n K 1 dX0_loseOldest_57 rfl rfl ?_
        refine r_getR K rfl rfl ff_0_wasSecond qw_145 dX0_loseOldest_58 ?_
        refine r_iload_n K 0 dX0_loseOldest_61 rfl rfl ?_
        refine r_iald K (j := q + 1) rfl rfl (by omega) (by decide) dX0_loseOldest_62 ?_
        refine r_top_eq (M 44 (q + 1)) (by simp [rs_st, x_lo]; intro h; exact absurd h (by omega)) ?_
        refine r_iast K (j := q) rfl (nI_pred q) (by omega) (by decide) dX0_loseOldest_63 ?_
        refine r_iinc_n K 0 [(1, .int (nI (q + 1 + 1))), (0, .ref (g.2.2 40))] dX0_loseOldest_64 rfl (by decide) rfl ?_
        refine r_goto K 2 dX0_loseOldest_67 (by decide) ?_
        have e := ih (q + 1) (by omega) (by omega)
        rw [← x_lo_s] at e
        exact e
  have e := lp 12 0 (by omega) (by omega)
  rw [x_lo_0] at e
  exact e
set_option maxHeartbeats 4000000 in
set_option maxRecDepth 100000 in
theorem c_Deeds_add (l : Launch) (g : rs_G) (t : Nat × Nat) (M : rs_M) (ds : List ab_D) (hd : x_dd M ds) (h12 : ds.length ≤ 12) (d : ab_D) : rs_Cv l g xk t yX0_add cX0_add 5 1 [.ref (g.2.2 40), .int (nI d.1), .int (nI d.2.1), .int d.2.2.1, .int d.2.2.2] M (fun M1 => x_dd M1 (ab_push ds d) ∧ x_fr M M1 40 45) := by
  refine rs_ofv (plainFor_of_name (by decide)) (Nat.le_of_ble_eq_true rfl) ?_
  intro Y K hr
  show Y M 0 [(0, .ref (g.2.2 40)), (1, .int (nI d.1)), (2, .int (nI d.2.1)), (3, .int d.2.2.1), (4, .int d.2.2.2)] []
  have jn : ∀ (Mi : rs_M) (es : List ab_D), (es.length < 12) → (x_dd Mi es) → (x_fr M Mi 40 45) → ((if ds.length < 12 then ds else ds.tail) = es) → Y Mi 13 [(0, .ref (g.2.2 40)), (1, .int (nI d.1)), (2, .int (nI d.2.1)), (3, .int d.2.2.1), (4, .int d.2.2.2)] [] := by
    intro Mi es hes he hfr hps
    refine r_aload_n K 0 dX0_add_13 rfl rfl ?_
    refine r_getR K rfl rfl ff_0_kinds qw_142 dX0_add_14 ?_
    refine r_aload_n K 0 dX0_add_17 rfl rfl ?_
    refine r_getI K rfl rfl ff_0_size qw_146 dX0_add_18 ?_
    refine r_top_eq (nI es.length) (by first | exact he.1 | (simp [rs_st]; exact he.1)) ?_
    refine r_iload_n K 1 dX0_add_21 rfl rfl ?_
    refine r_iast K (j := es.length) rfl rfl (by omega) (by decide) dX0_add_22 ?_
    refine r_aload_n K 0 dX0_add_23 rfl rfl ?_
    refine r_getR K rfl rfl ff_0_which qw_143 dX0_add_24 ?_
    refine r_aload_n K 0 dX0_add_27 rfl rfl ?_
    refine r_getI K rfl rfl ff_0_size qw_146 dX0_add_28 ?_
    refine r_top_eq (nI es.length) (by first | exact he.1 | (simp [rs_st]; exact he.1)) ?_
    refine r_iload_n K 2 dX0_add_31 rfl rfl ?_
    refine r_iast K (j := es.length) rfl rfl (by omega) (by decide) dX0_add_32 ?_
    refine r_aload_n K 0 dX0_add_33 rfl rfl ?_
    refine r_getR K rfl rfl ff_0_wasFirst qw_144 dX0_add_34 ?_
    refine r_aload_n K 0 dX0_add_37 rfl rfl ?_
    refine r_getI K rfl rfl ff_0_size qw_146 dX0_add_38 ?_
    refine r_top_eq (nI es.length) (by first | exact he.1 | (simp [rs_st]; exact he.1)) ?_
    refine r_iload_n K 3 dX0_add_41 rfl rfl ?_
    refine r_iast K (j := es.length) rfl rfl (by omega) (by decide) dX0_add_42 ?_
    refine r_aload_n K 0 dX0_add_43 rfl rfl ?_
    refine r_getR K rfl rfl ff_0_wasSecond qw_145 dX0_add_44 ?_
    refine r_aload_n K 0 dX0_add_47 rfl rfl ?_
    refine r_getI K rfl rfl ff_0_size qw_146 dX0_add_48 ?_
    refine r_top_eq (nI es.length) (by first | exact he.1 | (simp [rs_st]; exact he.1)) ?_
    refine r_iload K 4 dX0_add_51 rfl ?_
    refine r_iast K (j := es.length) rfl rfl (by omega) (by decide) dX0_add_53 ?_
    refine r_aload_n K 0 dX0_add_54 rfl rfl ?_
    refine r_dup K dX0_add_55 rfl ?_
    refine r_getI K rfl rfl ff_0_size qw_146 dX0_add_56 ?_
    refine r_top_eq (nI es.length) (by first | exact he.1 | (simp [rs_st]; exact he.1)) ?_
    refine r_iconst K (v := 1) dX0_add_59 (by decide) ?_
    refine r_iadd K dX0_add_60 ?_
    refine r_top_eq (nI (es.length + 1)) (nI_1 _) ?_
    refine r_put K rfl rfl ff_0_size qw_146 rfl rfl dX0_add_61 ?_
    refine hr _ _ _ dX0_add_64 ⟨?_, x_fr_tr (x_fr_tr (x_fr_tr (x_fr_tr (x_fr_tr hfr (x_fr_st (by decide) (by decide))) (x_fr_st (by decide) (by decide))) (x_fr_st (by decide) (by decide))) (x_fr_st (by decide) (by decide))) (x_fr_st (by decide) (by decide))⟩
    rw [ab_push, hps]
    exact x_dd_push he d
  refine r_aload_n K 0 dX0_add_0 rfl rfl ?_
  refine r_getI K rfl rfl ff_0_size qw_146 dX0_add_1 ?_
  refine r_top_eq (nI ds.length) hd.1 ?_
  refine r_bipush K (v := 12) dX0_add_4 (by decide) ?_
  refine r_icmp_lt K 13 dX0_add_6 (by decide) (fun h_1 => ?_) (fun h_1 => ?_)
  · have nh_1 : ds.length < 12 := (nf_lt rfl rfl (by omega) (by omega)).mp h_1
    exact jn M ds (by omega) hd (x_fr_rf _ _ _) (if_pos (by omega))
  · have nh_1 : ¬ ds.length < 12 := mt (nf_lt rfl rfl (by omega) (by omega)).mpr h_1
    refine r_aload_n K 0 dX0_add_9 rfl rfl ?_
    have hlen : ds.length = 12 := by omega
    refine r_callVv K [] [] dX0_add_10 mf_X0_loseOldest rfl rfl qw_375 qw_377 qs_13 (c_loseOldest l g t M ds hd hlen) rfl rfl (by decide) (Nat.le_of_ble_eq_true rfl) (fun M1 hp => ?_)
    obtain ⟨hp1, hp2⟩ := hp
    exact jn M1 ds.tail (by rw [List.length_tail]; omega) hp1 hp2 (if_neg (by omega))
set_option maxHeartbeats 4000000 in
set_option maxRecDepth 100000 in
theorem c_takeBack (l : Launch) (g : rs_G) (t : Nat × Nat) (M : rs_M) (hb : xL 1) (tp : Int32) (L : ab_L) (hL : x_ln M 1 tp L) (hn : (ab_ks L).length ≤ 12) (ds : List ab_D) (d : ab_D) (hd : x_dd M (ds ++ [d])) (h12 : ds.length < 12) (hk : ab_dok d L) : rs_Cv l g xk t yX0_takeBack cX0_takeBack 2 2 [.ref (g.2.2 40), .ref (g.2.2 1)] M (fun M1 => x_dd M1 ds ∧ x_ln M1 1 tp (ab_undo d L) ∧ ∀ c, ¬ (1 ≤ c ∧ c < 18) → ¬ (40 ≤ c ∧ c < 45) → M1 c = M c) := by
  have hdl := hd.2 ds.length d (by simp)
  have hd1 : M 40 4 = nI (ds.length + 1) := by rw [hd.1]; simp
  have hd2 : d.1 ≤ 2 := by rcases hk with h | h | h <;> omega
  have hdd : x_dd (rs_st M 40 4 (nI ds.length)) ds := ⟨by rw [rs_st_eq], fun i e hi => by rw [rs_st_ne _ _ _ (by decide), rs_st_ne _ _ _ (by decide), rs_st_ne _ _ _ (by decide), rs_st_ne _ _ _ (by decide)]; exact hd.2 i e (by rw [List.getElem?_append_left (List.getElem?_eq_some_iff.mp hi).1]; exact hi)⟩
  have hL2 : x_ln (rs_st M 40 4 (nI ds.length)) 1 tp L := x_ln_fr hn hL (x_fr_st (lo := 40) (hi := 45) (by decide) (by decide)) (by omega)
  refine rs_ofv (plainFor_of_name (by decide)) (Nat.le_of_ble_eq_true rfl) ?_
  intro Y K hr
  show Y M 0 [(0, .ref (g.2.2 40)), (1, .ref (g.2.2 1))] []
  refine r_aload_n K 0 dX0_takeBack_0 rfl rfl ?_
  refine r_getI K rfl rfl ff_0_size qw_146 dX0_takeBack_1 ?_
  refine r_top_eq (nI (ds.length + 1)) hd1 ?_
  refine r_iconst K (v := 1) dX0_takeBack_4 (by decide) ?_
  refine r_bipush K (v := 12) dX0_takeBack_5 (by decide) ?_
  refine r_callNi K [.int (nI (ds.length + 1)), .int 1, .int 12] [] dX0_takeBack_7 mf_X5_isWithin (by decide) qw_228 (c_isWithin l g xk t M (nI (ds.length + 1)) 1 12) rfl rfl (by decide) (Nat.le_of_ble_eq_true rfl) (fun r M1 hp => ?_)
  obtain ⟨hp, he⟩ := hp
  have he := he.symm
  subst he
  rcases hp with ⟨rfl, hb_1⟩ | ⟨rfl, hb_1⟩
  rotate_left
  · exact absurd (x_within (a := 1) (b := 12) rfl (by omega) (by omega) (by decide)) hb_1
  refine r_if_ne K 14 dX0_takeBack_10 (by decide) (fun _ => ?_) (fun h => absurd h (by decide))
  refine r_aload_n K 0 dX0_takeBack_14 rfl rfl ?_
  refine r_dup K dX0_takeBack_15 rfl ?_
  refine r_getI K rfl rfl ff_0_size qw_146 dX0_takeBack_16 ?_
  refine r_top_eq (nI (ds.length + 1)) hd1 ?_
  refine r_iconst K (v := 1) dX0_takeBack_19 (by decide) ?_
  refine r_isub K dX0_takeBack_20 ?_
  refine r_top_eq (nI ds.length) (nI_pred _) ?_
  refine r_put K rfl rfl ff_0_size qw_146 rfl rfl dX0_takeBack_21 ?_
  refine r_aload_n K 0 dX0_takeBack_24 rfl rfl ?_
  refine r_getR K rfl rfl ff_0_kinds qw_142 dX0_takeBack_25 ?_
  refine r_aload_n K 0 dX0_takeBack_28 rfl rfl ?_
  refine r_getI K rfl rfl ff_0_size qw_146 dX0_takeBack_29 ?_
  refine r_top_eq (nI ds.length) (by simp [rs_st]) ?_
  refine r_iald K (j := ds.length) rfl rfl (by omega) (by decide) dX0_takeBack_32 ?_
  refine r_top_eq (nI d.1) (by rw [rs_st_ne _ _ _ (by decide)]; exact hdl.1) ?_
  refine r_lookup K [(0, 60), (1, 67)] 101 dX0_takeBack_33 (by decide) (by decide) (by decide) ?_
  simp only [rs_swp]
  refine ⟨fun h_2_0 => ?_, fun h_2_0 => ⟨fun h_2_1 => ?_, fun h_2_1 => ?_⟩⟩
  · refine r_aload_n K 1 dX0_takeBack_60 rfl rfl ?_
    have hd0 : d.1 = 0 := (nf_eq rfl rfl (by omega) (by decide)).mp h_2_0
    refine r_callVv K [] [] dX0_takeBack_61 mf_X1_dropLast (xL_0 hb) rfl qw_437 qw_438 qw_439 (c_dropLast l g t (rs_st M 40 4 (nI ds.length)) 1 hb tp L hL2 (by rcases hk with h | h | h <;> omega) hn) rfl rfl (by decide) (Nat.le_of_ble_eq_true rfl) (fun M1 hp => ?_)
    obtain ⟨hp1, hp2⟩ := hp
    refine r_goto K 123 dX0_takeBack_64 (by decide) ?_
    refine hr _ _ _ dX0_takeBack_123 ⟨?_, ?_, ?_⟩
    · exact x_dd_fr hdd (fun c h1 h2 => hp2 c (by omega))
    · first | (rw [ab_undo_0 hd0]; exact hp1) | (rw [ab_undo_1 hd0]; exact hp1) | (rw [ab_undo_2 hd0]; exact hp1)
    · intro c h1 h2
      rw [hp2 c (by omega), rs_st_ne _ _ _ (by omega)]
  · refine r_aload_n K 1 dX0_takeBack_67 rfl rfl ?_
    refine r_aload_n K 0 dX0_takeBack_68 rfl rfl ?_
    refine r_getR K rfl rfl ff_0_which qw_143 dX0_takeBack_69 ?_
    refine r_aload_n K 0 dX0_takeBack_72 rfl rfl ?_
    refine r_getI K rfl rfl ff_0_size qw_146 dX0_takeBack_73 ?_
    refine r_top_eq (nI ds.length) (by simp [rs_st]) ?_
    refine r_iald K (j := ds.length) rfl rfl (by omega) (by decide) dX0_takeBack_76 ?_
    refine r_top_eq (nI d.2.1) (by rw [rs_st_ne _ _ _ (by decide)]; exact hdl.2.1) ?_
    refine r_aload_n K 0 dX0_takeBack_77 rfl rfl ?_
    refine r_getR K rfl rfl ff_0_wasFirst qw_144 dX0_takeBack_78 ?_
    refine r_aload_n K 0 dX0_takeBack_81 rfl rfl ?_
    refine r_getI K rfl rfl ff_0_size qw_146 dX0_takeBack_82 ?_
    refine r_top_eq (nI ds.length) (by simp [rs_st]) ?_
    refine r_iald K (j := ds.length) rfl rfl (by omega) (by decide) dX0_takeBack_85 ?_
    refine r_top_eq d.2.2.1 (by rw [rs_st_ne _ _ _ (by decide)]; exact hdl.2.2.1) ?_
    refine r_aload_n K 0 dX0_takeBack_86 rfl rfl ?_
    refine r_getR K rfl rfl ff_0_wasSecond qw_145 dX0_takeBack_87 ?_
    refine r_aload_n K 0 dX0_takeBack_90 rfl rfl ?_
    refine r_getI K rfl rfl ff_0_size qw_146 dX0_takeBack_91 ?_
    refine r_top_eq (nI ds.length) (by simp [rs_st]) ?_
    refine r_iald K (j := ds.length) rfl rfl (by omega) (by decide) dX0_takeBack_94 ?_
    refine r_top_eq d.2.2.2 (by rw [rs_st_ne _ _ _ (by decide)]; exact hdl.2.2.2) ?_
    have hd0 : d.1 = 1 := (nf_eq rfl rfl (by omega) (by decide)).mp h_2_1
    refine r_callVv K [.int (nI d.2.1), .int d.2.2.1, .int d.2.2.2] [] dX0_takeBack_95 mf_X1_setWish (xL_0 hb) rfl qw_441 qw_294 qw_295 (c_setWish l g t (rs_st M 40 4 (nI ds.length)) 1 hb tp L hL2 d.2.1 (by rcases hk with h | h | h <;> omega) (by rcases hk with h | h | h <;> omega) d.2.2.1 d.2.2.2) rfl rfl (by decide) (Nat.le_of_ble_eq_true rfl) (fun M1 hp => ?_)
    obtain ⟨hp1, hp2⟩ := hp
    refine r_goto K 123 dX0_takeBack_98 (by decide) ?_
    refine hr _ _ _ dX0_takeBack_123 ⟨?_, ?_, ?_⟩
    · exact x_dd_fr hdd (fun c h1 h2 => hp2 c (by omega))
    · first | (rw [ab_undo_0 hd0]; exact hp1) | (rw [ab_undo_1 hd0]; exact hp1) | (rw [ab_undo_2 hd0]; exact hp1)
    · intro c h1 h2
      rw [hp2 c (by omega), rs_st_ne _ _ _ (by omega)]
  · refine r_aload_n K 1 dX0_takeBack_101 rfl rfl ?_
    refine r_aload_n K 0 dX0_takeBack_102 rfl rfl ?_
    refine r_getR K rfl rfl ff_0_which qw_143 dX0_takeBack_103 ?_
    refine r_aload_n K 0 dX0_takeBack_106 rfl rfl ?_
    refine r_getI K rfl rfl ff_0_size qw_146 dX0_takeBack_107 ?_
    refine r_top_eq (nI ds.length) (by simp [rs_st]) ?_
    refine r_iald K (j := ds.length) rfl rfl (by omega) (by decide) dX0_takeBack_110 ?_
    refine r_top_eq (nI d.2.1) (by rw [rs_st_ne _ _ _ (by decide)]; exact hdl.2.1) ?_
    refine r_aload_n K 0 dX0_takeBack_111 rfl rfl ?_
    refine r_getR K rfl rfl ff_0_wasFirst qw_144 dX0_takeBack_112 ?_
    refine r_aload_n K 0 dX0_takeBack_115 rfl rfl ?_
    refine r_getI K rfl rfl ff_0_size qw_146 dX0_takeBack_116 ?_
    refine r_top_eq (nI ds.length) (by simp [rs_st]) ?_
    refine r_iald K (j := ds.length) rfl rfl (by omega) (by decide) dX0_takeBack_119 ?_
    refine r_top_eq d.2.2.1 (by rw [rs_st_ne _ _ _ (by decide)]; exact hdl.2.2.1) ?_
    have hd0 : ¬ d.1 = 0 := mt (nf_eq rfl rfl (by omega) (by decide)).mpr h_2_0
    have hd1b : ¬ d.1 = 1 := mt (nf_eq rfl rfl (by omega) (by decide)).mpr h_2_1
    have hd0 : d.1 = 2 := by omega
    have hk3 : d.2.1 ≤ 2 ∧ ∃ v, v < 2 ^ 31 ∧ d.2.2.1 = nI v := hk.elim (fun h => absurd h.1 (by omega)) (fun h => h.elim (fun h => absurd h.1 (by omega)) (fun h => h.2))
    obtain ⟨v, hv1, hv2⟩ := id hk3.2
    refine r_top_eq (nI d.2.2.1.toNatClampNeg) (by rw [hv2, nI_clamp hv1]) ?_
    refine r_callVv K [.int (nI d.2.1), .int (nI d.2.2.1.toNatClampNeg)] [] dX0_takeBack_120 mf_X1_setRule (xL_0 hb) rfl qw_442 qw_282 qw_283 (c_setRule l g t (rs_st M 40 4 (nI ds.length)) 1 hb tp L hL2 d.2.1 hk3.1 d.2.2.1.toNatClampNeg) rfl rfl (by decide) (Nat.le_of_ble_eq_true rfl) (fun M1 hp => ?_)
    obtain ⟨hp1, hp2⟩ := hp
    refine hr _ _ _ dX0_takeBack_123 ⟨?_, ?_, ?_⟩
    · exact x_dd_fr hdd (fun c h1 h2 => hp2 c (by omega))
    · first | (rw [ab_undo_0 hd0]; exact hp1) | (rw [ab_undo_1 hd0]; exact hp1) | (rw [ab_undo_2 hd0]; exact hp1)
    · intro c h1 h2
      rw [hp2 c (by omega), rs_st_ne _ _ _ (by omega)]
end
section
/-! bounds of numbers, and the search for the cheapest rows -/
theorem ab_bm {x : Int} (h1 : -2147483648 ≤ x) (h2 : x < 2147483648) : x.bmod (2 ^ 32) = x := by
  rw [Int.bmod_def]
  split <;> omega
theorem ab_addI {a b : Int32} (h1 : -2147483648 ≤ a.toInt + b.toInt) (h2 : a.toInt + b.toInt < 2147483648) : (a + b).toInt = a.toInt + b.toInt := by rw [Int32.toInt_add, ab_bm h1 h2]
theorem ab_subI {a b : Int32} (h1 : -2147483648 ≤ a.toInt - b.toInt) (h2 : a.toInt - b.toInt < 2147483648) : (a - b).toInt = a.toInt - b.toInt := by rw [Int32.toInt_sub, ab_bm h1 h2]
theorem ab_mulI {a b : Int32} (h1 : -2147483648 ≤ a.toInt * b.toInt) (h2 : a.toInt * b.toInt < 2147483648) : (a * b).toInt = a.toInt * b.toInt := by rw [Int32.toInt_mul, ab_bm h1 h2]
def ab_bd (x : Int32) (B : Int) : Prop := -B ≤ x.toInt ∧ x.toInt ≤ B
theorem ab_bd_add {x y : Int32} {A B : Int} (hx : ab_bd x A) (hy : ab_bd y B) (h : A + B < 2147483648) : ab_bd (x + y) (A + B) := by
  obtain ⟨h1, h2⟩ := hx
  obtain ⟨h3, h4⟩ := hy
  rw [ab_bd, ab_addI (by omega) (by omega)]
  omega
theorem ab_bd_sub {x y : Int32} {A B : Int} (hx : ab_bd x A) (hy : ab_bd y B) (h : A + B < 2147483648) : ab_bd (x - y) (A + B) := by
  obtain ⟨h1, h2⟩ := hx
  obtain ⟨h3, h4⟩ := hy
  rw [ab_bd, ab_subI (by omega) (by omega)]
  omega
theorem ab_bd_mono {x : Int32} {A B : Int} (hx : ab_bd x A) (h : A ≤ B) : ab_bd x B := ⟨by have := hx.1; omega, by have := hx.2; omega⟩
/-- a taper -/
def ab_tp (tp : Int32) : Prop := tp = 1 ∨ tp = 2 ∨ tp = 3
theorem ab_leanX_bd1 : ∀ k, k < 8 → (-6 ≤ ((1 : Int32) * rs_lX k).toInt ∧ ((1 : Int32) * rs_lX k).toInt ≤ 6) ∧ (-6 ≤ ((2 : Int32) * rs_lX k).toInt ∧ ((2 : Int32) * rs_lX k).toInt ≤ 6) ∧ (-6 ≤ ((3 : Int32) * rs_lX k).toInt ∧ ((3 : Int32) * rs_lX k).toInt ≤ 6) := by decide
theorem ab_leanY_bd1 : ∀ k, k < 8 → (-6 ≤ ((1 : Int32) * rs_lY k).toInt ∧ ((1 : Int32) * rs_lY k).toInt ≤ 6) ∧ (-6 ≤ ((2 : Int32) * rs_lY k).toInt ∧ ((2 : Int32) * rs_lY k).toInt ≤ 6) ∧ (-6 ≤ ((3 : Int32) * rs_lY k).toInt ∧ ((3 : Int32) * rs_lY k).toInt ≤ 6) := by decide
theorem ab_leanX_bd {tp : Int32} (h : ab_tp tp) {k : Nat} (hk : k < 8) : ab_bd (tp * rs_lX k) 6 := by
  rcases h with rfl | rfl | rfl
  · exact (ab_leanX_bd1 k hk).1
  · exact (ab_leanX_bd1 k hk).2.1
  · exact (ab_leanX_bd1 k hk).2.2
theorem ab_leanY_bd {tp : Int32} (h : ab_tp tp) {k : Nat} (hk : k < 8) : ab_bd (tp * rs_lY k) 6 := by
  rcases h with rfl | rfl | rfl
  · exact (ab_leanY_bd1 k hk).1
  · exact (ab_leanY_bd1 k hk).2.1
  · exact (ab_leanY_bd1 k hk).2.2
def ab_gbd (q : ab_P) (m : Int) : Prop := ab_bd q.1 (6 * m) ∧ ab_bd q.2.1 (6 * m) ∧ ab_bd q.2.2.1 (102 * m) ∧ ab_bd q.2.2.2 (102 * m)
theorem ab_step_bd {tp : Int32} (h : ab_tp tp) {k : Nat} (hk : k < 8) {q : ab_P} {m : Int} (h0 : 0 ≤ m) (hm : m < 17) (hq : ab_gbd q m) : ab_gbd (ab_step tp q k) (m + 1) := by
  obtain ⟨h1, h2, h3, h4⟩ := hq
  have a1 := ab_bd_add h1 (ab_leanX_bd h hk) (by omega)
  have a2 := ab_bd_add h2 (ab_leanY_bd h hk) (by omega)
  exact ⟨ab_bd_mono a1 (by omega), ab_bd_mono a2 (by omega), ab_bd_mono (ab_bd_add h3 a1 (by omega)) (by omega), ab_bd_mono (ab_bd_add h4 a2 (by omega)) (by omega)⟩
theorem ab_fold_bd {tp : Int32} (h : ab_tp tp) : ∀ (ks : List Nat) (q : ab_P) (m : Nat), (∀ k ∈ ks, k < 8) → m + ks.length ≤ 17 → ab_gbd q m → ab_gbd (ks.foldl (ab_step tp) q) ((m + ks.length : Nat) : Int)
  | [], q, m, _, _, hq => hq
  | k :: ks, q, m, hk, hm, hq => by
    simp only [List.length_cons] at hm
    have h1 := ab_step_bd h (hk k List.mem_cons_self) (m := (m : Int)) (by omega) (by omega) hq
    have h2 := ab_fold_bd h ks (ab_step tp q k) (m + 1) (fun k' h' => hk k' (List.mem_cons_of_mem _ h')) (by omega) (by
      rw [show ((m + 1 : Nat) : Int) = (m : Int) + 1 by omega]; exact h1)
    rw [List.foldl_cons]
    rw [show m + (k :: ks).length = m + 1 + ks.length by simp only [List.length_cons]; omega]
    exact h2
theorem ab_geo_bd {tp : Int32} (h : ab_tp tp) {ks : List Nat} (hk : ∀ k ∈ ks, k < 8) (hm : ks.length ≤ 17) : ab_bd (ab_geo tp ks).2.2.1 1734 ∧ ab_bd (ab_geo tp ks).2.2.2 1734 := by
  have := ab_fold_bd h ks (0, 0, 0, 0) 0 hk (by omega) (by refine ⟨?_, ?_, ?_, ?_⟩ <;> (constructor <;> decide))
  exact ⟨ab_bd_mono this.2.2.1 (by omega), ab_bd_mono this.2.2.2 (by omega)⟩
theorem ab_abs_bd {x : Int32} {B : Int} (h : ab_bd x B) (hB : B < 2147483648) : 0 ≤ (ab_abs x).toInt ∧ (ab_abs x).toInt ≤ B := by
  obtain ⟨h1, h2⟩ := h
  have z : (0 : Int32).toInt = 0 := by decide
  unfold ab_abs
  split
  · rename_i hx
    have := Int32.le_iff_toInt_le.mp hx
    omega
  · rename_i hx
    have hx2 := Int32.lt_iff_toInt_lt.mp (Int32.not_le.mp hx)
    rw [ab_subI (by omega) (by omega)]
    omega
theorem ab_sq_bd {x : Int32} (h1 : 0 ≤ x.toInt) (h2 : x.toInt ≤ 1833) : 0 ≤ (x * x).toInt ∧ (x * x).toInt ≤ 3359889 := by
  have a : 0 ≤ x.toInt * x.toInt := Int.mul_nonneg h1 h1
  have b : x.toInt * x.toInt ≤ 1833 * 1833 := Int.mul_le_mul h2 h2 h1 (by decide)
  rw [ab_mulI (by omega) (by omega)]
  omega
theorem ab_cost_bd {tp : Int32} (h : ab_tp tp) {L : ab_L} (hok : ab_ok L) {ks : List Nat} (hk : ∀ k ∈ ks, k < 8) (hm : ks.length ≤ 17) : 0 ≤ (ab_cost L ks.length (ab_geo tp ks).2.2.1 (ab_geo tp ks).2.2.2).toInt ∧ (ab_cost L ks.length (ab_geo tp ks).2.2.1 (ab_geo tp ks).2.2.2).toInt ≤ 7000000 := by
  obtain ⟨gx, gy⟩ := ab_geo_bd h hk hm
  obtain ⟨w1, w2, w3, w4⟩ := hok.2.2.2.2.2.1 ks.length hm
  obtain ⟨x1, x2⟩ := ab_abs_bd (ab_bd_sub gx (B := 99) ⟨w1, w2⟩ (by omega)) (by omega)
  obtain ⟨y1, y2⟩ := ab_abs_bd (ab_bd_sub gy (B := 99) ⟨w3, w4⟩ (by omega)) (by omega)
  unfold ab_cost
  generalize ab_abs ((ab_geo tp ks).2.2.1 - ab_wx L ks.length) = dx at *
  generalize ab_abs ((ab_geo tp ks).2.2.2 - ab_wy L ks.length) = dy at *
  unfold ab_way_cost
  split
  · split <;> omega
  · obtain ⟨a1, a2⟩ := ab_sq_bd (x := dx) (by omega) (by omega)
    obtain ⟨b1, b2⟩ := ab_sq_bd (x := dy) (by omega) (by omega)
    rw [ab_addI (by omega) (by omega)]
    omega
  · rw [ab_addI (by omega) (by omega)]
    omega
/-- what is found: how many rows, the least cost, the first row -/
abbrev ab_A : Type := Nat × Int32 × List Nat
def ab_note (a : ab_A) (sum : Int32) (p : List Nat) : ab_A := if 0 < a.1 ∧ sum = a.2.1 then (a.1 + 1, a.2.1, a.2.2) else if a.1 = 0 ∨ sum < a.2.1 then (1, sum, p) else a
def ab_kfold (F : Nat → ab_A → ab_A) : Nat → ab_A → ab_A
  | 0, a => a
  | k + 1, a => F k (ab_kfold F k a)
/-- what the ring behind the keys ks costs -/
def ab_lcost (tp : Int32) (L : ab_L) (ks : List Nat) : Int32 := ab_cost L ks.length (ab_geo tp ks).2.2.1 (ab_geo tp ks).2.2.2
noncomputable def ab_srch (tp : Int32) (L : ab_L) (ks : List Nat) : Nat → List Nat → Int32 → ab_A → ab_A
  | 0 => fun p sum a => ab_note a sum p
  | r + 1 => fun p sum a => ab_kfold (fun k a => @ite ab_A (ab_may tp L (ks ++ p) k) (Classical.propDecidable _) (ab_srch tp L ks r (p ++ [k]) (sum + ab_lcost tp L (ks ++ p ++ [k])) a) a) 8 a
noncomputable def ab_plan (tp : Int32) (L : ab_L) (h : Nat) : ab_A := ab_srch tp L (ab_ks L) h [] 0 (0, 0, [])
theorem ab_note_rows (a : ab_A) (sum : Int32) (p : List Nat) : (ab_note a sum p).1 ≤ a.1 + 1 := by
  unfold ab_note
  split
  · exact Nat.le_refl _
  · split
    · simp
    · omega
theorem ab_kfold_rows {F : Nat → ab_A → ab_A} {B : Nat} (h : ∀ k a, (F k a).1 ≤ a.1 + B) : ∀ (n : Nat) (a : ab_A), (ab_kfold F n a).1 ≤ a.1 + n * B
  | 0, a => by simp [ab_kfold]
  | n + 1, a => by
    have h1 := h n (ab_kfold F n a)
    have h2 := ab_kfold_rows h n a
    simp only [ab_kfold]
    rw [Nat.add_mul]
    omega
theorem ab_srch_rows (tp : Int32) (L : ab_L) (ks : List Nat) : ∀ (r : Nat) (p : List Nat) (sum : Int32) (a : ab_A), (ab_srch tp L ks r p sum a).1 ≤ a.1 + 8 ^ r
  | 0, p, sum, a => ab_note_rows a sum p
  | r + 1, p, sum, a => by
    simp only [ab_srch]
    have := ab_kfold_rows (F := fun k a => @ite ab_A (ab_may tp L (ks ++ p) k) (Classical.propDecidable _) (ab_srch tp L ks r (p ++ [k]) (sum + ab_lcost tp L (ks ++ p ++ [k])) a) a) (B := 8 ^ r) (fun k a => by
      split
      · exact ab_srch_rows tp L ks r _ _ a
      · exact Nat.le_add_right _ _) 8 a
    rw [Nat.pow_succ]
    omega
theorem ab_kfold_same {F : Nat → ab_A → ab_A} {a : ab_A} : ∀ (n : Nat), (∀ k, k < n → F k a = a) → ab_kfold F n a = a
  | 0, _ => rfl
  | n + 1, h => by
    simp only [ab_kfold]
    rw [ab_kfold_same n (fun k hk => h k (by omega))]
    exact h n (by omega)
/-- a row that is dearer already stays so -/
theorem ab_srch_skip {tp : Int32} (ht : ab_tp tp) {L : ab_L} (hok : ab_ok L) {ks : List Nat} (hks : ∀ k ∈ ks, k < 8) (h12 : ks.length ≤ 12) : ∀ (r : Nat) (p : List Nat) (sum : Int32) (a : ab_A), (∀ k ∈ p, k < 8) → p.length + r ≤ 5 → 0 ≤ sum.toInt → sum.toInt ≤ 7000000 * p.length → 0 < a.1 → a.2.1 < sum → ab_srch tp L ks r p sum a = a
  | 0, p, sum, a, _, _, _, _, h0, hl => by
    have h1 : ¬ sum = a.2.1 := fun e => by rw [e] at hl; exact Int32.lt_irrefl hl
    have h2 : ¬ sum < a.2.1 := fun e => Int32.lt_irrefl (Int32.lt_trans hl e)
    simp only [ab_srch, ab_note]
    rw [if_neg (fun q => h1 q.2), if_neg (fun q => q.elim (fun q => by omega) (fun q => h2 q))]
  | r + 1, p, sum, a, hp, hr, s0, s1, h0, hl => by
    simp only [ab_srch]
    refine ab_kfold_same 8 (fun k hk => ?_)
    split
    · have hp2 : ∀ k' ∈ p ++ [k], k' < 8 := by
        intro k' h'
        rcases List.mem_append.mp h' with q | q
        · exact hp k' q
        · simp at q; omega
      have hl2 : (p ++ [k]).length = p.length + 1 := by simp
      have hall : ∀ k' ∈ ks ++ p ++ [k], k' < 8 := by
        intro k' h'
        rw [List.append_assoc] at h'
        rcases List.mem_append.mp h' with q | q
        · exact hks k' q
        · exact hp2 k' q
      have hc := ab_cost_bd ht hok hall (by rw [List.append_assoc, List.length_append, hl2]; omega)
      have hc1 : 0 ≤ (ab_lcost tp L (ks ++ p ++ [k])).toInt := hc.1
      have hc2 : (ab_lcost tp L (ks ++ p ++ [k])).toInt ≤ 7000000 := hc.2
      have e : (sum + ab_lcost tp L (ks ++ p ++ [k])).toInt = sum.toInt + (ab_lcost tp L (ks ++ p ++ [k])).toInt := ab_addI (by omega) (by omega)
      refine ab_srch_skip ht hok hks h12 r (p ++ [k]) _ a hp2 (by omega) (by omega) (by rw [hl2]; omega) h0 ?_
      rw [Int32.lt_iff_toInt_lt] at hl ⊢
      omega
    · rfl
end
section
theorem ab_lt_of {x y : Int32} (h : x ≤ y) (hn : ¬ x = y) : x < y := by
  rw [Int32.lt_iff_toInt_lt]
  have h1 := Int32.le_iff_toInt_le.mp h
  have h2 : x.toInt ≠ y.toInt := fun e => hn (Int32.toInt_inj.mp e)
  omega
theorem xS_e : ∀ j, j < 6 → ([48, 49, 50, 51, 52, 53] : List Nat)[j]? = some (48 + j) := by decide
theorem xS_s : ∀ j, j < 6 → xk[48 + j]? = some x_spot := by decide
/-- what the search holds: rows, least, first row -/
def x_acc (M : rs_M) (h : Nat) (a : ab_A) : Prop := M 45 3 = nI a.1 ∧ (0 < a.1 → M 45 4 = a.2.1 ∧ ∀ i, i < h → M 47 i = nI (a.2.2.getD i 0))
theorem x_acc_fr {M M1 : rs_M} {h : Nat} {a : ab_A} (hx : x_acc M h a) (e1 : M1 45 = M 45) (e2 : M1 47 = M 47) : x_acc M1 h a := ⟨by rw [e1]; exact hx.1, fun q => ⟨by rw [e1]; exact (hx.2 q).1, fun i hi => by rw [e2]; exact (hx.2 q).2 i hi⟩⟩
def x_nI (M Mi : rs_M) (h : Nat) (sum : Int32) (p : List Nat) (i : Nat) : Prop := Mi 45 3 = 1 ∧ Mi 45 4 = sum ∧ Mi 45 2 = nI h ∧ (∀ j, j < i → Mi 47 j = nI (p.getD j 0)) ∧ ∀ c, c ≠ 45 → c ≠ 47 → Mi c = M c
theorem x_nI_s {M Mi : rs_M} {h : Nat} {sum : Int32} {p : List Nat} {i : Nat} (hI : x_nI M Mi h sum p i) : x_nI M (rs_st Mi 47 i (nI (p.getD i 0))) h sum p (i + 1) := by
  obtain ⟨h1, h2, h3, h4, h5⟩ := hI
  refine ⟨by rw [rs_st_ne _ _ _ (by decide)]; exact h1, by rw [rs_st_ne _ _ _ (by decide)]; exact h2, by rw [rs_st_ne _ _ _ (by decide)]; exact h3, fun j hj => ?_, fun c c1 c2 => by rw [rs_st_ne _ _ _ c2]; exact h5 c c1 c2⟩
  by_cases e : j = i
  · subst e; rw [rs_st_eq]
  · rw [rs_st_nk _ _ _ e]; exact h4 j (by omega)
set_option maxHeartbeats 4000000 in
set_option maxRecDepth 100000 in
theorem c_note (l : Launch) (g : rs_G) (t : Nat × Nat) (M : rs_M) (h : Nat) (h5 : h ≤ 5) (h2 : M 45 2 = nI h) (a : ab_A) (ha : x_acc M h a) (hab : a.1 < 1000000) (sum : Int32) (p : List Nat) (hp : ∀ i, i < h → M (48 + (i + 1)) 1 = nI (p.getD i 0)) (hs : a.1 = 0 ∨ sum ≤ a.2.1) : rs_Cv l g xk t yX3_note cX3_note 3 0 [.ref (g.2.2 45), .int sum] M (fun M1 => x_acc M1 h (ab_note a sum p) ∧ M1 45 2 = nI h ∧ ∀ c, c ≠ 45 → c ≠ 47 → M1 c = M c) := by
  refine rs_ofv (plainFor_of_name (by decide)) (Nat.le_of_ble_eq_true rfl) ?_
  intro Y K hr
  show Y M 0 [(0, .ref (g.2.2 45)), (1, .int sum)] []
  have jn : (ab_note a sum p = (1, sum, p)) → Y M 26 [(0, .ref (g.2.2 45)), (1, .int sum)] [] := by
    intro hN
    refine r_aload_n K 0 dX3_note_26 rfl rfl ?_
    refine r_iconst K (v := 1) dX3_note_27 (by decide) ?_
    refine r_put K rfl rfl ff_3_rows qw_172 rfl rfl dX3_note_28 ?_
    refine r_aload_n K 0 dX3_note_31 rfl rfl ?_
    refine r_iload_n K 1 dX3_note_32 rfl rfl ?_
    refine r_put K rfl rfl ff_3_least qw_174 rfl rfl dX3_note_33 ?_
    refine r_iconst K (v := 0) dX3_note_36 (by decide) ?_
    refine r_istore_n K [(2, .int 0), (0, .ref (g.2.2 45)), (1, .int sum)] dX3_note_37 rfl (by decide) rfl ?_
    have lp : ∀ (f : Nat) (i : Nat) (Mi : rs_M), (5 - i < f) → (i ≤ h) → (x_nI M Mi h sum p i) → Y Mi 38 [(2, .int (nI i)), (0, .ref (g.2.2 45)), (1, .int sum)] [] := by
      intro f
      induction f with
      | zero =>
        intro i Mi hf
        exact absurd hf (Nat.not_lt_zero _)
      | succ f ih =>
        intro i Mi hf hi hI
        refine r_iload_n K 0 dX3_note_38 rfl rfl ?_
        refine r_aload_n K 1 dX3_note_39 rfl rfl ?_
        refine r_getI K rfl rfl ff_3_ahead qw_170 dX3_note_40 ?_
        refine r_top_eq (nI h) hI.2.2.1 ?_
        refine r_icmp_ge K 74 dX3_note_43 (by decide) (fun h_1 => ?_) (fun h_1 => ?_)
        · have nh_1 : h ≤ i := (nf_le rfl rfl (by omega) (by omega)).mp h_1
          have hih : i = h := by omega
          subst hih
          refine hr _ _ _ dX3_note_74 ⟨?_, hI.2.2.1, hI.2.2.2.2⟩
          rw [hN]
          exact ⟨hI.1, fun q => ⟨hI.2.1, hI.2.2.2.1⟩⟩
        · have nh_1 : ¬ h ≤ i := mt (nf_le rfl rfl (by omega) (by omega)).mpr h_1
          refine r_iload_n K 0 dX3_note_46 rfl rfl ?_
          refine r_iconst K (v := 5) dX3_note_47 (by decide) ?_
          refine r_icmp_ge K 74 dX3_note_48 (by decide) (fun h_2 => ?_) (fun h_2 => ?_)
          · have nh_2 : 5 ≤ i := (nf_le rfl rfl (by omega) (by omega)).mp h_2
            have hih : i = h := by omega
            subst hih
            refine hr _ _ _ dX3_note_74 ⟨?_, hI.2.2.1, hI.2.2.2.2⟩
            rw [hN]
            exact ⟨hI.1, fun q => ⟨hI.2.1, hI.2.2.2.1⟩⟩
          · have nh_2 : ¬ 5 ≤ i := mt (nf_le rfl rfl (by omega) (by omega)).mpr h_2
            refine r_aload_n K 1 dX3_note_51 rfl rfl ?_
            refine r_getR K rfl rfl ff_3_firstRow qw_168 dX3_note_52 ?_
            refine r_iload_n K 0 dX3_note_55 rfl rfl ?_
            refine r_aload_n K 1 dX3_note_56 rfl rfl ?_
            refine r_getR K rfl rfl ff_3_spots qw_167 dX3_note_57 ?_
            refine r_iload_n K 0 dX3_note_60 rfl rfl ?_
            refine r_iconst K (v := 1) dX3_note_61 (by decide) ?_
            refine r_iadd K dX3_note_62 ?_
            refine r_aaldS K (j := i + 1) rfl (nI_1 i) (xS_e _ (by omega)) (by omega) (by decide) dX3_note_63 ?_
            refine r_getI K (xS_s _ (by omega)) rfl ff_4_key qw_34 dX3_note_64 ?_
            refine r_top_eq (nI (p.getD i 0)) (by rw [hI.2.2.2.2 _ (by omega) (by omega)]; exact hp i (by omega)) ?_
            refine r_iast K (j := i) rfl rfl (by omega) (by decide) dX3_note_67 ?_
            refine r_iinc_n K 0 [(2, .int (nI (i + 1))), (0, .ref (g.2.2 45)), (1, .int sum)] dX3_note_68 rfl (by decide) rfl ?_
            refine r_goto K 38 dX3_note_71 (by decide) ?_
            exact ih (i + 1) _ (by omega) (by omega) (x_nI_s hI)
    exact lp 6 0 _ (by omega) (by omega) ⟨by simp [rs_st], by simp [rs_st], by simp [rs_st]; exact h2, fun j hj => absurd hj (Nat.not_lt_zero _), fun c c1 c2 => by rw [rs_st_ne _ _ _ c1, rs_st_ne _ _ _ c1]⟩
  refine r_aload_n K 0 dX3_note_0 rfl rfl ?_
  refine r_getI K rfl rfl ff_3_rows qw_172 dX3_note_1 ?_
  refine r_top_eq (nI a.1) ha.1 ?_
  refine r_if_le K 26 dX3_note_4 (by decide) (fun h_3 => ?_) (fun h_3 => ?_)
  · have nh_3 : a.1 ≤ 0 := (nf_le rfl rfl (by omega) (by omega)).mp h_3
    exact jn (by rw [ab_note, if_neg (fun q => by omega), if_pos (Or.inl (by omega))])
  · have nh_3 : ¬ a.1 ≤ 0 := mt (nf_le rfl rfl (by omega) (by omega)).mpr h_3
    refine r_iload_n K 1 dX3_note_7 rfl rfl ?_
    refine r_aload_n K 0 dX3_note_8 rfl rfl ?_
    refine r_getI K rfl rfl ff_3_least qw_174 dX3_note_9 ?_
    refine r_top_eq a.2.1 (ha.2 (by omega)).1 ?_
    refine r_icmp_ne K 26 dX3_note_12 (by decide) (fun h_4 => ?_) (fun h_4 => ?_)
    · exact jn (by rw [ab_note, if_neg (fun q => h_4 q.2), if_pos (Or.inr (hs.elim (fun q => absurd q (by omega)) (fun q => ab_lt_of q h_4)))])
    · refine r_aload_n K 0 dX3_note_15 rfl rfl ?_
      refine r_dup K dX3_note_16 rfl ?_
      refine r_getI K rfl rfl ff_3_rows qw_172 dX3_note_17 ?_
      refine r_top_eq (nI a.1) ha.1 ?_
      refine r_iconst K (v := 1) dX3_note_20 (by decide) ?_
      refine r_iadd K dX3_note_21 ?_
      refine r_top_eq (nI (a.1 + 1)) (nI_1 _) ?_
      refine r_put K rfl rfl ff_3_rows qw_172 rfl rfl dX3_note_22 ?_
      refine hr _ _ _ dX3_note_25 ⟨?_, by rw [rs_st_nk _ _ _ (by decide)]; exact h2, fun c c1 c2 => rs_st_ne _ _ _ c1⟩
      rw [ab_note, if_pos ⟨by omega, h_4⟩]
      exact ⟨by rw [rs_st_eq], fun q => ⟨by rw [rs_st_nk _ _ _ (by decide)]; exact (ha.2 (by omega)).1, fun i hi => by rw [rs_st_ne _ _ _ (by decide)]; exact (ha.2 (by omega)).2 i hi⟩⟩
/-- before extend: r keys are still to come behind the keys p -/
def x_eP (M : rs_M) (tp : Int32) (L : ab_L) (h r : Nat) (p : List Nat) (sum : Int32) (a : ab_A) : Prop :=
  x_ln M 1 tp L ∧ M 45 2 = nI h ∧ p.length + r = h ∧ (∀ k ∈ p, k < 8) ∧ x_sp M (48 + p.length) tp (ab_ks L ++ p) ∧ (∀ i, i < p.length → M (48 + (i + 1)) 1 = nI (p.getD i 0)) ∧ x_acc M h a ∧ (a.1 = 0 ∨ sum ≤ a.2.1) ∧ 0 ≤ sum.toInt ∧ sum.toInt ≤ 7000000 * p.length ∧ a.1 + 8 ^ r ≤ 900000
def x_eQ (M M1 : rs_M) (h : Nat) (p : List Nat) (a : ab_A) : Prop := x_acc M1 h a ∧ M1 45 2 = nI h ∧ ∀ c, ¬ (c = 45 ∨ c = 47 ∨ (48 + p.length < c ∧ c < 54)) → M1 c = M c
noncomputable def ab_F (tp : Int32) (L : ab_L) (r : Nat) (p : List Nat) (sum : Int32) : Nat → ab_A → ab_A := fun k a => @ite ab_A (ab_may tp L (ab_ks L ++ p) k) (Classical.propDecidable _) (ab_srch tp L (ab_ks L) r (p ++ [k]) (sum + ab_lcost tp L (ab_ks L ++ p ++ [k])) a) a
theorem ab_F_rows (tp : Int32) (L : ab_L) (r : Nat) (p : List Nat) (sum : Int32) (k : Nat) (a : ab_A) : (ab_F tp L r p sum k a).1 ≤ a.1 + 8 ^ r := by
  unfold ab_F
  split
  · exact ab_srch_rows tp L _ r _ _ a
  · exact Nat.le_add_right _ _
theorem ab_8k (r : Nat) {k : Nat} (hk : k ≤ 8) : k * 8 ^ r ≤ 8 ^ (r + 1) := by
  rw [Nat.pow_succ, Nat.mul_comm]
  exact Nat.mul_le_mul_left _ hk
set_option maxHeartbeats 4000000 in
set_option maxRecDepth 100000 in
theorem c_extend0 (l : Launch) (g : rs_G) (t : Nat × Nat) (M : rs_M) (hb : xL 1) (tp : Int32) (ht : ab_tp tp) (L : ab_L) (hok : ab_ok L) (h : Nat) (h1 : 1 ≤ h) (h5 : h ≤ 5) (p : List Nat) (sum : Int32) (a : ab_A) (hP : x_eP M tp L h 0 p sum a) : rs_Cv l g xk t yX3_extend cX3_extend 8 3 [.ref (g.2.2 45), .ref (g.2.2 1), .int (nI p.length), .int sum] M (fun M1 => x_eQ M M1 h p (ab_srch tp L (ab_ks L) 0 p sum a)) := by
  have hlen : p.length + 0 = h := hP.2.2.1
  have hrows : a.1 + 8 ^ 0 ≤ 900000 := hP.2.2.2.2.2.2.2.2.2.2
  refine rs_ofv (plainFor_of_name (by decide)) (Nat.le_of_ble_eq_true rfl) ?_
  intro Y K hr
  show Y M 0 [(0, .ref (g.2.2 45)), (1, .ref (g.2.2 1)), (2, .int (nI p.length)), (3, .int sum)] []
  refine r_iload_n K 2 dX3_extend_0 rfl rfl ?_
  refine r_if_lt K 17 dX3_extend_1 (by decide) (fun h9 => absurd h9 (nI_pos (by omega))) (fun _ => ?_)
  refine r_iload_n K 2 dX3_extend_4 rfl rfl ?_
  refine r_aload_n K 0 dX3_extend_5 rfl rfl ?_
  refine r_getI K rfl rfl ff_3_ahead qw_170 dX3_extend_6 ?_
  refine r_top_eq (nI h) hP.2.1 ?_
  refine r_icmp_ge K 17 dX3_extend_9 (by decide) (fun _ => ?_) (fun h9 => absurd ((nf_le (X := h) (Y := p.length) rfl rfl (by omega) (by omega)).mpr (by omega)) h9)
  refine r_aload_n K 0 dX3_extend_17 rfl rfl ?_
  refine r_iload_n K 3 dX3_extend_18 rfl rfl ?_
  refine r_callVv K [.int sum] [] dX3_extend_19 mf_X3_note rfl rfl qw_403 qw_405 qs_14 (c_note l g t M h h5 hP.2.1 a hP.2.2.2.2.2.2.1 (by omega) sum p (fun i hi => hP.2.2.2.2.2.1 i (by omega)) hP.2.2.2.2.2.2.2.1) rfl rfl (by decide) (Nat.le_of_ble_eq_true rfl) (fun M1 hp => ?_)
  obtain ⟨hp1, hp2, hp3⟩ := hp
  exact hr _ _ _ dX3_extend_22 ⟨hp1, hp2, fun c hc => hp3 c (by omega) (by omega)⟩
set_option maxHeartbeats 4000000 in
set_option maxRecDepth 100000 in
theorem c_extendS (l : Launch) (g : rs_G) (t : Nat × Nat) (M : rs_M) (hb : xL 1) (tp : Int32) (ht : ab_tp tp) (L : ab_L) (hok : ab_ok L) (h : Nat) (h1 : 1 ≤ h) (h5 : h ≤ 5) (r : Nat) (IH : ∀ (M : rs_M) (p : List Nat) (sum : Int32) (a : ab_A), x_eP M tp L h r p sum a → rs_Cv l g xk t yX3_extend cX3_extend 8 (3 + r) [.ref (g.2.2 45), .ref (g.2.2 1), .int (nI p.length), .int sum] M (fun M1 => x_eQ M M1 h p (ab_srch tp L (ab_ks L) r p sum a))) (p : List Nat) (sum : Int32) (a : ab_A) (hP : x_eP M tp L h (r + 1) p sum a) : rs_Cv l g xk t yX3_extend cX3_extend 8 (3 + (r + 1)) [.ref (g.2.2 45), .ref (g.2.2 1), .int (nI p.length), .int sum] M (fun M1 => x_eQ M M1 h p (ab_srch tp L (ab_ks L) (r + 1) p sum a)) := by
  have hlen : p.length + (r + 1) = h := hP.2.2.1
  have hrows : a.1 + 8 ^ (r + 1) ≤ 900000 := hP.2.2.2.2.2.2.2.2.2.2
  have h8 : ∀ x ∈ ab_ks L ++ p, x < 8 := fun x hx => (List.mem_append.mp hx).elim (fun q => hok.2.1 x q) (fun q => hP.2.2.2.1 x q)
  have hn12 := hok.1
  refine rs_ofv (plainFor_of_name (by decide)) (Nat.le_of_ble_eq_true rfl) ?_
  intro Y K hr
  show Y M 0 [(0, .ref (g.2.2 45)), (1, .ref (g.2.2 1)), (2, .int (nI p.length)), (3, .int sum)] []
  refine r_iload_n K 2 dX3_extend_0 rfl rfl ?_
  refine r_if_lt K 17 dX3_extend_1 (by decide) (fun h9 => absurd h9 (nI_pos (by omega))) (fun _ => ?_)
  refine r_iload_n K 2 dX3_extend_4 rfl rfl ?_
  refine r_aload_n K 0 dX3_extend_5 rfl rfl ?_
  refine r_getI K rfl rfl ff_3_ahead qw_170 dX3_extend_6 ?_
  refine r_top_eq (nI h) hP.2.1 ?_
  refine r_icmp_ge K 17 dX3_extend_9 (by decide) (fun h9 => absurd h9 (mt (nf_le (X := h) (Y := p.length) rfl rfl (by omega) (by omega)).mp (by omega))) (fun _ => ?_)
  refine r_iload_n K 2 dX3_extend_12 rfl rfl ?_
  refine r_iconst K (v := 5) dX3_extend_13 (by decide) ?_
  refine r_icmp_lt K 23 dX3_extend_14 (by decide) (fun _ => ?_) (fun h9 => absurd ((nf_lt (X := p.length) (Y := 5) rfl rfl (by omega) (by decide)).mpr (by omega)) h9)
  refine r_aload_n K 0 dX3_extend_23 rfl rfl ?_
  refine r_getR K rfl rfl ff_3_spots qw_167 dX3_extend_24 ?_
  refine r_iload_n K 2 dX3_extend_27 rfl rfl ?_
  refine r_aaldS K (j := p.length) rfl rfl (xS_e _ (by omega)) (by omega) (by decide) dX3_extend_28 ?_
  refine r_astore K [(4, .ref (g.2.2 (48 + p.length))), (0, .ref (g.2.2 45)), (1, .ref (g.2.2 1)), (2, .int (nI p.length)), (3, .int sum)] dX3_extend_29 (by decide) rfl ?_
  refine r_aload_n K 1 dX3_extend_31 rfl rfl ?_
  refine r_getR K rfl rfl ff_3_spots qw_167 dX3_extend_32 ?_
  refine r_iload_n K 3 dX3_extend_35 rfl rfl ?_
  refine r_iconst K (v := 1) dX3_extend_36 (by decide) ?_
  refine r_iadd K dX3_extend_37 ?_
  refine r_aaldS K (j := p.length + 1) rfl (nI_1 _) (xS_e _ (by omega)) (by omega) (by decide) dX3_extend_38 ?_
  refine r_astore K [(5, .ref (g.2.2 (48 + (p.length + 1)))), (4, .ref (g.2.2 (48 + p.length))), (0, .ref (g.2.2 45)), (1, .ref (g.2.2 1)), (2, .int (nI p.length)), (3, .int sum)] dX3_extend_39 (by decide) rfl ?_
  refine r_iconst K (v := 0) dX3_extend_41 (by decide) ?_
  refine r_istore K [(6, .int 0), (5, .ref (g.2.2 (48 + (p.length + 1)))), (4, .ref (g.2.2 (48 + p.length))), (0, .ref (g.2.2 45)), (1, .ref (g.2.2 1)), (2, .int (nI p.length)), (3, .int sum)] dX3_extend_42 (by decide) rfl ?_
  have lp : ∀ (f : Nat) (k : Nat) (Mi : rs_M), (8 - k < f) → (k ≤ 8) → (x_eQ M Mi h p (ab_kfold (ab_F tp L r p sum) k a)) → Y Mi 44 [(6, .int (nI k)), (5, .ref (g.2.2 (48 + (p.length + 1)))), (4, .ref (g.2.2 (48 + p.length))), (0, .ref (g.2.2 45)), (1, .ref (g.2.2 1)), (2, .int (nI p.length)), (3, .int sum)] [] := by
    intro f
    induction f with
    | zero =>
      intro k Mi hf
      exact absurd hf (Nat.not_lt_zero _)
    | succ f ih =>
      intro k Mi hf hk hI
      have hLi : x_ln Mi 1 tp L := x_ln_fr hok.1 hP.1 (fun c hc => hI.2.2 c (by omega)) (lo := 45) (hi := 54) (by omega)
      have hSi : x_sp Mi (48 + p.length) tp (ab_ks L ++ p) := x_sp_same hP.2.2.2.2.1 (fun j _ => by rw [hI.2.2 _ (by omega)])
      have hrk := ab_kfold_rows (F := ab_F tp L r p sum) (B := 8 ^ r) (fun k a => ab_F_rows tp L r p sum k a) k a
      have hrk2 := ab_8k r hk
      have hrk3 : k < 8 → k * 8 ^ r + 8 ^ r ≤ 8 ^ (r + 1) := fun q => by have := ab_8k r (show k + 1 ≤ 8 by omega); rw [Nat.add_mul] at this; omega
      refine r_iload K 0 dX3_extend_44 rfl ?_
      refine r_bipush K (v := 8) dX3_extend_46 (by decide) ?_
      refine r_icmp_ge K 122 dX3_extend_48 (by decide) (fun h_1 => ?_) (fun h_1 => ?_)
      · have nh_1 : 8 ≤ k := (nf_le rfl rfl (by omega) (by omega)).mp h_1
        have hk8 : k = 8 := by omega
        subst hk8
        exact hr _ _ _ dX3_extend_122 hI
      · have nh_1 : ¬ 8 ≤ k := mt (nf_le rfl rfl (by omega) (by omega)).mpr h_1
        refine r_aload_n K 4 dX3_extend_51 rfl rfl ?_
        refine r_aload K 2 dX3_extend_52 rfl ?_
        refine r_iload K 0 dX3_extend_54 rfl ?_
        refine r_callVi K [.ref (g.2.2 (48 + p.length)), .int (nI k)] [] dX3_extend_56 mf_X1_mayFollow (xL_0 hb) rfl qw_407 qw_310 qw_311 (c_mayFollow l g t Mi 1 hb tp L hok hLi.2.2 (48 + p.length) (xS_s _ (by omega)) (ab_ks L ++ p) (by rw [List.length_append]; omega) hSi k (by omega) h8) rfl rfl (by omega) (Nat.le_of_ble_eq_true rfl) (fun r M1 hp => ?_)
        obtain ⟨hp, he⟩ := hp
        have he := he.symm
        subst he
        rcases hp with ⟨rfl, hb_2⟩ | ⟨rfl, hb_2⟩
        · refine r_if_eq K 116 dX3_extend_59 (by decide) (fun h => absurd h (by decide)) (fun _ => ?_)
          have fr2 : ∀ c, c ≠ 48 + (p.length + 1) → (x_adv (x_cp Mi (48 + (p.length + 1)) (48 + p.length)) (48 + (p.length + 1)) tp k) c = Mi c := fun c hc => by rw [x_fr_adv (lo := 48 + (p.length + 1)) (hi := 48 + (p.length + 1) + 1) (by omega) (by omega) c (by omega), x_fr_cp (lo := 48 + (p.length + 1)) (hi := 48 + (p.length + 1) + 1) (by omega) (by omega) c (by omega)]
          have hL2 : x_ln (x_adv (x_cp Mi (48 + (p.length + 1)) (48 + p.length)) (48 + (p.length + 1)) tp k) 1 tp L := x_ln_fr hok.1 hLi (fun c hc => fr2 c (by omega)) (lo := 48) (hi := 54) (by omega)
          have hS2 : x_sp (x_adv (x_cp Mi (48 + (p.length + 1)) (48 + p.length)) (48 + (p.length + 1)) tp k) (48 + (p.length + 1)) tp (ab_ks L ++ p ++ [k]) := x_sp_adv k (x_sp_cp hSi)
          have hacc2 : x_acc (x_adv (x_cp Mi (48 + (p.length + 1)) (48 + p.length)) (48 + (p.length + 1)) tp k) h (ab_kfold (ab_F tp L r p sum) k a) := x_acc_fr hI.1 (fr2 45 (by omega)) (fr2 47 (by omega))
          have hA2 : (x_adv (x_cp Mi (48 + (p.length + 1)) (48 + p.length)) (48 + (p.length + 1)) tp k) 45 2 = nI h := by rw [fr2 45 (by omega)]; exact hI.2.1
          have hpl : (p ++ [k]).length = p.length + 1 := by simp
          have hlk : (ab_ks L ++ p ++ [k]).length = (ab_ks L).length + p.length + 1 := by simp [Nat.add_assoc]
          have hp8 : ∀ k' ∈ p ++ [k], k' < 8 := fun k' h' => (List.mem_append.mp h').elim (fun q => hP.2.2.2.1 k' q) (fun q => by simp at q; omega)
          have hall : ∀ k' ∈ ab_ks L ++ p ++ [k], k' < 8 := fun k' h' => by
            rw [List.append_assoc] at h'
            exact (List.mem_append.mp h').elim (fun q => hok.2.1 k' q) (fun q => hp8 k' q)
          have hK2 : ∀ i, i < (p ++ [k]).length → (x_adv (x_cp Mi (48 + (p.length + 1)) (48 + p.length)) (48 + (p.length + 1)) tp k) (48 + (i + 1)) 1 = nI ((p ++ [k]).getD i 0) := fun i hi => by
            rw [hpl] at hi
            by_cases e : i = p.length
            · subst e
              rw [hS2.2.1, ab_last_app]
              simp
            · rw [fr2 _ (by omega), hI.2.2 _ (by omega), hP.2.2.2.2.2.1 i (by omega)]
              simp [List.getElem?_append_left (show i < p.length by omega)]
          have hcb := ab_cost_bd ht hok hall (by rw [hlk]; omega)
          have hc1 : 0 ≤ (ab_lcost tp L (ab_ks L ++ p ++ [k])).toInt := hcb.1
          have hc2 : (ab_lcost tp L (ab_ks L ++ p ++ [k])).toInt ≤ 7000000 := hcb.2
          have hs1 := hP.2.2.2.2.2.2.2.2.1
          have hs2 := hP.2.2.2.2.2.2.2.2.2.1
          have hsum : (sum + ab_lcost tp L (ab_ks L ++ p ++ [k])).toInt = sum.toInt + (ab_lcost tp L (ab_ks L ++ p ++ [k])).toInt := ab_addI (by omega) (by omega)
          refine r_aload K 1 dX3_extend_62 rfl ?_
          refine r_aload K 2 dX3_extend_64 rfl ?_
          refine r_callVv K [.ref (g.2.2 (48 + p.length))] [] dX3_extend_66 mf_X4_copy (xS_s _ (by omega)) rfl qw_399 qw_343 qw_344 (c_Spot_copy l g t Mi (48 + (p.length + 1)) (48 + p.length) (xS_s _ (by omega)) (xS_s _ (by omega))) rfl rfl (by omega) (Nat.le_of_ble_eq_true rfl) (fun M1 hp => ?_)
          subst hp
          refine r_aload K 1 dX3_extend_69 rfl ?_
          refine r_iload K 0 dX3_extend_71 rfl ?_
          refine r_aload_n K 4 dX3_extend_73 rfl rfl ?_
          refine r_getI K (xL_0 hb) rfl ff_1_taper qw_73 dX3_extend_74 ?_
          refine r_top_eq tp (by rw [x_fr_cp (lo := 48) (hi := 54) (by omega) (by omega) 1 (by omega)]; exact hLi.2.2.1) ?_
          refine r_callVv K [.int (nI k), .int tp] [] dX3_extend_77 mf_X4_advance (xS_s _ (by omega)) rfl qw_408 qw_347 qw_348 (c_Spot_advance l g t (x_cp Mi (48 + (p.length + 1)) (48 + p.length)) (48 + (p.length + 1)) (xS_s _ (by omega)) k (by omega) tp) rfl rfl (by omega) (Nat.le_of_ble_eq_true rfl) (fun M1 hp => ?_)
          subst hp
          refine r_iload_n K 6 dX3_extend_80 rfl rfl ?_
          refine r_aload_n K 4 dX3_extend_81 rfl rfl ?_
          refine r_aload K 1 dX3_extend_82 rfl ?_
          refine r_callVi K [.ref (g.2.2 (48 + (p.length + 1)))] [.int sum] dX3_extend_84 mf_X1_cost (xL_0 hb) rfl qw_409 qw_381 qw_382 (c_Line_cost l g t (x_adv (x_cp Mi (48 + (p.length + 1)) (48 + p.length)) (48 + (p.length + 1)) tp k) 1 hb tp L hok hL2.2.2 (48 + (p.length + 1)) (ab_ks L ++ p ++ [k]).length (xS_s _ (by omega)) (by rw [hlk]; omega) hS2.1) rfl rfl (by omega) (Nat.le_of_ble_eq_true rfl) (fun r M1 hp => ?_)
          obtain ⟨hp, he⟩ := hp
          have he := he.symm
          subst he
          subst hp
          refine r_top_eq (ab_lcost tp L (ab_ks L ++ p ++ [k])) (by rw [hS2.2.2.2.2.1, hS2.2.2.2.2.2]; rfl) ?_
          refine r_iadd K dX3_extend_87 ?_
          refine r_istore K [(7, .int (sum + (ab_lcost tp L (ab_ks L ++ p ++ [k])))), (6, .int (nI k)), (5, .ref (g.2.2 (48 + (p.length + 1)))), (4, .ref (g.2.2 (48 + p.length))), (0, .ref (g.2.2 45)), (1, .ref (g.2.2 1)), (2, .int (nI p.length)), (3, .int sum)] dX3_extend_88 (by decide) rfl ?_
          refine r_aload_n K 4 dX3_extend_90 rfl rfl ?_
          refine r_getI K rfl rfl ff_3_rows qw_172 dX3_extend_91 ?_
          refine r_top_eq (nI (ab_kfold (ab_F tp L r p sum) k a).1) hacc2.1 ?_
          refine r_if_eq K 106 dX3_extend_94 (by decide) (fun h_3 => ?_) (fun h_3 => ?_)
          · have nh_3 : (ab_kfold (ab_F tp L r p sum) k a).1 = 0 := (nf_eq rfl rfl (by omega) (by omega)).mp h_3
            refine r_aload_n K 4 dX3_extend_106 rfl rfl ?_
            refine r_aload_n K 5 dX3_extend_107 rfl rfl ?_
            refine r_iload_n K 6 dX3_extend_108 rfl rfl ?_
            refine r_iconst K (v := 1) dX3_extend_109 (by decide) ?_
            refine r_iadd K dX3_extend_110 ?_
            refine r_top_eq (nI (p ++ [k]).length) (by rw [hpl]; exact nI_1 _) ?_
            refine r_iload K 0 dX3_extend_111 rfl ?_
            have hQ : x_eP (x_adv (x_cp Mi (48 + (p.length + 1)) (48 + p.length)) (48 + (p.length + 1)) tp k) tp L h r (p ++ [k]) (sum + ab_lcost tp L (ab_ks L ++ p ++ [k])) (ab_kfold (ab_F tp L r p sum) k a) := ⟨hL2, hA2, by rw [hpl]; omega, hp8, by rw [hpl, ← List.append_assoc]; exact hS2, hK2, hacc2, Or.inl nh_3, by omega, by rw [hpl]; omega, by omega⟩
            refine r_callSv K [.ref (g.2.2 45), .ref (g.2.2 1), .int (nI (p ++ [k]).length), .int (sum + (ab_lcost tp L (ab_ks L ++ p ++ [k])))] [] dX3_extend_113 mf_X3_extend qw_400 qw_401 (IH _ (p ++ [k]) _ (ab_kfold (ab_F tp L r p sum) k a) hQ) rfl rfl (by omega) (Nat.le_of_ble_eq_true rfl) (fun M1 hp => ?_)
            refine r_iinc_n K 1 [(6, .int (nI (k + 1))), (7, .int (sum + (ab_lcost tp L (ab_ks L ++ p ++ [k])))), (5, .ref (g.2.2 (48 + (p.length + 1)))), (4, .ref (g.2.2 (48 + p.length))), (0, .ref (g.2.2 45)), (1, .ref (g.2.2 1)), (2, .int (nI p.length)), (3, .int sum)] dX3_extend_116 rfl (by decide) rfl ?_
            refine r_goto K 44 dX3_extend_119 (by decide) ?_
            refine r_sub K [0, 2, 3, 4, 5, 6, 7] rfl ?_
            have hF : ab_kfold (ab_F tp L r p sum) (k + 1) a = ab_F tp L r p sum k (ab_kfold (ab_F tp L r p sum) k a) := rfl
            have hF2 : ab_F tp L r p sum k (ab_kfold (ab_F tp L r p sum) k a) = _ := if_pos hb_2
            exact ih (k + 1) _ (by omega) (by omega) (by rw [hF, hF2]; exact ⟨hp.1, hp.2.1, fun c hc => by rw [hp.2.2 c (by rw [hpl]; omega), fr2 c (by omega)]; exact hI.2.2 c hc⟩)
          · have nh_3 : ¬ (ab_kfold (ab_F tp L r p sum) k a).1 = 0 := mt (nf_eq rfl rfl (by omega) (by omega)).mpr h_3
            refine r_iload K 0 dX3_extend_97 rfl ?_
            refine r_aload_n K 4 dX3_extend_99 rfl rfl ?_
            refine r_getI K rfl rfl ff_3_least qw_174 dX3_extend_100 ?_
            refine r_top_eq ((ab_kfold (ab_F tp L r p sum) k a).2.1) (hacc2.2 (by omega)).1 ?_
            refine r_icmp_gt K 116 dX3_extend_103 (by decide) (fun h_4 => ?_) (fun h_4 => ?_)
            · refine r_iinc_n K 1 [(6, .int (nI (k + 1))), (7, .int (sum + (ab_lcost tp L (ab_ks L ++ p ++ [k])))), (5, .ref (g.2.2 (48 + (p.length + 1)))), (4, .ref (g.2.2 (48 + p.length))), (0, .ref (g.2.2 45)), (1, .ref (g.2.2 1)), (2, .int (nI p.length)), (3, .int sum)] dX3_extend_116 rfl (by decide) rfl ?_
              refine r_goto K 44 dX3_extend_119 (by decide) ?_
              refine r_sub K [0, 2, 3, 4, 5, 6, 7] rfl ?_
              have hF : ab_kfold (ab_F tp L r p sum) (k + 1) a = ab_F tp L r p sum k (ab_kfold (ab_F tp L r p sum) k a) := rfl
              have hF2 : ab_F tp L r p sum k (ab_kfold (ab_F tp L r p sum) k a) = _ := if_pos hb_2
              have hF3 := ab_srch_skip ht hok hok.2.1 hok.1 r (p ++ [k]) (sum + ab_lcost tp L (ab_ks L ++ p ++ [k])) (ab_kfold (ab_F tp L r p sum) k a) hp8 (by rw [hpl]; omega) (by omega) (by rw [hpl]; omega) (by omega) h_4
              exact ih (k + 1) _ (by omega) (by omega) (by rw [hF, hF2, hF3]; exact ⟨hacc2, hA2, fun c hc => by rw [fr2 c (by omega)]; exact hI.2.2 c hc⟩)
            · refine r_aload_n K 4 dX3_extend_106 rfl rfl ?_
              refine r_aload_n K 5 dX3_extend_107 rfl rfl ?_
              refine r_iload_n K 6 dX3_extend_108 rfl rfl ?_
              refine r_iconst K (v := 1) dX3_extend_109 (by decide) ?_
              refine r_iadd K dX3_extend_110 ?_
              refine r_top_eq (nI (p ++ [k]).length) (by rw [hpl]; exact nI_1 _) ?_
              refine r_iload K 0 dX3_extend_111 rfl ?_
              have hQ : x_eP (x_adv (x_cp Mi (48 + (p.length + 1)) (48 + p.length)) (48 + (p.length + 1)) tp k) tp L h r (p ++ [k]) (sum + ab_lcost tp L (ab_ks L ++ p ++ [k])) (ab_kfold (ab_F tp L r p sum) k a) := ⟨hL2, hA2, by rw [hpl]; omega, hp8, by rw [hpl, ← List.append_assoc]; exact hS2, hK2, hacc2, Or.inr (Int32.not_lt.mp h_4), by omega, by rw [hpl]; omega, by omega⟩
              refine r_callSv K [.ref (g.2.2 45), .ref (g.2.2 1), .int (nI (p ++ [k]).length), .int (sum + (ab_lcost tp L (ab_ks L ++ p ++ [k])))] [] dX3_extend_113 mf_X3_extend qw_400 qw_401 (IH _ (p ++ [k]) _ (ab_kfold (ab_F tp L r p sum) k a) hQ) rfl rfl (by omega) (Nat.le_of_ble_eq_true rfl) (fun M1 hp => ?_)
              refine r_iinc_n K 1 [(6, .int (nI (k + 1))), (7, .int (sum + (ab_lcost tp L (ab_ks L ++ p ++ [k])))), (5, .ref (g.2.2 (48 + (p.length + 1)))), (4, .ref (g.2.2 (48 + p.length))), (0, .ref (g.2.2 45)), (1, .ref (g.2.2 1)), (2, .int (nI p.length)), (3, .int sum)] dX3_extend_116 rfl (by decide) rfl ?_
              refine r_goto K 44 dX3_extend_119 (by decide) ?_
              refine r_sub K [0, 2, 3, 4, 5, 6, 7] rfl ?_
              have hF : ab_kfold (ab_F tp L r p sum) (k + 1) a = ab_F tp L r p sum k (ab_kfold (ab_F tp L r p sum) k a) := rfl
              have hF2 : ab_F tp L r p sum k (ab_kfold (ab_F tp L r p sum) k a) = _ := if_pos hb_2
              exact ih (k + 1) _ (by omega) (by omega) (by rw [hF, hF2]; exact ⟨hp.1, hp.2.1, fun c hc => by rw [hp.2.2 c (by rw [hpl]; omega), fr2 c (by omega)]; exact hI.2.2 c hc⟩)
        · refine r_if_eq K 116 dX3_extend_59 (by decide) (fun _ => ?_) (fun h => absurd h (by decide))
          refine r_iinc_n K 0 [(6, .int (nI (k + 1))), (5, .ref (g.2.2 (48 + (p.length + 1)))), (4, .ref (g.2.2 (48 + p.length))), (0, .ref (g.2.2 45)), (1, .ref (g.2.2 1)), (2, .int (nI p.length)), (3, .int sum)] dX3_extend_116 rfl (by decide) rfl ?_
          refine r_goto K 44 dX3_extend_119 (by decide) ?_
          have hF : ab_kfold (ab_F tp L r p sum) (k + 1) a = ab_F tp L r p sum k (ab_kfold (ab_F tp L r p sum) k a) := rfl
          have hF2 : ab_F tp L r p sum k (ab_kfold (ab_F tp L r p sum) k a) = ab_kfold (ab_F tp L r p sum) k a := if_neg hb_2
          exact ih (k + 1) _ (by omega) (by omega) (by rw [hF, hF2]; exact hI)
  exact lp 9 0 _ (by omega) (by omega) ⟨hP.2.2.2.2.2.2.1, hP.2.1, fun _ _ => rfl⟩
theorem c_extend (l : Launch) (g : rs_G) (t : Nat × Nat)  (hb : xL 1) (tp : Int32) (ht : ab_tp tp) (L : ab_L) (hok : ab_ok L) (h : Nat) (h1 : 1 ≤ h) (h5 : h ≤ 5) : ∀ (r : Nat) (M : rs_M) (p : List Nat) (sum : Int32) (a : ab_A), x_eP M tp L h r p sum a → rs_Cv l g xk t yX3_extend cX3_extend 8 (3 + r) [.ref (g.2.2 45), .ref (g.2.2 1), .int (nI p.length), .int sum] M (fun M1 => x_eQ M M1 h p (ab_srch tp L (ab_ks L) r p sum a))
  | 0, M, p, sum, a, hP => c_extend0 l g t M hb tp ht L hok h h1 h5 p sum a hP
  | r + 1, M, p, sum, a, hP => c_extendS l g t M hb tp ht L hok h h1 h5 r (c_extend l g t hb tp ht L hok h h1 h5 r) p sum a hP
end
section
/-! the whole state: line, taper, what undo would bring (the newest first), seen, text, images -/
abbrev ab_S : Type := ab_L × Int32 × List ab_L × List (Int32 × Int32) × List Int32 × (Nat → Option ab_L)
def ab_chain : ab_L → List ab_D → List ab_L → Prop
  | _, [], [] => True
  | L, d :: ds, u :: us => ab_dok d L ∧ ab_undo d L = u ∧ ab_ok u ∧ ab_chain u ds us
  | _, _, _ => False
theorem ab_chain_take : ∀ (n : Nat) (L : ab_L) (ds : List ab_D) (us : List ab_L), ab_chain L ds us → ab_chain L (ds.take n) (us.take n)
  | 0, L, ds, us, _ => by simp [ab_chain]
  | n + 1, L, [], [], _ => by simp [ab_chain]
  | n + 1, L, [], _ :: _, h => absurd h (by simp [ab_chain])
  | n + 1, L, _ :: _, [], h => absurd h (by simp [ab_chain])
  | n + 1, L, d :: ds, u :: us, h => by
    simp only [ab_chain] at h
    simp only [List.take_succ_cons, ab_chain]
    exact ⟨h.1, h.2.1, h.2.2.1, ab_chain_take n u ds us h.2.2.2⟩
theorem ab_chain_len : ∀ (L : ab_L) (ds : List ab_D) (us : List ab_L), ab_chain L ds us → ds.length = us.length
  | L, [], [], _ => rfl
  | L, [], _ :: _, h => absurd h (by simp [ab_chain])
  | L, _ :: _, [], h => absurd h (by simp [ab_chain])
  | L, d :: ds, u :: us, h => by
    simp only [ab_chain] at h
    simp only [List.length_cons, ab_chain_len u ds us h.2.2.2]
def x_cache (M : rs_M) (tp : Int32) (L : ab_L) : Prop := ∃ a, a ≤ 5 ∧ M 45 2 = nI a ∧ (a = 0 ∨ x_acc M a (ab_plan tp L a))
def x_text (M : rs_M) (tx : List Int32) : Prop := M 37 1 = nI tx.length ∧ tx.length ≤ 120 ∧ ∀ i, i < tx.length → M 38 i = tx.getD i 0 ∧ 0 ≤ (tx.getD i 0).toInt ∧ (tx.getD i 0).toInt ≤ 255
def x_seen (M : rs_M) (sn : List (Int32 × Int32)) : Prop := M 0 10 = nI sn.length ∧ sn.length ≤ 4 ∧ ∀ i, i < sn.length → M 55 i = (sn.getD i (0, 0)).1 ∧ M 56 i = (sn.getD i (0, 0)).2
def x_im1 (M : rs_M) (tp : Int32) (i : Nat) (o : Option ab_L) : Prop := match o with
  | none => M 36 i = 0
  | some L => M 36 i = 1 ∧ ab_ok L ∧ x_ln M (57 + 17 * i) tp L
def x_im (M : rs_M) (tp : Int32) (im : Nat → Option ab_L) : Prop := x_im1 M tp 0 (im 0) ∧ x_im1 M tp 1 (im 1)
def x_und (M : rs_M) (L : ab_L) (us : List ab_L) : Prop := ∃ ds, x_dd M ds ∧ ds.length ≤ 12 ∧ ab_chain L ds.reverse us
def x_S (M : rs_M) (A : ab_S) : Prop := x_ln M 1 A.2.1 A.1 ∧ ab_ok A.1 ∧ ab_tp A.2.1 ∧ x_sp M 22 1 [] ∧ x_im M A.2.1 A.2.2.2.2.2 ∧ x_text M A.2.2.2.2.1 ∧ x_und M A.1 A.2.2.1 ∧ x_cache M A.2.1 A.1 ∧ x_seen M A.2.2.2.1
theorem x_cache_fr {M M1 : rs_M} {tp : Int32} {L : ab_L} (h : x_cache M tp L) (e : ∀ c, 45 ≤ c → c < 54 → M1 c = M c) : x_cache M1 tp L := by
  obtain ⟨a, h1, h2, h3⟩ := h
  exact ⟨a, h1, by rw [e 45 (by decide) (by decide)]; exact h2, h3.imp id (fun q => x_acc_fr q (e 45 (by decide) (by decide)) (e 47 (by decide) (by decide)))⟩
theorem x_text_fr {M M1 : rs_M} {tx : List Int32} (h : x_text M tx) (e1 : M1 37 = M 37) (e2 : M1 38 = M 38) : x_text M1 tx := by rw [x_text, e1, e2]; exact h
theorem x_seen_fr {M M1 : rs_M} {sn : List (Int32 × Int32)} (h : x_seen M sn) (e0 : M1 0 = M 0) (e1 : M1 55 = M 55) (e2 : M1 56 = M 56) : x_seen M1 sn := by rw [x_seen, e0, e1, e2]; exact h
theorem x_im1_fr {M M1 : rs_M} {tp : Int32} {i : Nat} {o : Option ab_L} (hi : i < 2) (h : x_im1 M tp i o) (e : ∀ c, (c = 36 ∨ 57 ≤ c) → M1 c = M c) : x_im1 M1 tp i o := by
  cases o with
  | none => show M1 36 i = 0; rw [e 36 (by omega)]; exact h
  | some L =>
    obtain ⟨h1, h2, h3⟩ := h
    exact ⟨by rw [e 36 (by omega)]; exact h1, h2, x_ln_fr (lo := 0) (hi := 57) h2.1 h3 (fun c hc => e c (by omega)) (by omega)⟩
theorem x_im_fr {M M1 : rs_M} {tp : Int32} {im : Nat → Option ab_L} (h : x_im M tp im) (e : ∀ c, (c = 36 ∨ 57 ≤ c) → M1 c = M c) : x_im M1 tp im := ⟨x_im1_fr (by decide) h.1 e, x_im1_fr (by decide) h.2 e⟩
theorem x_und_fr {M M1 : rs_M} {L : ab_L} {us : List ab_L} (h : x_und M L us) (e : ∀ c, 40 ≤ c → c < 45 → M1 c = M c) : x_und M1 L us := by
  obtain ⟨ds, h1, h2⟩ := h
  exact ⟨ds, x_dd_fr h1 e, h2⟩
/-- only the text changes -/
theorem x_S_text {M M1 : rs_M} {A : ab_S} (h : x_S M A) (e : ∀ c, c < 37 ∨ 39 < c → M1 c = M c) {tx : List Int32} (ht : x_text M1 tx) : x_S M1 (A.1, A.2.1, A.2.2.1, A.2.2.2.1, tx, A.2.2.2.2.2) := by
  obtain ⟨h1, h2, h3, h4, h5, h6, h7, h8, h9⟩ := h
  exact ⟨x_ln_fr (lo := 37) (hi := 40) h2.1 h1 (fun c hc => e c (by omega)) (by omega), h2, h3, x_sp_same h4 (fun j _ => by rw [e 22 (by omega)]), x_im_fr h5 (fun c hc => e c (by omega)), ht, x_und_fr h7 (fun c _ _ => e c (by omega)), x_cache_fr h8 (fun c _ _ => e c (by omega)), x_seen_fr h9 (e 0 (by omega)) (e 55 (by omega)) (e 56 (by omega))⟩
/-- only what is seen changes -/
theorem x_S_seen {M M1 : rs_M} {A : ab_S} (h : x_S M A) (e : ∀ c, c ≠ 0 → c ≠ 55 → c ≠ 56 → M1 c = M c) {sn : List (Int32 × Int32)} (ht : x_seen M1 sn) : x_S M1 (A.1, A.2.1, A.2.2.1, sn, A.2.2.2.2.1, A.2.2.2.2.2) := by
  obtain ⟨h1, h2, h3, h4, h5, h6, h7, h8, h9⟩ := h
  refine ⟨?_, h2, h3, x_sp_same h4 (fun j _ => by rw [e 22 (by omega) (by omega) (by omega)]), x_im_fr h5 (fun c hc => e c (by omega) (by omega) (by omega)), x_text_fr h6 (e 37 (by omega) (by omega) (by omega)) (e 38 (by omega) (by omega) (by omega)), x_und_fr h7 (fun c _ _ => e c (by omega) (by omega) (by omega)), x_cache_fr h8 (fun c _ _ => e c (by omega) (by omega) (by omega)), ht⟩
  obtain ⟨a3, hs, a4, a5, a6, a7, hw⟩ := h1
  have hn := h2.1
  refine ⟨by rw [e 1 (by omega) (by omega) (by omega)]; exact a3, fun i hi => x_sp_same (hs i hi) (fun j _ => by have hi : i ≤ (ab_ks A.1).length := hi; rw [e _ (by omega) (by omega) (by omega)]), by rw [e 1 (by omega) (by omega) (by omega)]; exact a4, by rw [e 1 (by omega) (by omega) (by omega)]; exact a5, by rw [e 1 (by omega) (by omega) (by omega)]; exact a6, by rw [e 1 (by omega) (by omega) (by omega)]; exact a7, fun p hp => by rw [e (1 + 2) (by omega) (by omega) (by omega), e (1 + 3) (by omega) (by omega) (by omega)]; exact hw p hp⟩
/-- the line and what hangs on it change -/
theorem x_S_line {M M1 : rs_M} {A : ab_S} (h : x_S M A) (e : ∀ c, ¬ (1 ≤ c ∧ c < 18) → ¬ (40 ≤ c ∧ c < 55) → M1 c = M c) {L : ab_L} {us : List ab_L} (hL : x_ln M1 1 A.2.1 L) (hok : ab_ok L) (hu : x_und M1 L us) (hc : x_cache M1 A.2.1 L) : x_S M1 (L, A.2.1, us, A.2.2.2.1, A.2.2.2.2.1, A.2.2.2.2.2) := by
  obtain ⟨h1, h2, h3, h4, h5, h6, h7, h8, h9⟩ := h
  exact ⟨hL, hok, h3, x_sp_same h4 (fun j _ => by rw [e 22 (by omega) (by omega)]), x_im_fr h5 (fun c hc => e c (by omega) (by omega)), x_text_fr h6 (e 37 (by omega) (by omega)) (e 38 (by omega) (by omega)), hu, hc, x_seen_fr h9 (e 0 (by omega) (by omega)) (e 55 (by omega) (by omega)) (e 56 (by omega) (by omega))⟩
/-- only search and probe change -/
theorem x_S_scr {M M1 : rs_M} {A : ab_S} (h : x_S M A) (e : ∀ c, ¬ (45 ≤ c ∧ c < 55) → M1 c = M c) (hc : x_cache M1 A.2.1 A.1) : x_S M1 A := by
  have h2 := h.2.1
  exact x_S_line h (fun c _ hc2 => e c (by omega)) (x_ln_fr (lo := 45) (hi := 55) h2.1 h.1 (fun c hc => e c (by omega)) (by omega)) h2 (x_und_fr h.2.2.2.2.2.2.1 (fun c _ _ => e c (by omega))) hc
theorem ab_ok_build {L : ab_L} (h : ab_ok L) (hn : (ab_ks L).length < 12) {k : Nat} (hk : k < 8) : ab_ok (ab_build L k) := by
  obtain ⟨h1, h2, h3⟩ := h
  refine ⟨by have : (ab_ks (ab_build L k)).length = (ab_ks L).length + 1 := by simp [ab_build, ab_ks]
             omega, fun x hx => ?_, h3⟩
  have hx : x ∈ ab_ks L ++ [k] := hx
  rcases List.mem_append.mp hx with q | q
  · exact h2 x q
  · simp at q; omega
theorem ab_ok_wish {L : ab_L} (h : ab_ok L) {p : Nat} (hp : 1 ≤ p) {x y : Int32} (hx : -99 ≤ x.toInt ∧ x.toInt ≤ 99) (hy : -99 ≤ y.toInt ∧ y.toInt ≤ 99) : ab_ok (ab_setwish L p x y) := by
  obtain ⟨h1, h2, h3, h4, h5, h6, h7, h8⟩ := h
  refine ⟨h1, h2, h3, h4, h5, fun q hq => ?_, ?_, ?_⟩
  · show -99 ≤ (upd (ab_wx L) p x q).toInt ∧ (upd (ab_wx L) p x q).toInt ≤ 99 ∧ -99 ≤ (upd (ab_wy L) p y q).toInt ∧ (upd (ab_wy L) p y q).toInt ≤ 99
    simp only [upd]
    split
    · exact ⟨hx.1, hx.2, hy.1, hy.2⟩
    · exact h6 q hq
  · show upd (ab_wx L) p x 0 = 0
    rw [upd, if_neg (by omega)]; exact h7
  · show upd (ab_wy L) p y 0 = 0
    rw [upd, if_neg (by omega)]; exact h8
def ab_rlim (w v : Nat) : Prop := (w = 0 ∧ v ≤ 3) ∨ (w = 1 ∧ v ≤ 2) ∨ (w = 2 ∧ v ≤ 20)
theorem ab_ok_rule {L : ab_L} (h : ab_ok L) {w v : Nat} (hv : ab_rlim w v) : ab_ok (ab_setrule L w v) := by
  obtain ⟨h1, h2, h3, h4, h5, h6⟩ := h
  rcases hv with ⟨rfl, hv⟩ | ⟨rfl, hv⟩ | ⟨rfl, hv⟩
  · exact ⟨h1, h2, hv, h4, h5, h6⟩
  · exact ⟨h1, h2, h3, hv, h5, h6⟩
  · exact ⟨h1, h2, h3, h4, hv, h6⟩
/-- a new deed: what undo brings is the line as it was; 12 at most -/
theorem x_und_push {M1 : rs_M} {L L1 : ab_L} {us : List ab_L} {ds : List ab_D} (hl : ds.length ≤ 12) (hc : ab_chain L ds.reverse us) {d : ab_D} (hd : x_dd M1 (ab_push ds d)) (h1 : ab_dok d L1) (h2 : ab_undo d L1 = L) (hok : ab_ok L) : x_und M1 L1 ((L :: us).take 12) := by
  refine ⟨ab_push ds d, hd, ?_, ?_⟩
  · unfold ab_push
    split
    · simp; omega
    · rw [List.length_append, List.length_tail]; simp; omega
  · have e : (ab_push ds d).reverse = (d :: ds.reverse).take 12 := by
      unfold ab_push
      split
      · rename_i q
        rw [List.reverse_append, List.take_of_length_le (by simp; omega)]
        rfl
      · have q : ds.length = 12 := by omega
        rw [List.reverse_append]
        show d :: ds.tail.reverse = d :: (ds.reverse.take 11)
        rw [List.take_reverse, q]
        congr 1
        congr 1
        rw [List.drop_one]
    rw [e]
    exact ab_chain_take 12 L1 (d :: ds.reverse) (L :: us) ⟨h1, h2, hok, hc⟩
theorem x_und_0 {M : rs_M} {L : ab_L} (h : M 40 4 = 0) : x_und M L [] := ⟨[], ⟨h, fun i d hi => by simp at hi⟩, by simp, trivial⟩
set_option maxHeartbeats 4000000 in
set_option maxRecDepth 100000 in
theorem c_look (l : Launch) (g : rs_G) (t : Nat × Nat) (M : rs_M) (hb : xL 1) (tp : Int32) (ht : ab_tp tp) (L : ab_L) (hok : ab_ok L) (hL : x_ln M 1 tp L) (hc : x_cache M tp L) (h : Nat) (h1 : 1 ≤ h) (h5 : h ≤ 5) : rs_Cv l g xk t yX3_look cX3_look 3 10 [.ref (g.2.2 45), .ref (g.2.2 1), .int (nI h)] M (fun M1 => M1 45 2 = nI h ∧ x_acc M1 h (ab_plan tp L h) ∧ x_fr M M1 45 54) := by
  obtain ⟨a, ha1, ha2, ha3⟩ := hc
  have hn12 := hok.1
  refine rs_ofv (plainFor_of_name (by decide)) (Nat.le_of_ble_eq_true rfl) ?_
  intro Y K hr
  show Y M 0 [(0, .ref (g.2.2 45)), (1, .ref (g.2.2 1)), (2, .int (nI h))] []
  refine r_aload_n K 0 dX3_look_0 rfl rfl ?_
  refine r_getI K rfl rfl ff_3_ahead qw_170 dX3_look_1 ?_
  refine r_top_eq (nI a) ha2 ?_
  refine r_iload_n K 2 dX3_look_4 rfl rfl ?_
  refine r_icmp_ne K 9 dX3_look_5 (by decide) (fun h_1 => ?_) (fun h_1 => ?_)
  · have nh_1 : ¬ a = h := mt (nf_eq rfl rfl (by omega) (by omega)).mpr h_1
    refine r_aload_n K 0 dX3_look_9 rfl rfl ?_
    refine r_iload_n K 2 dX3_look_10 rfl rfl ?_
    refine r_iconst K (v := 5) dX3_look_11 (by decide) ?_
    refine r_mmin K dX3_look_12 qw_395 qw_396 qw_8 qw_397 (by decide) (Nat.le_of_ble_eq_true rfl) ?_
    refine r_top_eq (nI h) (if_neg (mt (nf_lt (X := 5) (Y := h) rfl rfl (by decide) (by omega)).mp (by omega))) ?_
    refine r_put K rfl rfl ff_3_ahead qw_170 rfl rfl dX3_look_15 ?_
    refine r_aload_n K 0 dX3_look_18 rfl rfl ?_
    refine r_iconst K (v := 0) dX3_look_19 (by decide) ?_
    refine r_put K rfl rfl ff_3_rows qw_172 rfl rfl dX3_look_20 ?_
    refine r_aload_n K 0 dX3_look_23 rfl rfl ?_
    refine r_iconst K (v := 0) dX3_look_24 (by decide) ?_
    refine r_put K rfl rfl ff_3_least qw_174 rfl rfl dX3_look_25 ?_
    have hL2 : x_ln (rs_st (rs_st (rs_st M 45 2 (nI h)) 45 3 0) 45 4 0) 1 tp L := x_ln_fr hok.1 hL (x_fr_tr (x_fr_tr (x_fr_st (lo := 45) (hi := 46) (by decide) (by decide)) (x_fr_st (by decide) (by decide))) (x_fr_st (by decide) (by decide))) (by omega)
    refine r_aload_n K 0 dX3_look_28 rfl rfl ?_
    refine r_getR K rfl rfl ff_3_spots qw_167 dX3_look_29 ?_
    refine r_iconst K (v := 0) dX3_look_32 (by decide) ?_
    refine r_aaldS K (j := 0) rfl rfl (xS_e _ (by decide)) (by decide) (by decide) dX3_look_33 ?_
    refine r_aload_n K 1 dX3_look_34 rfl rfl ?_
    refine r_callVr K [] [.ref (g.2.2 (48 + 0))] dX3_look_35 mf_X1_last (xL_0 hb) rfl qw_398 qw_306 qw_307 (c_Line_last l g t (rs_st (rs_st (rs_st M 45 2 (nI h)) 45 3 0) 45 4 0) 1 hb (ab_ks L).length hok.1 hL2.1) rfl rfl (by decide) (Nat.le_of_ble_eq_true rfl) (fun r M1 hp => ?_)
    obtain ⟨hp, he⟩ := hp
    have he := he.symm
    subst he
    subst hp
    refine r_callVv K [.ref (g.2.2 (1 + 4 + (ab_ks L).length))] [] dX3_look_38 mf_X4_copy (xS_s _ (by decide)) rfl qw_399 qw_343 qw_344 (c_Spot_copy l g t (rs_st (rs_st (rs_st M 45 2 (nI h)) 45 3 0) 45 4 0) (48 + 0) (1 + 4 + (ab_ks L).length) (xS_s _ (by decide)) (xL_s hb (by omega))) rfl rfl (by decide) (Nat.le_of_ble_eq_true rfl) (fun M1 hp => ?_)
    subst hp
    refine r_aload_n K 0 dX3_look_41 rfl rfl ?_
    refine r_aload_n K 1 dX3_look_42 rfl rfl ?_
    refine r_iconst K (v := 0) dX3_look_43 (by decide) ?_
    refine r_iconst K (v := 0) dX3_look_44 (by decide) ?_
    have fr4 := x_fr_cp (M := rs_st (rs_st (rs_st M 45 2 (nI h)) 45 3 0) 45 4 0) (lo := 48) (hi := 49) (c := 48 + 0) (d := 1 + 4 + (ab_ks L).length) (by omega) (by omega)
    have hQ : x_eP (x_cp (rs_st (rs_st (rs_st M 45 2 (nI h)) 45 3 0) 45 4 0) (48 + 0) (1 + 4 + (ab_ks L).length)) tp L h h [] 0 (0, 0, []) := ⟨x_ln_fr hok.1 hL2 fr4 (by omega), by rw [fr4 45 (by omega)]; simp [rs_st], by simp, fun k hk => absurd hk List.not_mem_nil, by rw [List.append_nil]; exact x_sp_cp (x_ln_last hL2), fun i hi => absurd hi (Nat.not_lt_zero _), ⟨by rw [fr4 45 (by omega)]; simp [rs_st]; rfl, fun q => absurd q (Nat.lt_irrefl 0)⟩, Or.inl rfl, by decide, by decide, by have := Nat.pow_le_pow_right (show 0 < 8 by decide) h5; show 0 + 8 ^ h ≤ 900000; omega⟩
    refine r_callSv K [.ref (g.2.2 45), .ref (g.2.2 1), .int 0, .int 0] [] dX3_look_45 mf_X3_extend qw_400 qw_401 (c_extend l g t hb tp ht L hok h h1 h5 h (x_cp (rs_st (rs_st (rs_st M 45 2 (nI h)) 45 3 0) 45 4 0) (48 + 0) (1 + 4 + (ab_ks L).length)) [] 0 (0, 0, []) hQ) rfl rfl (by omega) (Nat.le_of_ble_eq_true rfl) (fun M1 hp => ?_)
    exact hr _ _ _ dX3_look_48 ⟨hp.2.1, hp.1, fun c hc => by rw [hp.2.2 c (by simp; omega), fr4 c (by omega), rs_st_ne _ _ _ (by omega), rs_st_ne _ _ _ (by omega), rs_st_ne _ _ _ (by omega)]⟩
  · have nh_1 : a = h := (nf_eq rfl rfl (by omega) (by omega)).mp h_1
    have hah : a = h := by omega
    subst hah
    exact hr _ _ _ dX3_look_8 ⟨ha2, ha3.elim (fun q => absurd q (by omega)) id, x_fr_rf _ _ _⟩
end
section
theorem xL1 : xL 1 := Or.inl rfl
theorem xL18 : xL 18 := Or.inr (Or.inl rfl)
theorem xL_im {i : Nat} (h : i < 2) : xL (57 + 17 * i) := by rcases (show i = 0 ∨ i = 1 by omega) with rfl | rfl <;> simp [xL]
theorem xI_e {i : Nat} (h : i < 2) : ([57, 74] : List Nat)[i]? = some (57 + 17 * i) := by rcases (show i = 0 ∨ i = 1 by omega) with rfl | rfl <;> rfl
noncomputable def ab_if {α : Type} (P : Prop) (a b : α) : α := @ite α P (Classical.propDecidable P) a b
theorem ab_if_pos {α : Type} {P : Prop} {a b : α} (h : P) : ab_if P a b = a := if_pos h
theorem ab_if_neg {α : Type} {P : Prop} {a b : α} (h : ¬ P) : ab_if P a b = b := if_neg h
theorem x_nat {x : Int32} {a b : Nat} (h : nI a ≤ x ∧ x ≤ nI b) (ha : a < 2 ^ 31) (hb : b < 2 ^ 31) : ∃ j, a ≤ j ∧ j ≤ b ∧ x = nI j := by
  obtain ⟨h1, h2⟩ := h
  have n0 : ¬ x < 0 := fun q => by
    rw [Int32.lt_iff_toInt_lt] at q
    rw [Int32.le_iff_toInt_le, nI_toInt ha] at h1
    have z : (0 : Int32).toInt = 0 := by decide
    omega
  obtain ⟨j, hj, rfl⟩ := nI_of n0
  exact ⟨j, (nI_leI ha hj).mp h1, (nI_leI hj hb).mp h2, rfl⟩
abbrev ab_wT (A : ab_S) (tx : List Int32) : ab_S := (A.1, A.2.1, A.2.2.1, A.2.2.2.1, tx, A.2.2.2.2.2)
abbrev ab_wN (A : ab_S) (sn : List (Int32 × Int32)) : ab_S := (A.1, A.2.1, A.2.2.1, sn, A.2.2.2.2.1, A.2.2.2.2.2)
abbrev ab_wL (A : ab_S) (L : ab_L) (us : List ab_L) : ab_S := (L, A.2.1, us, A.2.2.2.1, A.2.2.2.2.1, A.2.2.2.2.2)
def x_R (q : Int32 × ab_S) (r : Int32) (M1 : rs_M) : Prop := r = q.1 ∧ x_S M1 q.2
/-! what the calls answer and do -/
noncomputable def ab_type (A : ab_S) (c : Int32) : Int32 × ab_S := ab_if (0 ≤ c ∧ c ≤ 255) (ab_if (A.2.2.2.2.1.length < 120) (nI (A.2.2.2.2.1.length + 1), ab_wT A (A.2.2.2.2.1 ++ [c])) (-3, A)) (-1, A)
def ab_clear (A : ab_S) : Int32 × ab_S := (nI A.2.2.2.2.1.length, ab_wT A [])
noncomputable def ab_done (A : ab_S) (k : Nat) : ab_S := ab_wL A (ab_build A.1 k) ((A.1 :: A.2.2.1).take 12)
noncomputable def ab_builds (A : ab_S) (k : Int32) : Int32 × ab_S := ab_if (0 ≤ k ∧ k ≤ 7) (ab_if ((ab_ks A.1).length < 12) (ab_if (ab_may A.2.1 A.1 (ab_ks A.1) k.toNatClampNeg) (ab_lcost A.2.1 A.1 (ab_ks A.1 ++ [k.toNatClampNeg]), ab_done A k.toNatClampNeg) (-2, A)) (-3, A)) (-1, A)
noncomputable def ab_follows (A : ab_S) (h : Int32) : Int32 × ab_S := ab_if (1 ≤ h ∧ h ≤ 5) (ab_if ((ab_ks A.1).length < 12) (ab_if ((ab_plan A.2.1 A.1 h.toNatClampNeg).1 = 0) (-2, A) (nI ((ab_plan A.2.1 A.1 h.toNatClampNeg).2.2.getD 0 0), ab_done A ((ab_plan A.2.1 A.1 h.toNatClampNeg).2.2.getD 0 0))) (-3, A)) (-1, A)
noncomputable def ab_wishes (A : ab_S) (p x y : Int32) : Int32 × ab_S := ab_if ((1 ≤ p ∧ p ≤ 17) ∧ ((-99) ≤ x ∧ x ≤ 99) ∧ ((-99) ≤ y ∧ y ≤ 99)) (ab_if (ab_wx A.1 p.toNatClampNeg = x ∧ ab_wy A.1 p.toNatClampNeg = y) (-2, A) (1, ab_wL A (ab_setwish A.1 p.toNatClampNeg x y) ((A.1 :: A.2.2.1).take 12))) (-1, A)
noncomputable def ab_rules (A : ab_S) (w v : Int32) : Int32 × ab_S := ab_if (0 ≤ v ∧ ((w = 0 ∧ v ≤ 3) ∨ (w = 1 ∧ v ≤ 2) ∨ (w = 2 ∧ v ≤ 20))) (ab_if (nI (ab_rule A.1 w.toNatClampNeg) = v) (-2, A) (nI (ab_rule A.1 w.toNatClampNeg), ab_wL A (ab_setrule A.1 w.toNatClampNeg v.toNatClampNeg) ((A.1 :: A.2.2.1).take 12))) (-1, A)
def ab_undoS (A : ab_S) : Int32 × ab_S := match A.2.2.1 with
  | [] => (-2, A)
  | u :: us => (nI us.length, ab_wL A u us)
def ab_rget (tp : Int32) (L : ab_L) (i : Nat) (w : Int32) : Int32 := if w = 0 then ab_last ((ab_ks L).take i) else if w = 1 then (ab_geo tp ((ab_ks L).take i)).1 else if w = 2 then (ab_geo tp ((ab_ks L).take i)).2.1 else if w = 3 then (ab_geo tp ((ab_ks L).take i)).2.2.1 else if w = 4 then (ab_geo tp ((ab_ks L).take i)).2.2.2 else if w = 5 then ab_ringcost tp L i else -1000000
noncomputable def ab_ring (A : ab_S) (i w : Int32) : Int32 := ab_if (0 ≤ i ∧ i ≤ nI (ab_ks A.1).length) (ab_rget A.2.1 A.1 i.toNatClampNeg w) (-1000000)
noncomputable def ab_wish (A : ab_S) (p w : Int32) : Int32 := ab_if ((0 ≤ p ∧ p ≤ 17) ∧ (0 ≤ w ∧ w ≤ 1)) (ab_if (w = 0) (ab_wx A.1 p.toNatClampNeg) (ab_wy A.1 p.toNatClampNeg)) (-1000000)
def ab_wsrch (c : Nat → Int32) (n : Nat) (k : Int32) : Nat → Nat → Int32
  | 0, _ => -9
  | f + 1, i => if nI (ab_ahead c i n) = k then nI i else ab_wsrch c n k f (i + 1)
noncomputable def ab_worst (A : ab_S) (k : Int32) : Int32 := ab_if (k < 0) (-1) (ab_wsrch (ab_ringcost A.2.1 A.1) (ab_ks A.1).length k (ab_ks A.1).length 1)
noncomputable def ab_planS (A : ab_S) (h k : Int32) : Int32 := ab_if ((1 ≤ h ∧ h ≤ 5) ∧ (-2) ≤ k) (ab_if (h ≤ k ∨ (ab_plan A.2.1 A.1 h.toNatClampNeg).1 = 0) (-9) (ab_if (k = -1) (ab_plan A.2.1 A.1 h.toNatClampNeg).2.1 (ab_if (k = -2) (nI (ab_plan A.2.1 A.1 h.toNatClampNeg).1) (nI ((ab_plan A.2.1 A.1 h.toNatClampNeg).2.2.getD k.toNatClampNeg 0))))) (-1)
noncomputable def ab_trying (A : ab_S) (k : Int32) : Int32 := ab_if (0 ≤ k ∧ k ≤ 7) (ab_if (ab_may A.2.1 A.1 (ab_ks A.1) k.toNatClampNeg) (ab_lcost A.2.1 A.1 (ab_ks A.1 ++ [k.toNatClampNeg])) (-2)) (-1)
noncomputable def ab_sees (A : ab_S) (x y : Int32) : Int32 × ab_S := ab_if (((-9999) ≤ x ∧ x ≤ 9999) ∧ ((-9999) ≤ y ∧ y ≤ 9999)) (ab_if (A.2.2.2.1.length < 4) (nI (A.2.2.2.1.length + 1), ab_wN A (A.2.2.2.1 ++ [(x, y)])) (-3, A)) (-1, A)
def ab_forget (A : ab_S) : Int32 × ab_S := (nI A.2.2.2.1.length, ab_wN A [])
/-! the first row of a plan is one of keys -/
def ab_fok (H : Nat) (a : ab_A) : Prop := 0 < a.1 → a.2.2.length = H ∧ ∀ k ∈ a.2.2, k < 8
theorem ab_kfold_fok {F : Nat → ab_A → ab_A} {H : Nat} : ∀ (n : Nat) (a : ab_A), (∀ k a, k < n → ab_fok H a → ab_fok H (F k a)) → ab_fok H a → ab_fok H (ab_kfold F n a)
  | 0, a, _, ha => ha
  | n + 1, a, h, ha => h n _ (by omega) (ab_kfold_fok n a (fun k a hk => h k a (by omega)) ha)
theorem ab_srch_fok (tp : Int32) (L : ab_L) (ks : List Nat) {H : Nat} : ∀ (r : Nat) (p : List Nat) (sum : Int32) (a : ab_A), p.length + r = H → (∀ k ∈ p, k < 8) → ab_fok H a → ab_fok H (ab_srch tp L ks r p sum a)
  | 0, p, sum, a, hl, hp, ha => by
    simp only [ab_srch, ab_note]
    split
    · rename_i q; exact fun _ => ha q.1
    · split
      · exact fun _ => ⟨by simpa using hl, hp⟩
      · exact ha
  | r + 1, p, sum, a, hl, hp, ha => by
    simp only [ab_srch]
    refine ab_kfold_fok 8 a (fun k a hk ha => ?_) ha
    split
    · refine ab_srch_fok tp L ks r _ _ a (by simp; omega) (fun k' h' => ?_) ha
      rcases List.mem_append.mp h' with q | q
      · exact hp k' q
      · simp at q; omega
    · exact ha
theorem ab_plan_fok (tp : Int32) (L : ab_L) (h : Nat) : ab_fok h (ab_plan tp L h) := ab_srch_fok tp L _ h [] 0 _ (by simp) (fun k hk => absurd hk List.not_mem_nil) (fun q => absurd q (Nat.lt_irrefl 0))
theorem ab_plan_k {tp : Int32} {L : ab_L} {h : Nat} (h0 : 0 < (ab_plan tp L h).1) {i : Nat} (hi : i < h) : (ab_plan tp L h).2.2.getD i 0 < 8 := by
  obtain ⟨h1, h2⟩ := ab_plan_fok tp L h h0
  have hl : i < (ab_plan tp L h).2.2.length := by omega
  rw [List.getD, List.getElem?_eq_getElem hl]
  exact h2 _ (List.getElem_mem hl)
theorem ab_plan_rows (tp : Int32) (L : ab_L) {h : Nat} (h5 : h ≤ 5) : (ab_plan tp L h).1 ≤ 32768 := by
  have := ab_srch_rows tp L (ab_ks L) h [] 0 (0, 0, [])
  have h2 := Nat.pow_le_pow_right (show 0 < 8 by decide) h5
  show (ab_srch tp L (ab_ks L) h [] 0 (0, 0, [])).1 ≤ 32768
  simp only [Nat.zero_add] at this
  omega
/-! what a deed's taking back brings -/
theorem ab_drop_build (L : ab_L) (k : Nat) : ab_drop (ab_build L k) = L := by
  show ((L.1 ++ [k]).dropLast, L.2) = L
  rw [List.dropLast_concat]
theorem ab_wish_wish (L : ab_L) (p : Nat) (x y : Int32) : ab_setwish (ab_setwish L p x y) p (ab_wx L p) (ab_wy L p) = L := by
  have e : ∀ (f : Nat → Int32) (x : Int32), upd (upd f p x) p (f p) = f := fun f x => by
    funext q
    simp only [upd]
    split
    · rename_i h; rw [h]
    · rfl
  show (L.1, upd (upd L.2.1 p x) p (L.2.1 p), upd (upd L.2.2.1 p y) p (L.2.2.1 p), L.2.2.2) = L
  rw [e, e]
theorem ab_rule_rule (L : ab_L) {w : Nat} (hw : w ≤ 2) (v : Nat) : ab_setrule (ab_setrule L w v) w (ab_rule L w) = L := by
  rcases (show w = 0 ∨ w = 1 ∨ w = 2 by omega) with rfl | rfl | rfl <;> rfl
theorem ab_rule_lt {L : ab_L} (h : ab_ok L) (w : Nat) : ab_rule L w ≤ 20 := by
  obtain ⟨_, _, h3, h4, h5, _⟩ := h
  unfold ab_rule
  split <;> omega
theorem x_cache_0 {M : rs_M} {tp : Int32} {L : ab_L} (h : M 45 2 = 0) : x_cache M tp L := ⟨0, by decide, h, Or.inl rfl⟩
set_option maxHeartbeats 4000000 in
set_option maxRecDepth 100000 in
theorem c_lineChanged (l : Launch) (g : rs_G) (t : Nat × Nat) (M : rs_M) : rs_Cv l g xk t yX5_lineChanged cX5_lineChanged 1 0 [.ref (g.2.2 0)] M (fun M1 => M1 = rs_st M 45 2 0) := by
  refine rs_ofv (plainFor_of_name (by decide)) (Nat.le_of_ble_eq_true rfl) ?_
  intro Y K hr
  show Y M 0 [(0, .ref (g.2.2 0))] []
  refine r_aload_n K 0 dX5_lineChanged_0 rfl rfl ?_
  refine r_getR K rfl rfl ff_5_search qw_195 dX5_lineChanged_1 ?_
  refine r_iconst K (v := 0) dX5_lineChanged_4 (by decide) ?_
  refine r_put K rfl rfl ff_3_ahead qw_171 rfl rfl dX5_lineChanged_5 ?_
  exact hr _ _ _ dX5_lineChanged_8 rfl
set_option maxHeartbeats 4000000 in
set_option maxRecDepth 100000 in
theorem c_buildKnown (l : Launch) (g : rs_G) (t : Nat × Nat) (M : rs_M) (A : ab_S) (hS : x_S M A) (hn : (ab_ks A.1).length < 12) (k : Nat) (hk : k < 8) : rs_Cv l g xk t yX5_buildKnown cX5_buildKnown 2 3 [.ref (g.2.2 0), .int (nI k)] M (fun M1 => x_S M1 (ab_done A k)) := by
  obtain ⟨hL, hok, ht, hdr, him, htx, hun, hca, hse⟩ := id hS
  have hn12 := hok.1
  obtain ⟨ds, hds, hdl, hch⟩ := hun
  refine rs_ofv (plainFor_of_name (by decide)) (Nat.le_of_ble_eq_true rfl) ?_
  intro Y K hr
  show Y M 0 [(0, .ref (g.2.2 0)), (1, .int (nI k))] []
  refine r_aload_n K 0 dX5_buildKnown_0 rfl rfl ?_
  refine r_getR K rfl rfl ff_5_deeds qw_194 dX5_buildKnown_1 ?_
  refine r_iconst K (v := 0) dX5_buildKnown_4 (by decide) ?_
  refine r_iconst K (v := 0) dX5_buildKnown_5 (by decide) ?_
  refine r_iconst K (v := 0) dX5_buildKnown_6 (by decide) ?_
  refine r_iconst K (v := 0) dX5_buildKnown_7 (by decide) ?_
  refine r_callVv K [.int 0, .int 0, .int 0, .int 0] [] dX5_buildKnown_8 mf_X0_add rfl rfl qw_371 qw_372 qw_373 (c_Deeds_add l g t M ds hds hdl (0, 0, 0, 0)) rfl rfl (by decide) (Nat.le_of_ble_eq_true rfl) (fun Ma hp => ?_)
  obtain ⟨ha1, ha2⟩ := hp
  refine r_aload_n K 0 dX5_buildKnown_11 rfl rfl ?_
  refine r_getR K rfl rfl ff_5_line qw_189 dX5_buildKnown_12 ?_
  refine r_iload_n K 1 dX5_buildKnown_15 rfl rfl ?_
  refine r_callVv K [.int (nI k)] [] dX5_buildKnown_16 mf_X1_build (xL_0 xL1) rfl qw_379 qw_338 qw_339 (c_build l g t Ma 1 xL1 A.2.1 A.1 (x_ln_fr hok.1 hL ha2 (by omega)) hn k hk) rfl rfl (by decide) (Nat.le_of_ble_eq_true rfl) (fun Mb hp => ?_)
  obtain ⟨hb1, hb2⟩ := hp
  refine r_aload_n K 0 dX5_buildKnown_19 rfl rfl ?_
  refine r_callVv K [] [] dX5_buildKnown_20 mf_X5_lineChanged rfl rfl qw_356 qw_358 qs_11 (c_lineChanged l g t Mb) rfl rfl (by decide) (Nat.le_of_ble_eq_true rfl) (fun M1 hp => ?_)
  subst hp
  refine hr _ _ _ dX5_buildKnown_23 (x_S_line hS (fun c h1 h2 => by rw [rs_st_ne _ _ _ (by omega), hb2 c (by omega), ha2 c (by omega)]) (x_ln_fr (ab_ok_build hok hn hk).1 hb1 (x_fr_st (lo := 45) (hi := 46) (by decide) (by decide)) (by omega)) (ab_ok_build hok hn hk) ?_ (x_cache_0 (by rw [rs_st_eq])))
  exact x_und_push hdl hch (x_dd_fr (x_dd_fr ha1 (fun c h1 h2 => hb2 c (by omega))) (fun c h1 h2 => rs_st_ne _ _ _ (by omega))) (Or.inl ⟨rfl, by show 0 < (ab_ks A.1 ++ [k]).length; simp⟩) (by rw [ab_undo_0 rfl]; exact ab_drop_build A.1 k) hok
set_option maxHeartbeats 4000000 in
set_option maxRecDepth 100000 in
theorem c_clear (l : Launch) (g : rs_G) (t : Nat × Nat) (M : rs_M) (A : ab_S) (hS : x_S M A) : rs_Ci l g xk t yX5_clear cX5_clear 2 .int 0 [.ref (g.2.2 0)] M (fun r M1 => x_R (ab_clear A) r M1) := by
  obtain ⟨hL, hok, ht, hdr, him, htx, hun, hca, hse⟩ := id hS
  have hn12 := hok.1
  refine rs_ofi (plainFor_of_name (by decide)) (Nat.le_of_ble_eq_true rfl) ?_
  intro Y K hr
  show Y M 0 [(0, .ref (g.2.2 0))] []
  refine r_aload_n K 0 dX5_clear_0 rfl rfl ?_
  refine r_getR K rfl rfl ff_5_script qw_193 dX5_clear_1 ?_
  refine r_getI K rfl rfl ff_2_length qw_108 dX5_clear_4 ?_
  refine r_top_eq (nI A.2.2.2.2.1.length) htx.1 ?_
  refine r_istore_n K [(1, .int (nI A.2.2.2.2.1.length)), (0, .ref (g.2.2 0))] dX5_clear_7 rfl (by decide) rfl ?_
  refine r_aload_n K 1 dX5_clear_8 rfl rfl ?_
  refine r_getR K rfl rfl ff_5_script qw_193 dX5_clear_9 ?_
  refine r_iconst K (v := 0) dX5_clear_12 (by decide) ?_
  refine r_put K rfl rfl ff_2_length qw_108 rfl rfl dX5_clear_13 ?_
  refine r_iload_n K 0 dX5_clear_16 rfl rfl ?_
  exact hr _ _ _ _ dX5_clear_17 ⟨rfl, x_S_text (M1 := rs_st M 37 1 0) hS (fun c hc => rs_st_ne _ _ _ (by omega)) ⟨by rw [rs_st_eq]; rfl, by simp, fun i hi => absurd hi (Nat.not_lt_zero _)⟩⟩
set_option maxHeartbeats 4000000 in
set_option maxRecDepth 100000 in
theorem c_builds (l : Launch) (g : rs_G) (t : Nat × Nat) (M : rs_M) (A : ab_S) (hS : x_S M A) (k : Int32) : rs_Ci l g xk t yX5_builds cX5_builds 2 .int 4 [.ref (g.2.2 0), .int k] M (fun r M1 => x_R (ab_builds A k) r M1) := by
  obtain ⟨hL, hok, ht, hdr, him, htx, hun, hca, hse⟩ := id hS
  have hn12 := hok.1
  refine rs_ofi (plainFor_of_name (by decide)) (Nat.le_of_ble_eq_true rfl) ?_
  intro Y K hr
  show Y M 0 [(0, .ref (g.2.2 0)), (1, .int k)] []
  refine r_iload_n K 1 dX5_builds_0 rfl rfl ?_
  refine r_callSi K [.int k] [] dX5_builds_1 mf_X5_isKey qw_364 qw_303 (c_isKey l g xk t M k) rfl rfl (by decide) (Nat.le_of_ble_eq_true rfl) (fun r M1 hp => ?_)
  obtain ⟨hp, he⟩ := hp
  have he := he.symm
  subst he
  rcases hp with ⟨rfl, hb_1⟩ | ⟨rfl, hb_1⟩
  · refine r_if_ne K 9 dX5_builds_4 (by decide) (fun _ => ?_) (fun h => absurd h (by decide))
    obtain ⟨j, hj1, hj2, rfl⟩ := x_nat (a := 0) (b := 7) hb_1 (by decide) (by decide)
    have hjc : (nI j).toNatClampNeg = j := nI_clamp (by omega)
    refine r_aload_n K 0 dX5_builds_9 rfl rfl ?_
    refine r_getR K rfl rfl ff_5_line qw_189 dX5_builds_10 ?_
    refine r_getI K (xL_0 xL1) rfl ff_1_rings qw_71 dX5_builds_13 ?_
    refine r_top_eq (nI (ab_ks A.1).length) hL.1 ?_
    refine r_bipush K (v := 12) dX5_builds_16 (by decide) ?_
    refine r_icmp_lt K 24 dX5_builds_18 (by decide) (fun h_2 => ?_) (fun h_2 => ?_)
    · have nh_2 : (ab_ks A.1).length < 12 := (nf_lt rfl rfl (by omega) (by omega)).mp h_2
      refine r_aload_n K 0 dX5_builds_24 rfl rfl ?_
      refine r_getR K rfl rfl ff_5_line qw_189 dX5_builds_25 ?_
      refine r_aload_n K 0 dX5_builds_28 rfl rfl ?_
      refine r_getR K rfl rfl ff_5_line qw_189 dX5_builds_29 ?_
      refine r_callVr K [] [.ref (g.2.2 1)] dX5_builds_32 mf_X1_last (xL_0 xL1) rfl qw_365 qw_306 qw_307 (c_Line_last l g t M 1 xL1 (ab_ks A.1).length hok.1 hL.1) rfl rfl (by decide) (Nat.le_of_ble_eq_true rfl) (fun r M1 hp => ?_)
      obtain ⟨hp, he⟩ := hp
      have he := he.symm
      subst he
      subst hp
      refine r_iload_n K 1 dX5_builds_35 rfl rfl ?_
      refine r_callVi K [.ref (g.2.2 (1 + 4 + (ab_ks A.1).length)), .int (nI j)] [] dX5_builds_36 mf_X1_mayFollow (xL_0 xL1) rfl qw_366 qw_310 qw_311 (c_mayFollow l g t M 1 xL1 A.2.1 A.1 hok hL.2.2 (1 + 4 + (ab_ks A.1).length) (xL_s xL1 (by omega)) (ab_ks A.1) (by omega) (x_ln_last hL) j (by omega) hok.2.1) rfl rfl (by decide) (Nat.le_of_ble_eq_true rfl) (fun r M1 hp => ?_)
      obtain ⟨hp, he⟩ := hp
      have he := he.symm
      subst he
      rcases hp with ⟨rfl, hb_3⟩ | ⟨rfl, hb_3⟩
      · refine r_if_ne K 45 dX5_builds_39 (by decide) (fun _ => ?_) (fun h => absurd h (by decide))
        refine r_aload_n K 0 dX5_builds_45 rfl rfl ?_
        refine r_iload_n K 1 dX5_builds_46 rfl rfl ?_
        refine r_callVv K [.int (nI j)] [] dX5_builds_47 mf_X5_buildKnown rfl rfl qw_367 qw_369 qs_12 (c_buildKnown l g t M A hS (by omega) j (by omega)) rfl rfl (by decide) (Nat.le_of_ble_eq_true rfl) (fun M1 hp => ?_)
        have hL2 : x_ln M1 1 A.2.1 (ab_build A.1 j) := hp.1
        have hln : (ab_ks (ab_build A.1 j)).length = (ab_ks A.1).length + 1 := by simp [ab_build, ab_ks]
        have hL3 : M1 1 3 = nI ((ab_ks A.1).length + 1) := by rw [hL2.1, hln]
        refine r_aload_n K 0 dX5_builds_50 rfl rfl ?_
        refine r_getR K rfl rfl ff_5_line qw_189 dX5_builds_51 ?_
        refine r_aload_n K 0 dX5_builds_54 rfl rfl ?_
        refine r_getR K rfl rfl ff_5_line qw_189 dX5_builds_55 ?_
        refine r_callVr K [] [.ref (g.2.2 1)] dX5_builds_58 mf_X1_last (xL_0 xL1) rfl qw_365 qw_306 qw_307 (c_Line_last l g t M1 1 xL1 ((ab_ks A.1).length + 1) (by omega) hL3) rfl rfl (by decide) (Nat.le_of_ble_eq_true rfl) (fun r M9 hp9 => ?_)
        obtain ⟨hp9, he⟩ := hp9
        have he := he.symm
        subst he
        subst hp9
        refine r_callVi K [.ref (g.2.2 (1 + 4 + ((ab_ks A.1).length + 1)))] [] dX5_builds_61 mf_X1_cost (xL_0 xL1) rfl qw_380 qw_381 qw_382 (c_Line_cost l g t M1 1 xL1 A.2.1 (ab_build A.1 j) hp.2.1 hL2.2.2 (1 + 4 + ((ab_ks A.1).length + 1)) ((ab_ks A.1).length + 1) (xL_s xL1 (by omega)) (by omega) (x_ln_c0 hL2 (by omega))) rfl rfl (by decide) (Nat.le_of_ble_eq_true rfl) (fun r M9 hp9 => ?_)
        obtain ⟨hp9, he⟩ := hp9
        have he := he.symm
        subst he
        subst hp9
        refine r_top_eq (ab_lcost A.2.1 A.1 (ab_ks A.1 ++ [j])) (by rw [x_ln_cost hL2 (by omega), ab_ringcost, List.take_of_length_le (by omega), ab_lcost]; simp; rfl) ?_
        have e : ab_builds A (nI j) = (ab_lcost A.2.1 A.1 (ab_ks A.1 ++ [j]), ab_done A j) := by rw [ab_builds, ab_if_pos hb_1, ab_if_pos (by omega), hjc, ab_if_pos hb_3]
        exact hr _ _ _ _ dX5_builds_64 (by rw [e]; exact ⟨rfl, hp⟩)
      · refine r_if_ne K 45 dX5_builds_39 (by decide) (fun h => absurd h (by decide)) (fun _ => ?_)
        refine r_bipush K (v := (-2)) dX5_builds_42 (by decide) ?_
        have e : ab_builds A (nI j) = (-2, A) := by rw [ab_builds, ab_if_pos hb_1, ab_if_pos (by omega), hjc, ab_if_neg hb_3]
        exact hr _ _ _ _ dX5_builds_44 (by rw [e]; exact ⟨rfl, hS⟩)
    · have nh_2 : ¬ (ab_ks A.1).length < 12 := mt (nf_lt rfl rfl (by omega) (by omega)).mpr h_2
      refine r_bipush K (v := (-3)) dX5_builds_21 (by decide) ?_
      have e : ab_builds A (nI j) = (-3, A) := by rw [ab_builds, ab_if_pos hb_1, ab_if_neg (by omega)]
      exact hr _ _ _ _ dX5_builds_23 (by rw [e]; exact ⟨rfl, hS⟩)
  · refine r_if_ne K 9 dX5_builds_4 (by decide) (fun h => absurd h (by decide)) (fun _ => ?_)
    refine r_iconst K (v := (-1)) dX5_builds_7 (by decide) ?_
    have e : ab_builds A k = (-1, A) := by rw [ab_builds, ab_if_neg hb_1]
    exact hr _ _ _ _ dX5_builds_8 (by rw [e]; exact ⟨rfl, hS⟩)
set_option maxHeartbeats 4000000 in
set_option maxRecDepth 100000 in
theorem c_follows (l : Launch) (g : rs_G) (t : Nat × Nat) (M : rs_M) (A : ab_S) (hS : x_S M A) (h : Int32) : rs_Ci l g xk t yX5_follows cX5_follows 3 .int 11 [.ref (g.2.2 0), .int h] M (fun r M1 => x_R (ab_follows A h) r M1) := by
  obtain ⟨hL, hok, ht, hdr, him, htx, hun, hca, hse⟩ := id hS
  have hn12 := hok.1
  refine rs_ofi (plainFor_of_name (by decide)) (Nat.le_of_ble_eq_true rfl) ?_
  intro Y K hr
  show Y M 0 [(0, .ref (g.2.2 0)), (1, .int h)] []
  refine r_iload_n K 1 dX5_follows_0 rfl rfl ?_
  refine r_iconst K (v := 1) dX5_follows_1 (by decide) ?_
  refine r_iconst K (v := 5) dX5_follows_2 (by decide) ?_
  refine r_callSi K [.int h, .int 1, .int 5] [] dX5_follows_3 mf_X5_isWithin qw_227 qw_228 (c_isWithin l g xk t M h 1 5) rfl rfl (by decide) (Nat.le_of_ble_eq_true rfl) (fun r M1 hp => ?_)
  obtain ⟨hp, he⟩ := hp
  have he := he.symm
  subst he
  rcases hp with ⟨rfl, hb_1⟩ | ⟨rfl, hb_1⟩
  · refine r_if_ne K 11 dX5_follows_6 (by decide) (fun _ => ?_) (fun h => absurd h (by decide))
    obtain ⟨j, hj1, hj2, rfl⟩ := x_nat (a := 1) (b := 5) hb_1 (by decide) (by decide)
    have hjc : (nI j).toNatClampNeg = j := nI_clamp (by omega)
    have hpr := ab_plan_rows A.2.1 A.1 (h := j) (by omega)
    refine r_aload_n K 0 dX5_follows_11 rfl rfl ?_
    refine r_getR K rfl rfl ff_5_line qw_189 dX5_follows_12 ?_
    refine r_getI K (xL_0 xL1) rfl ff_1_rings qw_71 dX5_follows_15 ?_
    refine r_top_eq (nI (ab_ks A.1).length) hL.1 ?_
    refine r_bipush K (v := 12) dX5_follows_18 (by decide) ?_
    refine r_icmp_lt K 26 dX5_follows_20 (by decide) (fun h_2 => ?_) (fun h_2 => ?_)
    · have nh_2 : (ab_ks A.1).length < 12 := (nf_lt rfl rfl (by omega) (by omega)).mp h_2
      refine r_aload_n K 0 dX5_follows_26 rfl rfl ?_
      refine r_getR K rfl rfl ff_5_search qw_195 dX5_follows_27 ?_
      refine r_aload_n K 0 dX5_follows_30 rfl rfl ?_
      refine r_getR K rfl rfl ff_5_line qw_189 dX5_follows_31 ?_
      refine r_iload_n K 1 dX5_follows_34 rfl rfl ?_
      refine r_callVv K [.ref (g.2.2 1), .int (nI j)] [] dX5_follows_35 mf_X3_look rfl rfl qw_391 qw_392 qw_393 (c_look l g t M xL1 A.2.1 ht A.1 hok hL hca j (by omega) (by omega)) rfl rfl (by decide) (Nat.le_of_ble_eq_true rfl) (fun Mk hp => ?_)
      obtain ⟨hl1, hl2, hl3⟩ := hp
      have hSk : x_S Mk A := x_S_scr hS (fun c hc => hl3 c (by omega)) ⟨j, by omega, hl1, Or.inr hl2⟩
      refine r_aload_n K 0 dX5_follows_38 rfl rfl ?_
      refine r_getR K rfl rfl ff_5_search qw_195 dX5_follows_39 ?_
      refine r_getI K rfl rfl ff_3_rows qw_173 dX5_follows_42 ?_
      refine r_top_eq (nI (ab_plan A.2.1 A.1 j).1) hl2.1 ?_
      refine r_if_ne K 51 dX5_follows_45 (by decide) (fun h_3 => ?_) (fun h_3 => ?_)
      · have nh_3 : ¬ (ab_plan A.2.1 A.1 j).1 = 0 := mt (nf_eq rfl rfl (by omega) (by omega)).mpr h_3
        refine r_aload_n K 0 dX5_follows_51 rfl rfl ?_
        refine r_getR K rfl rfl ff_5_search qw_195 dX5_follows_52 ?_
        refine r_getR K rfl rfl ff_3_firstRow qw_169 dX5_follows_55 ?_
        refine r_iconst K (v := 0) dX5_follows_58 (by decide) ?_
        refine r_iald K (j := 0) rfl rfl (by decide) (by decide) dX5_follows_59 ?_
        refine r_top_eq (nI ((ab_plan A.2.1 A.1 j).2.2.getD 0 0)) ((hl2.2 (by omega)).2 0 (by omega)) ?_
        refine r_istore_n K [(2, .int (nI ((ab_plan A.2.1 A.1 j).2.2.getD 0 0))), (0, .ref (g.2.2 0)), (1, .int (nI j))] dX5_follows_60 rfl (by decide) rfl ?_
        refine r_aload_n K 1 dX5_follows_61 rfl rfl ?_
        refine r_iload_n K 0 dX5_follows_62 rfl rfl ?_
        refine r_callVv K [.int (nI ((ab_plan A.2.1 A.1 j).2.2.getD 0 0))] [] dX5_follows_63 mf_X5_buildKnown rfl rfl qw_367 qw_369 qs_12 (c_buildKnown l g t Mk A hSk (by omega) ((ab_plan A.2.1 A.1 j).2.2.getD 0 0) (ab_plan_k (by omega) (by omega))) rfl rfl (by decide) (Nat.le_of_ble_eq_true rfl) (fun M1 hp => ?_)
        refine r_iload_n K 0 dX5_follows_66 rfl rfl ?_
        have e : ab_follows A (nI j) = (nI ((ab_plan A.2.1 A.1 j).2.2.getD 0 0), ab_done A ((ab_plan A.2.1 A.1 j).2.2.getD 0 0)) := by rw [ab_follows, ab_if_pos hb_1, ab_if_pos (by omega), hjc, ab_if_neg (by omega)]
        exact hr _ _ _ _ dX5_follows_67 (by rw [e]; exact ⟨rfl, hp⟩)
      · have nh_3 : (ab_plan A.2.1 A.1 j).1 = 0 := (nf_eq rfl rfl (by omega) (by omega)).mp h_3
        refine r_bipush K (v := (-2)) dX5_follows_48 (by decide) ?_
        have e : ab_follows A (nI j) = (-2, A) := by rw [ab_follows, ab_if_pos hb_1, ab_if_pos (by omega), hjc, ab_if_pos (by omega)]
        exact hr _ _ _ _ dX5_follows_50 (by rw [e]; exact ⟨rfl, hSk⟩)
    · have nh_2 : ¬ (ab_ks A.1).length < 12 := mt (nf_lt rfl rfl (by omega) (by omega)).mpr h_2
      refine r_bipush K (v := (-3)) dX5_follows_23 (by decide) ?_
      have e : ab_follows A (nI j) = (-3, A) := by rw [ab_follows, ab_if_pos hb_1, ab_if_neg (by omega)]
      exact hr _ _ _ _ dX5_follows_25 (by rw [e]; exact ⟨rfl, hS⟩)
  · refine r_if_ne K 11 dX5_follows_6 (by decide) (fun h => absurd h (by decide)) (fun _ => ?_)
    refine r_iconst K (v := (-1)) dX5_follows_9 (by decide) ?_
    have e : ab_follows A h = (-1, A) := by rw [ab_follows, ab_if_neg hb_1]
    exact hr _ _ _ _ dX5_follows_10 (by rw [e]; exact ⟨rfl, hS⟩)
end
section
theorem x_99 {x : Int32} (h : (-99) ≤ x ∧ x ≤ 99) : -99 ≤ x.toInt ∧ x.toInt ≤ 99 := by
  obtain ⟨h1, h2⟩ := h
  rw [Int32.le_iff_toInt_le] at h1 h2
  have e1 : (-99 : Int32).toInt = -99 := by decide
  have e2 : (99 : Int32).toInt = 99 := by decide
  omega
theorem x_rnat {w v : Int32} (h : 0 ≤ v ∧ ((w = 0 ∧ v ≤ 3) ∨ (w = 1 ∧ v ≤ 2) ∨ (w = 2 ∧ v ≤ 20))) : ∃ a b, w = nI a ∧ v = nI b ∧ ab_rlim a b := by
  obtain ⟨h0, h⟩ := h
  rcases h with ⟨rfl, h⟩ | ⟨rfl, h⟩ | ⟨rfl, h⟩
  · obtain ⟨j, h1, h2, rfl⟩ := x_nat (a := 0) (b := 3) ⟨h0, h⟩ (by decide) (by decide)
    exact ⟨0, j, rfl, rfl, Or.inl ⟨rfl, h2⟩⟩
  · obtain ⟨j, h1, h2, rfl⟩ := x_nat (a := 0) (b := 2) ⟨h0, h⟩ (by decide) (by decide)
    exact ⟨1, j, rfl, rfl, Or.inr (Or.inl ⟨rfl, h2⟩)⟩
  · obtain ⟨j, h1, h2, rfl⟩ := x_nat (a := 0) (b := 20) ⟨h0, h⟩ (by decide) (by decide)
    exact ⟨2, j, rfl, rfl, Or.inr (Or.inr ⟨rfl, h2⟩)⟩
theorem ab_rlim_le {a b : Nat} (h : ab_rlim a b) : a ≤ 2 ∧ b ≤ 20 := by rcases h with h | h | h <;> omega
theorem x_knat {k : Int32} {j : Nat} (hj : j < 2 ^ 31) (h1 : (-2) ≤ k) (h2 : ¬ k = -1) (h3 : ¬ k = -2) (h4 : k < nI j) : ∃ q, q < j ∧ k = nI q := by
  have n0 : ¬ k < 0 := fun q => by
    rw [Int32.lt_iff_toInt_lt] at q
    rw [Int32.le_iff_toInt_le] at h1
    have a1 : k.toInt ≠ -1 := fun e => h2 (Int32.toInt_inj.mp (by rw [e]; decide))
    have a2 : k.toInt ≠ -2 := fun e => h3 (Int32.toInt_inj.mp (by rw [e]; decide))
    have z : (0 : Int32).toInt = 0 := by decide
    have z2 : (-2 : Int32).toInt = -2 := by decide
    omega
  obtain ⟨q, hq, rfl⟩ := nI_of n0
  exact ⟨q, (nI_ltI hq hj).mp h4, rfl⟩
set_option maxHeartbeats 4000000 in
set_option maxRecDepth 100000 in
theorem c_wishes (l : Launch) (g : rs_G) (t : Nat × Nat) (M : rs_M) (A : ab_S) (hS : x_S M A) (p x y : Int32) : rs_Ci l g xk t yX5_wishes cX5_wishes 4 .int 3 [.ref (g.2.2 0), .int p, .int x, .int y] M (fun r M1 => x_R (ab_wishes A p x y) r M1) := by
  obtain ⟨hL, hok, ht, hdr, him, htx, hun, hca, hse⟩ := id hS
  have hn12 := hok.1
  obtain ⟨ds, hds, hdl, hch⟩ := hun
  refine rs_ofi (plainFor_of_name (by decide)) (Nat.le_of_ble_eq_true rfl) ?_
  intro Y K hr
  show Y M 0 [(0, .ref (g.2.2 0)), (1, .int p), (2, .int x), (3, .int y)] []
  refine r_iload_n K 1 dX5_wishes_0 rfl rfl ?_
  refine r_iconst K (v := 1) dX5_wishes_1 (by decide) ?_
  refine r_bipush K (v := 17) dX5_wishes_2 (by decide) ?_
  refine r_callSi K [.int p, .int 1, .int 17] [] dX5_wishes_4 mf_X5_isWithin qw_227 qw_228 (c_isWithin l g xk t M p 1 17) rfl rfl (by decide) (Nat.le_of_ble_eq_true rfl) (fun r M1 hp => ?_)
  obtain ⟨hp, he⟩ := hp
  have he := he.symm
  subst he
  rcases hp with ⟨rfl, hb_1⟩ | ⟨rfl, hb_1⟩
  · refine r_if_eq K 24 dX5_wishes_7 (by decide) (fun h => absurd h (by decide)) (fun _ => ?_)
    refine r_iload_n K 2 dX5_wishes_10 rfl rfl ?_
    refine r_callSi K [.int x] [] dX5_wishes_11 mf_X5_isWish qw_414 qw_415 (c_isWish l g xk t M x) rfl rfl (by decide) (Nat.le_of_ble_eq_true rfl) (fun r M1 hp => ?_)
    obtain ⟨hp, he⟩ := hp
    have he := he.symm
    subst he
    rcases hp with ⟨rfl, hb_2⟩ | ⟨rfl, hb_2⟩
    · refine r_if_eq K 24 dX5_wishes_14 (by decide) (fun h => absurd h (by decide)) (fun _ => ?_)
      refine r_iload_n K 3 dX5_wishes_17 rfl rfl ?_
      refine r_callSi K [.int y] [] dX5_wishes_18 mf_X5_isWish qw_414 qw_415 (c_isWish l g xk t M y) rfl rfl (by decide) (Nat.le_of_ble_eq_true rfl) (fun r M1 hp => ?_)
      obtain ⟨hp, he⟩ := hp
      have he := he.symm
      subst he
      rcases hp with ⟨rfl, hb_3⟩ | ⟨rfl, hb_3⟩
      · refine r_if_ne K 26 dX5_wishes_21 (by decide) (fun _ => ?_) (fun h => absurd h (by decide))
        obtain ⟨j, hj1, hj2, rfl⟩ := x_nat (a := 1) (b := 17) hb_1 (by omega) (by omega)
        have jc : (nI j).toNatClampNeg = j := nI_clamp (by omega)
        refine r_aload_n K 0 dX5_wishes_26 rfl rfl ?_
        refine r_getR K rfl rfl ff_5_line qw_189 dX5_wishes_27 ?_
        refine r_getR K (xL_0 xL1) rfl ff_1_wishX qw_66 dX5_wishes_30 ?_
        refine r_iload_n K 1 dX5_wishes_33 rfl rfl ?_
        refine r_iald K (j := j) (xL_2 xL1) rfl (by omega) (by decide) dX5_wishes_34 ?_
        refine r_top_eq (ab_wx A.1 j) (hL.2.2.2.2.2.2 j (by omega)).1 ?_
        refine r_iload_n K 2 dX5_wishes_35 rfl rfl ?_
        refine r_icmp_ne K 55 dX5_wishes_36 (by decide) (fun h_4 => ?_) (fun h_4 => ?_)
        · refine r_aload_n K 0 dX5_wishes_55 rfl rfl ?_
          refine r_getR K rfl rfl ff_5_deeds qw_194 dX5_wishes_56 ?_
          refine r_iconst K (v := 1) dX5_wishes_59 (by decide) ?_
          refine r_iload_n K 1 dX5_wishes_60 rfl rfl ?_
          refine r_aload_n K 0 dX5_wishes_61 rfl rfl ?_
          refine r_getR K rfl rfl ff_5_line qw_189 dX5_wishes_62 ?_
          refine r_getR K (xL_0 xL1) rfl ff_1_wishX qw_66 dX5_wishes_65 ?_
          refine r_iload_n K 1 dX5_wishes_68 rfl rfl ?_
          refine r_iald K (j := j) (xL_2 xL1) rfl (by omega) (by decide) dX5_wishes_69 ?_
          refine r_top_eq (ab_wx A.1 j) (hL.2.2.2.2.2.2 j (by omega)).1 ?_
          refine r_aload_n K 0 dX5_wishes_70 rfl rfl ?_
          refine r_getR K rfl rfl ff_5_line qw_189 dX5_wishes_71 ?_
          refine r_getR K (xL_0 xL1) rfl ff_1_wishY qw_68 dX5_wishes_74 ?_
          refine r_iload_n K 1 dX5_wishes_77 rfl rfl ?_
          refine r_iald K (j := j) (xL_3 xL1) rfl (by omega) (by decide) dX5_wishes_78 ?_
          refine r_top_eq (ab_wy A.1 j) (hL.2.2.2.2.2.2 j (by omega)).2 ?_
          refine r_callVv K [.int 1, .int (nI j), .int (ab_wx A.1 j), .int (ab_wy A.1 j)] [] dX5_wishes_79 mf_X0_add rfl rfl qw_371 qw_372 qw_373 (c_Deeds_add l g t M ds hds hdl (1, j, ab_wx A.1 j, ab_wy A.1 j)) rfl rfl (by decide) (Nat.le_of_ble_eq_true rfl) (fun Ma hp => ?_)
          obtain ⟨ha1, ha2⟩ := hp
          refine r_aload_n K 0 dX5_wishes_82 rfl rfl ?_
          refine r_getR K rfl rfl ff_5_line qw_189 dX5_wishes_83 ?_
          refine r_iload_n K 1 dX5_wishes_86 rfl rfl ?_
          refine r_iload_n K 2 dX5_wishes_87 rfl rfl ?_
          refine r_iload_n K 3 dX5_wishes_88 rfl rfl ?_
          refine r_callVv K [.int (nI j), .int x, .int y] [] dX5_wishes_89 mf_X1_setWish (xL_0 xL1) rfl qw_417 qw_294 qw_295 (c_setWish l g t Ma 1 xL1 A.2.1 A.1 (x_ln_fr hok.1 hL ha2 (by omega)) j (by omega) (by omega) x y) rfl rfl (by decide) (Nat.le_of_ble_eq_true rfl) (fun Mb hp => ?_)
          obtain ⟨hb1, hb2⟩ := hp
          refine r_aload_n K 0 dX5_wishes_92 rfl rfl ?_
          refine r_callVv K [] [] dX5_wishes_93 mf_X5_lineChanged rfl rfl qw_356 qw_358 qs_11 (c_lineChanged l g t Mb) rfl rfl (by decide) (Nat.le_of_ble_eq_true rfl) (fun M1 hp => ?_)
          subst hp
          refine r_iconst K (v := 1) dX5_wishes_96 (by decide) ?_
          have hok2 : ab_ok (ab_setwish A.1 j x y) := ab_ok_wish hok (by omega) (x_99 hb_2) (x_99 hb_3)
          have e : ab_wishes A (nI j) x y = (1, ab_wL A (ab_setwish A.1 j x y) ((A.1 :: A.2.2.1).take 12)) := by rw [ab_wishes, ab_if_pos ⟨hb_1, hb_2, hb_3⟩, jc, ab_if_neg (fun q => h_4 q.1)]
          exact hr _ _ _ _ dX5_wishes_97 (by rw [e]; exact ⟨rfl, (x_S_line hS (fun c h1 h2 => by rw [rs_st_ne _ _ _ (by omega), hb2 c (by omega), ha2 c (by omega)]) (x_ln_fr hok2.1 hb1 (x_fr_st (lo := 45) (hi := 46) (by decide) (by decide)) (by omega)) hok2 (x_und_push hdl hch (x_dd_fr (x_dd_fr ha1 (fun c h1 h2 => hb2 c (by omega))) (fun c h1 h2 => rs_st_ne _ _ _ (by omega))) (Or.inr (Or.inl ⟨rfl, by omega, by omega⟩)) (by rw [ab_undo_1 rfl]; exact ab_wish_wish A.1 j x y) hok) (x_cache_0 (by rw [rs_st_eq])))⟩)
        · refine r_aload_n K 0 dX5_wishes_39 rfl rfl ?_
          refine r_getR K rfl rfl ff_5_line qw_189 dX5_wishes_40 ?_
          refine r_getR K (xL_0 xL1) rfl ff_1_wishY qw_68 dX5_wishes_43 ?_
          refine r_iload_n K 1 dX5_wishes_46 rfl rfl ?_
          refine r_iald K (j := j) (xL_3 xL1) rfl (by omega) (by decide) dX5_wishes_47 ?_
          refine r_top_eq (ab_wy A.1 j) (hL.2.2.2.2.2.2 j (by omega)).2 ?_
          refine r_iload_n K 3 dX5_wishes_48 rfl rfl ?_
          refine r_icmp_ne K 55 dX5_wishes_49 (by decide) (fun h_5 => ?_) (fun h_5 => ?_)
          · refine r_aload_n K 0 dX5_wishes_55 rfl rfl ?_
            refine r_getR K rfl rfl ff_5_deeds qw_194 dX5_wishes_56 ?_
            refine r_iconst K (v := 1) dX5_wishes_59 (by decide) ?_
            refine r_iload_n K 1 dX5_wishes_60 rfl rfl ?_
            refine r_aload_n K 0 dX5_wishes_61 rfl rfl ?_
            refine r_getR K rfl rfl ff_5_line qw_189 dX5_wishes_62 ?_
            refine r_getR K (xL_0 xL1) rfl ff_1_wishX qw_66 dX5_wishes_65 ?_
            refine r_iload_n K 1 dX5_wishes_68 rfl rfl ?_
            refine r_iald K (j := j) (xL_2 xL1) rfl (by omega) (by decide) dX5_wishes_69 ?_
            refine r_top_eq (ab_wx A.1 j) (hL.2.2.2.2.2.2 j (by omega)).1 ?_
            refine r_aload_n K 0 dX5_wishes_70 rfl rfl ?_
            refine r_getR K rfl rfl ff_5_line qw_189 dX5_wishes_71 ?_
            refine r_getR K (xL_0 xL1) rfl ff_1_wishY qw_68 dX5_wishes_74 ?_
            refine r_iload_n K 1 dX5_wishes_77 rfl rfl ?_
            refine r_iald K (j := j) (xL_3 xL1) rfl (by omega) (by decide) dX5_wishes_78 ?_
            refine r_top_eq (ab_wy A.1 j) (hL.2.2.2.2.2.2 j (by omega)).2 ?_
            refine r_callVv K [.int 1, .int (nI j), .int (ab_wx A.1 j), .int (ab_wy A.1 j)] [] dX5_wishes_79 mf_X0_add rfl rfl qw_371 qw_372 qw_373 (c_Deeds_add l g t M ds hds hdl (1, j, ab_wx A.1 j, ab_wy A.1 j)) rfl rfl (by decide) (Nat.le_of_ble_eq_true rfl) (fun Ma hp => ?_)
            obtain ⟨ha1, ha2⟩ := hp
            refine r_aload_n K 0 dX5_wishes_82 rfl rfl ?_
            refine r_getR K rfl rfl ff_5_line qw_189 dX5_wishes_83 ?_
            refine r_iload_n K 1 dX5_wishes_86 rfl rfl ?_
            refine r_iload_n K 2 dX5_wishes_87 rfl rfl ?_
            refine r_iload_n K 3 dX5_wishes_88 rfl rfl ?_
            refine r_callVv K [.int (nI j), .int x, .int y] [] dX5_wishes_89 mf_X1_setWish (xL_0 xL1) rfl qw_417 qw_294 qw_295 (c_setWish l g t Ma 1 xL1 A.2.1 A.1 (x_ln_fr hok.1 hL ha2 (by omega)) j (by omega) (by omega) x y) rfl rfl (by decide) (Nat.le_of_ble_eq_true rfl) (fun Mb hp => ?_)
            obtain ⟨hb1, hb2⟩ := hp
            refine r_aload_n K 0 dX5_wishes_92 rfl rfl ?_
            refine r_callVv K [] [] dX5_wishes_93 mf_X5_lineChanged rfl rfl qw_356 qw_358 qs_11 (c_lineChanged l g t Mb) rfl rfl (by decide) (Nat.le_of_ble_eq_true rfl) (fun M1 hp => ?_)
            subst hp
            refine r_iconst K (v := 1) dX5_wishes_96 (by decide) ?_
            have hok2 : ab_ok (ab_setwish A.1 j x y) := ab_ok_wish hok (by omega) (x_99 hb_2) (x_99 hb_3)
            have e : ab_wishes A (nI j) x y = (1, ab_wL A (ab_setwish A.1 j x y) ((A.1 :: A.2.2.1).take 12)) := by rw [ab_wishes, ab_if_pos ⟨hb_1, hb_2, hb_3⟩, jc, ab_if_neg (fun q => h_5 q.2)]
            exact hr _ _ _ _ dX5_wishes_97 (by rw [e]; exact ⟨rfl, (x_S_line hS (fun c h1 h2 => by rw [rs_st_ne _ _ _ (by omega), hb2 c (by omega), ha2 c (by omega)]) (x_ln_fr hok2.1 hb1 (x_fr_st (lo := 45) (hi := 46) (by decide) (by decide)) (by omega)) hok2 (x_und_push hdl hch (x_dd_fr (x_dd_fr ha1 (fun c h1 h2 => hb2 c (by omega))) (fun c h1 h2 => rs_st_ne _ _ _ (by omega))) (Or.inr (Or.inl ⟨rfl, by omega, by omega⟩)) (by rw [ab_undo_1 rfl]; exact ab_wish_wish A.1 j x y) hok) (x_cache_0 (by rw [rs_st_eq])))⟩)
          · refine r_bipush K (v := (-2)) dX5_wishes_52 (by decide) ?_
            have e : ab_wishes A (nI j) x y = (-2, A) := by rw [ab_wishes, ab_if_pos ⟨hb_1, hb_2, hb_3⟩, jc, ab_if_pos ⟨h_4, h_5⟩]
            exact hr _ _ _ _ dX5_wishes_54 (by rw [e]; exact ⟨rfl, hS⟩)
      · refine r_if_ne K 26 dX5_wishes_21 (by decide) (fun h => absurd h (by decide)) (fun _ => ?_)
        refine r_iconst K (v := (-1)) dX5_wishes_24 (by decide) ?_
        have e : ab_wishes A p x y = (-1, A) := by rw [ab_wishes, ab_if_neg (fun q => hb_3 q.2.2)]
        exact hr _ _ _ _ dX5_wishes_25 (by rw [e]; exact ⟨rfl, hS⟩)
    · refine r_if_eq K 24 dX5_wishes_14 (by decide) (fun _ => ?_) (fun h => absurd h (by decide))
      refine r_iconst K (v := (-1)) dX5_wishes_24 (by decide) ?_
      have e : ab_wishes A p x y = (-1, A) := by rw [ab_wishes, ab_if_neg (fun q => hb_2 q.2.1)]
      exact hr _ _ _ _ dX5_wishes_25 (by rw [e]; exact ⟨rfl, hS⟩)
  · refine r_if_eq K 24 dX5_wishes_7 (by decide) (fun _ => ?_) (fun h => absurd h (by decide))
    refine r_iconst K (v := (-1)) dX5_wishes_24 (by decide) ?_
    have e : ab_wishes A p x y = (-1, A) := by rw [ab_wishes, ab_if_neg (fun q => hb_1 q.1)]
    exact hr _ _ _ _ dX5_wishes_25 (by rw [e]; exact ⟨rfl, hS⟩)
set_option maxHeartbeats 4000000 in
set_option maxRecDepth 100000 in
theorem c_rules (l : Launch) (g : rs_G) (t : Nat × Nat) (M : rs_M) (A : ab_S) (hS : x_S M A) (w v : Int32) : rs_Ci l g xk t yX5_rules cX5_rules 4 .int 3 [.ref (g.2.2 0), .int w, .int v] M (fun r M1 => x_R (ab_rules A w v) r M1) := by
  obtain ⟨hL, hok, ht, hdr, him, htx, hun, hca, hse⟩ := id hS
  have hn12 := hok.1
  obtain ⟨ds, hds, hdl, hch⟩ := hun
  refine rs_ofi (plainFor_of_name (by decide)) (Nat.le_of_ble_eq_true rfl) ?_
  intro Y K hr
  show Y M 0 [(0, .ref (g.2.2 0)), (1, .int w), (2, .int v)] []
  refine r_iload_n K 1 dX5_rules_0 rfl rfl ?_
  refine r_iload_n K 2 dX5_rules_1 rfl rfl ?_
  refine r_callSi K [.int w, .int v] [] dX5_rules_2 mf_X5_isRule qw_422 qw_279 (c_isRule l g xk t M w v) rfl rfl (by decide) (Nat.le_of_ble_eq_true rfl) (fun r M1 hp => ?_)
  obtain ⟨hp, he⟩ := hp
  have he := he.symm
  subst he
  rcases hp with ⟨rfl, hb_1⟩ | ⟨rfl, hb_1⟩
  · refine r_if_ne K 10 dX5_rules_5 (by decide) (fun _ => ?_) (fun h => absurd h (by decide))
    obtain ⟨i, j, rfl, rfl, hij⟩ := x_rnat hb_1
    obtain ⟨hi2, hj20⟩ := ab_rlim_le hij
    have ic : (nI i).toNatClampNeg = i := nI_clamp (by omega)
    have jc : (nI j).toNatClampNeg = j := nI_clamp (by omega)
    have hrl := ab_rule_lt hok i
    refine r_aload_n K 0 dX5_rules_10 rfl rfl ?_
    refine r_getR K rfl rfl ff_5_line qw_189 dX5_rules_11 ?_
    refine r_iload_n K 1 dX5_rules_14 rfl rfl ?_
    refine r_callVi K [.int (nI i)] [] dX5_rules_15 mf_X1_rule (xL_0 xL1) rfl qw_423 qw_424 qw_425 (c_rule l g t M 1 xL1 A.2.1 A.1 hL i (by omega)) rfl rfl (by decide) (Nat.le_of_ble_eq_true rfl) (fun r M1 hp => ?_)
    obtain ⟨hp, he⟩ := hp
    have he := he.symm
    subst he
    subst hp
    refine r_istore_n K [(3, .int (nI (ab_rule A.1 i))), (0, .ref (g.2.2 0)), (1, .int (nI i)), (2, .int (nI j))] dX5_rules_18 rfl (by decide) rfl ?_
    refine r_iload_n K 0 dX5_rules_19 rfl rfl ?_
    refine r_iload_n K 3 dX5_rules_20 rfl rfl ?_
    refine r_icmp_ne K 27 dX5_rules_21 (by decide) (fun h_2 => ?_) (fun h_2 => ?_)
    · refine r_aload_n K 1 dX5_rules_27 rfl rfl ?_
      refine r_getR K rfl rfl ff_5_deeds qw_194 dX5_rules_28 ?_
      refine r_iconst K (v := 2) dX5_rules_31 (by decide) ?_
      refine r_iload_n K 2 dX5_rules_32 rfl rfl ?_
      refine r_iload_n K 0 dX5_rules_33 rfl rfl ?_
      refine r_iconst K (v := 0) dX5_rules_34 (by decide) ?_
      refine r_callVv K [.int 2, .int (nI i), .int (nI (ab_rule A.1 i)), .int 0] [] dX5_rules_35 mf_X0_add rfl rfl qw_371 qw_372 qw_373 (c_Deeds_add l g t M ds hds hdl (2, i, nI (ab_rule A.1 i), 0)) rfl rfl (by decide) (Nat.le_of_ble_eq_true rfl) (fun Ma hp => ?_)
      obtain ⟨ha1, ha2⟩ := hp
      refine r_aload_n K 1 dX5_rules_38 rfl rfl ?_
      refine r_getR K rfl rfl ff_5_line qw_189 dX5_rules_39 ?_
      refine r_iload_n K 2 dX5_rules_42 rfl rfl ?_
      refine r_iload_n K 3 dX5_rules_43 rfl rfl ?_
      refine r_callVv K [.int (nI i), .int (nI j)] [] dX5_rules_44 mf_X1_setRule (xL_0 xL1) rfl qw_427 qw_282 qw_283 (c_setRule l g t Ma 1 xL1 A.2.1 A.1 (x_ln_fr hok.1 hL ha2 (by omega)) i (by omega) j) rfl rfl (by decide) (Nat.le_of_ble_eq_true rfl) (fun Mb hp => ?_)
      obtain ⟨hb1, hb2⟩ := hp
      refine r_aload_n K 1 dX5_rules_47 rfl rfl ?_
      refine r_callVv K [] [] dX5_rules_48 mf_X5_lineChanged rfl rfl qw_356 qw_358 qs_11 (c_lineChanged l g t Mb) rfl rfl (by decide) (Nat.le_of_ble_eq_true rfl) (fun M1 hp => ?_)
      subst hp
      refine r_iload_n K 0 dX5_rules_51 rfl rfl ?_
      have hok2 : ab_ok (ab_setrule A.1 i j) := ab_ok_rule hok hij
      have e : ab_rules A (nI i) (nI j) = (nI (ab_rule A.1 i), ab_wL A (ab_setrule A.1 i j) ((A.1 :: A.2.2.1).take 12)) := by rw [ab_rules, ab_if_pos hb_1, ic, jc, ab_if_neg h_2]
      exact hr _ _ _ _ dX5_rules_52 (by rw [e]; exact ⟨rfl, (x_S_line hS (fun c h1 h2 => by rw [rs_st_ne _ _ _ (by omega), hb2 c (by omega), ha2 c (by omega)]) (x_ln_fr hok2.1 hb1 (x_fr_st (lo := 45) (hi := 46) (by decide) (by decide)) (by omega)) hok2 (x_und_push hdl hch (x_dd_fr (x_dd_fr ha1 (fun c h1 h2 => hb2 c (by omega))) (fun c h1 h2 => rs_st_ne _ _ _ (by omega))) (Or.inr (Or.inr ⟨rfl, hi2, ab_rule A.1 i, by omega, rfl⟩)) (by rw [ab_undo_2 rfl, nI_clamp (by omega)]; exact ab_rule_rule A.1 hi2 j) hok) (x_cache_0 (by rw [rs_st_eq])))⟩)
    · refine r_bipush K (v := (-2)) dX5_rules_24 (by decide) ?_
      have e : ab_rules A (nI i) (nI j) = (-2, A) := by rw [ab_rules, ab_if_pos hb_1, ic, jc, ab_if_pos h_2]
      exact hr _ _ _ _ dX5_rules_26 (by rw [e]; exact ⟨rfl, hS⟩)
  · refine r_if_ne K 10 dX5_rules_5 (by decide) (fun h => absurd h (by decide)) (fun _ => ?_)
    refine r_iconst K (v := (-1)) dX5_rules_8 (by decide) ?_
    have e : ab_rules A w v = (-1, A) := by rw [ab_rules, ab_if_neg hb_1]
    exact hr _ _ _ _ dX5_rules_9 (by rw [e]; exact ⟨rfl, hS⟩)
set_option maxHeartbeats 4000000 in
set_option maxRecDepth 100000 in
theorem c_undo (l : Launch) (g : rs_G) (t : Nat × Nat) (M : rs_M) (A : ab_S) (hS : x_S M A) : rs_Ci l g xk t yX5_undo cX5_undo 1 .int 3 [.ref (g.2.2 0)] M (fun r M1 => x_R (ab_undoS A) r M1) := by
  obtain ⟨hL, hok, ht, hdr, him, htx, hun, hca, hse⟩ := id hS
  have hn12 := hok.1
  obtain ⟨ds, hds, hdl, hch⟩ := hun
  refine rs_ofi (plainFor_of_name (by decide)) (Nat.le_of_ble_eq_true rfl) ?_
  intro Y K hr
  show Y M 0 [(0, .ref (g.2.2 0))] []
  refine r_aload_n K 0 dX5_undo_0 rfl rfl ?_
  refine r_getR K rfl rfl ff_5_deeds qw_194 dX5_undo_1 ?_
  refine r_getI K rfl rfl ff_0_size qw_147 dX5_undo_4 ?_
  refine r_top_eq (nI ds.length) hds.1 ?_
  refine r_if_gt K 13 dX5_undo_7 (by decide) (fun h_1 => ?_) (fun h_1 => ?_)
  · have nh_1 : 0 < ds.length := (nf_lt rfl rfl (by omega) (by omega)).mp h_1
    obtain ⟨es, d, rfl⟩ : ∃ es d, ds = es ++ [d] := by
      rcases List.eq_nil_or_concat ds with q | ⟨es, d, q⟩
      · subst q; simp at nh_1
      · exact ⟨es, d, by rw [q, List.concat_eq_append]⟩
    have hch2 : ab_chain A.1 (d :: es.reverse) A.2.2.1 := by simpa using hch
    have hel : es.length < 12 := by simp at hdl; omega
    obtain ⟨u, us, hus⟩ : ∃ u us, A.2.2.1 = u :: us := by
      cases hq : A.2.2.1 with
      | nil => rw [hq] at hch2; exact absurd hch2 (by simp [ab_chain])
      | cons u us => exact ⟨u, us, rfl⟩
    rw [hus] at hch2
    simp only [ab_chain] at hch2
    obtain ⟨hk1, hk2, hk3, hk4⟩ := hch2
    have hul := ab_chain_len _ _ _ hk4
    rw [List.length_reverse] at hul
    refine r_aload_n K 0 dX5_undo_13 rfl rfl ?_
    refine r_getR K rfl rfl ff_5_deeds qw_194 dX5_undo_14 ?_
    refine r_aload_n K 0 dX5_undo_17 rfl rfl ?_
    refine r_getR K rfl rfl ff_5_line qw_189 dX5_undo_18 ?_
    refine r_callVv K [.ref (g.2.2 1)] [] dX5_undo_21 mf_X0_takeBack rfl rfl qw_432 qw_433 qw_434 (c_takeBack l g t M xL1 A.2.1 A.1 hL hn12 es d hds hel hk1) rfl rfl (by decide) (Nat.le_of_ble_eq_true rfl) (fun Mb hp => ?_)
    obtain ⟨hb1, hb2, hb3⟩ := hp
    refine r_aload_n K 0 dX5_undo_24 rfl rfl ?_
    refine r_callVv K [] [] dX5_undo_25 mf_X5_lineChanged rfl rfl qw_356 qw_358 qs_11 (c_lineChanged l g t Mb) rfl rfl (by decide) (Nat.le_of_ble_eq_true rfl) (fun M1 hp => ?_)
    subst hp
    refine r_aload_n K 0 dX5_undo_28 rfl rfl ?_
    refine r_getR K rfl rfl ff_5_deeds qw_194 dX5_undo_29 ?_
    refine r_getI K rfl rfl ff_0_size qw_147 dX5_undo_32 ?_
    refine r_top_eq (nI es.length) (by rw [rs_st_ne _ _ _ (by decide)]; exact hb1.1) ?_
    have e : ab_undoS A = (nI us.length, ab_wL A u us) := by simp only [ab_undoS, hus]
    rw [hk2] at hb2
    refine hr _ _ _ _ dX5_undo_35 (by rw [e]; exact ⟨by rw [hul], x_S_line hS (fun c h1 h2 => by rw [rs_st_ne _ _ _ (by omega), hb3 c h1 (by omega)]) (x_ln_fr hk3.1 hb2 (x_fr_st (lo := 45) (hi := 46) (by decide) (by decide)) (by omega)) hk3 ⟨es, x_dd_fr hb1 (fun c h1 h2 => rs_st_ne _ _ _ (by omega)), by omega, hk4⟩ (x_cache_0 (by rw [rs_st_eq]))⟩)
  · have nh_1 : ¬ 0 < ds.length := mt (nf_lt rfl rfl (by omega) (by omega)).mpr h_1
    refine r_bipush K (v := (-2)) dX5_undo_10 (by decide) ?_
    have hd0 : ds = [] := List.length_eq_zero_iff.mp (by omega)
    subst hd0
    have hus : A.2.2.1 = [] := List.length_eq_zero_iff.mp (by have := ab_chain_len _ _ _ hch; simp at this; simpa using this.symm)
    have e : ab_undoS A = (-2, A) := by simp only [ab_undoS, hus]
    exact hr _ _ _ _ dX5_undo_12 (by rw [e]; exact ⟨rfl, hS⟩)
set_option maxHeartbeats 4000000 in
set_option maxRecDepth 100000 in
theorem c_ring (l : Launch) (g : rs_G) (t : Nat × Nat) (M : rs_M) (A : ab_S) (hS : x_S M A) (i w : Int32) : rs_Ci l g xk t yX5_ring cX5_ring 4 .int 2 [.ref (g.2.2 0), .int i, .int w] M (fun r M1 => x_R (ab_ring A i w, A) r M1) := by
  obtain ⟨hL, hok, ht, hdr, him, htx, hun, hca, hse⟩ := id hS
  have hn12 := hok.1
  refine rs_ofi (plainFor_of_name (by decide)) (Nat.le_of_ble_eq_true rfl) ?_
  intro Y K hr
  show Y M 0 [(0, .ref (g.2.2 0)), (1, .int i), (2, .int w)] []
  refine r_iload_n K 1 dX5_ring_0 rfl rfl ?_
  refine r_iconst K (v := 0) dX5_ring_1 (by decide) ?_
  refine r_aload_n K 0 dX5_ring_2 rfl rfl ?_
  refine r_getR K rfl rfl ff_5_line qw_189 dX5_ring_3 ?_
  refine r_getI K (xL_0 xL1) rfl ff_1_rings qw_71 dX5_ring_6 ?_
  refine r_top_eq (nI (ab_ks A.1).length) hL.1 ?_
  refine r_callSi K [.int i, .int 0, .int (nI (ab_ks A.1).length)] [] dX5_ring_9 mf_X5_isWithin qw_227 qw_228 (c_isWithin l g xk t M i 0 (nI (ab_ks A.1).length)) rfl rfl (by decide) (Nat.le_of_ble_eq_true rfl) (fun r M1 hp => ?_)
  obtain ⟨hp, he⟩ := hp
  have he := he.symm
  subst he
  rcases hp with ⟨rfl, hb_1⟩ | ⟨rfl, hb_1⟩
  · refine r_if_ne K 18 dX5_ring_12 (by decide) (fun _ => ?_) (fun h => absurd h (by decide))
    obtain ⟨j, hj1, hj2, rfl⟩ := x_nat (a := 0) (b := (ab_ks A.1).length) hb_1 (by omega) (by omega)
    have jc : (nI j).toNatClampNeg = j := nI_clamp (by omega)
    have hsp := hL.2.1 j hj2
    have e0 : ab_ring A (nI j) w = ab_rget A.2.1 A.1 j w := by rw [ab_ring, ab_if_pos hb_1, jc]
    refine r_aload_n K 0 dX5_ring_18 rfl rfl ?_
    refine r_getR K rfl rfl ff_5_line qw_189 dX5_ring_19 ?_
    refine r_getR K (xL_0 xL1) rfl ff_1_spots qw_64 dX5_ring_22 ?_
    refine r_iload_n K 1 dX5_ring_25 rfl rfl ?_
    refine r_aaldS K (j := j) (xL_1 xL1) rfl (xL_e (by omega)) (by omega) (by decide) dX5_ring_26 ?_
    refine r_astore_n K [(3, .ref (g.2.2 (1 + 4 + j))), (0, .ref (g.2.2 0)), (1, .int (nI j)), (2, .int w)] dX5_ring_27 rfl (by decide) rfl ?_
    refine r_iload_n K 3 dX5_ring_28 rfl rfl ?_
    refine r_table K [(0, 68), (1, 73), (2, 78), (3, 83), (4, 88), (5, 93)] 102 dX5_ring_29 (by decide) (by decide) (by decide) ?_
    simp only [rs_swp]
    refine ⟨fun h_2_0 => ?_, fun h_2_0 => ⟨fun h_2_1 => ?_, fun h_2_1 => ⟨fun h_2_2 => ?_, fun h_2_2 => ⟨fun h_2_3 => ?_, fun h_2_3 => ⟨fun h_2_4 => ?_, fun h_2_4 => ⟨fun h_2_5 => ?_, fun h_2_5 => ?_⟩⟩⟩⟩⟩⟩
    · refine r_aload_n K 0 dX5_ring_68 rfl rfl ?_
      refine r_getI K (xL_s xL1 (by omega)) rfl ff_4_key qw_36 dX5_ring_69 ?_
      refine r_top_eq (ab_last ((ab_ks A.1).take j)) hsp.2.1 ?_
      exact hr _ _ _ _ dX5_ring_72 ⟨by rw [e0, ab_rget, if_pos h_2_0], hS⟩
    · refine r_aload_n K 0 dX5_ring_73 rfl rfl ?_
      refine r_getI K (xL_s xL1 (by omega)) rfl ff_4_slopeX qw_38 dX5_ring_74 ?_
      refine r_top_eq ((ab_geo A.2.1 ((ab_ks A.1).take j)).1) hsp.2.2.1 ?_
      exact hr _ _ _ _ dX5_ring_77 ⟨by rw [e0, ab_rget, if_neg h_2_0, if_pos h_2_1], hS⟩
    · refine r_aload_n K 0 dX5_ring_78 rfl rfl ?_
      refine r_getI K (xL_s xL1 (by omega)) rfl ff_4_slopeY qw_41 dX5_ring_79 ?_
      refine r_top_eq ((ab_geo A.2.1 ((ab_ks A.1).take j)).2.1) hsp.2.2.2.1 ?_
      exact hr _ _ _ _ dX5_ring_82 ⟨by rw [e0, ab_rget, if_neg h_2_0, if_neg h_2_1, if_pos h_2_2], hS⟩
    · refine r_aload_n K 0 dX5_ring_83 rfl rfl ?_
      refine r_getI K (xL_s xL1 (by omega)) rfl ff_4_placeX qw_44 dX5_ring_84 ?_
      refine r_top_eq ((ab_geo A.2.1 ((ab_ks A.1).take j)).2.2.1) hsp.2.2.2.2.1 ?_
      exact hr _ _ _ _ dX5_ring_87 ⟨by rw [e0, ab_rget, if_neg h_2_0, if_neg h_2_1, if_neg h_2_2, if_pos h_2_3], hS⟩
    · refine r_aload_n K 0 dX5_ring_88 rfl rfl ?_
      refine r_getI K (xL_s xL1 (by omega)) rfl ff_4_placeY qw_47 dX5_ring_89 ?_
      refine r_top_eq ((ab_geo A.2.1 ((ab_ks A.1).take j)).2.2.2) hsp.2.2.2.2.2 ?_
      exact hr _ _ _ _ dX5_ring_92 ⟨by rw [e0, ab_rget, if_neg h_2_0, if_neg h_2_1, if_neg h_2_2, if_neg h_2_3, if_pos h_2_4], hS⟩
    · refine r_aload_n K 1 dX5_ring_93 rfl rfl ?_
      refine r_getR K rfl rfl ff_5_line qw_189 dX5_ring_94 ?_
      refine r_aload_n K 0 dX5_ring_97 rfl rfl ?_
      refine r_callVi K [.ref (g.2.2 (1 + 4 + j))] [] dX5_ring_98 mf_X1_cost (xL_0 xL1) rfl qw_380 qw_381 qw_382 (c_Line_cost l g t M 1 xL1 A.2.1 A.1 hok hL.2.2 (1 + 4 + j) j (xL_s xL1 (by omega)) (by omega) (x_ln_c0 hL hj2)) rfl rfl (by decide) (Nat.le_of_ble_eq_true rfl) (fun r M1 hp => ?_)
      obtain ⟨hp, he⟩ := hp
      have he := he.symm
      subst he
      subst hp
      refine r_top_eq (ab_ringcost A.2.1 A.1 j) (x_ln_cost hL hj2) ?_
      exact hr _ _ _ _ dX5_ring_101 ⟨by rw [e0, ab_rget, if_neg h_2_0, if_neg h_2_1, if_neg h_2_2, if_neg h_2_3, if_neg h_2_4, if_pos h_2_5], hS⟩
    · refine r_ldc K dX5_ring_102 qw_447 ?_
      exact hr _ _ _ _ dX5_ring_104 ⟨by rw [e0, ab_rget, if_neg h_2_0, if_neg h_2_1, if_neg h_2_2, if_neg h_2_3, if_neg h_2_4, if_neg h_2_5], hS⟩
  · refine r_if_ne K 18 dX5_ring_12 (by decide) (fun h => absurd h (by decide)) (fun _ => ?_)
    refine r_ldc K dX5_ring_15 qw_447 ?_
    exact hr _ _ _ _ dX5_ring_17 ⟨by rw [ab_ring, ab_if_neg hb_1], hS⟩
set_option maxHeartbeats 4000000 in
set_option maxRecDepth 100000 in
theorem c_wish (l : Launch) (g : rs_G) (t : Nat × Nat) (M : rs_M) (A : ab_S) (hS : x_S M A) (p w : Int32) : rs_Ci l g xk t yX5_wish cX5_wish 3 .int 1 [.ref (g.2.2 0), .int p, .int w] M (fun r M1 => x_R (ab_wish A p w, A) r M1) := by
  obtain ⟨hL, hok, ht, hdr, him, htx, hun, hca, hse⟩ := id hS
  have hn12 := hok.1
  refine rs_ofi (plainFor_of_name (by decide)) (Nat.le_of_ble_eq_true rfl) ?_
  intro Y K hr
  show Y M 0 [(0, .ref (g.2.2 0)), (1, .int p), (2, .int w)] []
  refine r_iload_n K 1 dX5_wish_0 rfl rfl ?_
  refine r_iconst K (v := 0) dX5_wish_1 (by decide) ?_
  refine r_bipush K (v := 17) dX5_wish_2 (by decide) ?_
  refine r_callSi K [.int p, .int 0, .int 17] [] dX5_wish_4 mf_X5_isWithin qw_227 qw_228 (c_isWithin l g xk t M p 0 17) rfl rfl (by decide) (Nat.le_of_ble_eq_true rfl) (fun r M1 hp => ?_)
  obtain ⟨hp, he⟩ := hp
  have he := he.symm
  subst he
  rcases hp with ⟨rfl, hb_1⟩ | ⟨rfl, hb_1⟩
  · refine r_if_eq K 19 dX5_wish_7 (by decide) (fun h => absurd h (by decide)) (fun _ => ?_)
    refine r_iload_n K 2 dX5_wish_10 rfl rfl ?_
    refine r_iconst K (v := 0) dX5_wish_11 (by decide) ?_
    refine r_iconst K (v := 1) dX5_wish_12 (by decide) ?_
    refine r_callSi K [.int w, .int 0, .int 1] [] dX5_wish_13 mf_X5_isWithin qw_227 qw_228 (c_isWithin l g xk t M w 0 1) rfl rfl (by decide) (Nat.le_of_ble_eq_true rfl) (fun r M1 hp => ?_)
    obtain ⟨hp, he⟩ := hp
    have he := he.symm
    subst he
    rcases hp with ⟨rfl, hb_2⟩ | ⟨rfl, hb_2⟩
    · refine r_if_ne K 22 dX5_wish_16 (by decide) (fun _ => ?_) (fun h => absurd h (by decide))
      obtain ⟨j, hj1, hj2, rfl⟩ := x_nat (a := 0) (b := 17) hb_1 (by omega) (by omega)
      have jc : (nI j).toNatClampNeg = j := nI_clamp (by omega)
      have e0 : ab_wish A (nI j) w = ab_if (w = 0) (ab_wx A.1 j) (ab_wy A.1 j) := by rw [ab_wish, ab_if_pos ⟨hb_1, hb_2⟩, jc]
      refine r_iload_n K 2 dX5_wish_22 rfl rfl ?_
      refine r_if_ne K 38 dX5_wish_23 (by decide) (fun h_3 => ?_) (fun h_3 => ?_)
      · refine r_aload_n K 0 dX5_wish_38 rfl rfl ?_
        refine r_getR K rfl rfl ff_5_line qw_189 dX5_wish_39 ?_
        refine r_getR K (xL_0 xL1) rfl ff_1_wishY qw_68 dX5_wish_42 ?_
        refine r_iload_n K 1 dX5_wish_45 rfl rfl ?_
        refine r_iald K (j := j) (xL_3 xL1) rfl (by omega) (by decide) dX5_wish_46 ?_
        refine r_top_eq (ab_wy A.1 j) (hL.2.2.2.2.2.2 j (by omega)).2 ?_
        exact hr _ _ _ _ dX5_wish_47 ⟨by rw [e0, ab_if_neg h_3], hS⟩
      · refine r_aload_n K 0 dX5_wish_26 rfl rfl ?_
        refine r_getR K rfl rfl ff_5_line qw_189 dX5_wish_27 ?_
        refine r_getR K (xL_0 xL1) rfl ff_1_wishX qw_66 dX5_wish_30 ?_
        refine r_iload_n K 1 dX5_wish_33 rfl rfl ?_
        refine r_iald K (j := j) (xL_2 xL1) rfl (by omega) (by decide) dX5_wish_34 ?_
        refine r_top_eq (ab_wx A.1 j) (hL.2.2.2.2.2.2 j (by omega)).1 ?_
        refine r_goto K 47 dX5_wish_35 (by decide) ?_
        exact hr _ _ _ _ dX5_wish_47 ⟨by rw [e0, ab_if_pos h_3], hS⟩
    · refine r_if_ne K 22 dX5_wish_16 (by decide) (fun h => absurd h (by decide)) (fun _ => ?_)
      refine r_ldc K dX5_wish_19 qw_447 ?_
      exact hr _ _ _ _ dX5_wish_21 ⟨by rw [ab_wish, ab_if_neg (fun q => hb_2 q.2)], hS⟩
  · refine r_if_eq K 19 dX5_wish_7 (by decide) (fun _ => ?_) (fun h => absurd h (by decide))
    refine r_ldc K dX5_wish_19 qw_447 ?_
    exact hr _ _ _ _ dX5_wish_21 ⟨by rw [ab_wish, ab_if_neg (fun q => hb_1 q.1)], hS⟩
set_option maxHeartbeats 4000000 in
set_option maxRecDepth 100000 in
theorem c_worst (l : Launch) (g : rs_G) (t : Nat × Nat) (M : rs_M) (A : ab_S) (hS : x_S M A) (k : Int32) : rs_Ci l g xk t yX5_worst cX5_worst 3 .int 3 [.ref (g.2.2 0), .int k] M (fun r M1 => x_R (ab_worst A k, A) r M1) := by
  obtain ⟨hL, hok, ht, hdr, him, htx, hun, hca, hse⟩ := id hS
  have hn12 := hok.1
  refine rs_ofi (plainFor_of_name (by decide)) (Nat.le_of_ble_eq_true rfl) ?_
  intro Y K hr
  show Y M 0 [(0, .ref (g.2.2 0)), (1, .int k)] []
  refine r_iload_n K 1 dX5_worst_0 rfl rfl ?_
  refine r_if_ge K 6 dX5_worst_1 (by decide) (fun h_1 => ?_) (fun h_1 => ?_)
  · refine r_iconst K (v := 1) dX5_worst_6 (by decide) ?_
    refine r_istore_n K [(2, .int 1), (0, .ref (g.2.2 0)), (1, .int k)] dX5_worst_7 rfl (by decide) rfl ?_
    have lp : ∀ (f : Nat) (i : Nat), (13 - i < f) → (1 ≤ i) → (i ≤ (ab_ks A.1).length + 1) → (ab_wsrch (ab_ringcost A.2.1 A.1) (ab_ks A.1).length k (ab_ks A.1).length 1 = ab_wsrch (ab_ringcost A.2.1 A.1) (ab_ks A.1).length k ((ab_ks A.1).length + 1 - i) i) → Y M 8 [(2, .int (nI i)), (0, .ref (g.2.2 0)), (1, .int k)] [] := by
      intro f
      induction f with
      | zero =>
        intro i hf
        exact absurd hf (Nat.not_lt_zero _)
      | succ f ih =>
        intro i hf hi1 hi hI
        refine r_iload_n K 0 dX5_worst_8 rfl rfl ?_
        refine r_aload_n K 1 dX5_worst_9 rfl rfl ?_
        refine r_getR K rfl rfl ff_5_line qw_189 dX5_worst_10 ?_
        refine r_getI K (xL_0 xL1) rfl ff_1_rings qw_71 dX5_worst_13 ?_
        refine r_top_eq (nI (ab_ks A.1).length) hL.1 ?_
        refine r_icmp_gt K 39 dX5_worst_16 (by decide) (fun h_2 => ?_) (fun h_2 => ?_)
        · have nh_2 : (ab_ks A.1).length < i := (nf_lt rfl rfl (by omega) (by omega)).mp h_2
          refine r_bipush K (v := (-9)) dX5_worst_39 (by decide) ?_
          exact hr _ _ _ _ dX5_worst_41 ⟨by rw [ab_worst, ab_if_neg (Int32.not_lt.mpr h_1), hI, show (ab_ks A.1).length + 1 - i = 0 by omega, ab_wsrch], hS⟩
        · have nh_2 : ¬ (ab_ks A.1).length < i := mt (nf_lt rfl rfl (by omega) (by omega)).mpr h_2
          refine r_aload_n K 1 dX5_worst_19 rfl rfl ?_
          refine r_getR K rfl rfl ff_5_line qw_189 dX5_worst_20 ?_
          refine r_iload_n K 0 dX5_worst_23 rfl rfl ?_
          refine r_callVi K [.int (nI i)] [] dX5_worst_24 mf_X1_worseThan (xL_0 xL1) rfl qw_456 qw_457 qw_458 (c_worseThan l g t M 1 xL1 A.2.1 A.1 hok hL i (by omega) (by omega)) rfl rfl (by decide) (Nat.le_of_ble_eq_true rfl) (fun r M1 hp => ?_)
          obtain ⟨hp, he⟩ := hp
          have he := he.symm
          subst he
          subst hp
          refine r_iload_n K 2 dX5_worst_27 rfl rfl ?_
          refine r_icmp_ne K 33 dX5_worst_28 (by decide) (fun h_3 => ?_) (fun h_3 => ?_)
          · refine r_iinc_n K 0 [(2, .int (nI (i + 1))), (0, .ref (g.2.2 0)), (1, .int k)] dX5_worst_33 rfl (by decide) rfl ?_
            refine r_goto K 8 dX5_worst_36 (by decide) ?_
            exact ih (i + 1) (by omega) (by omega) (by omega) (by rw [hI, show (ab_ks A.1).length + 1 - i = ((ab_ks A.1).length + 1 - (i + 1)) + 1 by omega, ab_wsrch, if_neg h_3])
          · refine r_iload_n K 0 dX5_worst_31 rfl rfl ?_
            exact hr _ _ _ _ dX5_worst_32 ⟨by rw [ab_worst, ab_if_neg (Int32.not_lt.mpr h_1), hI, show (ab_ks A.1).length + 1 - i = ((ab_ks A.1).length + 1 - (i + 1)) + 1 by omega, ab_wsrch, if_pos h_3], hS⟩
    exact lp 14 1 (by omega) (by omega) (by omega) (by rw [show (ab_ks A.1).length + 1 - 1 = (ab_ks A.1).length by omega])
  · refine r_iconst K (v := (-1)) dX5_worst_4 (by decide) ?_
    exact hr _ _ _ _ dX5_worst_5 ⟨by rw [ab_worst, ab_if_pos (Int32.not_le.mp h_1)], hS⟩
set_option maxHeartbeats 4000000 in
set_option maxRecDepth 100000 in
theorem c_plan (l : Launch) (g : rs_G) (t : Nat × Nat) (M : rs_M) (A : ab_S) (hS : x_S M A) (h k : Int32) : rs_Ci l g xk t yX5_plan cX5_plan 3 .int 11 [.ref (g.2.2 0), .int h, .int k] M (fun r M1 => x_R (ab_planS A h k, A) r M1) := by
  obtain ⟨hL, hok, ht, hdr, him, htx, hun, hca, hse⟩ := id hS
  have hn12 := hok.1
  refine rs_ofi (plainFor_of_name (by decide)) (Nat.le_of_ble_eq_true rfl) ?_
  intro Y K hr
  show Y M 0 [(0, .ref (g.2.2 0)), (1, .int h), (2, .int k)] []
  refine r_iload_n K 1 dX5_plan_0 rfl rfl ?_
  refine r_iconst K (v := 1) dX5_plan_1 (by decide) ?_
  refine r_iconst K (v := 5) dX5_plan_2 (by decide) ?_
  refine r_callSi K [.int h, .int 1, .int 5] [] dX5_plan_3 mf_X5_isWithin qw_227 qw_228 (c_isWithin l g xk t M h 1 5) rfl rfl (by decide) (Nat.le_of_ble_eq_true rfl) (fun r M1 hp => ?_)
  obtain ⟨hp, he⟩ := hp
  have he := he.symm
  subst he
  rcases hp with ⟨rfl, hb_1⟩ | ⟨rfl, hb_1⟩
  · refine r_if_eq K 15 dX5_plan_6 (by decide) (fun h => absurd h (by decide)) (fun _ => ?_)
    refine r_iload_n K 2 dX5_plan_9 rfl rfl ?_
    refine r_bipush K (v := (-2)) dX5_plan_10 (by decide) ?_
    refine r_icmp_ge K 17 dX5_plan_12 (by decide) (fun h_2 => ?_) (fun h_2 => ?_)
    · obtain ⟨j, hj1, hj2, rfl⟩ := x_nat (a := 1) (b := 5) hb_1 (by omega) (by omega)
      have jc : (nI j).toNatClampNeg = j := nI_clamp (by omega)
      have hpr := ab_plan_rows A.2.1 A.1 (h := j) (by omega)
      have e0 : ab_planS A (nI j) k = _ := ab_if_pos ⟨hb_1, h_2⟩
      rw [jc] at e0
      refine r_iload_n K 2 dX5_plan_17 rfl rfl ?_
      refine r_iload_n K 1 dX5_plan_18 rfl rfl ?_
      refine r_icmp_lt K 25 dX5_plan_19 (by decide) (fun h_3 => ?_) (fun h_3 => ?_)
      · refine r_aload_n K 0 dX5_plan_25 rfl rfl ?_
        refine r_getR K rfl rfl ff_5_search qw_195 dX5_plan_26 ?_
        refine r_aload_n K 0 dX5_plan_29 rfl rfl ?_
        refine r_getR K rfl rfl ff_5_line qw_189 dX5_plan_30 ?_
        refine r_iload_n K 1 dX5_plan_33 rfl rfl ?_
        refine r_callVv K [.ref (g.2.2 1), .int (nI j)] [] dX5_plan_34 mf_X3_look rfl rfl qw_391 qw_392 qw_393 (c_look l g t M xL1 A.2.1 ht A.1 hok hL hca j (by omega) (by omega)) rfl rfl (by decide) (Nat.le_of_ble_eq_true rfl) (fun Mk hp => ?_)
        obtain ⟨hl1, hl2, hl3⟩ := hp
        have hSk : x_S Mk A := x_S_scr hS (fun c hc => hl3 c (by omega)) ⟨j, by omega, hl1, Or.inr hl2⟩
        refine r_aload_n K 0 dX5_plan_37 rfl rfl ?_
        refine r_getR K rfl rfl ff_5_search qw_195 dX5_plan_38 ?_
        refine r_getI K rfl rfl ff_3_rows qw_173 dX5_plan_41 ?_
        refine r_top_eq (nI (ab_plan A.2.1 A.1 j).1) hl2.1 ?_
        refine r_if_ne K 50 dX5_plan_44 (by decide) (fun h_4 => ?_) (fun h_4 => ?_)
        · have nh_4 : ¬ (ab_plan A.2.1 A.1 j).1 = 0 := mt (nf_eq rfl rfl (by omega) (by omega)).mpr h_4
          refine r_iload_n K 2 dX5_plan_50 rfl rfl ?_
          refine r_iconst K (v := (-1)) dX5_plan_51 (by decide) ?_
          refine r_icmp_ne K 63 dX5_plan_52 (by decide) (fun h_5 => ?_) (fun h_5 => ?_)
          · refine r_iload_n K 2 dX5_plan_63 rfl rfl ?_
            refine r_bipush K (v := (-2)) dX5_plan_64 (by decide) ?_
            refine r_icmp_ne K 79 dX5_plan_66 (by decide) (fun h_6 => ?_) (fun h_6 => ?_)
            · obtain ⟨q, hq, rfl⟩ := x_knat (by omega) h_2 h_5 h_6 h_3
              have qc : (nI q).toNatClampNeg = q := nI_clamp (by omega)
              refine r_aload_n K 0 dX5_plan_79 rfl rfl ?_
              refine r_getR K rfl rfl ff_5_search qw_195 dX5_plan_80 ?_
              refine r_getR K rfl rfl ff_3_firstRow qw_169 dX5_plan_83 ?_
              refine r_iload_n K 2 dX5_plan_86 rfl rfl ?_
              refine r_iald K (j := q) rfl rfl (by omega) (by decide) dX5_plan_87 ?_
              refine r_top_eq (nI ((ab_plan A.2.1 A.1 j).2.2.getD q 0)) ((hl2.2 (by omega)).2 q hq) ?_
              exact hr _ _ _ _ dX5_plan_88 ⟨by rw [e0, ab_if_neg (fun z => z.elim (fun z => absurd z (Int32.not_le.mpr h_3)) (fun z => by omega)), ab_if_neg h_5, ab_if_neg h_6, qc], hSk⟩
            · refine r_aload_n K 0 dX5_plan_69 rfl rfl ?_
              refine r_getR K rfl rfl ff_5_search qw_195 dX5_plan_70 ?_
              refine r_getI K rfl rfl ff_3_rows qw_173 dX5_plan_73 ?_
              refine r_top_eq (nI (ab_plan A.2.1 A.1 j).1) hl2.1 ?_
              refine r_goto K 88 dX5_plan_76 (by decide) ?_
              exact hr _ _ _ _ dX5_plan_88 ⟨by rw [e0, ab_if_neg (fun z => z.elim (fun z => absurd z (Int32.not_le.mpr h_3)) (fun z => by omega)), ab_if_neg h_5, ab_if_pos h_6], hSk⟩
          · refine r_aload_n K 0 dX5_plan_55 rfl rfl ?_
            refine r_getR K rfl rfl ff_5_search qw_195 dX5_plan_56 ?_
            refine r_getI K rfl rfl ff_3_least qw_175 dX5_plan_59 ?_
            refine r_top_eq ((ab_plan A.2.1 A.1 j).2.1) (hl2.2 (by omega)).1 ?_
            exact hr _ _ _ _ dX5_plan_62 ⟨by rw [e0, ab_if_neg (fun z => z.elim (fun z => absurd z (Int32.not_le.mpr h_3)) (fun z => by omega)), ab_if_pos h_5], hSk⟩
        · have nh_4 : (ab_plan A.2.1 A.1 j).1 = 0 := (nf_eq rfl rfl (by omega) (by omega)).mp h_4
          refine r_bipush K (v := (-9)) dX5_plan_47 (by decide) ?_
          exact hr _ _ _ _ dX5_plan_49 ⟨by rw [e0, ab_if_pos (Or.inr (by omega))], hSk⟩
      · refine r_bipush K (v := (-9)) dX5_plan_22 (by decide) ?_
        exact hr _ _ _ _ dX5_plan_24 ⟨by rw [e0, ab_if_pos (Or.inl (Int32.not_lt.mp h_3))], hS⟩
    · refine r_iconst K (v := (-1)) dX5_plan_15 (by decide) ?_
      exact hr _ _ _ _ dX5_plan_16 ⟨by rw [ab_planS, ab_if_neg (fun q => h_2 q.2)], hS⟩
  · refine r_if_eq K 15 dX5_plan_6 (by decide) (fun _ => ?_) (fun h => absurd h (by decide))
    refine r_iconst K (v := (-1)) dX5_plan_15 (by decide) ?_
    exact hr _ _ _ _ dX5_plan_16 ⟨by rw [ab_planS, ab_if_neg (fun q => hb_1 q.1)], hS⟩
set_option maxHeartbeats 4000000 in
set_option maxRecDepth 100000 in
theorem c_trying (l : Launch) (g : rs_G) (t : Nat × Nat) (M : rs_M) (A : ab_S) (hS : x_S M A) (k : Int32) : rs_Ci l g xk t yX5_trying cX5_trying 2 .int 3 [.ref (g.2.2 0), .int k] M (fun r M1 => x_R (ab_trying A k, A) r M1) := by
  obtain ⟨hL, hok, ht, hdr, him, htx, hun, hca, hse⟩ := id hS
  have hn12 := hok.1
  refine rs_ofi (plainFor_of_name (by decide)) (Nat.le_of_ble_eq_true rfl) ?_
  intro Y K hr
  show Y M 0 [(0, .ref (g.2.2 0)), (1, .int k)] []
  refine r_iload_n K 1 dX5_trying_0 rfl rfl ?_
  refine r_callSi K [.int k] [] dX5_trying_1 mf_X5_isKey qw_364 qw_303 (c_isKey l g xk t M k) rfl rfl (by decide) (Nat.le_of_ble_eq_true rfl) (fun r M1 hp => ?_)
  obtain ⟨hp, he⟩ := hp
  have he := he.symm
  subst he
  rcases hp with ⟨rfl, hb_1⟩ | ⟨rfl, hb_1⟩
  · refine r_if_ne K 9 dX5_trying_4 (by decide) (fun _ => ?_) (fun h => absurd h (by decide))
    obtain ⟨j, hj1, hj2, rfl⟩ := x_nat (a := 0) (b := 7) hb_1 (by omega) (by omega)
    have jc : (nI j).toNatClampNeg = j := nI_clamp (by omega)
    have e0 : ab_trying A (nI j) = _ := ab_if_pos hb_1
    rw [jc] at e0
    refine r_aload_n K 0 dX5_trying_9 rfl rfl ?_
    refine r_getR K rfl rfl ff_5_line qw_189 dX5_trying_10 ?_
    refine r_aload_n K 0 dX5_trying_13 rfl rfl ?_
    refine r_getR K rfl rfl ff_5_line qw_189 dX5_trying_14 ?_
    refine r_callVr K [] [.ref (g.2.2 1)] dX5_trying_17 mf_X1_last (xL_0 xL1) rfl qw_365 qw_306 qw_307 (c_Line_last l g t M 1 xL1 (ab_ks A.1).length hok.1 hL.1) rfl rfl (by decide) (Nat.le_of_ble_eq_true rfl) (fun r M1 hp => ?_)
    obtain ⟨hp, he⟩ := hp
    have he := he.symm
    subst he
    subst hp
    refine r_iload_n K 1 dX5_trying_20 rfl rfl ?_
    refine r_callVi K [.ref (g.2.2 (1 + 4 + (ab_ks A.1).length)), .int (nI j)] [] dX5_trying_21 mf_X1_mayFollow (xL_0 xL1) rfl qw_366 qw_310 qw_311 (c_mayFollow l g t M 1 xL1 A.2.1 A.1 hok hL.2.2 (1 + 4 + (ab_ks A.1).length) (xL_s xL1 (by omega)) (ab_ks A.1) (by omega) (x_ln_last hL) j (by omega) hok.2.1) rfl rfl (by decide) (Nat.le_of_ble_eq_true rfl) (fun r M1 hp => ?_)
    obtain ⟨hp, he⟩ := hp
    have he := he.symm
    subst he
    rcases hp with ⟨rfl, hb_2⟩ | ⟨rfl, hb_2⟩
    · refine r_if_ne K 30 dX5_trying_24 (by decide) (fun _ => ?_) (fun h => absurd h (by decide))
      refine r_aload_n K 0 dX5_trying_30 rfl rfl ?_
      refine r_getR K rfl rfl ff_5_probe qw_196 dX5_trying_31 ?_
      refine r_aload_n K 0 dX5_trying_34 rfl rfl ?_
      refine r_getR K rfl rfl ff_5_line qw_189 dX5_trying_35 ?_
      refine r_callVr K [] [.ref (g.2.2 54)] dX5_trying_38 mf_X1_last (xL_0 xL1) rfl qw_365 qw_306 qw_307 (c_Line_last l g t M 1 xL1 (ab_ks A.1).length hok.1 hL.1) rfl rfl (by decide) (Nat.le_of_ble_eq_true rfl) (fun r M1 hp => ?_)
      obtain ⟨hp, he⟩ := hp
      have he := he.symm
      subst he
      subst hp
      refine r_callVv K [.ref (g.2.2 (1 + 4 + (ab_ks A.1).length))] [] dX5_trying_41 mf_X4_copy rfl rfl qw_469 qw_343 qw_344 (c_Spot_copy l g t M 54 (1 + 4 + (ab_ks A.1).length) rfl (xL_s xL1 (by omega))) rfl rfl (by decide) (Nat.le_of_ble_eq_true rfl) (fun M1 hp => ?_)
      subst hp
      refine r_aload_n K 0 dX5_trying_44 rfl rfl ?_
      refine r_getR K rfl rfl ff_5_probe qw_196 dX5_trying_45 ?_
      refine r_iload_n K 1 dX5_trying_48 rfl rfl ?_
      refine r_aload_n K 0 dX5_trying_49 rfl rfl ?_
      refine r_getR K rfl rfl ff_5_line qw_189 dX5_trying_50 ?_
      refine r_getI K (xL_0 xL1) rfl ff_1_taper qw_75 dX5_trying_53 ?_
      refine r_top_eq A.2.1 (by rw [x_fr_cp (lo := 54) (hi := 55) (by decide) (by decide) 1 (by omega)]; exact hL.2.2.1) ?_
      refine r_callVv K [.int (nI j), .int A.2.1] [] dX5_trying_56 mf_X4_advance rfl rfl qw_470 qw_347 qw_348 (c_Spot_advance l g t (x_cp M 54 (1 + 4 + (ab_ks A.1).length)) 54 rfl j (by omega) A.2.1) rfl rfl (by decide) (Nat.le_of_ble_eq_true rfl) (fun M1 hp => ?_)
      subst hp
      refine r_aload_n K 0 dX5_trying_59 rfl rfl ?_
      refine r_getR K rfl rfl ff_5_line qw_189 dX5_trying_60 ?_
      refine r_aload_n K 0 dX5_trying_63 rfl rfl ?_
      refine r_getR K rfl rfl ff_5_probe qw_196 dX5_trying_64 ?_
      have fr2 : x_fr M (x_adv (x_cp M 54 (1 + 4 + (ab_ks A.1).length)) 54 A.2.1 j) 54 55 := x_fr_tr (x_fr_cp (by decide) (by decide)) (x_fr_adv (by decide) (by decide))
      have hL2 : x_ln (x_adv (x_cp M 54 (1 + 4 + (ab_ks A.1).length)) 54 A.2.1 j) 1 A.2.1 A.1 := x_ln_fr hok.1 hL fr2 (by omega)
      have hs2 : x_sp (x_adv (x_cp M 54 (1 + 4 + (ab_ks A.1).length)) 54 A.2.1 j) 54 A.2.1 (ab_ks A.1 ++ [j]) := x_sp_adv j (x_sp_cp (x_ln_last hL))
      refine r_callVi K [.ref (g.2.2 54)] [] dX5_trying_67 mf_X1_cost (xL_0 xL1) rfl qw_380 qw_381 qw_382 (c_Line_cost l g t (x_adv (x_cp M 54 (1 + 4 + (ab_ks A.1).length)) 54 A.2.1 j) 1 xL1 A.2.1 A.1 hok hL2.2.2 54 (ab_ks A.1 ++ [j]).length rfl (by simp; omega) hs2.1) rfl rfl (by decide) (Nat.le_of_ble_eq_true rfl) (fun r M1 hp => ?_)
      obtain ⟨hp, he⟩ := hp
      have he := he.symm
      subst he
      subst hp
      refine r_top_eq (ab_lcost A.2.1 A.1 (ab_ks A.1 ++ [j])) (by rw [hs2.2.2.2.2.1, hs2.2.2.2.2.2]; rfl) ?_
      exact hr _ _ _ _ dX5_trying_70 ⟨by rw [e0, ab_if_pos hb_2], x_S_scr hS (fun c hc => fr2 c (by omega)) (x_cache_fr hca (fun c h1 h2 => fr2 c (by omega)))⟩
    · refine r_if_ne K 30 dX5_trying_24 (by decide) (fun h => absurd h (by decide)) (fun _ => ?_)
      refine r_bipush K (v := (-2)) dX5_trying_27 (by decide) ?_
      exact hr _ _ _ _ dX5_trying_29 ⟨by rw [e0, ab_if_neg hb_2], hS⟩
  · refine r_if_ne K 9 dX5_trying_4 (by decide) (fun h => absurd h (by decide)) (fun _ => ?_)
    refine r_iconst K (v := (-1)) dX5_trying_7 (by decide) ?_
    exact hr _ _ _ _ dX5_trying_8 ⟨by rw [ab_trying, ab_if_neg hb_1], hS⟩
theorem x_seen_push {M : rs_M} {sn : List (Int32 × Int32)} (h : x_seen M sn) (x y : Int32) (h4 : sn.length < 4) : x_seen (rs_st (rs_st (rs_st M 55 sn.length x) 56 sn.length y) 0 10 (nI (sn.length + 1))) (sn ++ [(x, y)]) := by
  obtain ⟨h1, h2, h3⟩ := h
  refine ⟨by rw [rs_st_eq]; simp, by simp; omega, fun i hi => ?_⟩
  rw [rs_st_ne _ _ _ (show 55 ≠ 0 by decide), rs_st_ne _ _ _ (show 55 ≠ 56 by decide), rs_st_row, rs_st_ne _ _ _ (show 56 ≠ 0 by decide), rs_st_row, rs_st_ne _ _ _ (show 56 ≠ 55 by decide)]
  simp only [upd]
  by_cases e : i = sn.length
  · subst e; simp
  · have hlt : i < sn.length := by simp at hi; omega
    rw [if_neg e, if_neg e]
    have := h3 i hlt
    simpa [List.getElem?_append_left hlt] using this
set_option maxHeartbeats 4000000 in
set_option maxRecDepth 100000 in
theorem c_sees (l : Launch) (g : rs_G) (t : Nat × Nat) (M : rs_M) (A : ab_S) (hS : x_S M A) (x y : Int32) : rs_Ci l g xk t yX5_sees cX5_sees 3 .int 1 [.ref (g.2.2 0), .int x, .int y] M (fun r M1 => x_R (ab_sees A x y) r M1) := by
  obtain ⟨hL, hok, ht, hdr, him, htx, hun, hca, hse⟩ := id hS
  have hn12 := hok.1
  have hs4 := hse.2.1
  refine rs_ofi (plainFor_of_name (by decide)) (Nat.le_of_ble_eq_true rfl) ?_
  intro Y K hr
  show Y M 0 [(0, .ref (g.2.2 0)), (1, .int x), (2, .int y)] []
  refine r_iload_n K 1 dX5_sees_0 rfl rfl ?_
  refine r_sipush K (v := (-9999)) dX5_sees_1 (by decide) ?_
  refine r_sipush K (v := 9999) dX5_sees_4 (by decide) ?_
  refine r_callSi K [.int x, .int (-9999), .int 9999] [] dX5_sees_7 mf_X5_isWithin qw_227 qw_228 (c_isWithin l g xk t M x (-9999) 9999) rfl rfl (by decide) (Nat.le_of_ble_eq_true rfl) (fun r M1 hp => ?_)
  obtain ⟨hp, he⟩ := hp
  have he := he.symm
  subst he
  rcases hp with ⟨rfl, hb_1⟩ | ⟨rfl, hb_1⟩
  · refine r_if_eq K 26 dX5_sees_10 (by decide) (fun h => absurd h (by decide)) (fun _ => ?_)
    refine r_iload_n K 2 dX5_sees_13 rfl rfl ?_
    refine r_sipush K (v := (-9999)) dX5_sees_14 (by decide) ?_
    refine r_sipush K (v := 9999) dX5_sees_17 (by decide) ?_
    refine r_callSi K [.int y, .int (-9999), .int 9999] [] dX5_sees_20 mf_X5_isWithin qw_227 qw_228 (c_isWithin l g xk t M y (-9999) 9999) rfl rfl (by decide) (Nat.le_of_ble_eq_true rfl) (fun r M1 hp => ?_)
    obtain ⟨hp, he⟩ := hp
    have he := he.symm
    subst he
    rcases hp with ⟨rfl, hb_2⟩ | ⟨rfl, hb_2⟩
    · refine r_if_ne K 28 dX5_sees_23 (by decide) (fun _ => ?_) (fun h => absurd h (by decide))
      refine r_aload_n K 0 dX5_sees_28 rfl rfl ?_
      refine r_getI K rfl rfl ff_5_seen qw_199 dX5_sees_29 ?_
      refine r_top_eq (nI A.2.2.2.1.length) (by first | exact hse.1 | (simp [rs_st]; exact hse.1)) ?_
      refine r_iconst K (v := 4) dX5_sees_32 (by decide) ?_
      refine r_icmp_lt K 39 dX5_sees_33 (by decide) (fun h_3 => ?_) (fun h_3 => ?_)
      · have nh_3 : A.2.2.2.1.length < 4 := (nf_lt rfl rfl (by omega) (by omega)).mp h_3
        refine r_aload_n K 0 dX5_sees_39 rfl rfl ?_
        refine r_getR K rfl rfl ff_5_seenX qw_197 dX5_sees_40 ?_
        refine r_aload_n K 0 dX5_sees_43 rfl rfl ?_
        refine r_getI K rfl rfl ff_5_seen qw_199 dX5_sees_44 ?_
        refine r_top_eq (nI A.2.2.2.1.length) (by first | exact hse.1 | (simp [rs_st]; exact hse.1)) ?_
        refine r_iload_n K 1 dX5_sees_47 rfl rfl ?_
        refine r_iast K (j := A.2.2.2.1.length) rfl rfl (by omega) (by decide) dX5_sees_48 ?_
        refine r_aload_n K 0 dX5_sees_49 rfl rfl ?_
        refine r_getR K rfl rfl ff_5_seenY qw_198 dX5_sees_50 ?_
        refine r_aload_n K 0 dX5_sees_53 rfl rfl ?_
        refine r_getI K rfl rfl ff_5_seen qw_199 dX5_sees_54 ?_
        refine r_top_eq (nI A.2.2.2.1.length) (by first | exact hse.1 | (simp [rs_st]; exact hse.1)) ?_
        refine r_iload_n K 2 dX5_sees_57 rfl rfl ?_
        refine r_iast K (j := A.2.2.2.1.length) rfl rfl (by omega) (by decide) dX5_sees_58 ?_
        refine r_aload_n K 0 dX5_sees_59 rfl rfl ?_
        refine r_dup K dX5_sees_60 rfl ?_
        refine r_getI K rfl rfl ff_5_seen qw_199 dX5_sees_61 ?_
        refine r_top_eq (nI A.2.2.2.1.length) (by first | exact hse.1 | (simp [rs_st]; exact hse.1)) ?_
        refine r_iconst K (v := 1) dX5_sees_64 (by decide) ?_
        refine r_iadd K dX5_sees_65 ?_
        refine r_top_eq (nI (A.2.2.2.1.length + 1)) (nI_1 _) ?_
        refine r_put K rfl rfl ff_5_seen qw_199 rfl rfl dX5_sees_66 ?_
        refine r_aload_n K 0 dX5_sees_69 rfl rfl ?_
        refine r_getI K rfl rfl ff_5_seen qw_199 dX5_sees_70 ?_
        refine r_top_eq (nI (A.2.2.2.1.length + 1)) (by rw [rs_st_eq]) ?_
        have e : ab_sees A x y = (nI (A.2.2.2.1.length + 1), ab_wN A (A.2.2.2.1 ++ [(x, y)])) := by rw [ab_sees, ab_if_pos ⟨hb_1, hb_2⟩, ab_if_pos (by omega)]
        exact hr _ _ _ _ dX5_sees_73 (by rw [e]; exact ⟨rfl, (x_S_seen hS (fun c c1 c2 c3 => by rw [rs_st_ne _ _ _ c1, rs_st_ne _ _ _ c3, rs_st_ne _ _ _ c2]) (x_seen_push hse x y (by omega)))⟩)
      · have nh_3 : ¬ A.2.2.2.1.length < 4 := mt (nf_lt rfl rfl (by omega) (by omega)).mpr h_3
        refine r_bipush K (v := (-3)) dX5_sees_36 (by decide) ?_
        have e : ab_sees A x y = (-3, A) := by rw [ab_sees, ab_if_pos ⟨hb_1, hb_2⟩, ab_if_neg (by omega)]
        exact hr _ _ _ _ dX5_sees_38 (by rw [e]; exact ⟨rfl, hS⟩)
    · refine r_if_ne K 28 dX5_sees_23 (by decide) (fun h => absurd h (by decide)) (fun _ => ?_)
      refine r_iconst K (v := (-1)) dX5_sees_26 (by decide) ?_
      have e : ab_sees A x y = (-1, A) := by rw [ab_sees, ab_if_neg (fun q => hb_2 q.2)]
      exact hr _ _ _ _ dX5_sees_27 (by rw [e]; exact ⟨rfl, hS⟩)
  · refine r_if_eq K 26 dX5_sees_10 (by decide) (fun _ => ?_) (fun h => absurd h (by decide))
    refine r_iconst K (v := (-1)) dX5_sees_26 (by decide) ?_
    have e : ab_sees A x y = (-1, A) := by rw [ab_sees, ab_if_neg (fun q => hb_1 q.1)]
    exact hr _ _ _ _ dX5_sees_27 (by rw [e]; exact ⟨rfl, hS⟩)
set_option maxHeartbeats 4000000 in
set_option maxRecDepth 100000 in
theorem c_forget (l : Launch) (g : rs_G) (t : Nat × Nat) (M : rs_M) (A : ab_S) (hS : x_S M A) : rs_Ci l g xk t yX5_forget cX5_forget 2 .int 0 [.ref (g.2.2 0)] M (fun r M1 => x_R (ab_forget A) r M1) := by
  obtain ⟨hL, hok, ht, hdr, him, htx, hun, hca, hse⟩ := id hS
  have hn12 := hok.1
  refine rs_ofi (plainFor_of_name (by decide)) (Nat.le_of_ble_eq_true rfl) ?_
  intro Y K hr
  show Y M 0 [(0, .ref (g.2.2 0))] []
  refine r_aload_n K 0 dX5_forget_0 rfl rfl ?_
  refine r_getI K rfl rfl ff_5_seen qw_199 dX5_forget_1 ?_
  refine r_top_eq (nI A.2.2.2.1.length) hse.1 ?_
  refine r_istore_n K [(1, .int (nI A.2.2.2.1.length)), (0, .ref (g.2.2 0))] dX5_forget_4 rfl (by decide) rfl ?_
  refine r_aload_n K 1 dX5_forget_5 rfl rfl ?_
  refine r_iconst K (v := 0) dX5_forget_6 (by decide) ?_
  refine r_put K rfl rfl ff_5_seen qw_199 rfl rfl dX5_forget_7 ?_
  refine r_iload_n K 0 dX5_forget_10 rfl rfl ?_
  exact hr _ _ _ _ dX5_forget_11 ⟨rfl, x_S_seen (M1 := rs_st M 0 10 0) hS (fun c c1 c2 c3 => rs_st_ne _ _ _ c1) ⟨by rw [rs_st_eq]; rfl, by simp, fun i hi => absurd hi (Nat.not_lt_zero _)⟩⟩
end
section
/-! images, counts, which key a ring had -/
abbrev ab_wI (A : ab_S) (i : Nat) (L : ab_L) : ab_S := (A.1, A.2.1, A.2.2.1, A.2.2.2.1, A.2.2.2.2.1, fun j => if j = i then some L else A.2.2.2.2.2 j)
noncomputable def ab_keep (A : ab_S) (i : Int32) : Int32 × ab_S := ab_if (0 ≤ i ∧ i ≤ 1) (nI (ab_ks A.1).length, ab_wI A i.toNatClampNeg A.1) (-1, A)
def ab_back1 (A : ab_S) (o : Option ab_L) : Int32 × ab_S := match o with
  | none => (-2, A)
  | some L => (nI (ab_ks L).length, ab_wL A L [])
noncomputable def ab_back (A : ab_S) (i : Int32) : Int32 × ab_S := ab_if (0 ≤ i ∧ i ≤ 1) (ab_back1 A (A.2.2.2.2.2 i.toNatClampNeg)) (-1, A)
noncomputable def ab_count (A : ab_S) (w : Int32) : Int32 := if w = 0 then nI (ab_ks A.1).length else if w = 1 then A.2.1 else if w = 2 then nI (ab_bar A.1) else if w = 3 then nI (ab_way A.1) else if w = 4 then nI (ab_tail A.1) else if w = 5 then ab_mask (ab_may A.2.1 A.1 (ab_ks A.1)) 8 else if w = 6 then ab_whole A.2.1 A.1 (ab_ks A.1).length else if w = 7 then nI A.2.2.2.1.length else if w = 8 then nI A.2.2.2.2.1.length else if w = 9 then nI A.2.2.1.length else -1
def ab_flag (o : Option ab_L) : Int32 := match o with
  | none => 0
  | some _ => 1
theorem x_im_get {M : rs_M} {tp : Int32} {im : Nat → Option ab_L} (h : x_im M tp im) {j : Nat} (hj : j < 2) : x_im1 M tp j (im j) := by
  rcases (show j = 0 ∨ j = 1 by omega) with rfl | rfl
  · exact h.1
  · exact h.2
theorem x_im1_flag {M : rs_M} {tp : Int32} {j : Nat} {o : Option ab_L} (h : x_im1 M tp j o) : M 36 j = ab_flag o := by
  cases o with
  | none => exact h
  | some L => exact h.1
theorem x_nar1 : vp_nar .boolean 1 = 1 := by decide
theorem x_nar0 : vp_nar .boolean 0 = 0 := by decide
theorem x_S_keep {M Mc : rs_M} {A : ab_S} (hS : x_S M A) {j : Nat} (hj : j < 2) (h1 : x_ln Mc (57 + 17 * j) A.2.1 A.1) (h2 : x_fr M Mc (57 + 17 * j) (57 + 17 * j + 17)) : x_S (rs_st Mc 36 j 1) (ab_wI A j A.1) := by
  obtain ⟨hL, hok, ht, hdr, him, htx, hun, hca, hse⟩ := hS
  have hn := hok.1
  have e : ∀ c, c < 57 → c ≠ 36 → (rs_st Mc 36 j 1) c = M c := fun c c1 c2 => by rw [rs_st_ne _ _ _ c2, h2 c (by omega)]
  refine ⟨?_, hok, ht, x_sp_same hdr (fun q _ => by rw [e 22 (by decide) (by decide)]), ?_, x_text_fr htx (e 37 (by decide) (by decide)) (e 38 (by decide) (by decide)), x_und_fr hun (fun c c1 c2 => e c (by omega) (by omega)), x_cache_fr hca (fun c c1 c2 => e c (by omega) (by omega)), x_seen_fr hse (e 0 (by decide) (by decide)) (e 55 (by decide) (by decide)) (e 56 (by decide) (by decide))⟩
  · exact x_ln_fr (lo := 36) (hi := 91) hn (x_ln_fr (lo := 57 + 17 * j) (hi := 57 + 17 * j + 17) hn hL h2 (by omega)) (x_fr_st (by decide) (by decide)) (by omega)
  · have key : ∀ i, i < 2 → x_im1 (rs_st Mc 36 j 1) A.2.1 i (if i = j then some A.1 else A.2.2.2.2.2 i) := by
      intro i hi
      by_cases ei : i = j
      · rw [if_pos ei]
        subst ei
        exact ⟨by rw [rs_st_eq], hok, x_ln_fr (lo := 36) (hi := 37) hn h1 (x_fr_st (by decide) (by decide)) (by omega)⟩
      · rw [if_neg ei]
        have hg := x_im_get him hi
        cases ho : A.2.2.2.2.2 i with
        | none =>
          rw [ho] at hg
          show (rs_st Mc 36 j 1) 36 i = 0
          rw [rs_st_nk _ _ _ ei, h2 36 (by omega)]
          exact hg
        | some L =>
          rw [ho] at hg
          obtain ⟨g1, g2, g3⟩ := hg
          refine ⟨by rw [rs_st_nk _ _ _ ei, h2 36 (by omega)]; exact g1, g2, ?_⟩
          exact x_ln_fr (lo := 36) (hi := 37) g2.1 (x_ln_fr g2.1 g3 h2 (by omega)) (x_fr_st (by decide) (by decide)) (by omega)
    exact ⟨key 0 (by decide), key 1 (by decide)⟩
/-! the line with another key -/
theorem ab_fold_shift (tp a a' : Int32) : ∀ (ks : List Nat) (q : ab_P) (b b' : Int32), ks.foldl (ab_step tp) (q.1 + a, q.2.1 + a', q.2.2.1 + b, q.2.2.2 + b') = ((ks.foldl (ab_step tp) q).1 + a, (ks.foldl (ab_step tp) q).2.1 + a', (ks.foldl (ab_step tp) q).2.2.1 + (b + nI ks.length * a), (ks.foldl (ab_step tp) q).2.2.2 + (b' + nI ks.length * a'))
  | [], q, b, b' => by
    simp only [List.foldl_nil, List.length_nil, nI_0, Int32.zero_mul, Int32.add_zero]
  | k :: ks, q, b, b' => by
    have ih := ab_fold_shift tp a a' ks (ab_step tp q k) (b + a) (b' + a')
    have e : ab_step tp (q.1 + a, q.2.1 + a', q.2.2.1 + b, q.2.2.2 + b') k = ((ab_step tp q k).1 + a, (ab_step tp q k).2.1 + a', (ab_step tp q k).2.2.1 + (b + a), (ab_step tp q k).2.2.2 + (b' + a')) := by
      simp only [ab_step]
      refine Prod.ext ?_ (Prod.ext ?_ (Prod.ext ?_ ?_)) <;> simp only <;> grind
    rw [List.foldl_cons, List.foldl_cons, e, ih, List.length_cons, ← nI_1]
    refine Prod.ext rfl (Prod.ext rfl (Prod.ext ?_ ?_)) <;> simp only <;> grind
theorem ab_split {ks : List Nat} {i : Nat} (hi : i < ks.length) (k : Nat) : ks.set i k = ks.take i ++ k :: ks.drop (i + 1) := by
  rw [List.set_eq_take_append_cons_drop, if_pos hi]
theorem ab_split0 {ks : List Nat} {i : Nat} (hi : i < ks.length) : ks = ks.take i ++ ks.getD i 0 :: ks.drop (i + 1) := by
  have h := ab_split hi (ks.getD i 0)
  rw [← h]
  apply List.ext_getElem?
  intro j
  by_cases e : j = i
  · subst e
    rw [List.getElem?_set_self hi, List.getD, List.getElem?_eq_getElem hi]
    rfl
  · rw [List.getElem?_set_ne (Ne.symm e)]
theorem ab_geo_set {tp : Int32} {ks : List Nat} {i : Nat} (hi : i < ks.length) (k : Nat) : (ab_geo tp (ks.set i k)).2.2.1 = (ab_geo tp ks).2.2.1 + tp * (nI ks.length - nI (i + 1) + 1) * (rs_lX k - rs_lX (ks.getD i 0)) ∧ (ab_geo tp (ks.set i k)).2.2.2 = (ab_geo tp ks).2.2.2 + tp * (nI ks.length - nI (i + 1) + 1) * (rs_lY k - rs_lY (ks.getD i 0)) := by
  have h1 : ab_geo tp (ks.set i k) = (ks.drop (i + 1)).foldl (ab_step tp) (ab_step tp (ab_geo tp (ks.take i)) k) := by
    rw [ab_split hi, ab_geo, List.foldl_append, List.foldl_cons]; rfl
  have h2 : ab_geo tp ks = (ks.drop (i + 1)).foldl (ab_step tp) (ab_step tp (ab_geo tp (ks.take i)) (ks.getD i 0)) := by
    conv => lhs; rw [ab_split0 hi]
    rw [ab_geo, List.foldl_append, List.foldl_cons]; rfl
  generalize ab_geo tp (ks.take i) = q at h1 h2
  have e : ab_step tp q k = ((ab_step tp q (ks.getD i 0)).1 + tp * (rs_lX k - rs_lX (ks.getD i 0)), (ab_step tp q (ks.getD i 0)).2.1 + tp * (rs_lY k - rs_lY (ks.getD i 0)), (ab_step tp q (ks.getD i 0)).2.2.1 + tp * (rs_lX k - rs_lX (ks.getD i 0)), (ab_step tp q (ks.getD i 0)).2.2.2 + tp * (rs_lY k - rs_lY (ks.getD i 0))) := by
    simp only [ab_step]
    refine Prod.ext ?_ (Prod.ext ?_ (Prod.ext ?_ ?_)) <;> simp only <;> grind
  have hl : nI ks.length - nI (i + 1) = nI (ks.drop (i + 1)).length := by
    rw [List.length_drop, pk_sub (by omega)]
  rw [h1, h2, e, ab_fold_shift, hl]
  constructor <;> simp only <;> grind
theorem ab_last_take {ks : List Nat} {q : Nat} (h1 : 1 ≤ q) (h2 : q ≤ ks.length) : ab_last (ks.take q) = nI (ks.getD (q - 1) 0) := by
  have : (ks.take q).getLast? = some (ks.getD (q - 1) 0) := by
    rw [List.getLast?_eq_getElem?, List.length_take, Nat.min_eq_left h2, List.getElem?_take_of_lt (by omega), List.getD, List.getElem?_eq_getElem (by omega)]
    rfl
  rw [ab_last, this]
theorem ab_getD_lt {ks : List Nat} (h : ∀ k ∈ ks, k < 8) (i : Nat) : ks.getD i 0 < 8 := by
  rw [List.getD]
  cases e : ks[i]? with
  | none => simp
  | some k => exact h k (List.mem_of_getElem? e)
def ab_usQ (tp : Int32) (L : ab_L) (sn : List (Int32 × Int32)) (q k : Nat) : Prop := ∀ s, s < sn.length → (ab_geo tp ((ab_ks L).set (q - 1) k)).2.2.1 = (sn.getD s (0, 0)).1 ∧ (ab_geo tp ((ab_ks L).set (q - 1) k)).2.2.2 = (sn.getD s (0, 0)).2
def ab_usP (tp : Int32) (L : ab_L) (sn : List (Int32 × Int32)) (q k : Nat) : Prop := k ≠ (ab_ks L).getD (q - 1) 0 ∧ ab_usQ tp L sn q k
noncomputable def ab_unseen (A : ab_S) (i : Int32) : Int32 := ab_if (1 ≤ i ∧ i ≤ nI (ab_ks A.1).length) (ab_mask (ab_usP A.2.1 A.1 A.2.2.2.1 i.toNatClampNeg) 8) (-1)
set_option maxHeartbeats 4000000 in
set_option maxRecDepth 100000 in
theorem c_keep (l : Launch) (g : rs_G) (t : Nat × Nat) (M : rs_M) (A : ab_S) (hS : x_S M A) (i : Int32) : rs_Ci l g xk t yX5_keep cX5_keep 2 .int 3 [.ref (g.2.2 0), .int i] M (fun r M1 => x_R (ab_keep A i) r M1) := by
  obtain ⟨hL, hok, ht, hdr, him, htx, hun, hca, hse⟩ := id hS
  have hn12 := hok.1
  refine rs_ofi (plainFor_of_name (by decide)) (Nat.le_of_ble_eq_true rfl) ?_
  intro Y K hr
  show Y M 0 [(0, .ref (g.2.2 0)), (1, .int i)] []
  refine r_iload_n K 1 dX5_keep_0 rfl rfl ?_
  refine r_iconst K (v := 0) dX5_keep_1 (by decide) ?_
  refine r_iconst K (v := 1) dX5_keep_2 (by decide) ?_
  refine r_callSi K [.int i, .int 0, .int 1] [] dX5_keep_3 mf_X5_isWithin qw_227 qw_228 (c_isWithin l g xk t M i 0 1) rfl rfl (by decide) (Nat.le_of_ble_eq_true rfl) (fun r M1 hp => ?_)
  obtain ⟨hp, he⟩ := hp
  have he := he.symm
  subst he
  rcases hp with ⟨rfl, hb_1⟩ | ⟨rfl, hb_1⟩
  · refine r_if_ne K 11 dX5_keep_6 (by decide) (fun _ => ?_) (fun h => absurd h (by decide))
    obtain ⟨j, hj1, hj2, rfl⟩ := x_nat (a := 0) (b := 1) hb_1 (by omega) (by omega)
    have jc : (nI j).toNatClampNeg = j := nI_clamp (by omega)
    refine r_aload_n K 0 dX5_keep_11 rfl rfl ?_
    refine r_getR K rfl rfl ff_5_images qw_191 dX5_keep_12 ?_
    refine r_iload_n K 1 dX5_keep_15 rfl rfl ?_
    refine r_aaldL K (j := j) rfl rfl (xI_e (by omega)) (by omega) (by decide) dX5_keep_16 ?_
    refine r_aload_n K 0 dX5_keep_17 rfl rfl ?_
    refine r_getR K rfl rfl ff_5_line qw_189 dX5_keep_18 ?_
    refine r_callVv K [.ref (g.2.2 1)] [] dX5_keep_21 mf_X1_copy (xL_0 (xL_im (by omega))) rfl qw_352 qw_353 qw_354 (c_Line_copy l g t M (57 + 17 * j) 1 (xL_im (by omega)) xL1 (by omega) A.2.1 A.1 hn12 hL) rfl rfl (by decide) (Nat.le_of_ble_eq_true rfl) (fun Mc hp => ?_)
    obtain ⟨hc1, hc2⟩ := hp
    refine r_aload_n K 0 dX5_keep_24 rfl rfl ?_
    refine r_getR K rfl rfl ff_5_kept qw_192 dX5_keep_25 ?_
    refine r_iload_n K 1 dX5_keep_28 rfl rfl ?_
    refine r_iconst K (v := 1) dX5_keep_29 (by decide) ?_
    refine r_zast K (j := j) rfl rfl (by omega) (by decide) dX5_keep_30 ?_
    refine r_aload_n K 0 dX5_keep_31 rfl rfl ?_
    refine r_getR K rfl rfl ff_5_line qw_189 dX5_keep_32 ?_
    refine r_getI K (xL_0 xL1) rfl ff_1_rings qw_71 dX5_keep_35 ?_
    refine r_top_eq (nI (ab_ks A.1).length) (by rw [rs_st_ne _ _ _ (by decide), hc2 1 (by omega)]; exact hL.1) ?_
    have e : ab_keep A (nI j) = (nI (ab_ks A.1).length, ab_wI A j A.1) := by rw [ab_keep, ab_if_pos hb_1, jc]
    exact hr _ _ _ _ dX5_keep_38 (by rw [e]; exact ⟨rfl, (by rw [x_nar1]; exact x_S_keep hS (by omega) hc1 hc2)⟩)
  · refine r_if_ne K 11 dX5_keep_6 (by decide) (fun h => absurd h (by decide)) (fun _ => ?_)
    refine r_iconst K (v := (-1)) dX5_keep_9 (by decide) ?_
    have e : ab_keep A i = (-1, A) := by rw [ab_keep, ab_if_neg hb_1]
    exact hr _ _ _ _ dX5_keep_10 (by rw [e]; exact ⟨rfl, hS⟩)
set_option maxHeartbeats 4000000 in
set_option maxRecDepth 100000 in
theorem c_back (l : Launch) (g : rs_G) (t : Nat × Nat) (M : rs_M) (A : ab_S) (hS : x_S M A) (i : Int32) : rs_Ci l g xk t yX5_back cX5_back 2 .int 3 [.ref (g.2.2 0), .int i] M (fun r M1 => x_R (ab_back A i) r M1) := by
  obtain ⟨hL, hok, ht, hdr, him, htx, hun, hca, hse⟩ := id hS
  have hn12 := hok.1
  refine rs_ofi (plainFor_of_name (by decide)) (Nat.le_of_ble_eq_true rfl) ?_
  intro Y K hr
  show Y M 0 [(0, .ref (g.2.2 0)), (1, .int i)] []
  refine r_iload_n K 1 dX5_back_0 rfl rfl ?_
  refine r_iconst K (v := 0) dX5_back_1 (by decide) ?_
  refine r_iconst K (v := 1) dX5_back_2 (by decide) ?_
  refine r_callSi K [.int i, .int 0, .int 1] [] dX5_back_3 mf_X5_isWithin qw_227 qw_228 (c_isWithin l g xk t M i 0 1) rfl rfl (by decide) (Nat.le_of_ble_eq_true rfl) (fun r M1 hp => ?_)
  obtain ⟨hp, he⟩ := hp
  have he := he.symm
  subst he
  rcases hp with ⟨rfl, hb_1⟩ | ⟨rfl, hb_1⟩
  · refine r_if_ne K 11 dX5_back_6 (by decide) (fun _ => ?_) (fun h => absurd h (by decide))
    obtain ⟨j, hj1, hj2, rfl⟩ := x_nat (a := 0) (b := 1) hb_1 (by omega) (by omega)
    have jc : (nI j).toNatClampNeg = j := nI_clamp (by omega)
    have him1 := x_im_get him (show j < 2 by omega)
    refine r_aload_n K 0 dX5_back_11 rfl rfl ?_
    refine r_getR K rfl rfl ff_5_kept qw_192 dX5_back_12 ?_
    refine r_iload_n K 1 dX5_back_15 rfl rfl ?_
    refine r_zald K (j := j) rfl rfl (by omega) (by decide) dX5_back_16 ?_
    refine r_top_eq (ab_flag (A.2.2.2.2.2 j)) (x_im1_flag him1) ?_
    refine r_if_ne K 23 dX5_back_17 (by decide) (fun h_2 => ?_) (fun h_2 => ?_)
    · obtain ⟨Li, hLi⟩ : ∃ Li, A.2.2.2.2.2 j = some Li := by
        cases q : A.2.2.2.2.2 j with
        | none => rw [q] at h_2; exact absurd rfl h_2
        | some Li => exact ⟨Li, rfl⟩
      have him2 := him1
      rw [hLi] at him2
      obtain ⟨hb1, hb2, hb3⟩ := him2
      refine r_aload_n K 0 dX5_back_23 rfl rfl ?_
      refine r_getR K rfl rfl ff_5_line qw_189 dX5_back_24 ?_
      refine r_aload_n K 0 dX5_back_27 rfl rfl ?_
      refine r_getR K rfl rfl ff_5_images qw_191 dX5_back_28 ?_
      refine r_iload_n K 1 dX5_back_31 rfl rfl ?_
      refine r_aaldL K (j := j) rfl rfl (xI_e (by omega)) (by omega) (by decide) dX5_back_32 ?_
      refine r_callVv K [.ref (g.2.2 (57 + 17 * j))] [] dX5_back_33 mf_X1_copy (xL_0 xL1) rfl qw_352 qw_353 qw_354 (c_Line_copy l g t M 1 (57 + 17 * j) xL1 (xL_im (by omega)) (by omega) A.2.1 Li hb2.1 hb3) rfl rfl (by decide) (Nat.le_of_ble_eq_true rfl) (fun Mc hp => ?_)
      obtain ⟨hc1, hc2⟩ := hp
      refine r_aload_n K 0 dX5_back_36 rfl rfl ?_
      refine r_callVv K [] [] dX5_back_37 mf_X5_lineChanged rfl rfl qw_356 qw_358 qs_11 (c_lineChanged l g t Mc) rfl rfl (by decide) (Nat.le_of_ble_eq_true rfl) (fun M1 hp => ?_)
      subst hp
      refine r_aload_n K 0 dX5_back_40 rfl rfl ?_
      refine r_getR K rfl rfl ff_5_deeds qw_194 dX5_back_41 ?_
      refine r_iconst K (v := 0) dX5_back_44 (by decide) ?_
      refine r_put K rfl rfl ff_0_size qw_147 rfl rfl dX5_back_45 ?_
      refine r_aload_n K 0 dX5_back_48 rfl rfl ?_
      refine r_getR K rfl rfl ff_5_line qw_189 dX5_back_49 ?_
      refine r_getI K (xL_0 xL1) rfl ff_1_rings qw_71 dX5_back_52 ?_
      refine r_top_eq (nI (ab_ks Li).length) (by rw [rs_st_ne _ _ _ (by decide), rs_st_ne _ _ _ (by decide)]; exact hc1.1) ?_
      have e : ab_back A (nI j) = (nI (ab_ks Li).length, ab_wL A Li []) := by rw [ab_back, ab_if_pos hb_1, jc, hLi, ab_back1]
      exact hr _ _ _ _ dX5_back_55 (by rw [e]; exact ⟨rfl, (x_S_line hS (fun c h1 h2 => by rw [rs_st_ne _ _ _ (by omega), rs_st_ne _ _ _ (by omega), hc2 c (by omega)]) (x_ln_fr hb2.1 hc1 (x_fr_tr (x_fr_st (lo := 40) (hi := 46) (by decide) (by decide)) (x_fr_st (by decide) (by decide))) (by omega)) hb2 (x_und_0 (by rw [rs_st_eq])) (x_cache_0 (by rw [rs_st_ne _ _ _ (by decide), rs_st_eq])))⟩)
    · refine r_bipush K (v := (-2)) dX5_back_20 (by decide) ?_
      have hno : A.2.2.2.2.2 j = none := by
        cases q : A.2.2.2.2.2 j with
        | none => rfl
        | some Li => rw [q] at h_2; exact absurd h_2 (by simp [ab_flag])
      have e : ab_back A (nI j) = (-2, A) := by rw [ab_back, ab_if_pos hb_1, jc, hno, ab_back1]
      exact hr _ _ _ _ dX5_back_22 (by rw [e]; exact ⟨rfl, hS⟩)
  · refine r_if_ne K 11 dX5_back_6 (by decide) (fun h => absurd h (by decide)) (fun _ => ?_)
    refine r_iconst K (v := (-1)) dX5_back_9 (by decide) ?_
    have e : ab_back A i = (-1, A) := by rw [ab_back, ab_if_neg hb_1]
    exact hr _ _ _ _ dX5_back_10 (by rw [e]; exact ⟨rfl, hS⟩)
set_option maxHeartbeats 4000000 in
set_option maxRecDepth 100000 in
theorem c_count (l : Launch) (g : rs_G) (t : Nat × Nat) (M : rs_M) (A : ab_S) (hS : x_S M A) (w : Int32) : rs_Ci l g xk t yX5_count cX5_count 2 .int 4 [.ref (g.2.2 0), .int w] M (fun r M1 => x_R (ab_count A w, A) r M1) := by
  obtain ⟨hL, hok, ht, hdr, him, htx, hun, hca, hse⟩ := id hS
  have hn12 := hok.1
  obtain ⟨ds, hds, hdl, hch⟩ := hun
  refine rs_ofi (plainFor_of_name (by decide)) (Nat.le_of_ble_eq_true rfl) ?_
  intro Y K hr
  show Y M 0 [(0, .ref (g.2.2 0)), (1, .int w)] []
  refine r_iload_n K 1 dX5_count_0 rfl rfl ?_
  refine r_table K [(0, 56), (1, 64), (2, 72), (3, 80), (4, 88), (5, 96), (6, 104), (7, 112), (8, 117), (9, 125)] 133 dX5_count_1 (by decide) (by decide) (by decide) ?_
  simp only [rs_swp]
  refine ⟨fun h_1_0 => ?_, fun h_1_0 => ⟨fun h_1_1 => ?_, fun h_1_1 => ⟨fun h_1_2 => ?_, fun h_1_2 => ⟨fun h_1_3 => ?_, fun h_1_3 => ⟨fun h_1_4 => ?_, fun h_1_4 => ⟨fun h_1_5 => ?_, fun h_1_5 => ⟨fun h_1_6 => ?_, fun h_1_6 => ⟨fun h_1_7 => ?_, fun h_1_7 => ⟨fun h_1_8 => ?_, fun h_1_8 => ⟨fun h_1_9 => ?_, fun h_1_9 => ?_⟩⟩⟩⟩⟩⟩⟩⟩⟩⟩
  · refine r_aload_n K 0 dX5_count_56 rfl rfl ?_
    refine r_getR K rfl rfl ff_5_line qw_189 dX5_count_57 ?_
    refine r_getI K (xL_0 xL1) rfl ff_1_rings qw_71 dX5_count_60 ?_
    refine r_top_eq (nI (ab_ks A.1).length) hL.1 ?_
    exact hr _ _ _ _ dX5_count_63 ⟨by rw [ab_count, if_pos h_1_0], hS⟩
  · refine r_aload_n K 0 dX5_count_64 rfl rfl ?_
    refine r_getR K rfl rfl ff_5_line qw_189 dX5_count_65 ?_
    refine r_getI K (xL_0 xL1) rfl ff_1_taper qw_75 dX5_count_68 ?_
    refine r_top_eq A.2.1 hL.2.2.1 ?_
    exact hr _ _ _ _ dX5_count_71 ⟨by rw [ab_count, if_neg h_1_0, if_pos h_1_1], hS⟩
  · refine r_aload_n K 0 dX5_count_72 rfl rfl ?_
    refine r_getR K rfl rfl ff_5_line qw_189 dX5_count_73 ?_
    refine r_getI K (xL_0 xL1) rfl ff_1_bar qw_77 dX5_count_76 ?_
    refine r_top_eq (nI (ab_bar A.1)) hL.2.2.2.1 ?_
    exact hr _ _ _ _ dX5_count_79 ⟨by rw [ab_count, if_neg h_1_0, if_neg h_1_1, if_pos h_1_2], hS⟩
  · refine r_aload_n K 0 dX5_count_80 rfl rfl ?_
    refine r_getR K rfl rfl ff_5_line qw_189 dX5_count_81 ?_
    refine r_getI K (xL_0 xL1) rfl ff_1_way qw_79 dX5_count_84 ?_
    refine r_top_eq (nI (ab_way A.1)) hL.2.2.2.2.1 ?_
    exact hr _ _ _ _ dX5_count_87 ⟨by rw [ab_count, if_neg h_1_0, if_neg h_1_1, if_neg h_1_2, if_pos h_1_3], hS⟩
  · refine r_aload_n K 0 dX5_count_88 rfl rfl ?_
    refine r_getR K rfl rfl ff_5_line qw_189 dX5_count_89 ?_
    refine r_getI K (xL_0 xL1) rfl ff_1_tail qw_81 dX5_count_92 ?_
    refine r_top_eq (nI (ab_tail A.1)) hL.2.2.2.2.2.1 ?_
    exact hr _ _ _ _ dX5_count_95 ⟨by rw [ab_count, if_neg h_1_0, if_neg h_1_1, if_neg h_1_2, if_neg h_1_3, if_pos h_1_4], hS⟩
  · refine r_aload_n K 0 dX5_count_96 rfl rfl ?_
    refine r_getR K rfl rfl ff_5_line qw_189 dX5_count_97 ?_
    refine r_callVi K [] [] dX5_count_100 mf_X1_nextKeys (xL_0 xL1) rfl qw_526 qw_527 qw_528 (c_nextKeys l g t M 1 xL1 A.2.1 A.1 hok hL) rfl rfl (by decide) (Nat.le_of_ble_eq_true rfl) (fun r M1 hp => ?_)
    obtain ⟨hp, he⟩ := hp
    have he := he.symm
    subst he
    subst hp
    exact hr _ _ _ _ dX5_count_103 ⟨by rw [ab_count, if_neg h_1_0, if_neg h_1_1, if_neg h_1_2, if_neg h_1_3, if_neg h_1_4, if_pos h_1_5], hS⟩
  · refine r_aload_n K 0 dX5_count_104 rfl rfl ?_
    refine r_getR K rfl rfl ff_5_line qw_189 dX5_count_105 ?_
    refine r_callVi K [] [] dX5_count_108 mf_X1_wholeCost (xL_0 xL1) rfl qw_531 qw_532 qw_533 (c_wholeCost l g t M 1 xL1 A.2.1 A.1 hok hL) rfl rfl (by decide) (Nat.le_of_ble_eq_true rfl) (fun r M1 hp => ?_)
    obtain ⟨hp, he⟩ := hp
    have he := he.symm
    subst he
    subst hp
    exact hr _ _ _ _ dX5_count_111 ⟨by rw [ab_count, if_neg h_1_0, if_neg h_1_1, if_neg h_1_2, if_neg h_1_3, if_neg h_1_4, if_neg h_1_5, if_pos h_1_6], hS⟩
  · refine r_aload_n K 0 dX5_count_112 rfl rfl ?_
    refine r_getI K rfl rfl ff_5_seen qw_199 dX5_count_113 ?_
    refine r_top_eq (nI A.2.2.2.1.length) hse.1 ?_
    exact hr _ _ _ _ dX5_count_116 ⟨by rw [ab_count, if_neg h_1_0, if_neg h_1_1, if_neg h_1_2, if_neg h_1_3, if_neg h_1_4, if_neg h_1_5, if_neg h_1_6, if_pos h_1_7], hS⟩
  · refine r_aload_n K 0 dX5_count_117 rfl rfl ?_
    refine r_getR K rfl rfl ff_5_script qw_193 dX5_count_118 ?_
    refine r_getI K rfl rfl ff_2_length qw_108 dX5_count_121 ?_
    refine r_top_eq (nI A.2.2.2.2.1.length) htx.1 ?_
    exact hr _ _ _ _ dX5_count_124 ⟨by rw [ab_count, if_neg h_1_0, if_neg h_1_1, if_neg h_1_2, if_neg h_1_3, if_neg h_1_4, if_neg h_1_5, if_neg h_1_6, if_neg h_1_7, if_pos h_1_8], hS⟩
  · refine r_aload_n K 0 dX5_count_125 rfl rfl ?_
    refine r_getR K rfl rfl ff_5_deeds qw_194 dX5_count_126 ?_
    refine r_getI K rfl rfl ff_0_size qw_147 dX5_count_129 ?_
    refine r_top_eq (nI A.2.2.1.length) (by rw [← ab_chain_len _ _ _ hch, List.length_reverse]; exact hds.1) ?_
    exact hr _ _ _ _ dX5_count_132 ⟨by rw [ab_count, if_neg h_1_0, if_neg h_1_1, if_neg h_1_2, if_neg h_1_3, if_neg h_1_4, if_neg h_1_5, if_neg h_1_6, if_neg h_1_7, if_neg h_1_8, if_pos h_1_9], hS⟩
  · refine r_iconst K (v := (-1)) dX5_count_133 (by decide) ?_
    exact hr _ _ _ _ dX5_count_134 ⟨by rw [ab_count, if_neg h_1_0, if_neg h_1_1, if_neg h_1_2, if_neg h_1_3, if_neg h_1_4, if_neg h_1_5, if_neg h_1_6, if_neg h_1_7, if_neg h_1_8, if_neg h_1_9], hS⟩
set_option maxHeartbeats 4000000 in
set_option maxRecDepth 100000 in
theorem c_explains (l : Launch) (g : rs_G) (t : Nat × Nat) (M : rs_M) (A : ab_S) (hS : x_S M A) (q : Nat) (h1 : 1 ≤ q) (h2 : q ≤ (ab_ks A.1).length) (k : Nat) (hk : k < 8) : rs_Ci l g xk t yX5_explainsAllSeen cX5_explainsAllSeen 9 .boolean 2 [.ref (g.2.2 0), .int (nI q), .int (nI k)] M (fun r M1 => ab_b01 r (ab_usQ A.2.1 A.1 A.2.2.2.1 q k) ∧ M1 = M) := by
  obtain ⟨hL, hok, ht, hdr, him, htx, hun, hca, hse⟩ := id hS
  have hn12 := hok.1
  have hs4 := hse.2.1
  have hsl := x_ln_last hL
  have hown8 := ab_getD_lt hok.2.1 (q - 1)
  have hgs := ab_geo_set (tp := A.2.1) (ks := ab_ks A.1) (i := q - 1) (by omega) k
  rw [show q - 1 + 1 = q by omega] at hgs
  refine rs_ofz (plainFor_of_name (by decide)) (Nat.le_of_ble_eq_true rfl) ?_
  intro Y K hr
  show Y M 0 [(0, .ref (g.2.2 0)), (1, .int (nI q)), (2, .int (nI k))] []
  refine r_aload_n K 0 dX5_explainsAllSeen_0 rfl rfl ?_
  refine r_getR K rfl rfl ff_5_line qw_189 dX5_explainsAllSeen_1 ?_
  refine r_callVr K [] [] dX5_explainsAllSeen_4 mf_X1_last (xL_0 xL1) rfl qw_365 qw_306 qw_307 (c_Line_last l g t M 1 xL1 (ab_ks A.1).length hok.1 hL.1) rfl rfl (by decide) (Nat.le_of_ble_eq_true rfl) (fun r M1 hp => ?_)
  obtain ⟨hp, he⟩ := hp
  have he := he.symm
  subst he
  subst hp
  refine r_astore_n K [(3, .ref (g.2.2 (1 + 4 + (ab_ks A.1).length))), (0, .ref (g.2.2 0)), (1, .int (nI q)), (2, .int (nI k))] dX5_explainsAllSeen_7 rfl (by decide) rfl ?_
  refine r_aload_n K 1 dX5_explainsAllSeen_8 rfl rfl ?_
  refine r_getR K rfl rfl ff_5_line qw_189 dX5_explainsAllSeen_9 ?_
  refine r_getR K (xL_0 xL1) rfl ff_1_spots qw_64 dX5_explainsAllSeen_12 ?_
  refine r_iload_n K 2 dX5_explainsAllSeen_15 rfl rfl ?_
  refine r_aaldS K (j := q) (xL_1 xL1) rfl (xL_e (by omega)) (by omega) (by decide) dX5_explainsAllSeen_16 ?_
  refine r_getI K (xL_s xL1 (by omega)) rfl ff_4_key qw_36 dX5_explainsAllSeen_17 ?_
  refine r_top_eq (nI ((ab_ks A.1).getD (q - 1) 0)) (by rw [(hL.2.1 q h2).2.1]; exact ab_last_take h1 h2) ?_
  refine r_istore K [(4, .int (nI ((ab_ks A.1).getD (q - 1) 0))), (3, .ref (g.2.2 (1 + 4 + (ab_ks A.1).length))), (0, .ref (g.2.2 0)), (1, .int (nI q)), (2, .int (nI k))] dX5_explainsAllSeen_20 (by decide) rfl ?_
  refine r_aload_n K 2 dX5_explainsAllSeen_22 rfl rfl ?_
  refine r_getR K rfl rfl ff_5_line qw_189 dX5_explainsAllSeen_23 ?_
  refine r_getI K (xL_0 xL1) rfl ff_1_taper qw_75 dX5_explainsAllSeen_26 ?_
  refine r_top_eq A.2.1 hL.2.2.1 ?_
  refine r_aload_n K 2 dX5_explainsAllSeen_29 rfl rfl ?_
  refine r_getR K rfl rfl ff_5_line qw_189 dX5_explainsAllSeen_30 ?_
  refine r_getI K (xL_0 xL1) rfl ff_1_rings qw_71 dX5_explainsAllSeen_33 ?_
  refine r_top_eq (nI (ab_ks A.1).length) hL.1 ?_
  refine r_iload_n K 3 dX5_explainsAllSeen_36 rfl rfl ?_
  refine r_isub K dX5_explainsAllSeen_37 ?_
  refine r_iconst K (v := 1) dX5_explainsAllSeen_38 (by decide) ?_
  refine r_iadd K dX5_explainsAllSeen_39 ?_
  refine r_imul K dX5_explainsAllSeen_40 ?_
  refine r_istore K [(5, .int (A.2.1 * (((nI (ab_ks A.1).length) - (nI q)) + 1))), (4, .int (nI ((ab_ks A.1).getD (q - 1) 0))), (3, .ref (g.2.2 (1 + 4 + (ab_ks A.1).length))), (0, .ref (g.2.2 0)), (1, .int (nI q)), (2, .int (nI k))] dX5_explainsAllSeen_41 (by decide) rfl ?_
  refine r_aload_n K 2 dX5_explainsAllSeen_43 rfl rfl ?_
  refine r_getI K (xL_s xL1 (by omega)) rfl ff_4_placeX qw_44 dX5_explainsAllSeen_44 ?_
  refine r_top_eq ((ab_geo A.2.1 (ab_ks A.1)).2.2.1) hsl.2.2.2.2.1 ?_
  refine r_iload K 0 dX5_explainsAllSeen_47 rfl ?_
  refine r_iload_n K 5 dX5_explainsAllSeen_49 rfl rfl ?_
  refine r_callSi K [.int (nI k)] [.int (A.2.1 * (((nI (ab_ks A.1).length) - (nI q)) + 1)), .int ((ab_geo A.2.1 (ab_ks A.1)).2.2.1)] dX5_explainsAllSeen_50 mf_X5_leanX qw_487 qw_325 (c_leanX l g xk t M k hk) rfl rfl (by decide) (Nat.le_of_ble_eq_true rfl) (fun r M1 hp => ?_)
  obtain ⟨hp, he⟩ := hp
  have he := he.symm
  subst he
  subst hp
  refine r_iload K 1 dX5_explainsAllSeen_53 rfl ?_
  refine r_callSi K [.int (nI ((ab_ks A.1).getD (q - 1) 0))] [.int (rs_lX k), .int (A.2.1 * (((nI (ab_ks A.1).length) - (nI q)) + 1)), .int ((ab_geo A.2.1 (ab_ks A.1)).2.2.1)] dX5_explainsAllSeen_55 mf_X5_leanX qw_487 qw_325 (c_leanX l g xk t M ((ab_ks A.1).getD (q - 1) 0) hown8) rfl rfl (by decide) (Nat.le_of_ble_eq_true rfl) (fun r M1 hp => ?_)
  obtain ⟨hp, he⟩ := hp
  have he := he.symm
  subst he
  subst hp
  refine r_isub K dX5_explainsAllSeen_58 ?_
  refine r_imul K dX5_explainsAllSeen_59 ?_
  refine r_iadd K dX5_explainsAllSeen_60 ?_
  refine r_top_eq ((ab_geo A.2.1 ((ab_ks A.1).set (q - 1) k)).2.2.1) hgs.1.symm ?_
  refine r_istore K [(6, .int ((ab_geo A.2.1 ((ab_ks A.1).set (q - 1) k)).2.2.1)), (5, .int (A.2.1 * (((nI (ab_ks A.1).length) - (nI q)) + 1))), (4, .int (nI ((ab_ks A.1).getD (q - 1) 0))), (3, .ref (g.2.2 (1 + 4 + (ab_ks A.1).length))), (0, .ref (g.2.2 0)), (1, .int (nI q)), (2, .int (nI k))] dX5_explainsAllSeen_61 (by decide) rfl ?_
  refine r_aload_n K 3 dX5_explainsAllSeen_63 rfl rfl ?_
  refine r_getI K (xL_s xL1 (by omega)) rfl ff_4_placeY qw_47 dX5_explainsAllSeen_64 ?_
  refine r_top_eq ((ab_geo A.2.1 (ab_ks A.1)).2.2.2) hsl.2.2.2.2.2 ?_
  refine r_iload K 1 dX5_explainsAllSeen_67 rfl ?_
  refine r_iload_n K 6 dX5_explainsAllSeen_69 rfl rfl ?_
  refine r_callSi K [.int (nI k)] [.int (A.2.1 * (((nI (ab_ks A.1).length) - (nI q)) + 1)), .int ((ab_geo A.2.1 (ab_ks A.1)).2.2.2)] dX5_explainsAllSeen_70 mf_X5_leanY qw_488 qw_333 (c_leanY l g xk t M k hk) rfl rfl (by decide) (Nat.le_of_ble_eq_true rfl) (fun r M1 hp => ?_)
  obtain ⟨hp, he⟩ := hp
  have he := he.symm
  subst he
  subst hp
  refine r_iload K 2 dX5_explainsAllSeen_73 rfl ?_
  refine r_callSi K [.int (nI ((ab_ks A.1).getD (q - 1) 0))] [.int (rs_lY k), .int (A.2.1 * (((nI (ab_ks A.1).length) - (nI q)) + 1)), .int ((ab_geo A.2.1 (ab_ks A.1)).2.2.2)] dX5_explainsAllSeen_75 mf_X5_leanY qw_488 qw_333 (c_leanY l g xk t M ((ab_ks A.1).getD (q - 1) 0) hown8) rfl rfl (by decide) (Nat.le_of_ble_eq_true rfl) (fun r M1 hp => ?_)
  obtain ⟨hp, he⟩ := hp
  have he := he.symm
  subst he
  subst hp
  refine r_isub K dX5_explainsAllSeen_78 ?_
  refine r_imul K dX5_explainsAllSeen_79 ?_
  refine r_iadd K dX5_explainsAllSeen_80 ?_
  refine r_top_eq ((ab_geo A.2.1 ((ab_ks A.1).set (q - 1) k)).2.2.2) hgs.2.symm ?_
  refine r_istore K [(7, .int ((ab_geo A.2.1 ((ab_ks A.1).set (q - 1) k)).2.2.2)), (6, .int ((ab_geo A.2.1 ((ab_ks A.1).set (q - 1) k)).2.2.1)), (5, .int (A.2.1 * (((nI (ab_ks A.1).length) - (nI q)) + 1))), (4, .int (nI ((ab_ks A.1).getD (q - 1) 0))), (3, .ref (g.2.2 (1 + 4 + (ab_ks A.1).length))), (0, .ref (g.2.2 0)), (1, .int (nI q)), (2, .int (nI k))] dX5_explainsAllSeen_81 (by decide) rfl ?_
  refine r_iconst K (v := 0) dX5_explainsAllSeen_83 (by decide) ?_
  refine r_istore K [(8, .int 0), (7, .int ((ab_geo A.2.1 ((ab_ks A.1).set (q - 1) k)).2.2.2)), (6, .int ((ab_geo A.2.1 ((ab_ks A.1).set (q - 1) k)).2.2.1)), (5, .int (A.2.1 * (((nI (ab_ks A.1).length) - (nI q)) + 1))), (4, .int (nI ((ab_ks A.1).getD (q - 1) 0))), (3, .ref (g.2.2 (1 + 4 + (ab_ks A.1).length))), (0, .ref (g.2.2 0)), (1, .int (nI q)), (2, .int (nI k))] dX5_explainsAllSeen_84 (by decide) rfl ?_
  have lp : ∀ (f : Nat) (s0 : Nat), (4 - s0 < f) → (s0 ≤ A.2.2.2.1.length) → (∀ i, i < s0 → (ab_geo A.2.1 ((ab_ks A.1).set (q - 1) k)).2.2.1 = (A.2.2.2.1.getD i (0, 0)).1 ∧ (ab_geo A.2.1 ((ab_ks A.1).set (q - 1) k)).2.2.2 = (A.2.2.2.1.getD i (0, 0)).2) → Y M 86 [(8, .int (nI s0)), (7, .int ((ab_geo A.2.1 ((ab_ks A.1).set (q - 1) k)).2.2.2)), (6, .int ((ab_geo A.2.1 ((ab_ks A.1).set (q - 1) k)).2.2.1)), (5, .int (A.2.1 * (nI (ab_ks A.1).length - nI q + 1))), (4, .int (nI ((ab_ks A.1).getD (q - 1) 0))), (3, .ref (g.2.2 (1 + 4 + (ab_ks A.1).length))), (0, .ref (g.2.2 0)), (1, .int (nI q)), (2, .int (nI k))] [] := by
    intro f
    induction f with
    | zero =>
      intro s0 hf
      exact absurd hf (Nat.not_lt_zero _)
    | succ f ih =>
      intro s0 hf hi hI
      refine r_iload K 0 dX5_explainsAllSeen_86 rfl ?_
      refine r_aload_n K 6 dX5_explainsAllSeen_88 rfl rfl ?_
      refine r_getI K rfl rfl ff_5_seen qw_199 dX5_explainsAllSeen_89 ?_
      refine r_top_eq (nI A.2.2.2.1.length) hse.1 ?_
      refine r_icmp_ge K 133 dX5_explainsAllSeen_92 (by decide) (fun h_1 => ?_) (fun h_1 => ?_)
      · have nh_1 : A.2.2.2.1.length ≤ s0 := (nf_le rfl rfl (by omega) (by omega)).mp h_1
        refine r_iconst K (v := 1) dX5_explainsAllSeen_133 (by decide) ?_
        exact hr _ _ _ _ dX5_explainsAllSeen_134 (Or.inr rfl) ⟨Or.inl ⟨rfl, fun i hi2 => hI i (by omega)⟩, rfl⟩
      · have nh_1 : ¬ A.2.2.2.1.length ≤ s0 := mt (nf_le rfl rfl (by omega) (by omega)).mpr h_1
        refine r_iload K 0 dX5_explainsAllSeen_95 rfl ?_
        refine r_iconst K (v := 4) dX5_explainsAllSeen_97 (by decide) ?_
        refine r_icmp_ge K 133 dX5_explainsAllSeen_98 (by decide) (fun h_2 => ?_) (fun h_2 => ?_)
        · have nh_2 : 4 ≤ s0 := (nf_le rfl rfl (by omega) (by omega)).mp h_2
          refine r_iconst K (v := 1) dX5_explainsAllSeen_133 (by decide) ?_
          exact hr _ _ _ _ dX5_explainsAllSeen_134 (Or.inr rfl) ⟨Or.inl ⟨rfl, fun i hi2 => hI i (by omega)⟩, rfl⟩
        · have nh_2 : ¬ 4 ≤ s0 := mt (nf_le rfl rfl (by omega) (by omega)).mpr h_2
          refine r_aload_n K 6 dX5_explainsAllSeen_101 rfl rfl ?_
          refine r_getR K rfl rfl ff_5_seenX qw_197 dX5_explainsAllSeen_102 ?_
          refine r_iload K 0 dX5_explainsAllSeen_105 rfl ?_
          refine r_iald K (j := s0) rfl rfl (by omega) (by decide) dX5_explainsAllSeen_107 ?_
          refine r_top_eq ((A.2.2.2.1.getD s0 (0, 0)).1) (hse.2.2 s0 (by omega)).1 ?_
          refine r_iload K 2 dX5_explainsAllSeen_108 rfl ?_
          refine r_icmp_ne K 125 dX5_explainsAllSeen_110 (by decide) (fun h_3 => ?_) (fun h_3 => ?_)
          · refine r_iconst K (v := 0) dX5_explainsAllSeen_125 (by decide) ?_
            exact hr _ _ _ _ dX5_explainsAllSeen_126 (Or.inl rfl) ⟨Or.inr ⟨rfl, fun q => h_3 ((q s0 (by omega)).1.symm)⟩, rfl⟩
          · refine r_aload_n K 6 dX5_explainsAllSeen_113 rfl rfl ?_
            refine r_getR K rfl rfl ff_5_seenY qw_198 dX5_explainsAllSeen_114 ?_
            refine r_iload K 0 dX5_explainsAllSeen_117 rfl ?_
            refine r_iald K (j := s0) rfl rfl (by omega) (by decide) dX5_explainsAllSeen_119 ?_
            refine r_top_eq ((A.2.2.2.1.getD s0 (0, 0)).2) (hse.2.2 s0 (by omega)).2 ?_
            refine r_iload K 1 dX5_explainsAllSeen_120 rfl ?_
            refine r_icmp_eq K 127 dX5_explainsAllSeen_122 (by decide) (fun h_4 => ?_) (fun h_4 => ?_)
            · refine r_iinc_n K 0 [(8, .int (nI (s0 + 1))), (7, .int ((ab_geo A.2.1 ((ab_ks A.1).set (q - 1) k)).2.2.2)), (6, .int ((ab_geo A.2.1 ((ab_ks A.1).set (q - 1) k)).2.2.1)), (5, .int (A.2.1 * (nI (ab_ks A.1).length - nI q + 1))), (4, .int (nI ((ab_ks A.1).getD (q - 1) 0))), (3, .ref (g.2.2 (1 + 4 + (ab_ks A.1).length))), (0, .ref (g.2.2 0)), (1, .int (nI q)), (2, .int (nI k))] dX5_explainsAllSeen_127 rfl (by decide) rfl ?_
              refine r_goto K 86 dX5_explainsAllSeen_130 (by decide) ?_
              exact ih (s0 + 1) (by omega) (by omega) (fun i hi2 => by
                by_cases e : i = s0
                · subst e; exact ⟨(h_3).symm, (h_4).symm⟩
                · exact hI i (by omega))
            · refine r_iconst K (v := 0) dX5_explainsAllSeen_125 (by decide) ?_
              exact hr _ _ _ _ dX5_explainsAllSeen_126 (Or.inl rfl) ⟨Or.inr ⟨rfl, fun q => h_4 ((q s0 (by omega)).2.symm)⟩, rfl⟩
  exact lp 5 0 (by omega) (by omega) (fun i hi => absurd hi (Nat.not_lt_zero _))
set_option maxHeartbeats 4000000 in
set_option maxRecDepth 100000 in
theorem c_unseen (l : Launch) (g : rs_G) (t : Nat × Nat) (M : rs_M) (A : ab_S) (hS : x_S M A) (i : Int32) : rs_Ci l g xk t yX5_unseen cX5_unseen 4 .int 3 [.ref (g.2.2 0), .int i] M (fun r M1 => x_R (ab_unseen A i, A) r M1) := by
  obtain ⟨hL, hok, ht, hdr, him, htx, hun, hca, hse⟩ := id hS
  have hn12 := hok.1
  refine rs_ofi (plainFor_of_name (by decide)) (Nat.le_of_ble_eq_true rfl) ?_
  intro Y K hr
  show Y M 0 [(0, .ref (g.2.2 0)), (1, .int i)] []
  refine r_iload_n K 1 dX5_unseen_0 rfl rfl ?_
  refine r_iconst K (v := 1) dX5_unseen_1 (by decide) ?_
  refine r_aload_n K 0 dX5_unseen_2 rfl rfl ?_
  refine r_getR K rfl rfl ff_5_line qw_189 dX5_unseen_3 ?_
  refine r_getI K (xL_0 xL1) rfl ff_1_rings qw_71 dX5_unseen_6 ?_
  refine r_top_eq (nI (ab_ks A.1).length) hL.1 ?_
  refine r_callSi K [.int i, .int 1, .int (nI (ab_ks A.1).length)] [] dX5_unseen_9 mf_X5_isWithin qw_227 qw_228 (c_isWithin l g xk t M i 1 (nI (ab_ks A.1).length)) rfl rfl (by decide) (Nat.le_of_ble_eq_true rfl) (fun r M1 hp => ?_)
  obtain ⟨hp, he⟩ := hp
  have he := he.symm
  subst he
  rcases hp with ⟨rfl, hb_1⟩ | ⟨rfl, hb_1⟩
  · refine r_if_ne K 17 dX5_unseen_12 (by decide) (fun _ => ?_) (fun h => absurd h (by decide))
    obtain ⟨q, hj1, hj2, rfl⟩ := x_nat (a := 1) (b := (ab_ks A.1).length) hb_1 (by omega) (by omega)
    have qc : (nI q).toNatClampNeg = q := nI_clamp (by omega)
    have hown8 := ab_getD_lt hok.2.1 (q - 1)
    have e0 : ab_unseen A (nI q) = _ := ab_if_pos hb_1
    rw [qc] at e0
    refine r_iconst K (v := 0) dX5_unseen_17 (by decide) ?_
    refine r_istore_n K [(2, .int 0), (0, .ref (g.2.2 0)), (1, .int (nI q))] dX5_unseen_18 rfl (by decide) rfl ?_
    refine r_iconst K (v := 0) dX5_unseen_19 (by decide) ?_
    refine r_istore_n K [(3, .int 0), (2, .int 0), (0, .ref (g.2.2 0)), (1, .int (nI q))] dX5_unseen_20 rfl (by decide) rfl ?_
    have lp : ∀ (f : Nat) (k : Nat), (8 - k < f) → (k ≤ 8) → Y M 21 [(3, .int (nI k)), (2, .int (ab_mask (ab_usP A.2.1 A.1 A.2.2.2.1 q) k)), (0, .ref (g.2.2 0)), (1, .int (nI q))] [] := by
      intro f
      induction f with
      | zero =>
        intro k hf
        exact absurd hf (Nat.not_lt_zero _)
      | succ f ih =>
        intro k hf hi
        refine r_iload_n K 0 dX5_unseen_21 rfl rfl ?_
        refine r_bipush K (v := 8) dX5_unseen_22 (by decide) ?_
        refine r_icmp_ge K 64 dX5_unseen_24 (by decide) (fun h_2 => ?_) (fun h_2 => ?_)
        · have nh_2 : 8 ≤ k := (nf_le rfl rfl (by omega) (by omega)).mp h_2
          refine r_iload_n K 1 dX5_unseen_64 rfl rfl ?_
          have hk8 : k = 8 := by omega
          subst hk8
          exact hr _ _ _ _ dX5_unseen_65 ⟨by rw [e0], hS⟩
        · have nh_2 : ¬ 8 ≤ k := mt (nf_le rfl rfl (by omega) (by omega)).mpr h_2
          refine r_iload_n K 0 dX5_unseen_27 rfl rfl ?_
          refine r_aload_n K 2 dX5_unseen_28 rfl rfl ?_
          refine r_getR K rfl rfl ff_5_line qw_189 dX5_unseen_29 ?_
          refine r_getR K (xL_0 xL1) rfl ff_1_spots qw_64 dX5_unseen_32 ?_
          refine r_iload_n K 3 dX5_unseen_35 rfl rfl ?_
          refine r_aaldS K (j := q) (xL_1 xL1) rfl (xL_e (by omega)) (by omega) (by decide) dX5_unseen_36 ?_
          refine r_getI K (xL_s xL1 (by omega)) rfl ff_4_key qw_36 dX5_unseen_37 ?_
          refine r_top_eq (nI ((ab_ks A.1).getD (q - 1) 0)) (by rw [(hL.2.1 q hj2).2.1]; exact ab_last_take hj1 hj2) ?_
          refine r_icmp_eq K 58 dX5_unseen_40 (by decide) (fun h_3 => ?_) (fun h_3 => ?_)
          · have nh_3 : k = ((ab_ks A.1).getD (q - 1) 0) := (nf_eq rfl rfl (by omega) (by omega)).mp h_3
            refine r_iinc_n K 0 [(3, .int (nI (k + 1))), (2, .int (ab_mask (ab_usP A.2.1 A.1 A.2.2.2.1 q) k)), (0, .ref (g.2.2 0)), (1, .int (nI q))] dX5_unseen_58 rfl (by decide) rfl ?_
            refine r_goto K 21 dX5_unseen_61 (by decide) ?_
            have e : ab_mask (ab_usP A.2.1 A.1 A.2.2.2.1 q) (k + 1) = _ := if_neg (fun z => z.1 nh_3)
            have q9 := ih (k + 1) (by omega) (by omega)
            rw [e] at q9
            exact q9
          · have nh_3 : ¬ k = ((ab_ks A.1).getD (q - 1) 0) := mt (nf_eq rfl rfl (by omega) (by omega)).mpr h_3
            refine r_aload_n K 2 dX5_unseen_43 rfl rfl ?_
            refine r_iload_n K 3 dX5_unseen_44 rfl rfl ?_
            refine r_iload_n K 0 dX5_unseen_45 rfl rfl ?_
            refine r_callVi K [.int (nI q), .int (nI k)] [] dX5_unseen_46 mf_X5_explainsAllSeen rfl rfl qw_483 qw_485 qs_15 (c_explains l g t M A hS q hj1 hj2 k (by omega)) rfl rfl (by decide) (Nat.le_of_ble_eq_true rfl) (fun r M1 hp => ?_)
            obtain ⟨hp, he⟩ := hp
            have he := he.symm
            subst he
            rcases hp with ⟨rfl, hb_4⟩ | ⟨rfl, hb_4⟩
            · refine r_if_eq K 58 dX5_unseen_49 (by decide) (fun h => absurd h (by decide)) (fun _ => ?_)
              refine r_iload_n K 1 dX5_unseen_52 rfl rfl ?_
              refine r_iconst K (v := 1) dX5_unseen_53 (by decide) ?_
              refine r_iload_n K 0 dX5_unseen_54 rfl rfl ?_
              refine r_ishl K dX5_unseen_55 ?_
              refine r_ior K dX5_unseen_56 ?_
              refine r_istore_n K [(2, .int ((ab_mask (ab_usP A.2.1 A.1 A.2.2.2.1 q) k) ||| (1 <<< ((nI k) &&& 31)))), (3, .int (nI k)), (0, .ref (g.2.2 0)), (1, .int (nI q))] dX5_unseen_57 rfl (by decide) rfl ?_
              refine r_iinc_n K 1 [(3, .int (nI (k + 1))), (2, .int ((ab_mask (ab_usP A.2.1 A.1 A.2.2.2.1 q) k) ||| (1 <<< ((nI k) &&& 31)))), (0, .ref (g.2.2 0)), (1, .int (nI q))] dX5_unseen_58 rfl (by decide) rfl ?_
              refine r_goto K 21 dX5_unseen_61 (by decide) ?_
              have e : ab_mask (ab_usP A.2.1 A.1 A.2.2.2.1 q) (k + 1) = _ := if_pos ⟨nh_3, hb_4⟩
              have q9 := ih (k + 1) (by omega) (by omega)
              rw [e] at q9
              exact q9
            · refine r_if_eq K 58 dX5_unseen_49 (by decide) (fun _ => ?_) (fun h => absurd h (by decide))
              refine r_iinc_n K 0 [(3, .int (nI (k + 1))), (2, .int (ab_mask (ab_usP A.2.1 A.1 A.2.2.2.1 q) k)), (0, .ref (g.2.2 0)), (1, .int (nI q))] dX5_unseen_58 rfl (by decide) rfl ?_
              refine r_goto K 21 dX5_unseen_61 (by decide) ?_
              have e : ab_mask (ab_usP A.2.1 A.1 A.2.2.2.1 q) (k + 1) = _ := if_neg (fun z => hb_4 z.2)
              have q9 := ih (k + 1) (by omega) (by omega)
              rw [e] at q9
              exact q9
    exact lp 9 0 (by omega) (by omega)
  · refine r_if_ne K 17 dX5_unseen_12 (by decide) (fun h => absurd h (by decide)) (fun _ => ?_)
    refine r_iconst K (v := (-1)) dX5_unseen_15 (by decide) ?_
    exact hr _ _ _ _ dX5_unseen_16 ⟨by rw [ab_unseen, ab_if_neg hb_1], hS⟩
end
