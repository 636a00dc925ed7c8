section
-- ===== PART A: goes FIRST, ahead of the names: the tables' words, and 'selects' of the private methods out of them =====
/-- a private method of a class that the tables say can be made, by its rows of tables_1 -/
def lw_okq (q : MethodName × Nat) : Prop := (q.1.cls ≠ "java/lang/invoke/MethodHandle" ∧ q.1.cls ≠ "java/lang/invoke/VarHandle") ∧ Cond.instantiable q.1.cls q.2 ∈ tables_1 ∧ Cond.privateMethod q.1 ∈ tables_1 ∧ Cond.instanceMethod q.1 ∈ tables_1
theorem lw_p0 : lw_okq (⟨"ScriptDesk", "restart", "()V"⟩, 10) := ⟨⟨by decide +kernel, by decide +kernel⟩, List.mem_of_getElem? (i := 16) (by decide +kernel), List.mem_of_getElem? (i := 184) (by decide +kernel), List.mem_of_getElem? (i := 185) (by decide +kernel)⟩
theorem lw_p1 : lw_okq (⟨"ScriptDesk", "pushFromScript", "(III)I"⟩, 10) := ⟨⟨by decide +kernel, by decide +kernel⟩, List.mem_of_getElem? (i := 16) (by decide +kernel), List.mem_of_getElem? (i := 192) (by decide +kernel), List.mem_of_getElem? (i := 193) (by decide +kernel)⟩
theorem lw_p2 : lw_okq (⟨"ScriptDesk", "perform", "(I)I"⟩, 10) := ⟨⟨by decide +kernel, by decide +kernel⟩, List.mem_of_getElem? (i := 16) (by decide +kernel), List.mem_of_getElem? (i := 207) (by decide +kernel), List.mem_of_getElem? (i := 208) (by decide +kernel)⟩
theorem lw_p3 : lw_okq (⟨"ScriptDesk", "enterPart", "(Z)I"⟩, 10) := ⟨⟨by decide +kernel, by decide +kernel⟩, List.mem_of_getElem? (i := 16) (by decide +kernel), List.mem_of_getElem? (i := 215) (by decide +kernel), List.mem_of_getElem? (i := 216) (by decide +kernel)⟩
theorem lw_p4 : lw_okq (⟨"ScriptDesk", "leavePart", "(Z)I"⟩, 10) := ⟨⟨by decide +kernel, by decide +kernel⟩, List.mem_of_getElem? (i := 16) (by decide +kernel), List.mem_of_getElem? (i := 242) (by decide +kernel), List.mem_of_getElem? (i := 243) (by decide +kernel)⟩
theorem lw_p5 : lw_okq (⟨"ScriptDesk", "pushSmallNumber", "(I)I"⟩, 10) := ⟨⟨by decide +kernel, by decide +kernel⟩, List.mem_of_getElem? (i := 16) (by decide +kernel), List.mem_of_getElem? (i := 258) (by decide +kernel), List.mem_of_getElem? (i := 259) (by decide +kernel)⟩
theorem lw_p6 : lw_okq (⟨"ScriptDesk", "performPlain", "(I)I"⟩, 10) := ⟨⟨by decide +kernel, by decide +kernel⟩, List.mem_of_getElem? (i := 16) (by decide +kernel), List.mem_of_getElem? (i := 267) (by decide +kernel), List.mem_of_getElem? (i := 268) (by decide +kernel)⟩
theorem lw_p7 : lw_okq (⟨"ScriptDesk$Elements", "swapSlots", "(II)V"⟩, 5) := ⟨⟨by decide +kernel, by decide +kernel⟩, List.mem_of_getElem? (i := 24) (by decide +kernel), List.mem_of_getElem? (i := 281) (by decide +kernel), List.mem_of_getElem? (i := 282) (by decide +kernel)⟩
theorem lw_p8 : lw_okq (⟨"ScriptDesk", "performDigest", "(I)I"⟩, 10) := ⟨⟨by decide +kernel, by decide +kernel⟩, List.mem_of_getElem? (i := 16) (by decide +kernel), List.mem_of_getElem? (i := 370) (by decide +kernel), List.mem_of_getElem? (i := 371) (by decide +kernel)⟩
theorem lw_p9 : lw_okq (⟨"ScriptDesk$Sha256", "spreadWords", "()V"⟩, 5) := ⟨⟨by decide +kernel, by decide +kernel⟩, List.mem_of_getElem? (i := 89) (by decide +kernel), List.mem_of_getElem? (i := 446) (by decide +kernel), List.mem_of_getElem? (i := 447) (by decide +kernel)⟩
theorem lw_p10 : lw_okq (⟨"ScriptDesk$Signatures", "askOne", "(LScriptDesk$Elements;)I"⟩, 2) := ⟨⟨by decide +kernel, by decide +kernel⟩, List.mem_of_getElem? (i := 74) (by decide +kernel), List.mem_of_getElem? (i := 461) (by decide +kernel), List.mem_of_getElem? (i := 462) (by decide +kernel)⟩
theorem lw_p11 : lw_okq (⟨"ScriptDesk$Signatures", "fits", "(LScriptDesk$Elements;II)Z"⟩, 2) := ⟨⟨by decide +kernel, by decide +kernel⟩, List.mem_of_getElem? (i := 74) (by decide +kernel), List.mem_of_getElem? (i := 465) (by decide +kernel), List.mem_of_getElem? (i := 466) (by decide +kernel)⟩
theorem lw_p12 : lw_okq (⟨"ScriptDesk$Signatures", "askMany", "(LScriptDesk$Elements;LScriptDesk$Tally;)I"⟩, 2) := ⟨⟨by decide +kernel, by decide +kernel⟩, List.mem_of_getElem? (i := 74) (by decide +kernel), List.mem_of_getElem? (i := 473) (by decide +kernel), List.mem_of_getElem? (i := 474) (by decide +kernel)⟩
theorem lw_p13 : lw_okq (⟨"ScriptDesk$Signatures", "allFit", "(LScriptDesk$Elements;II)Z"⟩, 2) := ⟨⟨by decide +kernel, by decide +kernel⟩, List.mem_of_getElem? (i := 74) (by decide +kernel), List.mem_of_getElem? (i := 483) (by decide +kernel), List.mem_of_getElem? (i := 484) (by decide +kernel)⟩
theorem lw_p14 : lw_okq (⟨"ScriptDeskModel", "next", "(I)I"⟩, 18) := ⟨⟨by decide +kernel, by decide +kernel⟩, List.mem_of_getElem? (i := 526) (by decide +kernel), List.mem_of_getElem? (i := 600) (by decide +kernel), List.mem_of_getElem? (i := 601) (by decide +kernel)⟩
theorem lw_p15 : lw_okq (⟨"ScriptDeskModel", "isDone", "()Z"⟩, 18) := ⟨⟨by decide +kernel, by decide +kernel⟩, List.mem_of_getElem? (i := 526) (by decide +kernel), List.mem_of_getElem? (i := 604) (by decide +kernel), List.mem_of_getElem? (i := 605) (by decide +kernel)⟩
def lw_privs_1 : List (MethodName × Nat) := [(⟨"ScriptDesk", "restart", "()V"⟩, 10), (⟨"ScriptDesk", "pushFromScript", "(III)I"⟩, 10), (⟨"ScriptDesk", "perform", "(I)I"⟩, 10), (⟨"ScriptDesk", "enterPart", "(Z)I"⟩, 10), (⟨"ScriptDesk", "leavePart", "(Z)I"⟩, 10), (⟨"ScriptDesk", "pushSmallNumber", "(I)I"⟩, 10), (⟨"ScriptDesk", "performPlain", "(I)I"⟩, 10), (⟨"ScriptDesk$Elements", "swapSlots", "(II)V"⟩, 5), (⟨"ScriptDesk", "performDigest", "(I)I"⟩, 10), (⟨"ScriptDesk$Sha256", "spreadWords", "()V"⟩, 5), (⟨"ScriptDesk$Signatures", "askOne", "(LScriptDesk$Elements;)I"⟩, 2), (⟨"ScriptDesk$Signatures", "fits", "(LScriptDesk$Elements;II)Z"⟩, 2), (⟨"ScriptDesk$Signatures", "askMany", "(LScriptDesk$Elements;LScriptDesk$Tally;)I"⟩, 2), (⟨"ScriptDesk$Signatures", "allFit", "(LScriptDesk$Elements;II)Z"⟩, 2), (⟨"ScriptDeskModel", "next", "(I)I"⟩, 18), (⟨"ScriptDeskModel", "isDone", "()Z"⟩, 18)]
theorem lw_r1 : ∀ q ∈ lw_privs_1, lw_okq q := List.forall_mem_cons.mpr ⟨lw_p0, List.forall_mem_cons.mpr ⟨lw_p1, List.forall_mem_cons.mpr ⟨lw_p2, List.forall_mem_cons.mpr ⟨lw_p3, List.forall_mem_cons.mpr ⟨lw_p4, List.forall_mem_cons.mpr ⟨lw_p5, List.forall_mem_cons.mpr ⟨lw_p6, List.forall_mem_cons.mpr ⟨lw_p7, List.forall_mem_cons.mpr ⟨lw_p8, List.forall_mem_cons.mpr ⟨lw_p9, List.forall_mem_cons.mpr ⟨lw_p10, List.forall_mem_cons.mpr ⟨lw_p11, List.forall_mem_cons.mpr ⟨lw_p12, List.forall_mem_cons.mpr ⟨lw_p13, List.forall_mem_cons.mpr ⟨lw_p14, List.forall_mem_cons.mpr ⟨lw_p15, fun _ h => absurd h List.not_mem_nil⟩⟩⟩⟩⟩⟩⟩⟩⟩⟩⟩⟩⟩⟩⟩⟩
theorem lw_p16 : lw_okq (⟨"ScriptDeskModel", "fails", "(I)V"⟩, 18) := ⟨⟨by decide +kernel, by decide +kernel⟩, List.mem_of_getElem? (i := 526) (by decide +kernel), List.mem_of_getElem? (i := 608) (by decide +kernel), List.mem_of_getElem? (i := 609) (by decide +kernel)⟩
theorem lw_p17 : lw_okq (⟨"ScriptDeskModel", "pushes", "(IIZ)I"⟩, 18) := ⟨⟨by decide +kernel, by decide +kernel⟩, List.mem_of_getElem? (i := 526) (by decide +kernel), List.mem_of_getElem? (i := 612) (by decide +kernel), List.mem_of_getElem? (i := 613) (by decide +kernel)⟩
theorem lw_p18 : lw_okq (⟨"ScriptDeskModel", "flow", "(I)V"⟩, 18) := ⟨⟨by decide +kernel, by decide +kernel⟩, List.mem_of_getElem? (i := 526) (by decide +kernel), List.mem_of_getElem? (i := 616) (by decide +kernel), List.mem_of_getElem? (i := 617) (by decide +kernel)⟩
theorem lw_p19 : lw_okq (⟨"ScriptDeskModel", "has", "(I)Z"⟩, 18) := ⟨⟨by decide +kernel, by decide +kernel⟩, List.mem_of_getElem? (i := 526) (by decide +kernel), List.mem_of_getElem? (i := 620) (by decide +kernel), List.mem_of_getElem? (i := 621) (by decide +kernel)⟩
theorem lw_p20 : lw_okq (⟨"ScriptDeskModel", "isTrueRow", "(I)Z"⟩, 18) := ⟨⟨by decide +kernel, by decide +kernel⟩, List.mem_of_getElem? (i := 526) (by decide +kernel), List.mem_of_getElem? (i := 624) (by decide +kernel), List.mem_of_getElem? (i := 625) (by decide +kernel)⟩
theorem lw_p21 : lw_okq (⟨"ScriptDeskModel", "pushNumber", "(J)V"⟩, 18) := ⟨⟨by decide +kernel, by decide +kernel⟩, List.mem_of_getElem? (i := 526) (by decide +kernel), List.mem_of_getElem? (i := 629) (by decide +kernel), List.mem_of_getElem? (i := 630) (by decide +kernel)⟩
theorem lw_p22 : lw_okq (⟨"ScriptDeskModel", "operation", "(I)V"⟩, 18) := ⟨⟨by decide +kernel, by decide +kernel⟩, List.mem_of_getElem? (i := 526) (by decide +kernel), List.mem_of_getElem? (i := 634) (by decide +kernel), List.mem_of_getElem? (i := 635) (by decide +kernel)⟩
theorem lw_p23 : lw_okq (⟨"ScriptDeskModel", "moves", "(I)V"⟩, 18) := ⟨⟨by decide +kernel, by decide +kernel⟩, List.mem_of_getElem? (i := 526) (by decide +kernel), List.mem_of_getElem? (i := 638) (by decide +kernel), List.mem_of_getElem? (i := 639) (by decide +kernel)⟩
theorem lw_p24 : lw_okq (⟨"ScriptDeskModel", "copy", "(II)V"⟩, 18) := ⟨⟨by decide +kernel, by decide +kernel⟩, List.mem_of_getElem? (i := 526) (by decide +kernel), List.mem_of_getElem? (i := 642) (by decide +kernel), List.mem_of_getElem? (i := 643) (by decide +kernel)⟩
theorem lw_p25 : lw_okq (⟨"ScriptDeskModel", "push", "(I)V"⟩, 18) := ⟨⟨by decide +kernel, by decide +kernel⟩, List.mem_of_getElem? (i := 526) (by decide +kernel), List.mem_of_getElem? (i := 646) (by decide +kernel), List.mem_of_getElem? (i := 647) (by decide +kernel)⟩
theorem lw_p26 : lw_okq (⟨"ScriptDeskModel", "again", "(III)V"⟩, 18) := ⟨⟨by decide +kernel, by decide +kernel⟩, List.mem_of_getElem? (i := 526) (by decide +kernel), List.mem_of_getElem? (i := 650) (by decide +kernel), List.mem_of_getElem? (i := 651) (by decide +kernel)⟩
theorem lw_p27 : lw_okq (⟨"ScriptDeskModel", "turn", "(II)V"⟩, 18) := ⟨⟨by decide +kernel, by decide +kernel⟩, List.mem_of_getElem? (i := 526) (by decide +kernel), List.mem_of_getElem? (i := 654) (by decide +kernel), List.mem_of_getElem? (i := 655) (by decide +kernel)⟩
theorem lw_p28 : lw_okq (⟨"ScriptDeskModel", "top", "(I)I"⟩, 18) := ⟨⟨by decide +kernel, by decide +kernel⟩, List.mem_of_getElem? (i := 526) (by decide +kernel), List.mem_of_getElem? (i := 658) (by decide +kernel), List.mem_of_getElem? (i := 659) (by decide +kernel)⟩
theorem lw_p29 : lw_okq (⟨"ScriptDeskModel", "takeOut", "(I)V"⟩, 18) := ⟨⟨by decide +kernel, by decide +kernel⟩, List.mem_of_getElem? (i := 526) (by decide +kernel), List.mem_of_getElem? (i := 662) (by decide +kernel), List.mem_of_getElem? (i := 663) (by decide +kernel)⟩
theorem lw_p30 : lw_okq (⟨"ScriptDeskModel", "pick", "(Z)V"⟩, 18) := ⟨⟨by decide +kernel, by decide +kernel⟩, List.mem_of_getElem? (i := 526) (by decide +kernel), List.mem_of_getElem? (i := 666) (by decide +kernel), List.mem_of_getElem? (i := 667) (by decide +kernel)⟩
theorem lw_p31 : lw_okq (⟨"ScriptDeskModel", "reads", "(I)Z"⟩, 18) := ⟨⟨by decide +kernel, by decide +kernel⟩, List.mem_of_getElem? (i := 526) (by decide +kernel), List.mem_of_getElem? (i := 670) (by decide +kernel), List.mem_of_getElem? (i := 671) (by decide +kernel)⟩
def lw_privs_2 : List (MethodName × Nat) := [(⟨"ScriptDeskModel", "fails", "(I)V"⟩, 18), (⟨"ScriptDeskModel", "pushes", "(IIZ)I"⟩, 18), (⟨"ScriptDeskModel", "flow", "(I)V"⟩, 18), (⟨"ScriptDeskModel", "has", "(I)Z"⟩, 18), (⟨"ScriptDeskModel", "isTrueRow", "(I)Z"⟩, 18), (⟨"ScriptDeskModel", "pushNumber", "(J)V"⟩, 18), (⟨"ScriptDeskModel", "operation", "(I)V"⟩, 18), (⟨"ScriptDeskModel", "moves", "(I)V"⟩, 18), (⟨"ScriptDeskModel", "copy", "(II)V"⟩, 18), (⟨"ScriptDeskModel", "push", "(I)V"⟩, 18), (⟨"ScriptDeskModel", "again", "(III)V"⟩, 18), (⟨"ScriptDeskModel", "turn", "(II)V"⟩, 18), (⟨"ScriptDeskModel", "top", "(I)I"⟩, 18), (⟨"ScriptDeskModel", "takeOut", "(I)V"⟩, 18), (⟨"ScriptDeskModel", "pick", "(Z)V"⟩, 18), (⟨"ScriptDeskModel", "reads", "(I)Z"⟩, 18)]
theorem lw_r2 : ∀ q ∈ lw_privs_2, lw_okq q := List.forall_mem_cons.mpr ⟨lw_p16, List.forall_mem_cons.mpr ⟨lw_p17, List.forall_mem_cons.mpr ⟨lw_p18, List.forall_mem_cons.mpr ⟨lw_p19, List.forall_mem_cons.mpr ⟨lw_p20, List.forall_mem_cons.mpr ⟨lw_p21, List.forall_mem_cons.mpr ⟨lw_p22, List.forall_mem_cons.mpr ⟨lw_p23, List.forall_mem_cons.mpr ⟨lw_p24, List.forall_mem_cons.mpr ⟨lw_p25, List.forall_mem_cons.mpr ⟨lw_p26, List.forall_mem_cons.mpr ⟨lw_p27, List.forall_mem_cons.mpr ⟨lw_p28, List.forall_mem_cons.mpr ⟨lw_p29, List.forall_mem_cons.mpr ⟨lw_p30, List.forall_mem_cons.mpr ⟨lw_p31, fun _ h => absurd h List.not_mem_nil⟩⟩⟩⟩⟩⟩⟩⟩⟩⟩⟩⟩⟩⟩⟩⟩
theorem lw_p32 : lw_okq (⟨"ScriptDeskModel", "equal", "(Z)V"⟩, 18) := ⟨⟨by decide +kernel, by decide +kernel⟩, List.mem_of_getElem? (i := 526) (by decide +kernel), List.mem_of_getElem? (i := 674) (by decide +kernel), List.mem_of_getElem? (i := 675) (by decide +kernel)⟩
theorem lw_p33 : lw_okq (⟨"ScriptDeskModel", "isSame", "(II)Z"⟩, 18) := ⟨⟨by decide +kernel, by decide +kernel⟩, List.mem_of_getElem? (i := 526) (by decide +kernel), List.mem_of_getElem? (i := 678) (by decide +kernel), List.mem_of_getElem? (i := 679) (by decide +kernel)⟩
theorem lw_p34 : lw_okq (⟨"ScriptDeskModel", "pushTruth", "(Z)V"⟩, 18) := ⟨⟨by decide +kernel, by decide +kernel⟩, List.mem_of_getElem? (i := 526) (by decide +kernel), List.mem_of_getElem? (i := 682) (by decide +kernel), List.mem_of_getElem? (i := 683) (by decide +kernel)⟩
theorem lw_p35 : lw_okq (⟨"ScriptDeskModel", "mustBeTrue", "()V"⟩, 18) := ⟨⟨by decide +kernel, by decide +kernel⟩, List.mem_of_getElem? (i := 526) (by decide +kernel), List.mem_of_getElem? (i := 686) (by decide +kernel), List.mem_of_getElem? (i := 687) (by decide +kernel)⟩
theorem lw_p36 : lw_okq (⟨"ScriptDeskModel", "numberOfOne", "(I)V"⟩, 18) := ⟨⟨by decide +kernel, by decide +kernel⟩, List.mem_of_getElem? (i := 526) (by decide +kernel), List.mem_of_getElem? (i := 690) (by decide +kernel), List.mem_of_getElem? (i := 691) (by decide +kernel)⟩
theorem lw_p37 : lw_okq (⟨"ScriptDeskModel", "numberOfTwo", "(I)V"⟩, 18) := ⟨⟨by decide +kernel, by decide +kernel⟩, List.mem_of_getElem? (i := 526) (by decide +kernel), List.mem_of_getElem? (i := 694) (by decide +kernel), List.mem_of_getElem? (i := 695) (by decide +kernel)⟩
theorem lw_p38 : lw_okq (⟨"ScriptDeskModel", "digest", "(I)V"⟩, 18) := ⟨⟨by decide +kernel, by decide +kernel⟩, List.mem_of_getElem? (i := 526) (by decide +kernel), List.mem_of_getElem? (i := 698) (by decide +kernel), List.mem_of_getElem? (i := 699) (by decide +kernel)⟩
theorem lw_p39 : lw_okq (⟨"ScriptDeskModel", "wide", "(I)V"⟩, 18) := ⟨⟨by decide +kernel, by decide +kernel⟩, List.mem_of_getElem? (i := 526) (by decide +kernel), List.mem_of_getElem? (i := 702) (by decide +kernel), List.mem_of_getElem? (i := 703) (by decide +kernel)⟩
theorem lw_p40 : lw_okq (⟨"ScriptDeskModel", "pad", "(IZ)I"⟩, 18) := ⟨⟨by decide +kernel, by decide +kernel⟩, List.mem_of_getElem? (i := 526) (by decide +kernel), List.mem_of_getElem? (i := 706) (by decide +kernel), List.mem_of_getElem? (i := 707) (by decide +kernel)⟩
theorem lw_p41 : lw_okq (⟨"ScriptDeskModel", "small", "(I)V"⟩, 18) := ⟨⟨by decide +kernel, by decide +kernel⟩, List.mem_of_getElem? (i := 526) (by decide +kernel), List.mem_of_getElem? (i := 723) (by decide +kernel), List.mem_of_getElem? (i := 724) (by decide +kernel)⟩
theorem lw_p42 : lw_okq (⟨"ScriptDeskModel", "step", "(III)V"⟩, 18) := ⟨⟨by decide +kernel, by decide +kernel⟩, List.mem_of_getElem? (i := 526) (by decide +kernel), List.mem_of_getElem? (i := 747) (by decide +kernel), List.mem_of_getElem? (i := 748) (by decide +kernel)⟩
theorem lw_p43 : lw_okq (⟨"ScriptDeskModel", "one", "(Z)V"⟩, 18) := ⟨⟨by decide +kernel, by decide +kernel⟩, List.mem_of_getElem? (i := 526) (by decide +kernel), List.mem_of_getElem? (i := 755) (by decide +kernel), List.mem_of_getElem? (i := 756) (by decide +kernel)⟩
theorem lw_p44 : lw_okq (⟨"ScriptDeskModel", "fit", "(II)Z"⟩, 18) := ⟨⟨by decide +kernel, by decide +kernel⟩, List.mem_of_getElem? (i := 526) (by decide +kernel), List.mem_of_getElem? (i := 759) (by decide +kernel), List.mem_of_getElem? (i := 760) (by decide +kernel)⟩
theorem lw_p45 : lw_okq (⟨"ScriptDeskModel", "several", "(Z)V"⟩, 18) := ⟨⟨by decide +kernel, by decide +kernel⟩, List.mem_of_getElem? (i := 526) (by decide +kernel), List.mem_of_getElem? (i := 764) (by decide +kernel), List.mem_of_getElem? (i := 765) (by decide +kernel)⟩
def lw_privs_3 : List (MethodName × Nat) := [(⟨"ScriptDeskModel", "equal", "(Z)V"⟩, 18), (⟨"ScriptDeskModel", "isSame", "(II)Z"⟩, 18), (⟨"ScriptDeskModel", "pushTruth", "(Z)V"⟩, 18), (⟨"ScriptDeskModel", "mustBeTrue", "()V"⟩, 18), (⟨"ScriptDeskModel", "numberOfOne", "(I)V"⟩, 18), (⟨"ScriptDeskModel", "numberOfTwo", "(I)V"⟩, 18), (⟨"ScriptDeskModel", "digest", "(I)V"⟩, 18), (⟨"ScriptDeskModel", "wide", "(I)V"⟩, 18), (⟨"ScriptDeskModel", "pad", "(IZ)I"⟩, 18), (⟨"ScriptDeskModel", "small", "(I)V"⟩, 18), (⟨"ScriptDeskModel", "step", "(III)V"⟩, 18), (⟨"ScriptDeskModel", "one", "(Z)V"⟩, 18), (⟨"ScriptDeskModel", "fit", "(II)Z"⟩, 18), (⟨"ScriptDeskModel", "several", "(Z)V"⟩, 18)]
theorem lw_r3 : ∀ q ∈ lw_privs_3, lw_okq q := List.forall_mem_cons.mpr ⟨lw_p32, List.forall_mem_cons.mpr ⟨lw_p33, List.forall_mem_cons.mpr ⟨lw_p34, List.forall_mem_cons.mpr ⟨lw_p35, List.forall_mem_cons.mpr ⟨lw_p36, List.forall_mem_cons.mpr ⟨lw_p37, List.forall_mem_cons.mpr ⟨lw_p38, List.forall_mem_cons.mpr ⟨lw_p39, List.forall_mem_cons.mpr ⟨lw_p40, List.forall_mem_cons.mpr ⟨lw_p41, List.forall_mem_cons.mpr ⟨lw_p42, List.forall_mem_cons.mpr ⟨lw_p43, List.forall_mem_cons.mpr ⟨lw_p44, List.forall_mem_cons.mpr ⟨lw_p45, fun _ h => absurd h List.not_mem_nil⟩⟩⟩⟩⟩⟩⟩⟩⟩⟩⟩⟩⟩⟩
def lw_privs : List (MethodName × Nat) := lw_privs_1 ++ (lw_privs_2 ++ (lw_privs_3))
def lw_tbl : List Cond := k2_sels lw_privs ++ tables_1
theorem lw_privs_ok : ∀ q ∈ lw_privs, lw_okq q := by
  show ∀ q ∈ lw_privs_1 ++ (lw_privs_2 ++ (lw_privs_3)), lw_okq q
  exact List.forall_mem_append.mpr ⟨lw_r1, List.forall_mem_append.mpr ⟨lw_r2, lw_r3⟩⟩
end
section
/-! BASE: a system's cells are fixed once it is made; what they hold is a memory of ints (cell, place); a method is a function on memories, partial (an index out of its row, no fuel: none) -/
abbrev sd_Me : Type := (Nat → Nat → Int32) × (Nat → Int64)
/-- one row replaced -/
def sd_mrow (μ : sd_Me) (c : Nat) (f : Nat → Int32) : sd_Me := (fun k => if k = c then f else μ.1 k, μ.2)
/-- one place of one row replaced -/
def sd_st (μ : sd_Me) (c i : Nat) (v : Int32) : sd_Me := sd_mrow μ c (upd (μ.1 c) i v)
/-- a long replaced -/
def sd_lst (μ : sd_Me) (c : Nat) (v : Int64) : sd_Me := (μ.1, fun k => if k = c then v else μ.2 k)
theorem sd_mrow_s {μ : sd_Me} {c : Nat} {f : Nat → Int32} : (sd_mrow μ c f).1 c = f := if_pos rfl
theorem sd_mrow_n {μ : sd_Me} {c k : Nat} {f : Nat → Int32} (h : k ≠ c) : (sd_mrow μ c f).1 k = μ.1 k := if_neg h
def sd_let {α β : Type} (v : α) (b : α → β) : β := b v
def sd_gd {β : Type} (b : Bool) (x : Option β) : Option β := match b with
  | true => x
  | false => none
theorem sd_gd_e {β : Type} {b : Bool} {x : Option β} {r : β} (h : sd_gd b x = some r) : b = true ∧ x = some r := by
  cases b with
  | true => exact ⟨rfl, h⟩
  | false => cases h
def sd_ix (i : Int32) (n : Nat) : Bool := decide (0 ≤ i.toInt) && decide (i.toInt < n)
theorem sd_ix_in {i : Int32} {n : Nat} (h : sd_ix i n = true) : vp_in i n := by
  simp only [sd_ix, Bool.and_eq_true, decide_eq_true_eq] at h
  exact vp_in_iff.mpr h
theorem sd_t {β : Type} {c : Prop} {d : Decidable c} {a b : Option β} {r : Option β} (h : (if c then a else b) = r) (hc : c) : a = r := by
  rw [if_pos hc] at h
  exact h
theorem sd_f {β : Type} {c : Prop} {d : Decidable c} {a b : Option β} {r : Option β} (h : (if c then a else b) = r) (hc : ¬ c) : b = r := by
  rw [if_neg hc] at h
  exact h
def sd_bi {β : Type} (o : Option (Int32 × sd_Me)) (k : Int32 → sd_Me → Option β) : Option β := match o with
  | none => none
  | some z => k z.1 z.2
def sd_bl {β : Type} (o : Option (Int64 × sd_Me)) (k : Int64 → sd_Me → Option β) : Option β := match o with
  | none => none
  | some z => k z.1 z.2
def sd_bv {β : Type} (o : Option sd_Me) (k : sd_Me → Option β) : Option β := match o with
  | none => none
  | some z => k z
theorem sd_bi_e {β : Type} {o : Option (Int32 × sd_Me)} {k : Int32 → sd_Me → Option β} {r : β} (h : sd_bi o k = some r) : ∃ (x : Int32) (μ : sd_Me), o = some (x, μ) ∧ k x μ = some r := by
  cases o with
  | none => cases h
  | some z => exact ⟨z.1, z.2, rfl, h⟩
theorem sd_bl_e {β : Type} {o : Option (Int64 × sd_Me)} {k : Int64 → sd_Me → Option β} {r : β} (h : sd_bl o k = some r) : ∃ (x : Int64) (μ : sd_Me), o = some (x, μ) ∧ k x μ = some r := by
  cases o with
  | none => cases h
  | some z => exact ⟨z.1, z.2, rfl, h⟩
theorem sd_bv_e {β : Type} {o : Option sd_Me} {k : sd_Me → Option β} {r : β} (h : sd_bv o k = some r) : ∃ μ : sd_Me, o = some μ ∧ k μ = some r := by
  cases o with
  | none => cases h
  | some z => exact ⟨z, rfl, h⟩
/-- shifts as javac has them -/
def sd_usr (x y : Int32) : Int32 := (x.toUInt32 >>> (y.toUInt32 &&& Int32.toUInt32 31)).toInt32
def sd_lusr (x : Int64) (y : Int32) : Int64 := (x.toUInt64 >>> (y.toInt64.toUInt64 &&& Int64.toUInt64 63)).toInt64
def sd_lsl (x : Int64) (y : Int32) : Int64 := x <<< (y.toInt64 &&& 63)
def sd_lsr (x : Int64) (y : Int32) : Int64 := x >>> (y.toInt64 &&& 63)
def sd_cpOk (sp dp n : Int32) (n0 n1 : Nat) : Bool := decide (¬ sp < 0) && (decide (¬ dp < 0) && (decide (¬ n < 0) && (decide (sp.toNatClampNeg + n.toNatClampNeg ≤ n0) && decide (dp.toNatClampNeg + n.toNatClampNeg ≤ n1))))
theorem sd_cpOk_e {sp dp n : Int32} {n0 n1 : Nat} (h : sd_cpOk sp dp n n0 n1 = true) : ¬ sp < 0 ∧ ¬ dp < 0 ∧ ¬ n < 0 ∧ sp.toNatClampNeg + n.toNatClampNeg ≤ n0 ∧ dp.toNatClampNeg + n.toNatClampNeg ≤ n1 := by
  simp only [sd_cpOk, Bool.and_eq_true, decide_eq_true_eq] at h
  exact h
def sd_tsw (offs : Array Int) (lo hi dflt : Int) (x : Int) : Int := if x < lo ∨ hi < x then dflt else offs.getD (x - lo).toNat dflt
/-- the world as a picture of a memory; where it stands; what was written -/
def sd_CI (cl : List vw_C) (wd : sd_Me → va_W) (D : va_G) (A : Nat → Prop) (s : State) (H : Heap) (locs : List Loc) (μ : sd_Me) : Prop := va_P D cl (wd μ) H ∧ va_D A (wd μ) ∧ va_S A s.heap H locs
/-- facts of statics: they hold where nothing old was written -/
def sd_ZOK (Z : (Nat → Prop) → State → Heap → Prop) : Prop := ∀ (A B : Nat → Prop) (u U : State) (H H1 : Heap), u.vm.Alike U.vm → Z A u H → (∀ q, B q → A q) → (∀ a : Nat, a < H.size → ¬ A a → H1[a]? = H[a]?) → Z B U H1
def sd_pre (cl : List vw_C) (wd : sd_Me → va_W) (D : va_G) (tys : List (ClassId × FieldType)) (Z : (Nat → Prop) → State → Heap → Prop) (sz : Nat) (μ : sd_Me) : State → Prop := fun U => U.heap.size = sz ∧ va_P D cl (wd μ) U.heap ∧ va_K D cl tys U ∧ va_D (fun _ => True) (wd μ) ∧ Z (va_A (wd μ) sz) U U.heap
def sd_pst (cl : List vw_C) (wd : sd_Me → va_W) (D : va_G) (tys : List (ClassId × FieldType)) (A : Nat → Prop) : sd_Me → State → Prop := fun u t => va_P D cl (wd u) t.heap ∧ va_K D cl tys t ∧ va_D A (wd u)
def sd_CTi (l : Launch) (y : MethodName) (ws : List Cond) (rm : Room) (cl : List vw_C) (wd : sd_Me → va_W) (D : va_G) (tys : List (ClassId × FieldType)) (Z : (Nat → Prop) → State → Heap → Prop) (rt : FieldType) (av : List Value) (μ : sd_Me) (ru : Int32 × sd_Me) : Prop := ∀ sz : Nat, Met l y ws rm (va_Pc av (sd_pre cl wd D tys Z sz μ)) (va_Qi (fun (r : Int32) (u : sd_Me) => r = ru.1 ∧ u = ru.2 ∧ narrow rt (.int ru.1) = .int ru.1) (sd_pst cl wd D tys (va_A (wd μ) sz)) (va_A (wd μ) sz)) 0 0 (va_A (wd μ) sz)
def sd_CTl (l : Launch) (y : MethodName) (ws : List Cond) (rm : Room) (cl : List vw_C) (wd : sd_Me → va_W) (D : va_G) (tys : List (ClassId × FieldType)) (Z : (Nat → Prop) → State → Heap → Prop) (av : List Value) (μ : sd_Me) (ru : Int64 × sd_Me) : Prop := ∀ sz : Nat, Met l y ws rm (va_Pc av (sd_pre cl wd D tys Z sz μ)) (va_Ql (fun (r : Int64) (u : sd_Me) => r = ru.1 ∧ u = ru.2) (sd_pst cl wd D tys (va_A (wd μ) sz)) (va_A (wd μ) sz)) 0 0 (va_A (wd μ) sz)
def sd_CTv (l : Launch) (y : MethodName) (ws : List Cond) (rm : Room) (cl : List vw_C) (wd : sd_Me → va_W) (D : va_G) (tys : List (ClassId × FieldType)) (Z : (Nat → Prop) → State → Heap → Prop) (av : List Value) (μ : sd_Me) (ru : sd_Me) : Prop := ∀ sz : Nat, Met l y ws rm (va_Pc av (sd_pre cl wd D tys Z sz μ)) (va_Qv (fun (u : sd_Me) => u = ru) (sd_pst cl wd D tys (va_A (wd μ) sz)) (va_A (wd μ) sz)) 0 0 (va_A (wd μ) sz)
/-- what holds at every instruction of a method -/
def sd_Cx (p : Program) (s : State) (m : MethodId) (args : Array Value) (meth : Method) (c : Code) (cc : ByteArray) (own : String) (ws : List Cond) (nL : Nat) (ret : Option FieldType) (cl : List vw_C) (D : va_G) (tys : List (ClassId × FieldType)) (Z : (Nat → Prop) → State → Heap → Prop) (A : Nat → Prop) : Prop :=
  p.tables.exec = Jvm.exec ∧ c.code = cc ∧ c.maxLocals = nL ∧ s.vm.findClass own = some m.cls ∧ (∀ w ∈ ws, w.before args s = true) ∧ va_K D cl tys s ∧ Z A s s.heap ∧ (∀ q, s.heap.size ≤ q → A q) ∧ meth.sig.returnType = ret ∧ meth.locks = false
theorem sd_pre_blind {cl : List vw_C} {wd : sd_Me → va_W} {D : va_G} {tys : List (ClassId × FieldType)} {Z : (Nat → Prop) → State → Heap → Prop} (hZt : sd_ZOK Z) {av : List Value} {sz : Nat} {μ : sd_Me} : FrameBlind (va_Pc av (sd_pre cl wd D tys Z sz μ)) := by
  intro a U g mk q
  obtain ⟨q0, q1, qP, qK, qD, qZ⟩ := q
  exact ⟨q0, q1, qP, va_K.moved (u := U) (U := U.calling g mk a) (Vm.Alike.refl U.vm) qK, qD, hZt _ _ U (U.calling g mk a) U.heap U.heap (Vm.Alike.refl U.vm) qZ (fun _ h => h) (fun _ _ _ => rfl)⟩
theorem sd_free {cl : List vw_C} {wd : sd_Me → va_W} {D : va_G} {A : Nat → Prop} {s : State} {H : Heap} {locs : List Loc} {μ : sd_Me} (hA : ∀ q, s.heap.size ≤ q → A q) (hI : sd_CI cl wd D A s H locs μ) : ∀ q, va_A (wd μ) H.size q → A q := by
  intro q h
  rcases h with ⟨k, e, h⟩ | h
  · exact hI.2.1.2 k (q, e) h
  · exact hA q (Nat.le_trans hI.2.2.1 h)
theorem sd_ci_pre {cl : List vw_C} {wd : sd_Me → va_W} {D : va_G} {tys : List (ClassId × FieldType)} {Z : (Nat → Prop) → State → Heap → Prop} (hZt : sd_ZOK Z) {A : Nat → Prop} {s U : State} {H : Heap} {locs : List Loc} {μ : sd_Me} (hK : va_K D cl tys s) (hZ : Z A s s.heap) (hA : ∀ q, s.heap.size ≤ q → A q) (hI : sd_CI cl wd D A s H locs μ) (hU : U.heap = H) (hW : s.WarmedH U.vm) : sd_pre cl wd D tys Z H.size μ U := by
  refine ⟨by rw [hU], by rw [hU]; exact hI.1, va_K.moved hW.alike hK, hI.2.1.weaken (fun _ _ _ _ => trivial), ?_⟩
  exact hZt _ _ s U s.heap U.heap hW.alike hZ (sd_free hA hI) (fun a h1 h2 => by rw [hU]; exact hI.2.2.2.1 a h1 h2)
def sd_QI (below : List Frame) (cl : List vw_C) (wd : sd_Me → va_W) (D : va_G) (tys : List (ClassId × FieldType)) (rt : FieldType) (A : Nat → Prop) (args : Array Value) (s : State) (ru : Int32 × sd_Me) : State → Prop := MQ below (va_Qi (fun (r : Int32) (u : sd_Me) => r = ru.1 ∧ u = ru.2 ∧ narrow rt (.int ru.1) = .int ru.1) (sd_pst cl wd D tys A) A) args s 0 0 A
def sd_QL (below : List Frame) (cl : List vw_C) (wd : sd_Me → va_W) (D : va_G) (tys : List (ClassId × FieldType)) (A : Nat → Prop) (args : Array Value) (s : State) (ru : Int64 × sd_Me) : State → Prop := MQ below (va_Ql (fun (r : Int64) (u : sd_Me) => r = ru.1 ∧ u = ru.2) (sd_pst cl wd D tys A) A) args s 0 0 A
def sd_QV (below : List Frame) (cl : List vw_C) (wd : sd_Me → va_W) (D : va_G) (tys : List (ClassId × FieldType)) (A : Nat → Prop) (args : Array Value) (s : State) (ru : sd_Me) : State → Prop := MQ below (va_Qv (fun (u : sd_Me) => u = ru) (sd_pst cl wd D tys A) A) args s 0 0 A
theorem k_tbld {offs : Array Int} {lo hi dflt : Int} (keys : List Int32) (hk : ((List.range (hi - lo + 1).toNat).all (fun i => (offs.getD i dflt == dflt) || keys.any (fun k => k.toInt == lo + (i : Int)))) = true) {x : Int32} (hx : ∀ k ∈ keys, ¬ x = k) : sd_tsw offs lo hi dflt x.toInt = dflt := by
  unfold sd_tsw
  split
  · rfl
  · rename_i hr
    have h3 : (x.toInt - lo).toNat < (hi - lo + 1).toNat := by omega
    have h4 := List.all_eq_true.mp hk _ (List.mem_range.mpr h3)
    simp only [Bool.or_eq_true, beq_iff_eq, List.any_eq_true] at h4
    rcases h4 with h | ⟨k, hk1, hk2⟩
    · exact h
    · exact absurd (Int32.toInt_inj.mp (by omega)) (hx k hk1)
section SD
variable {p : Program} {l : Launch} {e : Env} {R : Room} {s : State} {m : MethodId} {args : Array Value} {below : List Frame} {meth : Method} {c : Code} {H : Heap} {locs : List Loc} {cells slots : Nat} {Q : State → Prop}
variable {cc : ByteArray} {pc : Nat} {ls : Array Slot} {rest : List Value} {cl : List vw_C} {wd : sd_Me → va_W} {D : va_G} {tys : List (ClassId × FieldType)} {Z : (Nat → Prop) → State → Heap → Prop} {A : Nat → Prop} {μ : sd_Me} {nL : Nat} {own : String} {Ts : List Cond} {ret : Option FieldType} {β : Type}
/-- a computed number gets a name -/
theorem k_li {v : Int32} {b : Int32 → Option β} {ru : β} (hf : sd_let v b = some ru) (k : ∀ x : Int32, b x = some ru → W p l e R s m args below meth c H locs cells slots Q (F0 m pc ls (.int x :: rest))) : W p l e R s m args below meth c H locs cells slots Q (F0 m pc ls (.int v :: rest)) := k v hf
theorem k_ll {v : Int64} {b : Int64 → Option β} {ru : β} (hf : sd_let v b = some ru) (k : ∀ x : Int64, b x = some ru → W p l e R s m args below meth c H locs cells slots Q (F0 m pc ls (.long x :: rest))) : W p l e R s m args below meth c H locs cells slots Q (F0 m pc ls (.long v :: rest)) := k v hf
/-- a memory gets a name -/
theorem k_lm {v : sd_Me} {b : sd_Me → Option β} {ru : β} (hf : sd_let v b = some ru) (hI : sd_CI cl wd D A s H locs v) : ∃ μ : sd_Me, sd_CI cl wd D A s H locs μ ∧ b μ = some ru := ⟨v, hI, hf⟩
/-- the entry -/
theorem k_enti {y : MethodName} {ws tb : List Cond} {rm : Room} {rt : FieldType} {av : List Value} {ru : Int32 × sd_Me} (maxL : Nat) (hpl : plainName y.cls = true) (hw : ws = Cond.code y cc maxL (some rt)   :: tb) (hav : (lg_sl av).length ≤ maxL)
    (body : ∀ (p : Program) (e : Env) (s : State) (m : MethodId) (below : List Frame) (meth : Method) (c : Code) (A : Nat → Prop) (ls : Array Slot), sd_Cx p s m av.toArray meth c cc y.cls tb maxL (some rt) cl D tys Z A → sd_CI cl wd D A s s.heap [] μ → lv_has ls maxL (lv_args 0 av) →
      W p l e rm s m av.toArray below meth c s.heap [] 0 0 (sd_QI below cl wd D tys rt A av.toArray s ru) (F0 m 0 ls [])) : sd_CTi l y ws rm cl wd D tys Z rt av μ ru := by
  intro sz
  refine Met.ofW (cc := cc) (maxL := maxL) (ret := some rt) hpl hw ?_
  intro p e s m args below meth c s₁ B hml hv
  obtain ⟨rfl, hsz, hP, hK, hD0, hZ⟩ := hv
  subst hsz
  have hts : ∀ w ∈ tb, w.before av.toArray s = true := fun w h => atoms_spec (ws := ws) B.pre w (by rw [hw]; exact List.mem_cons_of_mem _ h)
  rw [lg_entry_eq]
  exact body p e s m below meth c _ _ ⟨B.exec, B.bytes, hml, findClass_of_methodNamed B.named, hts, hK, hZ, fun q h => Or.inr h, B.returns, B.notSynchronized⟩ ⟨hP, hD0.self, va_S.rf⟩ (lv_entry av hav)
theorem k_entl {y : MethodName} {ws tb : List Cond} {rm : Room} {av : List Value} {ru : Int64 × sd_Me} (maxL : Nat) (hpl : plainName y.cls = true) (hw : ws = Cond.code y cc maxL (some .long)   :: tb) (hav : (lg_sl av).length ≤ maxL)
    (body : ∀ (p : Program) (e : Env) (s : State) (m : MethodId) (below : List Frame) (meth : Method) (c : Code) (A : Nat → Prop) (ls : Array Slot), sd_Cx p s m av.toArray meth c cc y.cls tb maxL (some .long) cl D tys Z A → sd_CI cl wd D A s s.heap [] μ → lv_has ls maxL (lv_args 0 av) →
      W p l e rm s m av.toArray below meth c s.heap [] 0 0 (sd_QL below cl wd D tys A av.toArray s ru) (F0 m 0 ls [])) : sd_CTl l y ws rm cl wd D tys Z av μ ru := by
  intro sz
  refine Met.ofW (cc := cc) (maxL := maxL) (ret := some .long) hpl hw ?_
  intro p e s m args below meth c s₁ B hml hv
  obtain ⟨rfl, hsz, hP, hK, hD0, hZ⟩ := hv
  subst hsz
  have hts : ∀ w ∈ tb, w.before av.toArray s = true := fun w h => atoms_spec (ws := ws) B.pre w (by rw [hw]; exact List.mem_cons_of_mem _ h)
  rw [lg_entry_eq]
  exact body p e s m below meth c _ _ ⟨B.exec, B.bytes, hml, findClass_of_methodNamed B.named, hts, hK, hZ, fun q h => Or.inr h, B.returns, B.notSynchronized⟩ ⟨hP, hD0.self, va_S.rf⟩ (lv_entry av hav)
theorem k_entv {y : MethodName} {ws tb : List Cond} {rm : Room} {av : List Value} {ru : sd_Me} (maxL : Nat) (hpl : plainName y.cls = true) (hw : ws = Cond.code y cc maxL none   :: tb) (hav : (lg_sl av).length ≤ maxL)
    (body : ∀ (p : Program) (e : Env) (s : State) (m : MethodId) (below : List Frame) (meth : Method) (c : Code) (A : Nat → Prop) (ls : Array Slot), sd_Cx p s m av.toArray meth c cc y.cls tb maxL none cl D tys Z A → sd_CI cl wd D A s s.heap [] μ → lv_has ls maxL (lv_args 0 av) →
      W p l e rm s m av.toArray below meth c s.heap [] 0 0 (sd_QV below cl wd D tys A av.toArray s ru) (F0 m 0 ls [])) : sd_CTv l y ws rm cl wd D tys Z av μ ru := by
  intro sz
  refine Met.ofW (cc := cc) (maxL := maxL) (ret := none) hpl hw ?_
  intro p e s m args below meth c s₁ B hml hv
  obtain ⟨rfl, hsz, hP, hK, hD0, hZ⟩ := hv
  subst hsz
  have hts : ∀ w ∈ tb, w.before av.toArray s = true := fun w h => atoms_spec (ws := ws) B.pre w (by rw [hw]; exact List.mem_cons_of_mem _ h)
  rw [lg_entry_eq]
  exact body p e s m below meth c _ _ ⟨B.exec, B.bytes, hml, findClass_of_methodNamed B.named, hts, hK, hZ, fun q h => Or.inr h, B.returns, B.notSynchronized⟩ ⟨hP, hD0.self, va_S.rf⟩ (lv_entry av hav)
/-- the ends -/
theorem k_reti {rt : FieldType} {v : Int32} {ru : Int32 × sd_Me} (X : sd_Cx p s m args meth c cc own Ts nL (some rt) cl D tys Z A) (hI : sd_CI cl wd D A s H locs μ) (hn : narrow rt (.int v) = .int v) (hf : some (v, μ) = some ru) (hdg : decode cc pc = .ok (.ireturn, 1)) :
    W p l e R s m args below meth c H locs 0 0 (sd_QI below cl wd D tys rt A args s ru) (F0 m pc ls [.int v]) := by
  cases hf
  obtain ⟨hx, hb, hml, hown, hts, hK, hZ, hA, hr, hlocks⟩ := X
  exact W.zret (v := v) (hlocks := hlocks) hx hb hr hn (fun t ht hW => ⟨⟨v, μ, rfl, ⟨rfl, rfl, hn⟩, by rw [ht]; exact hI.1, va_K.moved hW.alike hK, hI.2.1⟩, hI.2.2.F ht⟩) hI.2.2.2.2 hdg
theorem k_retl {v : Int64} {ru : Int64 × sd_Me} (X : sd_Cx p s m args meth c cc own Ts nL (some .long) cl D tys Z A) (hI : sd_CI cl wd D A s H locs μ) (hf : some (v, μ) = some ru) (hdg : decode cc pc = .ok (.lreturn, 1)) :
    W p l e R s m args below meth c H locs 0 0 (sd_QL below cl wd D tys A args s ru) (F0 m pc ls [.long v]) := by
  cases hf
  obtain ⟨hx, hb, hml, hown, hts, hK, hZ, hA, hr, hlocks⟩ := X
  exact W.lret (v := v) (hlocks := hlocks) hx hb hr (fun t ht hW => ⟨⟨v, μ, rfl, ⟨rfl, rfl⟩, by rw [ht]; exact hI.1, va_K.moved hW.alike hK, hI.2.1⟩, hI.2.2.F ht⟩) hI.2.2.2.2 hdg
theorem k_retv {ru : sd_Me} (X : sd_Cx p s m args meth c cc own Ts nL none cl D tys Z A) (hI : sd_CI cl wd D A s H locs μ) (hf : some μ = some ru) (hdg : decode cc pc = .ok (.return_, 1)) :
    W p l e R s m args below meth c H locs 0 0 (sd_QV below cl wd D tys A args s ru) (F0 m pc ls []) := by
  cases hf
  obtain ⟨hx, hb, hml, hown, hts, hK, hZ, hA, hr, hlocks⟩ := X
  exact W.vret (hlocks := hlocks) hx hb hr (fun t ht hW => ⟨⟨μ, rfl, rfl, by rw [ht]; exact hI.1, va_K.moved hW.alike hK, hI.2.1⟩, hI.2.2.F ht⟩) hI.2.2.2.2 hdg
/-- a field is written -/
theorem k_put {ref C : String} {T : u_T} {N ci index : Nat} {a : Nat} (hexec : p.tables.exec = Jvm.exec) (hb : c.code = cc) (hts : ∀ w ∈ Ts, w.before args s = true) (hin : ∀ w ∈ u_ws C T N, w ∈ Ts) (ty0 : Nat → FieldType) (hty : ∀ k, k < N → parseFieldDescriptor (T k).2.2.1 = some (ty0 k)) (hnm : ∀ a, a < N → ∀ b, b < N → a ≠ b → (T a).2.1 ≠ (T b).2.1) (hown : s.vm.findClass own = some m.cls) (hK : va_K D cl tys s) (hI : sd_CI cl wd D A s H locs μ) (q0 : Nat) {fs : List Value} (he : (wd μ)[q0]? = some (a, .inr (ci, fs))) (hc : cl[ci]? = some (C, T, N)) (k : Nat) (hk : k < N) (hlink : (Cond.fieldLink own index ref (T k).2.1 (T k).2.2.1).before args s = true) (hsame : ∀ x, s.fieldFound? (T k).1 (T k).2.1 (T k).2.2.1 = some x → s.fieldFound? ref (T k).2.1 (T k).2.2.1 = some x) (hfin : (T k).2.2.2 = false) {ty : FieldType} {v : Value} (hd : parseFieldDescriptor (T k).2.2.1 = some ty) (hn : narrow ty v = v) (hfit : fits ty v = true) (hl : k < fs.length) {μ' : sd_Me} (hset : (wd μ).set q0 (a, .inr (ci, fs.set k v)) = wd μ')
    (hdg : decode cc pc = .ok (.putfield index, 3)) (kk : ∀ (H1 : Heap) (locs1 : List Loc), sd_CI cl wd D A s H1 locs1 μ' → W p l e R s m args below meth c H1 locs1 cells slots Q (F0 m (pc + 3) ls rest)) : W p l e R s m args below meth c H locs cells slots Q (F0 m pc ls (v :: .ref a :: rest)) :=
  va_put hexec hb hts hin ty0 hty hnm hown hK hI.1 hI.2.1 hI.2.2 q0 he hc k hk hlink hsame hfin hd hn hfit hl hdg (fun H1 locs1 hP hD hS => kk H1 locs1 ⟨hset ▸ hP, hset ▸ hD, hS⟩)
/-- rows of ints -/
theorem k_iald {a : Nat} (hexec : p.tables.exec = Jvm.exec) (hb : c.code = cc) (hK : va_K D cl tys s) (hI : sd_CI cl wd D A s H locs μ) (q0 t0 : Nat) {cA : ClassId} {n : Nat} {f : Nat → Int32} (ha : (wd μ)[q0]? = some (a, .inl (cA, n, .inl f))) (ht : tys[t0]? = some (cA, .int)) {i : Int32} (hin : sd_ix i n = true) (hdg : decode cc pc = .ok (.iaload, 1))
    (kk : W p l e R s m args below meth c H locs cells slots Q (F0 m (pc + 1) ls (.int (f i.toNatClampNeg) :: rest))) : W p l e R s m args below meth c H locs cells slots Q (F0 m pc ls (.int i :: .ref a :: rest)) := va_iald hexec hb hK hI.1 q0 t0 ha ht (sd_ix_in hin) hdg kk
theorem k_iast {a : Nat} (hexec : p.tables.exec = Jvm.exec) (hb : c.code = cc) (hK : va_K D cl tys s) (hI : sd_CI cl wd D A s H locs μ) (q0 t0 : Nat) {cA : ClassId} {n : Nat} {f : Nat → Int32} (ha : (wd μ)[q0]? = some (a, .inl (cA, n, .inl f))) (ht : tys[t0]? = some (cA, .int)) {i x : Int32} {μ' : sd_Me} (hset : (wd μ).set q0 (a, .inl (cA, n, .inl (upd f i.toNatClampNeg x))) = wd μ') (hin : sd_ix i n = true) (hdg : decode cc pc = .ok (.iastore, 1))
    (kk : ∀ (H1 : Heap) (locs1 : List Loc), sd_CI cl wd D A s H1 locs1 μ' → W p l e R s m args below meth c H1 locs1 cells slots Q (F0 m (pc + 1) ls rest)) : W p l e R s m args below meth c H locs cells slots Q (F0 m pc ls (.int x :: .int i :: .ref a :: rest)) :=
  va_iast hexec hb hK hI.1 hI.2.1 hI.2.2 q0 t0 ha ht (sd_ix_in hin) hdg (fun H1 locs1 hP hD hS => kk H1 locs1 ⟨hset ▸ hP, hset ▸ hD, hS⟩)
/-- calls within a system -/
theorem k_callV {y : MethodName} {bytes : ByteArray} {maxL n index : Nat} {ws : List Cond} {rm : Room} {rt : FieldType} {C : String} {b : Addr} {As st0 : List Value} {ru : Int32 × sd_Me} {T : u_T} {N ci : Nat} {fs : List Value} (hZt : sd_ZOK Z) (X : sd_Cx p s m args meth c cc own Ts nL ret cl D tys Z A) (hI : sd_CI cl wd D A s H locs μ) (hC : sd_CTi l y ws rm cl wd D tys Z rt (.ref b :: As) μ ru) (cw : CallW R s args own C index y bytes maxL (some rt) ws rm 0 0 n) (q0 : Nat) (hc : cl[ci]? = some (C, T, N)) (he : (wd μ)[q0]? = some (b, .inr (ci, fs)))
    (hn : As.length = n) (hl : ls.size = nL) (hst : st0 = As.reverse ++ .ref b :: rest) (hW : (rest.map fun v => v.category).sum ≤ 8) (hdg : decode cc pc = .ok (.invokevirtual index, 3)) (hfit : cells ≤ R.cells ∧ slots ≤ R.slots)
    (kk : ∀ (H1 : Heap) (locs1 : List Loc), narrow rt (.int ru.1) = .int ru.1 → sd_CI cl wd D A s H1 locs1 ru.2 → W p l e R s m args below meth c H1 locs1 cells slots Q (F0 m (pc + 3) ls (.int ru.1 :: rest))) : W p l e R s m args below meth c H locs cells slots Q (F0 m pc ls st0) := by
  obtain ⟨hx, hb, hml, hown, hts, hK, hZ, hA, hr, hlocks⟩ := X
  have hFc := sd_free hA hI
  refine va_calli (A1 := va_A (wd μ) H.size) (va_runV (As := As) (rest := rest) ⟨hx, hb, hml, hown, hts⟩ (hC H.size) cw ⟨sd_pre_blind hZt, va_recv hK hI.1 hc he, fun U hU hW2 => ⟨rfl, sd_ci_pre hZt hK hZ hA hI hU hW2⟩⟩ rfl hn hl hst (lv_room hW) hdg hfit) hI.2.2 (fun q _ h => hFc q h) hFc (fun r1 u t H1 locs1 ht hvm hw hB hz1 hk1 hS1 => ?_)
  obtain ⟨rfl, rfl, hna⟩ := hw
  obtain ⟨hP1, hK1, hD1⟩ := hB
  rw [ht] at hP1
  exact kk H1 locs1 hna ⟨hP1, hD1.weaken (fun k q _ h => hFc q.1 h), hS1⟩
theorem k_callVl {y : MethodName} {bytes : ByteArray} {maxL n index : Nat} {ws : List Cond} {rm : Room} {C : String} {b : Addr} {As st0 : List Value} {ru : Int64 × sd_Me} {T : u_T} {N ci : Nat} {fs : List Value} (hZt : sd_ZOK Z) (X : sd_Cx p s m args meth c cc own Ts nL ret cl D tys Z A) (hI : sd_CI cl wd D A s H locs μ) (hC : sd_CTl l y ws rm cl wd D tys Z (.ref b :: As) μ ru) (cw : CallW R s args own C index y bytes maxL (some .long) ws rm 0 0 n) (q0 : Nat) (hc : cl[ci]? = some (C, T, N)) (he : (wd μ)[q0]? = some (b, .inr (ci, fs)))
    (hn : As.length = n) (hl : ls.size = nL) (hst : st0 = As.reverse ++ .ref b :: rest) (hW : (rest.map fun v => v.category).sum ≤ 8) (hdg : decode cc pc = .ok (.invokevirtual index, 3)) (hfit : cells ≤ R.cells ∧ slots ≤ R.slots)
    (kk : ∀ (H1 : Heap) (locs1 : List Loc), sd_CI cl wd D A s H1 locs1 ru.2 → W p l e R s m args below meth c H1 locs1 cells slots Q (F0 m (pc + 3) ls (.long ru.1 :: rest))) : W p l e R s m args below meth c H locs cells slots Q (F0 m pc ls st0) := by
  obtain ⟨hx, hb, hml, hown, hts, hK, hZ, hA, hr, hlocks⟩ := X
  have hFc := sd_free hA hI
  refine va_calll (A1 := va_A (wd μ) H.size) (va_runV (As := As) (rest := rest) ⟨hx, hb, hml, hown, hts⟩ (hC H.size) cw ⟨sd_pre_blind hZt, va_recv hK hI.1 hc he, fun U hU hW2 => ⟨rfl, sd_ci_pre hZt hK hZ hA hI hU hW2⟩⟩ rfl hn hl hst (lv_room hW) hdg hfit) hI.2.2 (fun q _ h => hFc q h) hFc (fun r1 u t H1 locs1 ht hvm hw hB hz1 hk1 hS1 => ?_)
  obtain ⟨rfl, rfl⟩ := hw
  obtain ⟨hP1, hK1, hD1⟩ := hB
  rw [ht] at hP1
  exact kk H1 locs1 ⟨hP1, hD1.weaken (fun k q _ h => hFc q.1 h), hS1⟩
theorem k_callVv {y : MethodName} {bytes : ByteArray} {maxL n index : Nat} {ws : List Cond} {rm : Room} {C : String} {b : Addr} {As st0 : List Value} {ru : sd_Me} {T : u_T} {N ci : Nat} {fs : List Value} (hZt : sd_ZOK Z) (X : sd_Cx p s m args meth c cc own Ts nL ret cl D tys Z A) (hI : sd_CI cl wd D A s H locs μ) (hC : sd_CTv l y ws rm cl wd D tys Z (.ref b :: As) μ ru) (cw : CallW R s args own C index y bytes maxL none ws rm 0 0 n) (q0 : Nat) (hc : cl[ci]? = some (C, T, N)) (he : (wd μ)[q0]? = some (b, .inr (ci, fs)))
    (hn : As.length = n) (hl : ls.size = nL) (hst : st0 = As.reverse ++ .ref b :: rest) (hW : (rest.map fun v => v.category).sum ≤ 8) (hdg : decode cc pc = .ok (.invokevirtual index, 3)) (hfit : cells ≤ R.cells ∧ slots ≤ R.slots)
    (kk : ∀ (H1 : Heap) (locs1 : List Loc), sd_CI cl wd D A s H1 locs1 ru → W p l e R s m args below meth c H1 locs1 cells slots Q (F0 m (pc + 3) ls rest)) : W p l e R s m args below meth c H locs cells slots Q (F0 m pc ls st0) := by
  obtain ⟨hx, hb, hml, hown, hts, hK, hZ, hA, hr, hlocks⟩ := X
  have hFc := sd_free hA hI
  refine va_callv (A1 := va_A (wd μ) H.size) (va_runV (As := As) (rest := rest) ⟨hx, hb, hml, hown, hts⟩ (hC H.size) cw ⟨sd_pre_blind hZt, va_recv hK hI.1 hc he, fun U hU hW2 => ⟨rfl, sd_ci_pre hZt hK hZ hA hI hU hW2⟩⟩ rfl hn hl hst (lv_room hW) hdg hfit) hI.2.2 (fun q _ h => hFc q h) hFc (fun u t H1 locs1 ht hvm hw hB hz1 hk1 hS1 => ?_)
  subst hw
  obtain ⟨hP1, hK1, hD1⟩ := hB
  rw [ht] at hP1
  exact kk H1 locs1 ⟨hP1, hD1.weaken (fun k q _ h => hFc q.1 h), hS1⟩
theorem k_callS {y : MethodName} {bytes : ByteArray} {maxL n index : Nat} {ws : List Cond} {rm : Room} {rt : FieldType} {As st0 : List Value} {ru : Int32 × sd_Me} (hZt : sd_ZOK Z) (X : sd_Cx p s m args meth c cc own Ts nL ret cl D tys Z A) (hI : sd_CI cl wd D A s H locs μ) (hC : sd_CTi l y ws rm cl wd D tys Z rt As μ ru) (cw : CallB R s args own index y bytes maxL (some rt) ws rm 0 0 n ∧ (Cond.static y).before args s = true)
    (hn : As.length = n) (hl : ls.size = nL) (hst : st0 = As.reverse ++ rest) (hW : (rest.map fun v => v.category).sum ≤ 8) (hdg : decode cc pc = .ok (.invokestatic index, 3)) (hfit : cells ≤ R.cells ∧ slots ≤ R.slots)
    (kk : ∀ (H1 : Heap) (locs1 : List Loc), narrow rt (.int ru.1) = .int ru.1 → sd_CI cl wd D A s H1 locs1 ru.2 → W p l e R s m args below meth c H1 locs1 cells slots Q (F0 m (pc + 3) ls (.int ru.1 :: rest))) : W p l e R s m args below meth c H locs cells slots Q (F0 m pc ls st0) := by
  obtain ⟨hx, hb, hml, hown, hts, hK, hZ, hA, hr, hlocks⟩ := X
  have hFc := sd_free hA hI
  refine va_calli (A1 := va_A (wd μ) H.size) (va_runS (As := As) (rest := rest) ⟨hx, hb, hml, hown, hts⟩ (hC H.size) cw ⟨sd_pre_blind hZt, fun U hU hW2 => ⟨rfl, sd_ci_pre hZt hK hZ hA hI hU hW2⟩⟩ rfl hn hl hst (lv_room hW) hdg hfit) hI.2.2 (fun q _ h => hFc q h) hFc (fun r1 u t H1 locs1 ht hvm hw hB hz1 hk1 hS1 => ?_)
  obtain ⟨rfl, rfl, hna⟩ := hw
  obtain ⟨hP1, hK1, hD1⟩ := hB
  rw [ht] at hP1
  exact kk H1 locs1 hna ⟨hP1, hD1.weaken (fun k q _ h => hFc q.1 h), hS1⟩
theorem k_callSl {y : MethodName} {bytes : ByteArray} {maxL n index : Nat} {ws : List Cond} {rm : Room} {As st0 : List Value} {ru : Int64 × sd_Me} (hZt : sd_ZOK Z) (X : sd_Cx p s m args meth c cc own Ts nL ret cl D tys Z A) (hI : sd_CI cl wd D A s H locs μ) (hC : sd_CTl l y ws rm cl wd D tys Z As μ ru) (cw : CallB R s args own index y bytes maxL (some .long) ws rm 0 0 n ∧ (Cond.static y).before args s = true)
    (hn : As.length = n) (hl : ls.size = nL) (hst : st0 = As.reverse ++ rest) (hW : (rest.map fun v => v.category).sum ≤ 8) (hdg : decode cc pc = .ok (.invokestatic index, 3)) (hfit : cells ≤ R.cells ∧ slots ≤ R.slots)
    (kk : ∀ (H1 : Heap) (locs1 : List Loc), sd_CI cl wd D A s H1 locs1 ru.2 → W p l e R s m args below meth c H1 locs1 cells slots Q (F0 m (pc + 3) ls (.long ru.1 :: rest))) : W p l e R s m args below meth c H locs cells slots Q (F0 m pc ls st0) := by
  obtain ⟨hx, hb, hml, hown, hts, hK, hZ, hA, hr, hlocks⟩ := X
  have hFc := sd_free hA hI
  refine va_calll (A1 := va_A (wd μ) H.size) (va_runS (As := As) (rest := rest) ⟨hx, hb, hml, hown, hts⟩ (hC H.size) cw ⟨sd_pre_blind hZt, fun U hU hW2 => ⟨rfl, sd_ci_pre hZt hK hZ hA hI hU hW2⟩⟩ rfl hn hl hst (lv_room hW) hdg hfit) hI.2.2 (fun q _ h => hFc q h) hFc (fun r1 u t H1 locs1 ht hvm hw hB hz1 hk1 hS1 => ?_)
  obtain ⟨rfl, rfl⟩ := hw
  obtain ⟨hP1, hK1, hD1⟩ := hB
  rw [ht] at hP1
  exact kk H1 locs1 ⟨hP1, hD1.weaken (fun k q _ h => hFc q.1 h), hS1⟩
theorem k_callSv {y : MethodName} {bytes : ByteArray} {maxL n index : Nat} {ws : List Cond} {rm : Room} {As st0 : List Value} {ru : sd_Me} (hZt : sd_ZOK Z) (X : sd_Cx p s m args meth c cc own Ts nL ret cl D tys Z A) (hI : sd_CI cl wd D A s H locs μ) (hC : sd_CTv l y ws rm cl wd D tys Z As μ ru) (cw : CallB R s args own index y bytes maxL none ws rm 0 0 n ∧ (Cond.static y).before args s = true)
    (hn : As.length = n) (hl : ls.size = nL) (hst : st0 = As.reverse ++ rest) (hW : (rest.map fun v => v.category).sum ≤ 8) (hdg : decode cc pc = .ok (.invokestatic index, 3)) (hfit : cells ≤ R.cells ∧ slots ≤ R.slots)
    (kk : ∀ (H1 : Heap) (locs1 : List Loc), sd_CI cl wd D A s H1 locs1 ru → W p l e R s m args below meth c H1 locs1 cells slots Q (F0 m (pc + 3) ls rest)) : W p l e R s m args below meth c H locs cells slots Q (F0 m pc ls st0) := by
  obtain ⟨hx, hb, hml, hown, hts, hK, hZ, hA, hr, hlocks⟩ := X
  have hFc := sd_free hA hI
  refine va_callv (A1 := va_A (wd μ) H.size) (va_runS (As := As) (rest := rest) ⟨hx, hb, hml, hown, hts⟩ (hC H.size) cw ⟨sd_pre_blind hZt, fun U hU hW2 => ⟨rfl, sd_ci_pre hZt hK hZ hA hI hU hW2⟩⟩ rfl hn hl hst (lv_room hW) hdg hfit) hI.2.2 (fun q _ h => hFc q h) hFc (fun u t H1 locs1 ht hvm hw hB hz1 hk1 hS1 => ?_)
  subst hw
  obtain ⟨hP1, hK1, hD1⟩ := hB
  rw [ht] at hP1
  exact kk H1 locs1 ⟨hP1, hD1.weaken (fun k q _ h => hFc q.1 h), hS1⟩
theorem k_tbl {dflt lo hi : Int} {offs : Array Int} {len : Nat} {x : Int32} {off : Int} {tgt : Nat} (hexec : p.tables.exec = Jvm.exec) (hb : c.code = cc) (hdg : decode cc pc = .ok (.tableswitch dflt lo hi offs, len)) (hsz : offs.size = (hi - lo + 1).toNat) (h : sd_tsw offs lo hi dflt x.toInt = off) (ht : (pc : Int) + off = (tgt : Int))
    (k : W p l e R s m args below meth c H locs cells slots Q (F0 m tgt ls rest)) : W p l e R s m args below meth c H locs cells slots Q (F0 m pc ls (.int x :: rest)) := by
  by_cases hr : x.toInt < lo ∨ hi < x.toInt
  · rw [sd_tsw, if_pos hr] at h
    exact lv_tableOut hexec hb hdg hr (by rw [h]; exact ht) k
  · rw [sd_tsw, if_neg hr] at h
    have h3 : (x.toInt - lo).toNat < offs.size := by omega
    refine lv_tableIn (off := off) hexec hb hdg (fun z => hr (Or.inl z)) (fun z => hr (Or.inr z)) ?_ ht k
    rw [Array.getD_eq_getD_getElem?, Array.getElem?_eq_getElem h3] at h
    rw [Array.getElem?_eq_getElem h3]
    exact congrArg some h
theorem k_copy {index : Nat} {a a0 : Nat} (hexec : p.tables.exec = Jvm.exec) (hb : c.code = cc) (hml : c.maxLocals = ls.size) (hown : s.vm.findClass own = some m.cls) (hlink : (Cond.methodLink own index arraycopyName).before args s = true) (hnat : (Cond.native arraycopyName).before args s = true) (hstat : (Cond.static arraycopyName).before args s = true) (hini : (Cond.initialized "java/lang/System").before args s = true)
    (hK : va_K D cl tys s) (hI : sd_CI cl wd D A s H locs μ) (q0 q1 t0 t1 : Nat) {c0 c1 : ClassId} {n0 n1 : Nat} {f g : Nat → Int32} (ha0 : (wd μ)[q0]? = some (a0, .inl (c0, n0, .inl f))) (ha1 : (wd μ)[q1]? = some (a, .inl (c1, n1, .inl g))) (ht0 : tys[t0]? = some (c0, .int)) (ht1 : tys[t1]? = some (c1, .int))
    {sp dp n : Int32} {μ' : sd_Me} (hset : (wd μ).set q1 (a, .inl (c1, n1, .inl (va_cpy f g sp.toNatClampNeg dp.toNatClampNeg n.toNatClampNeg))) = wd μ') (hg : sd_cpOk sp dp n n0 n1 = true)
    (hframes : 1 ≤ R.frames) (hlocals : (rest.map fun v => v.category).sum + (nativeFrameWords "java/lang/System" "arraycopy" 5 + 11) ≤ R.locals) (hdg : decode cc pc = .ok (.invokestatic index, 3))
    (kk : ∀ (H1 : Heap) (locs1 : List Loc), sd_CI cl wd D A s H1 locs1 μ' → W p l e R s m args below meth c H1 locs1 cells slots Q (F0 m (pc + 3) ls rest)) : W p l e R s m args below meth c H locs cells slots Q (F0 m pc ls (.int n :: .int dp :: .ref a :: .int sp :: .ref a0 :: rest)) := by
  obtain ⟨h1, h2, h3, h4, h5⟩ := sd_cpOk_e hg
  exact va_copyi hexec hb hml hown hlink hnat hstat hini hK hI.1 hI.2.1 hI.2.2 q0 q1 t0 t1 ha0 ha1 ht0 ht1 rfl h1 h2 h3 h4 h5 (fun _ _ => rfl) hframes hlocals hdg (fun H1 locs1 hP hD hS => kk H1 locs1 ⟨hset ▸ hP, hset ▸ hD, hS⟩)
theorem k_callU {x y : MethodName} {bytes : ByteArray} {maxL n index : Nat} {ws : List Cond} {rm : Room} {rt : FieldType} {C owner : String} {b : Addr} {As st0 : List Value} {ru : Int32 × sd_Me} {T : u_T} {N ci : Nat} {fs : List Value} (hZt : sd_ZOK Z) (X : sd_Cx p s m args meth c cc own Ts nL ret cl D tys Z A) (hI : sd_CI cl wd D A s H locs μ) (hC : sd_CTi l y ws rm cl wd D tys Z rt (.ref b :: As) μ ru) (cw : va_CU R s args own C owner index x y bytes maxL (some rt) ws rm 0 0 n) (q0 : Nat) (hc : cl[ci]? = some (C, T, N)) (he : (wd μ)[q0]? = some (b, .inr (ci, fs)))
    (hn : As.length = n) (hl : ls.size = nL) (hst : st0 = As.reverse ++ .ref b :: rest) (hW : (rest.map fun v => v.category).sum ≤ 8) (hdg : decode cc pc = .ok (.invokevirtual index, 3)) (hfit : cells ≤ R.cells ∧ slots ≤ R.slots)
    (kk : ∀ (H1 : Heap) (locs1 : List Loc), narrow rt (.int ru.1) = .int ru.1 → sd_CI cl wd D A s H1 locs1 ru.2 → W p l e R s m args below meth c H1 locs1 cells slots Q (F0 m (pc + 3) ls (.int ru.1 :: rest))) : W p l e R s m args below meth c H locs cells slots Q (F0 m pc ls st0) := by
  obtain ⟨hx, hb, hml, hown, hts, hK, hZ, hA, hr, hlocks⟩ := X
  have hFc := sd_free hA hI
  refine va_calli (A1 := va_A (wd μ) H.size) (va_runU (As := As) (rest := rest) ⟨hx, hb, hml, hown, hts⟩ (hC H.size) cw ⟨sd_pre_blind hZt, va_recv hK hI.1 hc he, fun U hU hW2 => ⟨rfl, sd_ci_pre hZt hK hZ hA hI hU hW2⟩⟩ rfl hn hl hst (lv_room hW) hdg hfit) hI.2.2 (fun q _ h => hFc q h) hFc (fun r1 u t H1 locs1 ht hvm hw hB hz1 hk1 hS1 => ?_)
  obtain ⟨rfl, rfl, hna⟩ := hw
  obtain ⟨hP1, hK1, hD1⟩ := hB
  rw [ht] at hP1
  exact kk H1 locs1 hna ⟨hP1, hD1.weaken (fun k q _ h => hFc q.1 h), hS1⟩
theorem k_callUl {x y : MethodName} {bytes : ByteArray} {maxL n index : Nat} {ws : List Cond} {rm : Room} {C owner : String} {b : Addr} {As st0 : List Value} {ru : Int64 × sd_Me} {T : u_T} {N ci : Nat} {fs : List Value} (hZt : sd_ZOK Z) (X : sd_Cx p s m args meth c cc own Ts nL ret cl D tys Z A) (hI : sd_CI cl wd D A s H locs μ) (hC : sd_CTl l y ws rm cl wd D tys Z (.ref b :: As) μ ru) (cw : va_CU R s args own C owner index x y bytes maxL (some .long) ws rm 0 0 n) (q0 : Nat) (hc : cl[ci]? = some (C, T, N)) (he : (wd μ)[q0]? = some (b, .inr (ci, fs)))
    (hn : As.length = n) (hl : ls.size = nL) (hst : st0 = As.reverse ++ .ref b :: rest) (hW : (rest.map fun v => v.category).sum ≤ 8) (hdg : decode cc pc = .ok (.invokevirtual index, 3)) (hfit : cells ≤ R.cells ∧ slots ≤ R.slots)
    (kk : ∀ (H1 : Heap) (locs1 : List Loc), sd_CI cl wd D A s H1 locs1 ru.2 → W p l e R s m args below meth c H1 locs1 cells slots Q (F0 m (pc + 3) ls (.long ru.1 :: rest))) : W p l e R s m args below meth c H locs cells slots Q (F0 m pc ls st0) := by
  obtain ⟨hx, hb, hml, hown, hts, hK, hZ, hA, hr, hlocks⟩ := X
  have hFc := sd_free hA hI
  refine va_calll (A1 := va_A (wd μ) H.size) (va_runU (As := As) (rest := rest) ⟨hx, hb, hml, hown, hts⟩ (hC H.size) cw ⟨sd_pre_blind hZt, va_recv hK hI.1 hc he, fun U hU hW2 => ⟨rfl, sd_ci_pre hZt hK hZ hA hI hU hW2⟩⟩ rfl hn hl hst (lv_room hW) hdg hfit) hI.2.2 (fun q _ h => hFc q h) hFc (fun r1 u t H1 locs1 ht hvm hw hB hz1 hk1 hS1 => ?_)
  obtain ⟨rfl, rfl⟩ := hw
  obtain ⟨hP1, hK1, hD1⟩ := hB
  rw [ht] at hP1
  exact kk H1 locs1 ⟨hP1, hD1.weaken (fun k q _ h => hFc q.1 h), hS1⟩
theorem k_callUv {x y : MethodName} {bytes : ByteArray} {maxL n index : Nat} {ws : List Cond} {rm : Room} {C owner : String} {b : Addr} {As st0 : List Value} {ru : sd_Me} {T : u_T} {N ci : Nat} {fs : List Value} (hZt : sd_ZOK Z) (X : sd_Cx p s m args meth c cc own Ts nL ret cl D tys Z A) (hI : sd_CI cl wd D A s H locs μ) (hC : sd_CTv l y ws rm cl wd D tys Z (.ref b :: As) μ ru) (cw : va_CU R s args own C owner index x y bytes maxL none ws rm 0 0 n) (q0 : Nat) (hc : cl[ci]? = some (C, T, N)) (he : (wd μ)[q0]? = some (b, .inr (ci, fs)))
    (hn : As.length = n) (hl : ls.size = nL) (hst : st0 = As.reverse ++ .ref b :: rest) (hW : (rest.map fun v => v.category).sum ≤ 8) (hdg : decode cc pc = .ok (.invokevirtual index, 3)) (hfit : cells ≤ R.cells ∧ slots ≤ R.slots)
    (kk : ∀ (H1 : Heap) (locs1 : List Loc), sd_CI cl wd D A s H1 locs1 ru → W p l e R s m args below meth c H1 locs1 cells slots Q (F0 m (pc + 3) ls rest)) : W p l e R s m args below meth c H locs cells slots Q (F0 m pc ls st0) := by
  obtain ⟨hx, hb, hml, hown, hts, hK, hZ, hA, hr, hlocks⟩ := X
  have hFc := sd_free hA hI
  refine va_callv (A1 := va_A (wd μ) H.size) (va_runU (As := As) (rest := rest) ⟨hx, hb, hml, hown, hts⟩ (hC H.size) cw ⟨sd_pre_blind hZt, va_recv hK hI.1 hc he, fun U hU hW2 => ⟨rfl, sd_ci_pre hZt hK hZ hA hI hU hW2⟩⟩ rfl hn hl hst (lv_room hW) hdg hfit) hI.2.2 (fun q _ h => hFc q h) hFc (fun u t H1 locs1 ht hvm hw hB hz1 hk1 hS1 => ?_)
  subst hw
  obtain ⟨hP1, hK1, hD1⟩ := hB
  rw [ht] at hP1
  exact kk H1 locs1 ⟨hP1, hD1.weaken (fun k q _ h => hFc q.1 h), hS1⟩
end SD
/-! two systems side by side: one is called, the other stays -/
def sd_CF (cl : List vw_C) (w1 w2 : va_W) (D : va_G) (A : Nat → Prop) (s : State) (H : Heap) (locs : List Loc) : Prop := va_P D cl w1 H ∧ va_P D cl w2 H ∧ va_D A w1 ∧ va_D A w2 ∧ (∀ (i j : Nat) (p q : Nat × va_E), w1[i]? = some p → w2[j]? = some q → p.1 ≠ q.1) ∧ va_S A s.heap H locs
theorem sd_CF_swap {cl : List vw_C} {w1 w2 : va_W} {D : va_G} {A : Nat → Prop} {s : State} {H : Heap} {locs : List Loc} (h : sd_CF cl w1 w2 D A s H locs) : sd_CF cl w2 w1 D A s H locs := ⟨h.2.1, h.1, h.2.2.2.1, h.2.2.1, fun i j p q hi hj e => h.2.2.2.2.1 j i q p hj hi e.symm, h.2.2.2.2.2⟩
theorem sd_CF_CI {cl : List vw_C} {wd : sd_Me → va_W} {w2 : va_W} {D : va_G} {A : Nat → Prop} {s : State} {H : Heap} {locs : List Loc} {μ : sd_Me} (h : sd_CF cl (wd μ) w2 D A s H locs) : sd_CI cl wd D A s H locs μ := ⟨h.1, h.2.2.1, h.2.2.2.2.2⟩
theorem sd_CF_back {cl : List vw_C} {wd : sd_Me → va_W} {w2 : va_W} {D : va_G} {A : Nat → Prop} {s : State} {H H1 : Heap} {locs locs1 : List Loc} {μ μ1 : sd_Me} (hA : ∀ q, s.heap.size ≤ q → A q) (h : sd_CF cl (wd μ) w2 D A s H locs) (hk : ∀ q : Nat, q < H.size → ¬ va_A (wd μ) H.size q → H1[q]? = H[q]?) (hP1 : va_P D cl (wd μ1) H1) (hD1 : va_D (va_A (wd μ) H.size) (wd μ1)) (hS1 : va_S A s.heap H1 locs1) : sd_CF cl (wd μ1) w2 D A s H1 locs1 := by
  have hFc := sd_free hA (sd_CF_CI h)
  obtain ⟨hP, hP2, hD, hD2, hx, hS⟩ := h
  have out : ∀ (j : Nat) (q : Nat × va_E), w2[j]? = some q → q.1 < H.size ∧ ¬ va_A (wd μ) H.size q.1 := by
    intro j q hq
    have hl := (hP2 j q hq).lt
    refine ⟨hl, fun z => ?_⟩
    rcases z with ⟨k, e, z⟩ | z
    · exact hx k j (q.1, e) q z hq rfl
    · omega
  refine ⟨hP1, hP2.kept (fun k q hq => hk q.1 (out k q hq).1 (out k q hq).2), hD1.weaken (fun k q _ z => hFc q.1 z), hD2, fun i j p q hi hj e => ?_, hS1⟩
  exact (out j q hj).2 (by rw [← e]; exact hD1.2 i p hi)
section SDL
variable {p : Program} {l : Launch} {e : Env} {R : Room} {s : State} {m : MethodId} {args : Array Value} {below : List Frame} {meth : Method} {c : Code} {H : Heap} {locs : List Loc} {cells slots : Nat} {Q : State → Prop}
variable {cc : ByteArray} {pc : Nat} {ls : Array Slot} {rest : List Value} {cl : List vw_C} {wd : sd_Me → va_W} {w2 : va_W} {D : va_G} {tys : List (ClassId × FieldType)} {Z : (Nat → Prop) → State → Heap → Prop} {A : Nat → Prop} {μ : sd_Me} {nL : Nat} {own : String} {Ts : List Cond}
theorem k_lawV {y : MethodName} {bytes : ByteArray} {maxL n index : Nat} {ws : List Cond} {rm : Room} {rt : FieldType} {C : String} {b : Addr} {As st0 : List Value} {ru : Int32 × sd_Me} {T : u_T} {N ci : Nat} {fs : List Value} (hZt : sd_ZOK Z) (X : CallFix p m c cc nL s args Ts own) (hK : va_K D cl tys s) (hZ : Z A s s.heap) (hA : ∀ q, s.heap.size ≤ q → A q) (hI : sd_CF cl (wd μ) w2 D A s H locs) (hC : sd_CTi l y ws rm cl wd D tys Z rt (.ref b :: As) μ ru) (cw : CallW R s args own C index y bytes maxL (some rt) ws rm 0 0 n) (q0 : Nat) (hc : cl[ci]? = some (C, T, N)) (he : (wd μ)[q0]? = some (b, .inr (ci, fs)))
    (hn : As.length = n) (hl : ls.size = nL) (hst : st0 = As.reverse ++ .ref b :: rest) (hW : (rest.map fun v => v.category).sum ≤ 8) (hdg : decode cc pc = .ok (.invokevirtual index, 3)) (hfit : cells ≤ R.cells ∧ slots ≤ R.slots)
    (kk : ∀ (H1 : Heap) (locs1 : List Loc), narrow rt (.int ru.1) = .int ru.1 → sd_CF cl (wd ru.2) w2 D A s H1 locs1 → W p l e R s m args below meth c H1 locs1 cells slots Q (F0 m (pc + 3) ls (.int ru.1 :: rest))) : W p l e R s m args below meth c H locs cells slots Q (F0 m pc ls st0) := by
  have hI1 := sd_CF_CI hI
  have hFc := sd_free hA hI1
  refine va_calli (A1 := va_A (wd μ) H.size) (va_runV (As := As) (rest := rest) X (hC H.size) cw ⟨sd_pre_blind hZt, va_recv hK hI1.1 hc he, fun U hU hW2 => ⟨rfl, sd_ci_pre hZt hK hZ hA hI1 hU hW2⟩⟩ rfl hn hl hst (lv_room hW) hdg hfit) hI1.2.2 (fun q _ h => hFc q h) hFc (fun r1 u t H1 locs1 ht hvm hw hB hz1 hk1 hS1 => ?_)
  obtain ⟨rfl, rfl, hna⟩ := hw
  obtain ⟨hP1, hK1, hD1⟩ := hB
  rw [ht] at hP1
  exact kk H1 locs1 hna (sd_CF_back hA hI hk1 hP1 hD1 hS1)
theorem k_lawVv {y : MethodName} {bytes : ByteArray} {maxL n index : Nat} {ws : List Cond} {rm : Room} {C : String} {b : Addr} {As st0 : List Value} {ru : sd_Me} {T : u_T} {N ci : Nat} {fs : List Value} (hZt : sd_ZOK Z) (X : CallFix p m c cc nL s args Ts own) (hK : va_K D cl tys s) (hZ : Z A s s.heap) (hA : ∀ q, s.heap.size ≤ q → A q) (hI : sd_CF cl (wd μ) w2 D A s H locs) (hC : sd_CTv l y ws rm cl wd D tys Z (.ref b :: As) μ ru) (cw : CallW R s args own C index y bytes maxL none ws rm 0 0 n) (q0 : Nat) (hc : cl[ci]? = some (C, T, N)) (he : (wd μ)[q0]? = some (b, .inr (ci, fs)))
    (hn : As.length = n) (hl : ls.size = nL) (hst : st0 = As.reverse ++ .ref b :: rest) (hW : (rest.map fun v => v.category).sum ≤ 8) (hdg : decode cc pc = .ok (.invokevirtual index, 3)) (hfit : cells ≤ R.cells ∧ slots ≤ R.slots)
    (kk : ∀ (H1 : Heap) (locs1 : List Loc), sd_CF cl (wd ru) w2 D A s H1 locs1 → W p l e R s m args below meth c H1 locs1 cells slots Q (F0 m (pc + 3) ls rest)) : W p l e R s m args below meth c H locs cells slots Q (F0 m pc ls st0) := by
  have hI1 := sd_CF_CI hI
  have hFc := sd_free hA hI1
  refine va_callv (A1 := va_A (wd μ) H.size) (va_runV (As := As) (rest := rest) X (hC H.size) cw ⟨sd_pre_blind hZt, va_recv hK hI1.1 hc he, fun U hU hW2 => ⟨rfl, sd_ci_pre hZt hK hZ hA hI1 hU hW2⟩⟩ rfl hn hl hst (lv_room hW) hdg hfit) hI1.2.2 (fun q _ h => hFc q h) hFc (fun u t H1 locs1 ht hvm hw hB hz1 hk1 hS1 => ?_)
  subst hw
  obtain ⟨hP1, hK1, hD1⟩ := hB
  rw [ht] at hP1
  exact kk H1 locs1 (sd_CF_back hA hI hk1 hP1 hD1 hS1)
end SDL
theorem sd_oneA {D : va_G} {cl : List vw_C} {tys : List (ClassId × FieldType)} {s : State} (hK : va_K D cl tys s) {i j : Nat} {x y : ClassId} (hi : tys[i]? = some (x, .int)) (hj : tys[j]? = some (y, .int)) : x = y := by
  have h1 : s.vm.findClass ("[" ++ FieldType.int.toString) = some x := (hK.2 i _ hi).2
  have h2 : s.vm.findClass ("[" ++ FieldType.int.toString) = some y := (hK.2 j _ hj).2
  exact Option.some.inj (h1.symm.trans h2)
end
section
theorem sd_selP {y : MethodName} {C : String} {n : Nat} {s : State} {args : Array Value} (hins : (Cond.instantiable C n).before args s = true) (hpriv : (Cond.privateMethod y).before args s = true) (hinst : (Cond.instanceMethod y).before args s = true) (hsame : (Cond.sameMethod y.cls y.cls y.name y.desc).before args s = true) : (Cond.selects C y y).before args s = true := by
  obtain ⟨c, k, hc, hk, -, hniab, -, -⟩ := Cond.instantiable_spec hins
  obtain ⟨mk, methM, hnamed, hmethM, -, -⟩ := Cond.instanceMethod_spec hinst
  obtain ⟨cn, ck, r, hcn, hck, hni, hfound, hn2⟩ := Cond.sameMethod_found hsame
  cases hnamed.symm.trans hn2
  have hcls : mk.cls = cn := Option.some.inj ((findClass_of_methodNamed hnamed).symm.trans hcn)
  have hsel : selectMethod {} s.vm c mk = .method mk := selectMethod_private hmethM (Cond.privateMethod_at hpriv mk methM hnamed hmethM)
  simp only [Cond.before, Cond.holds, Cond.value, hc, hfound, hnamed, hsel, hcls, hck]
  simp; exact hni
def sx_sels : List Cond := [Jvm.Cond.selects "ScriptDesk$Ripemd160" ({ cls := "ScriptDesk$BlockDigest", name := "shiftOf", desc := "(I)I" } : Jvm.MethodName) ({ cls := "ScriptDesk$BlockDigest", name := "shiftOf", desc := "(I)I" } : Jvm.MethodName), Jvm.Cond.selects "ScriptDesk$Ripemd160" ({ cls := "ScriptDesk$BlockDigest", name := "write", desc := "(I[II)V" } : Jvm.MethodName) ({ cls := "ScriptDesk$BlockDigest", name := "write", desc := "(I[II)V" } : Jvm.MethodName), Jvm.Cond.selects "ScriptDesk$Ripemd160" ({ cls := "ScriptDesk$BlockDigest", name := "pad", desc := "(LScriptDesk$Elements;I)I" } : Jvm.MethodName) ({ cls := "ScriptDesk$BlockDigest", name := "pad", desc := "(LScriptDesk$Elements;I)I" } : Jvm.MethodName), Jvm.Cond.selects "ScriptDesk$Ripemd160" ({ cls := "ScriptDesk$BlockDigest", name := "readBlock", desc := "(I)V" } : Jvm.MethodName) ({ cls := "ScriptDesk$BlockDigest", name := "readBlock", desc := "(I)V" } : Jvm.MethodName), Jvm.Cond.selects "ScriptDesk$Sha256" ({ cls := "ScriptDesk$BlockDigest", name := "shiftOf", desc := "(I)I" } : Jvm.MethodName) ({ cls := "ScriptDesk$BlockDigest", name := "shiftOf", desc := "(I)I" } : Jvm.MethodName), Jvm.Cond.selects "ScriptDesk$Sha256" ({ cls := "ScriptDesk$BlockDigest", name := "write", desc := "(I[II)V" } : Jvm.MethodName) ({ cls := "ScriptDesk$BlockDigest", name := "write", desc := "(I[II)V" } : Jvm.MethodName), Jvm.Cond.selects "ScriptDesk$Sha256" ({ cls := "ScriptDesk$BlockDigest", name := "pad", desc := "(LScriptDesk$Elements;I)I" } : Jvm.MethodName) ({ cls := "ScriptDesk$BlockDigest", name := "pad", desc := "(LScriptDesk$Elements;I)I" } : Jvm.MethodName), Jvm.Cond.selects "ScriptDesk$Sha256" ({ cls := "ScriptDesk$BlockDigest", name := "readBlock", desc := "(I)V" } : Jvm.MethodName) ({ cls := "ScriptDesk$BlockDigest", name := "readBlock", desc := "(I)V" } : Jvm.MethodName)]
def sx_tbl : List Cond := sx_sels ++ lw_tbl.filter goodWord
theorem tw_of {i : Nat} {w : Cond} (h : tables_1[i]? = some w) (hg : goodWord w = true) : w ∈ sx_tbl := List.mem_append_right _ (List.mem_filter.mpr ⟨List.mem_append_right _ (List.mem_of_getElem? h), hg⟩)
theorem ts_of {i : Nat} {w : Cond} (h : (k2_sels lw_privs)[i]? = some w) (hg : goodWord w = true) : w ∈ sx_tbl := List.mem_append_right _ (List.mem_filter.mpr ⟨List.mem_append_left _ (List.mem_of_getElem? h), hg⟩)
theorem sx_hts {args : Array Value} {s : State} (hts : ∀ w ∈ lw_tbl, w.before args s = true) : ∀ w ∈ sx_tbl, w.before args s = true := by
  intro w hw
  rcases List.mem_append.mp hw with hw | hw
  · simp only [sx_sels, List.mem_cons, List.not_mem_nil, or_false] at hw
    rcases hw with rfl | rfl | rfl | rfl | rfl | rfl | rfl | rfl
    · exact sd_selP (n := 7) (hts _ (List.mem_append_right _ (List.mem_of_getElem? (i := 122) (by decide +kernel)))) (hts _ (List.mem_append_right _ (List.mem_of_getElem? (i := 393) (by decide +kernel)))) (hts _ (List.mem_append_right _ (List.mem_of_getElem? (i := 394) (by decide +kernel)))) (hts _ (List.mem_append_right _ (List.mem_of_getElem? (i := 799) (by decide +kernel))))
    · exact sd_selP (n := 7) (hts _ (List.mem_append_right _ (List.mem_of_getElem? (i := 122) (by decide +kernel)))) (hts _ (List.mem_append_right _ (List.mem_of_getElem? (i := 389) (by decide +kernel)))) (hts _ (List.mem_append_right _ (List.mem_of_getElem? (i := 390) (by decide +kernel)))) (hts _ (List.mem_append_right _ (List.mem_of_getElem? (i := 798) (by decide +kernel))))
    · exact sd_selP (n := 7) (hts _ (List.mem_append_right _ (List.mem_of_getElem? (i := 122) (by decide +kernel)))) (hts _ (List.mem_append_right _ (List.mem_of_getElem? (i := 381) (by decide +kernel)))) (hts _ (List.mem_append_right _ (List.mem_of_getElem? (i := 382) (by decide +kernel)))) (hts _ (List.mem_append_right _ (List.mem_of_getElem? (i := 797) (by decide +kernel))))
    · exact sd_selP (n := 7) (hts _ (List.mem_append_right _ (List.mem_of_getElem? (i := 122) (by decide +kernel)))) (hts _ (List.mem_append_right _ (List.mem_of_getElem? (i := 412) (by decide +kernel)))) (hts _ (List.mem_append_right _ (List.mem_of_getElem? (i := 413) (by decide +kernel)))) (hts _ (List.mem_append_right _ (List.mem_of_getElem? (i := 800) (by decide +kernel))))
    · exact sd_selP (n := 5) (hts _ (List.mem_append_right _ (List.mem_of_getElem? (i := 89) (by decide +kernel)))) (hts _ (List.mem_append_right _ (List.mem_of_getElem? (i := 393) (by decide +kernel)))) (hts _ (List.mem_append_right _ (List.mem_of_getElem? (i := 394) (by decide +kernel)))) (hts _ (List.mem_append_right _ (List.mem_of_getElem? (i := 799) (by decide +kernel))))
    · exact sd_selP (n := 5) (hts _ (List.mem_append_right _ (List.mem_of_getElem? (i := 89) (by decide +kernel)))) (hts _ (List.mem_append_right _ (List.mem_of_getElem? (i := 389) (by decide +kernel)))) (hts _ (List.mem_append_right _ (List.mem_of_getElem? (i := 390) (by decide +kernel)))) (hts _ (List.mem_append_right _ (List.mem_of_getElem? (i := 798) (by decide +kernel))))
    · exact sd_selP (n := 5) (hts _ (List.mem_append_right _ (List.mem_of_getElem? (i := 89) (by decide +kernel)))) (hts _ (List.mem_append_right _ (List.mem_of_getElem? (i := 381) (by decide +kernel)))) (hts _ (List.mem_append_right _ (List.mem_of_getElem? (i := 382) (by decide +kernel)))) (hts _ (List.mem_append_right _ (List.mem_of_getElem? (i := 797) (by decide +kernel))))
    · exact sd_selP (n := 5) (hts _ (List.mem_append_right _ (List.mem_of_getElem? (i := 89) (by decide +kernel)))) (hts _ (List.mem_append_right _ (List.mem_of_getElem? (i := 412) (by decide +kernel)))) (hts _ (List.mem_append_right _ (List.mem_of_getElem? (i := 413) (by decide +kernel)))) (hts _ (List.mem_append_right _ (List.mem_of_getElem? (i := 800) (by decide +kernel))))
  · exact hts w (List.mem_filter.mp hw).1
theorem lw_good : ∀ w ∈ sx_tbl, (w.onTables && w.keeps) = true ∨ ∃ ty, w = .arrayClass ty := by
  intro w hw
  rcases List.mem_append.mp hw with hw | hw
  · have h : sx_sels.all goodWord = true := by decide +kernel
    exact good_of_word (List.all_eq_true.mp h w hw)
  · exact good_of_word (List.mem_filter.mp hw).2
theorem gd_code {y : MethodName} {c : ByteArray} {n : Nat} {ret : Option FieldType} (h : Cond.code y c n ret ∈ sx_tbl) : GoodIn sx_tbl (Cond.code y c n ret :: sx_tbl) := by
  intro w hw
  rcases List.mem_cons.mp hw with rfl | hw
  · exact ⟨h, lw_good _ h⟩
  · exact ⟨hw, lw_good _ hw⟩
theorem gd_V {own : String} {idx : Nat} {C : String} {y : MethodName} {c : ByteArray} {n : Nat} {ret : Option FieldType} (h1 : Cond.methodLink own idx y ∈ sx_tbl) (h2 : Cond.instanceMethod y ∈ sx_tbl) (h3 : Cond.selects C y y ∈ sx_tbl) (h4 : Cond.initialized C ∈ sx_tbl) (h5 : Cond.code y c n ret ∈ sx_tbl) : GoodIn sx_tbl (wsV own idx C y (Cond.code y c n ret :: sx_tbl)) := by
  intro w hw
  rcases List.mem_append.mp hw with hw | hw
  · simp only [List.mem_cons, List.not_mem_nil, or_false] at hw
    rcases hw with rfl | rfl | rfl | rfl
    · exact ⟨h1, lw_good _ h1⟩
    · exact ⟨h2, lw_good _ h2⟩
    · exact ⟨h3, lw_good _ h3⟩
    · exact ⟨h4, lw_good _ h4⟩
  · exact gd_code h5 w hw
theorem gd_S {own : String} {idx : Nat} {y : MethodName} {c : ByteArray} {n : Nat} {ret : Option FieldType} (h1 : Cond.methodLink own idx y ∈ sx_tbl) (h2 : Cond.static y ∈ sx_tbl) (h4 : Cond.initialized y.cls ∈ sx_tbl) (h5 : Cond.code y c n ret ∈ sx_tbl) : GoodIn sx_tbl (va_wsS own idx y (Cond.code y c n ret :: sx_tbl)) := by
  intro w hw
  rcases List.mem_append.mp hw with hw | hw
  · simp only [List.mem_cons, List.not_mem_nil, or_false] at hw
    rcases hw with rfl | rfl | rfl
    · exact ⟨h1, lw_good _ h1⟩
    · exact ⟨h2, lw_good _ h2⟩
    · exact ⟨h4, lw_good _ h4⟩
  · exact gd_code h5 w hw
theorem gd_U {own : String} {idx : Nat} {C owner : String} {x y : MethodName} {c : ByteArray} {n : Nat} {ret : Option FieldType} (h1 : Cond.methodLink own idx x ∈ sx_tbl) (h2 : Cond.sameMethod x.cls owner x.name x.desc ∈ sx_tbl) (h3 : Cond.selects C x y ∈ sx_tbl) (h4 : Cond.instanceMethod y ∈ sx_tbl) (h6 : Cond.initialized y.cls ∈ sx_tbl) (h5 : Cond.code y c n ret ∈ sx_tbl) : GoodIn sx_tbl (va_wsU own idx C owner x y (Cond.code y c n ret :: sx_tbl)) := by
  intro w hw
  rcases List.mem_append.mp hw with hw | hw
  · simp only [List.mem_cons, List.not_mem_nil, or_false] at hw
    rcases hw with rfl | rfl | rfl | rfl | rfl
    · exact ⟨h1, lw_good _ h1⟩
    · exact ⟨h2, lw_good _ h2⟩
    · exact ⟨h3, lw_good _ h3⟩
    · exact ⟨h4, lw_good _ h4⟩
    · exact ⟨h6, lw_good _ h6⟩
  · exact gd_code h5 w hw
def T_Desk : u_T := fun k => match k with
  | 0 => ("ScriptDesk", "script", "[I", true)
  | 1 => ("ScriptDesk", "scriptLength", "I", false)
  | 2 => ("ScriptDesk", "next", "I", false)
  | 3 => ("ScriptDesk", "stoppedAt", "I", false)
  | 4 => ("ScriptDesk", "elements", "LScriptDesk$Elements;", true)
  | 5 => ("ScriptDesk", "tally", "LScriptDesk$Tally;", true)
  | 6 => ("ScriptDesk", "flow", "LScriptDesk$Flow;", true)
  | 7 => ("ScriptDesk", "signatures", "LScriptDesk$Signatures;", true)
  | 8 => ("ScriptDesk", "sha256", "LScriptDesk$BlockDigest;", true)
  | _ => ("ScriptDesk", "ripemd160", "LScriptDesk$BlockDigest;", true)
def t_Desk : Nat → FieldType := fun k => match k with
  | 0 => .array .int
  | 1 => .int
  | 2 => .int
  | 3 => .int
  | 4 => .object "ScriptDesk$Elements"
  | 5 => .object "ScriptDesk$Tally"
  | 6 => .object "ScriptDesk$Flow"
  | 7 => .object "ScriptDesk$Signatures"
  | 8 => .object "ScriptDesk$BlockDigest"
  | _ => .object "ScriptDesk$BlockDigest"
theorem n_Desk : ∀ a, a < 10 → ∀ b, b < 10 → a ≠ b → (T_Desk a).2.1 ≠ (T_Desk b).2.1 := by decide +kernel
theorem t_Desk_ok : ∀ k, k < 10 → parseFieldDescriptor (T_Desk k).2.2.1 = some (t_Desk k) := by decide +kernel
theorem iw_Desk : ∀ w ∈ u_ws "ScriptDesk" T_Desk 10, w ∈ sx_tbl := by decide +kernel
def T_Elements : u_T := fun k => match k with
  | 0 => ("ScriptDesk$Elements", "octets", "[I", true)
  | 1 => ("ScriptDesk$Elements", "lengths", "[I", true)
  | 2 => ("ScriptDesk$Elements", "order", "[I", true)
  | 3 => ("ScriptDesk$Elements", "side", "I", false)
  | _ => ("ScriptDesk$Elements", "depth", "I", false)
def t_Elements : Nat → FieldType := fun k => match k with
  | 0 => .array .int
  | 1 => .array .int
  | 2 => .array .int
  | 3 => .int
  | _ => .int
theorem n_Elements : ∀ a, a < 5 → ∀ b, b < 5 → a ≠ b → (T_Elements a).2.1 ≠ (T_Elements b).2.1 := by decide +kernel
theorem t_Elements_ok : ∀ k, k < 5 → parseFieldDescriptor (T_Elements k).2.2.1 = some (t_Elements k) := by decide +kernel
theorem iw_Elements : ∀ w ∈ u_ws "ScriptDesk$Elements" T_Elements 5, w ∈ sx_tbl := by decide +kernel
def T_Tally : u_T := fun k => match k with
  | _ => ("ScriptDesk$Tally", "operations", "I", false)
def t_Tally : Nat → FieldType := fun k => match k with
  | _ => .int
theorem n_Tally : ∀ a, a < 1 → ∀ b, b < 1 → a ≠ b → (T_Tally a).2.1 ≠ (T_Tally b).2.1 := by decide +kernel
theorem t_Tally_ok : ∀ k, k < 1 → parseFieldDescriptor (T_Tally k).2.2.1 = some (t_Tally k) := by decide +kernel
theorem iw_Tally : ∀ w ∈ u_ws "ScriptDesk$Tally" T_Tally 1, w ∈ sx_tbl := by decide +kernel
def T_Flow : u_T := fun k => match k with
  | 0 => ("ScriptDesk$Flow", "open", "I", false)
  | _ => ("ScriptDesk$Flow", "firstNotDone", "I", false)
def t_Flow : Nat → FieldType := fun k => match k with
  | 0 => .int
  | _ => .int
theorem n_Flow : ∀ a, a < 2 → ∀ b, b < 2 → a ≠ b → (T_Flow a).2.1 ≠ (T_Flow b).2.1 := by decide +kernel
theorem t_Flow_ok : ∀ k, k < 2 → parseFieldDescriptor (T_Flow k).2.2.1 = some (t_Flow k) := by decide +kernel
theorem iw_Flow : ∀ w ∈ u_ws "ScriptDesk$Flow" T_Flow 2, w ∈ sx_tbl := by decide +kernel
def T_Signatures : u_T := fun k => match k with
  | 0 => ("ScriptDesk$Signatures", "hidden", "I", false)
  | _ => ("ScriptDesk$Signatures", "asked", "I", false)
def t_Signatures : Nat → FieldType := fun k => match k with
  | 0 => .int
  | _ => .int
theorem n_Signatures : ∀ a, a < 2 → ∀ b, b < 2 → a ≠ b → (T_Signatures a).2.1 ≠ (T_Signatures b).2.1 := by decide +kernel
theorem t_Signatures_ok : ∀ k, k < 2 → parseFieldDescriptor (T_Signatures k).2.2.1 = some (t_Signatures k) := by decide +kernel
theorem iw_Signatures : ∀ w ∈ u_ws "ScriptDesk$Signatures" T_Signatures 2, w ∈ sx_tbl := by decide +kernel
def T_Sha256 : u_T := fun k => match k with
  | 0 => ("ScriptDesk$BlockDigest", "message", "[I", true)
  | 1 => ("ScriptDesk$BlockDigest", "result", "[I", true)
  | 2 => ("ScriptDesk$BlockDigest", "highFirst", "Z", true)
  | 3 => ("ScriptDesk$BlockDigest", "words", "[I", true)
  | _ => ("ScriptDesk$BlockDigest", "state", "[I", true)
def t_Sha256 : Nat → FieldType := fun k => match k with
  | 0 => .array .int
  | 1 => .array .int
  | 2 => .boolean
  | 3 => .array .int
  | _ => .array .int
theorem n_Sha256 : ∀ a, a < 5 → ∀ b, b < 5 → a ≠ b → (T_Sha256 a).2.1 ≠ (T_Sha256 b).2.1 := by decide +kernel
theorem t_Sha256_ok : ∀ k, k < 5 → parseFieldDescriptor (T_Sha256 k).2.2.1 = some (t_Sha256 k) := by decide +kernel
theorem iw_Sha256 : ∀ w ∈ u_ws "ScriptDesk$Sha256" T_Sha256 5, w ∈ sx_tbl := by decide +kernel
def T_Ripemd160 : u_T := fun k => match k with
  | 0 => ("ScriptDesk$BlockDigest", "message", "[I", true)
  | 1 => ("ScriptDesk$BlockDigest", "result", "[I", true)
  | 2 => ("ScriptDesk$BlockDigest", "highFirst", "Z", true)
  | 3 => ("ScriptDesk$BlockDigest", "words", "[I", true)
  | 4 => ("ScriptDesk$BlockDigest", "state", "[I", true)
  | 5 => ("ScriptDesk$Ripemd160", "left", "[I", true)
  | _ => ("ScriptDesk$Ripemd160", "right", "[I", true)
def t_Ripemd160 : Nat → FieldType := fun k => match k with
  | 0 => .array .int
  | 1 => .array .int
  | 2 => .boolean
  | 3 => .array .int
  | 4 => .array .int
  | 5 => .array .int
  | _ => .array .int
theorem n_Ripemd160 : ∀ a, a < 7 → ∀ b, b < 7 → a ≠ b → (T_Ripemd160 a).2.1 ≠ (T_Ripemd160 b).2.1 := by decide +kernel
theorem t_Ripemd160_ok : ∀ k, k < 7 → parseFieldDescriptor (T_Ripemd160 k).2.2.1 = some (t_Ripemd160 k) := by decide +kernel
theorem iw_Ripemd160 : ∀ w ∈ u_ws "ScriptDesk$Ripemd160" T_Ripemd160 7, w ∈ sx_tbl := by decide +kernel
def T_Model : u_T := fun k => match k with
  | 0 => ("ScriptDeskModel", "bytes", "[I", true)
  | 1 => ("ScriptDeskModel", "sizes", "[I", true)
  | 2 => ("ScriptDeskModel", "size", "I", false)
  | 3 => ("ScriptDeskModel", "side", "I", false)
  | 4 => ("ScriptDeskModel", "script", "[I", true)
  | 5 => ("ScriptDeskModel", "length", "I", false)
  | 6 => ("ScriptDeskModel", "secret", "J", false)
  | 7 => ("ScriptDeskModel", "fault", "I", false)
  | 8 => ("ScriptDeskModel", "place", "I", false)
  | 9 => ("ScriptDeskModel", "operations", "I", false)
  | 10 => ("ScriptDeskModel", "asked", "I", false)
  | 11 => ("ScriptDeskModel", "depth", "I", false)
  | 12 => ("ScriptDeskModel", "parts", "[I", true)
  | 13 => ("ScriptDeskModel", "number", "J", false)
  | 14 => ("ScriptDeskModel", "message", "[I", true)
  | 15 => ("ScriptDeskModel", "row", "[I", true)
  | 16 => ("ScriptDeskModel", "h", "[I", true)
  | _ => ("ScriptDeskModel", "v", "[I", true)
def t_Model : Nat → FieldType := fun k => match k with
  | 0 => .array .int
  | 1 => .array .int
  | 2 => .int
  | 3 => .int
  | 4 => .array .int
  | 5 => .int
  | 6 => .long
  | 7 => .int
  | 8 => .int
  | 9 => .int
  | 10 => .int
  | 11 => .int
  | 12 => .array .int
  | 13 => .long
  | 14 => .array .int
  | 15 => .array .int
  | 16 => .array .int
  | _ => .array .int
theorem n_Model : ∀ a, a < 18 → ∀ b, b < 18 → a ≠ b → (T_Model a).2.1 ≠ (T_Model b).2.1 := by decide +kernel
theorem t_Model_ok : ∀ k, k < 18 → parseFieldDescriptor (T_Model k).2.2.1 = some (t_Model k) := by decide +kernel
theorem iw_Model : ∀ w ∈ u_ws "ScriptDeskModel" T_Model 18, w ∈ sx_tbl := by decide +kernel
abbrev vwCl : List vw_C := [("ScriptDesk", T_Desk, 10), ("ScriptDesk$Elements", T_Elements, 5), ("ScriptDesk$Tally", T_Tally, 1), ("ScriptDesk$Flow", T_Flow, 2), ("ScriptDesk$Signatures", T_Signatures, 2), ("ScriptDesk$Sha256", T_Sha256, 5), ("ScriptDesk$Ripemd160", T_Ripemd160, 7), ("ScriptDeskModel", T_Model, 18)]
abbrev y_Desk_put : MethodName := ⟨"ScriptDesk", "put", "(JI)Z"⟩
abbrev w_Desk_put : List Cond := .code y_Desk_put prog_1_method_2_code 5 (Option.some Jvm.ClassFile.FieldType.boolean) :: sx_tbl
abbrev y_Desk_secret : MethodName := ⟨"ScriptDesk", "secret", "(I)V"⟩
abbrev w_Desk_secret : List Cond := .code y_Desk_secret prog_1_method_3_code 2 (Option.none : Option Jvm.ClassFile.FieldType) :: sx_tbl
abbrev y_Flow_restart : MethodName := ⟨"ScriptDesk$Flow", "restart", "()V"⟩
abbrev w_Flow_restart : List Cond := .code y_Flow_restart prog_4_method_2_code 1 (Option.none : Option Jvm.ClassFile.FieldType) :: sx_tbl
abbrev y_Desk_restart : MethodName := ⟨"ScriptDesk", "restart", "()V"⟩
abbrev w_Desk_restart : List Cond := .code y_Desk_restart prog_1_method_12_code 1 (Option.none : Option Jvm.ClassFile.FieldType) :: sx_tbl
abbrev y_Flow_isDone : MethodName := ⟨"ScriptDesk$Flow", "isDone", "()Z"⟩
abbrev w_Flow_isDone : List Cond := .code y_Flow_isDone prog_4_method_4_code 1 (Option.some Jvm.ClassFile.FieldType.boolean) :: sx_tbl
abbrev y_Elements_lengthAt : MethodName := ⟨"ScriptDesk$Elements", "lengthAt", "(I)I"⟩
abbrev w_Elements_lengthAt : List Cond := .code y_Elements_lengthAt prog_3_method_3_code 2 (Option.some Jvm.ClassFile.FieldType.int) :: sx_tbl
abbrev y_Elements_octetAt : MethodName := ⟨"ScriptDesk$Elements", "octetAt", "(II)I"⟩
abbrev w_Elements_octetAt : List Cond := .code y_Elements_octetAt prog_3_method_4_code 4 (Option.some Jvm.ClassFile.FieldType.int) :: sx_tbl
abbrev y_Elements_topHolds : MethodName := ⟨"ScriptDesk$Elements", "topHolds", "()Z"⟩
abbrev w_Elements_topHolds : List Cond := .code y_Elements_topHolds prog_3_method_5_code 3 (Option.some Jvm.ClassFile.FieldType.boolean) :: sx_tbl
abbrev y_Elements_drop : MethodName := ⟨"ScriptDesk$Elements", "drop", "(I)V"⟩
abbrev w_Elements_drop : List Cond := .code y_Elements_drop prog_3_method_9_code 2 (Option.none : Option Jvm.ClassFile.FieldType) :: sx_tbl
abbrev y_Flow_enter : MethodName := ⟨"ScriptDesk$Flow", "enter", "(Z)V"⟩
abbrev w_Flow_enter : List Cond := .code y_Flow_enter prog_4_method_5_code 2 (Option.none : Option Jvm.ClassFile.FieldType) :: sx_tbl
abbrev y_Desk_enterPart : MethodName := ⟨"ScriptDesk", "enterPart", "(Z)I"⟩
abbrev w_Desk_enterPart : List Cond := .code y_Desk_enterPart prog_1_method_15_code 3 (Option.some Jvm.ClassFile.FieldType.int) :: sx_tbl
abbrev y_Flow_isInside : MethodName := ⟨"ScriptDesk$Flow", "isInside", "()Z"⟩
abbrev w_Flow_isInside : List Cond := .code y_Flow_isInside prog_4_method_3_code 1 (Option.some Jvm.ClassFile.FieldType.boolean) :: sx_tbl
abbrev y_Flow_turn : MethodName := ⟨"ScriptDesk$Flow", "turn", "()V"⟩
abbrev w_Flow_turn : List Cond := .code y_Flow_turn prog_4_method_6_code 1 (Option.none : Option Jvm.ClassFile.FieldType) :: sx_tbl
abbrev y_Flow_end : MethodName := ⟨"ScriptDesk$Flow", "end", "()V"⟩
abbrev w_Flow_end : List Cond := .code y_Flow_end prog_4_method_7_code 1 (Option.none : Option Jvm.ClassFile.FieldType) :: sx_tbl
abbrev y_Desk_leavePart : MethodName := ⟨"ScriptDesk", "leavePart", "(Z)I"⟩
abbrev w_Desk_leavePart : List Cond := .code y_Desk_leavePart prog_1_method_16_code 2 (Option.some Jvm.ClassFile.FieldType.int) :: sx_tbl
abbrev y_Elements_faultOfNumber : MethodName := ⟨"ScriptDesk$Elements", "faultOfNumber", "(I)I"⟩
abbrev w_Elements_faultOfNumber : List Cond := .code y_Elements_faultOfNumber prog_3_method_7_code 2 (Option.some Jvm.ClassFile.FieldType.int) :: sx_tbl
abbrev y_Elements_numberAt : MethodName := ⟨"ScriptDesk$Elements", "numberAt", "(I)J"⟩
abbrev w_Elements_numberAt : List Cond := .code y_Elements_numberAt prog_3_method_8_code 6 (Option.some Jvm.ClassFile.FieldType.long) :: sx_tbl
abbrev y_Signatures_faultOfAmount : MethodName := ⟨"ScriptDesk$Signatures", "faultOfAmount", "(LScriptDesk$Elements;II)I"⟩
abbrev w_Signatures_faultOfAmount : List Cond := .code y_Signatures_faultOfAmount prog_9_method_5_code 6 (Option.some Jvm.ClassFile.FieldType.int) :: sx_tbl
abbrev y_Tally_passesLimit : MethodName := ⟨"ScriptDesk$Tally", "passesLimit", "(I)Z"⟩
abbrev w_Tally_passesLimit : List Cond := .code y_Tally_passesLimit prog_10_method_2_code 2 (Option.some Jvm.ClassFile.FieldType.boolean) :: sx_tbl
abbrev y_Signatures_fits : MethodName := ⟨"ScriptDesk$Signatures", "fits", "(LScriptDesk$Elements;II)Z"⟩
abbrev w_Signatures_fits : List Cond := .code y_Signatures_fits prog_9_method_7_code 12 (Option.some Jvm.ClassFile.FieldType.boolean) :: sx_tbl
abbrev y_Signatures_allFit : MethodName := ⟨"ScriptDesk$Signatures", "allFit", "(LScriptDesk$Elements;II)Z"⟩
abbrev w_Signatures_allFit : List Cond := .code y_Signatures_allFit prog_9_method_6_code 6 (Option.some Jvm.ClassFile.FieldType.boolean) :: sx_tbl
abbrev y_Elements_pushNumber : MethodName := ⟨"ScriptDesk$Elements", "pushNumber", "(J)V"⟩
abbrev w_Elements_pushNumber : List Cond := .code y_Elements_pushNumber prog_3_method_14_code 8 (Option.none : Option Jvm.ClassFile.FieldType) :: sx_tbl
abbrev y_Elements_replaceByTruth : MethodName := ⟨"ScriptDesk$Elements", "replaceByTruth", "(IZ)V"⟩
abbrev w_Elements_replaceByTruth : List Cond := .code y_Elements_replaceByTruth prog_3_method_15_code 3 (Option.none : Option Jvm.ClassFile.FieldType) :: sx_tbl
abbrev y_Signatures_askMany : MethodName := ⟨"ScriptDesk$Signatures", "askMany", "(LScriptDesk$Elements;LScriptDesk$Tally;)I"⟩
abbrev w_Signatures_askMany : List Cond := .code y_Signatures_askMany prog_9_method_4_code 8 (Option.some Jvm.ClassFile.FieldType.int) :: sx_tbl
abbrev y_Elements_takeTrue : MethodName := ⟨"ScriptDesk$Elements", "takeTrue", "()I"⟩
abbrev w_Elements_takeTrue : List Cond := .code y_Elements_takeTrue prog_3_method_19_code 1 (Option.some Jvm.ClassFile.FieldType.int) :: sx_tbl
abbrev y_Signatures_askOne : MethodName := ⟨"ScriptDesk$Signatures", "askOne", "(LScriptDesk$Elements;)I"⟩
abbrev w_Signatures_askOne : List Cond := .code y_Signatures_askOne prog_9_method_3_code 3 (Option.some Jvm.ClassFile.FieldType.int) :: sx_tbl
abbrev y_Signatures_perform : MethodName := ⟨"ScriptDesk$Signatures", "perform", "(LScriptDesk$Elements;LScriptDesk$Tally;I)I"⟩
abbrev w_Signatures_perform : List Cond := .code y_Signatures_perform prog_9_method_2_code 6 (Option.some Jvm.ClassFile.FieldType.int) :: sx_tbl
abbrev y_Arrays_fill : MethodName := ⟨"java/util/Arrays", "fill", "([II)V"⟩
abbrev w_Arrays_fill : List Cond := .code y_Arrays_fill prog_15_method_103_code 4 (Option.none : Option Jvm.ClassFile.FieldType) :: sx_tbl
abbrev y_BlockDigest_shiftOf : MethodName := ⟨"ScriptDesk$BlockDigest", "shiftOf", "(I)I"⟩
abbrev w_BlockDigest_shiftOf : List Cond := .code y_BlockDigest_shiftOf prog_2_method_8_code 2 (Option.some Jvm.ClassFile.FieldType.int) :: sx_tbl
abbrev y_BlockDigest_write : MethodName := ⟨"ScriptDesk$BlockDigest", "write", "(I[II)V"⟩
abbrev w_BlockDigest_write : List Cond := .code y_BlockDigest_write prog_2_method_7_code 5 (Option.none : Option Jvm.ClassFile.FieldType) :: sx_tbl
abbrev y_BlockDigest_pad : MethodName := ⟨"ScriptDesk$BlockDigest", "pad", "(LScriptDesk$Elements;I)I"⟩
abbrev w_BlockDigest_pad : List Cond := .code y_BlockDigest_pad prog_2_method_5_code 5 (Option.some Jvm.ClassFile.FieldType.int) :: sx_tbl
abbrev y_Ripemd160_begin : MethodName := ⟨"ScriptDesk$Ripemd160", "begin", "()V"⟩
abbrev w_Ripemd160_begin : List Cond := .code y_Ripemd160_begin prog_7_method_2_code 1 (Option.none : Option Jvm.ClassFile.FieldType) :: sx_tbl
abbrev y_BlockDigest_readBlock : MethodName := ⟨"ScriptDesk$BlockDigest", "readBlock", "(I)V"⟩
abbrev w_BlockDigest_readBlock : List Cond := .code y_BlockDigest_readBlock prog_2_method_6_code 5 (Option.none : Option Jvm.ClassFile.FieldType) :: sx_tbl
abbrev y_Ripemd160_blend : MethodName := ⟨"ScriptDesk$Ripemd160", "blend", "(IIII)I"⟩
abbrev w_Ripemd160_blend : List Cond := .code y_Ripemd160_blend prog_7_method_5_code 4 (Option.some Jvm.ClassFile.FieldType.int) :: sx_tbl
abbrev y_Ripemd160_turned : MethodName := ⟨"ScriptDesk$Ripemd160", "turned", "(II)I"⟩
abbrev w_Ripemd160_turned : List Cond := .code y_Ripemd160_turned prog_7_method_6_code 2 (Option.some Jvm.ClassFile.FieldType.int) :: sx_tbl
abbrev y_Ripemd160_step : MethodName := ⟨"ScriptDesk$Ripemd160", "step", "([IIII)V"⟩
abbrev w_Ripemd160_step : List Cond := .code y_Ripemd160_step prog_7_method_4_code 6 (Option.none : Option Jvm.ClassFile.FieldType) :: sx_tbl
abbrev y_Ripemd160_mix : MethodName := ⟨"ScriptDesk$Ripemd160", "mix", "()V"⟩
abbrev w_Ripemd160_mix : List Cond := .code y_Ripemd160_mix prog_7_method_3_code 3 (Option.none : Option Jvm.ClassFile.FieldType) :: sx_tbl
abbrev y_Elements_push : MethodName := ⟨"ScriptDesk$Elements", "push", "([III)V"⟩
abbrev w_Elements_push : List Cond := .code y_Elements_push prog_3_method_11_code 5 (Option.none : Option Jvm.ClassFile.FieldType) :: sx_tbl
abbrev y_BlockDigest_replaceTop : MethodName := ⟨"ScriptDesk$BlockDigest", "replaceTop", "(LScriptDesk$Elements;)V"⟩
abbrev w_BlockDigest_replaceTop : List Cond := .code y_BlockDigest_replaceTop prog_2_method_4_code 5 (Option.none : Option Jvm.ClassFile.FieldType) :: sx_tbl
abbrev y_Sha256_begin : MethodName := ⟨"ScriptDesk$Sha256", "begin", "()V"⟩
abbrev w_Sha256_begin : List Cond := .code y_Sha256_begin prog_8_method_2_code 1 (Option.none : Option Jvm.ClassFile.FieldType) :: sx_tbl
abbrev y_Sha256_turned : MethodName := ⟨"ScriptDesk$Sha256", "turned", "(II)I"⟩
abbrev w_Sha256_turned : List Cond := .code y_Sha256_turned prog_8_method_5_code 2 (Option.some Jvm.ClassFile.FieldType.int) :: sx_tbl
abbrev y_Sha256_spreadWords : MethodName := ⟨"ScriptDesk$Sha256", "spreadWords", "()V"⟩
abbrev w_Sha256_spreadWords : List Cond := .code y_Sha256_spreadWords prog_8_method_4_code 6 (Option.none : Option Jvm.ClassFile.FieldType) :: sx_tbl
abbrev y_Sha256_mix : MethodName := ⟨"ScriptDesk$Sha256", "mix", "()V"⟩
abbrev w_Sha256_mix : List Cond := .code y_Sha256_mix prog_8_method_3_code 14 (Option.none : Option Jvm.ClassFile.FieldType) :: sx_tbl
abbrev y_Desk_performDigest : MethodName := ⟨"ScriptDesk", "performDigest", "(I)I"⟩
abbrev w_Desk_performDigest : List Cond := .code y_Desk_performDigest prog_1_method_19_code 2 (Option.some Jvm.ClassFile.FieldType.int) :: sx_tbl
abbrev y_Numbers_operandsOf : MethodName := ⟨"ScriptDesk$Numbers", "operandsOf", "(I)I"⟩
abbrev w_Numbers_operandsOf : List Cond := .code y_Numbers_operandsOf prog_6_method_3_code 1 (Option.some Jvm.ClassFile.FieldType.int) :: sx_tbl
abbrev y_Numbers_compare : MethodName := ⟨"ScriptDesk$Numbers", "compare", "(IJJ)Z"⟩
abbrev w_Numbers_compare : List Cond := .code y_Numbers_compare prog_6_method_6_code 5 (Option.some Jvm.ClassFile.FieldType.boolean) :: sx_tbl
abbrev y_Numbers_ofOne : MethodName := ⟨"ScriptDesk$Numbers", "ofOne", "(IJ)J"⟩
abbrev w_Numbers_ofOne : List Cond := .code y_Numbers_ofOne prog_6_method_5_code 3 (Option.some Jvm.ClassFile.FieldType.long) :: sx_tbl
abbrev y_Numbers_resultOf : MethodName := ⟨"ScriptDesk$Numbers", "resultOf", "(LScriptDesk$Elements;II)J"⟩
abbrev w_Numbers_resultOf : List Cond := .code y_Numbers_resultOf prog_6_method_4_code 9 (Option.some Jvm.ClassFile.FieldType.long) :: sx_tbl
abbrev y_Numbers_perform : MethodName := ⟨"ScriptDesk$Numbers", "perform", "(LScriptDesk$Elements;I)I"⟩
abbrev w_Numbers_perform : List Cond := .code y_Numbers_perform prog_6_method_2_code 5 (Option.some Jvm.ClassFile.FieldType.int) :: sx_tbl
abbrev y_Elements_pushCopy : MethodName := ⟨"ScriptDesk$Elements", "pushCopy", "(I)V"⟩
abbrev w_Elements_pushCopy : List Cond := .code y_Elements_pushCopy prog_3_method_12_code 3 (Option.none : Option Jvm.ClassFile.FieldType) :: sx_tbl
abbrev y_Elements_lift : MethodName := ⟨"ScriptDesk$Elements", "lift", "(I)V"⟩
abbrev w_Elements_lift : List Cond := .code y_Elements_lift prog_3_method_16_code 5 (Option.none : Option Jvm.ClassFile.FieldType) :: sx_tbl
abbrev y_Moves_pick : MethodName := ⟨"ScriptDesk$Moves", "pick", "(LScriptDesk$Elements;Z)I"⟩
abbrev w_Moves_pick : List Cond := .code y_Moves_pick prog_5_method_4_code 5 (Option.some Jvm.ClassFile.FieldType.int) :: sx_tbl
abbrev y_Moves_operandsOf : MethodName := ⟨"ScriptDesk$Moves", "operandsOf", "(I)I"⟩
abbrev w_Moves_operandsOf : List Cond := .code y_Moves_operandsOf prog_5_method_3_code 1 (Option.some Jvm.ClassFile.FieldType.int) :: sx_tbl
abbrev y_Elements_pushCopies : MethodName := ⟨"ScriptDesk$Elements", "pushCopies", "(II)V"⟩
abbrev w_Elements_pushCopies : List Cond := .code y_Elements_pushCopies prog_3_method_13_code 4 (Option.none : Option Jvm.ClassFile.FieldType) :: sx_tbl
abbrev y_Moves_moveSingles : MethodName := ⟨"ScriptDesk$Moves", "moveSingles", "(LScriptDesk$Elements;I)V"⟩
abbrev w_Moves_moveSingles : List Cond := .code y_Moves_moveSingles prog_5_method_6_code 2 (Option.none : Option Jvm.ClassFile.FieldType) :: sx_tbl
abbrev y_Moves_moveGroups : MethodName := ⟨"ScriptDesk$Moves", "moveGroups", "(LScriptDesk$Elements;I)V"⟩
abbrev w_Moves_moveGroups : List Cond := .code y_Moves_moveGroups prog_5_method_5_code 2 (Option.none : Option Jvm.ClassFile.FieldType) :: sx_tbl
abbrev y_Elements_areSame : MethodName := ⟨"ScriptDesk$Elements", "areSame", "(II)Z"⟩
abbrev w_Elements_areSame : List Cond := .code y_Elements_areSame prog_3_method_6_code 5 (Option.some Jvm.ClassFile.FieldType.boolean) :: sx_tbl
abbrev y_Moves_look : MethodName := ⟨"ScriptDesk$Moves", "look", "(LScriptDesk$Elements;I)I"⟩
abbrev w_Moves_look : List Cond := .code y_Moves_look prog_5_method_7_code 3 (Option.some Jvm.ClassFile.FieldType.int) :: sx_tbl
abbrev y_Moves_perform : MethodName := ⟨"ScriptDesk$Moves", "perform", "(LScriptDesk$Elements;I)I"⟩
abbrev w_Moves_perform : List Cond := .code y_Moves_perform prog_5_method_2_code 3 (Option.some Jvm.ClassFile.FieldType.int) :: sx_tbl
abbrev y_Elements_swapSlots : MethodName := ⟨"ScriptDesk$Elements", "swapSlots", "(II)V"⟩
abbrev w_Elements_swapSlots : List Cond := .code y_Elements_swapSlots prog_3_method_20_code 4 (Option.none : Option Jvm.ClassFile.FieldType) :: sx_tbl
abbrev y_Elements_toSide : MethodName := ⟨"ScriptDesk$Elements", "toSide", "()I"⟩
abbrev w_Elements_toSide : List Cond := .code y_Elements_toSide prog_3_method_17_code 1 (Option.some Jvm.ClassFile.FieldType.int) :: sx_tbl
abbrev y_Elements_fromSide : MethodName := ⟨"ScriptDesk$Elements", "fromSide", "()I"⟩
abbrev w_Elements_fromSide : List Cond := .code y_Elements_fromSide prog_3_method_18_code 1 (Option.some Jvm.ClassFile.FieldType.int) :: sx_tbl
abbrev y_Desk_performPlain : MethodName := ⟨"ScriptDesk", "performPlain", "(I)I"⟩
abbrev w_Desk_performPlain : List Cond := .code y_Desk_performPlain prog_1_method_18_code 2 (Option.some Jvm.ClassFile.FieldType.int) :: sx_tbl
abbrev y_Desk_pushSmallNumber : MethodName := ⟨"ScriptDesk", "pushSmallNumber", "(I)I"⟩
abbrev w_Desk_pushSmallNumber : List Cond := .code y_Desk_pushSmallNumber prog_1_method_17_code 2 (Option.some Jvm.ClassFile.FieldType.int) :: sx_tbl
abbrev y_Desk_perform : MethodName := ⟨"ScriptDesk", "perform", "(I)I"⟩
abbrev w_Desk_perform : List Cond := .code y_Desk_perform prog_1_method_14_code 2 (Option.some Jvm.ClassFile.FieldType.int) :: sx_tbl
abbrev y_Elements_areTooMany : MethodName := ⟨"ScriptDesk$Elements", "areTooMany", "()Z"⟩
abbrev w_Elements_areTooMany : List Cond := .code y_Elements_areTooMany prog_3_method_2_code 1 (Option.some Jvm.ClassFile.FieldType.boolean) :: sx_tbl
abbrev y_Desk_pushFromScript : MethodName := ⟨"ScriptDesk", "pushFromScript", "(III)I"⟩
abbrev w_Desk_pushFromScript : List Cond := .code y_Desk_pushFromScript prog_1_method_13_code 7 (Option.some Jvm.ClassFile.FieldType.int) :: sx_tbl
abbrev y_Elements_dropSide : MethodName := ⟨"ScriptDesk$Elements", "dropSide", "()V"⟩
abbrev w_Elements_dropSide : List Cond := .code y_Elements_dropSide prog_3_method_10_code 1 (Option.none : Option Jvm.ClassFile.FieldType) :: sx_tbl
abbrev y_Desk_run : MethodName := ⟨"ScriptDesk", "run", "()I"⟩
abbrev w_Desk_run : List Cond := .code y_Desk_run prog_1_method_4_code 6 (Option.some Jvm.ClassFile.FieldType.int) :: sx_tbl
abbrev y_Desk_place : MethodName := ⟨"ScriptDesk", "place", "()I"⟩
abbrev w_Desk_place : List Cond := .code y_Desk_place prog_1_method_5_code 1 (Option.some Jvm.ClassFile.FieldType.int) :: sx_tbl
abbrev y_Desk_clear : MethodName := ⟨"ScriptDesk", "clear", "()I"⟩
abbrev w_Desk_clear : List Cond := .code y_Desk_clear prog_1_method_6_code 2 (Option.some Jvm.ClassFile.FieldType.int) :: sx_tbl
abbrev y_Desk_size : MethodName := ⟨"ScriptDesk", "size", "()I"⟩
abbrev w_Desk_size : List Cond := .code y_Desk_size prog_1_method_7_code 1 (Option.some Jvm.ClassFile.FieldType.int) :: sx_tbl
abbrev y_Desk_isTrue : MethodName := ⟨"ScriptDesk", "isTrue", "()Z"⟩
abbrev w_Desk_isTrue : List Cond := .code y_Desk_isTrue prog_1_method_8_code 1 (Option.some Jvm.ClassFile.FieldType.boolean) :: sx_tbl
abbrev y_Desk_bytes : MethodName := ⟨"ScriptDesk", "bytes", "(I)I"⟩
abbrev w_Desk_bytes : List Cond := .code y_Desk_bytes prog_1_method_9_code 2 (Option.some Jvm.ClassFile.FieldType.int) :: sx_tbl
abbrev y_Desk_byteOf : MethodName := ⟨"ScriptDesk", "byteOf", "(II)I"⟩
abbrev w_Desk_byteOf : List Cond := .code y_Desk_byteOf prog_1_method_10_code 3 (Option.some Jvm.ClassFile.FieldType.int) :: sx_tbl
abbrev y_Desk_count : MethodName := ⟨"ScriptDesk", "count", "(I)I"⟩
abbrev w_Desk_count : List Cond := .code y_Desk_count prog_1_method_11_code 2 (Option.some Jvm.ClassFile.FieldType.int) :: sx_tbl
abbrev y_Model_put : MethodName := ⟨"ScriptDeskModel", "put", "(JI)Z"⟩
abbrev w_Model_put : List Cond := .code y_Model_put prog_12_method_2_code 5 (Option.some Jvm.ClassFile.FieldType.boolean) :: sx_tbl
abbrev y_Model_secret : MethodName := ⟨"ScriptDeskModel", "secret", "(I)V"⟩
abbrev w_Model_secret : List Cond := .code y_Model_secret prog_12_method_3_code 2 (Option.none : Option Jvm.ClassFile.FieldType) :: sx_tbl
abbrev y_Model_isDone : MethodName := ⟨"ScriptDeskModel", "isDone", "()Z"⟩
abbrev w_Model_isDone : List Cond := .code y_Model_isDone prog_12_method_24_code 1 (Option.some Jvm.ClassFile.FieldType.boolean) :: sx_tbl
abbrev y_Model_fails : MethodName := ⟨"ScriptDeskModel", "fails", "(I)V"⟩
abbrev w_Model_fails : List Cond := .code y_Model_fails prog_12_method_11_code 2 (Option.none : Option Jvm.ClassFile.FieldType) :: sx_tbl
abbrev y_Model_has : MethodName := ⟨"ScriptDeskModel", "has", "(I)Z"⟩
abbrev w_Model_has : List Cond := .code y_Model_has prog_12_method_12_code 2 (Option.some Jvm.ClassFile.FieldType.boolean) :: sx_tbl
abbrev y_Model_isTrueRow : MethodName := ⟨"ScriptDeskModel", "isTrueRow", "(I)Z"⟩
abbrev w_Model_isTrueRow : List Cond := .code y_Model_isTrueRow prog_12_method_9_code 5 (Option.some Jvm.ClassFile.FieldType.boolean) :: sx_tbl
abbrev y_Model_flow : MethodName := ⟨"ScriptDeskModel", "flow", "(I)V"⟩
abbrev w_Model_flow : List Cond := .code y_Model_flow prog_12_method_25_code 3 (Option.none : Option Jvm.ClassFile.FieldType) :: sx_tbl
abbrev y_Model_top : MethodName := ⟨"ScriptDeskModel", "top", "(I)I"⟩
abbrev w_Model_top : List Cond := .code y_Model_top prog_12_method_5_code 2 (Option.some Jvm.ClassFile.FieldType.int) :: sx_tbl
abbrev y_Model_isSame : MethodName := ⟨"ScriptDeskModel", "isSame", "(II)Z"⟩
abbrev w_Model_isSame : List Cond := .code y_Model_isSame prog_12_method_10_code 5 (Option.some Jvm.ClassFile.FieldType.boolean) :: sx_tbl
abbrev y_Model_pushNumber : MethodName := ⟨"ScriptDeskModel", "pushNumber", "(J)V"⟩
abbrev w_Model_pushNumber : List Cond := .code y_Model_pushNumber prog_12_method_7_code 6 (Option.none : Option Jvm.ClassFile.FieldType) :: sx_tbl
abbrev y_Model_pushTruth : MethodName := ⟨"ScriptDeskModel", "pushTruth", "(Z)V"⟩
abbrev w_Model_pushTruth : List Cond := .code y_Model_pushTruth prog_12_method_8_code 2 (Option.none : Option Jvm.ClassFile.FieldType) :: sx_tbl
abbrev y_Model_mustBeTrue : MethodName := ⟨"ScriptDeskModel", "mustBeTrue", "()V"⟩
abbrev w_Model_mustBeTrue : List Cond := .code y_Model_mustBeTrue prog_12_method_14_code 1 (Option.none : Option Jvm.ClassFile.FieldType) :: sx_tbl
abbrev y_Model_equal : MethodName := ⟨"ScriptDeskModel", "equal", "(Z)V"⟩
abbrev w_Model_equal : List Cond := .code y_Model_equal prog_12_method_31_code 3 (Option.none : Option Jvm.ClassFile.FieldType) :: sx_tbl
abbrev y_Model_reads : MethodName := ⟨"ScriptDeskModel", "reads", "(I)Z"⟩
abbrev w_Model_reads : List Cond := .code y_Model_reads prog_12_method_13_code 5 (Option.some Jvm.ClassFile.FieldType.boolean) :: sx_tbl
abbrev y_Model_numberOfOne : MethodName := ⟨"ScriptDeskModel", "numberOfOne", "(I)V"⟩
abbrev w_Model_numberOfOne : List Cond := .code y_Model_numberOfOne prog_12_method_32_code 4 (Option.none : Option Jvm.ClassFile.FieldType) :: sx_tbl
abbrev y_Model_numberOfTwo : MethodName := ⟨"ScriptDeskModel", "numberOfTwo", "(I)V"⟩
abbrev w_Model_numberOfTwo : List Cond := .code y_Model_numberOfTwo prog_12_method_33_code 6 (Option.none : Option Jvm.ClassFile.FieldType) :: sx_tbl
abbrev y_Model_pad : MethodName := ⟨"ScriptDeskModel", "pad", "(IZ)I"⟩
abbrev w_Model_pad : List Cond := .code y_Model_pad prog_12_method_15_code 7 (Option.some Jvm.ClassFile.FieldType.int) :: sx_tbl
abbrev y_Model_mixed : MethodName := ⟨"ScriptDeskModel", "mixed", "(IIII)I"⟩
abbrev w_Model_mixed : List Cond := .code y_Model_mixed prog_12_method_18_code 4 (Option.some Jvm.ClassFile.FieldType.int) :: sx_tbl
abbrev y_Model_right : MethodName := ⟨"ScriptDeskModel", "right", "(II)I"⟩
abbrev w_Model_right : List Cond := .code y_Model_right prog_12_method_16_code 2 (Option.some Jvm.ClassFile.FieldType.int) :: sx_tbl
abbrev y_Model_step : MethodName := ⟨"ScriptDeskModel", "step", "(III)V"⟩
abbrev w_Model_step : List Cond := .code y_Model_step prog_12_method_20_code 5 (Option.none : Option Jvm.ClassFile.FieldType) :: sx_tbl
abbrev y_Model_small : MethodName := ⟨"ScriptDeskModel", "small", "(I)V"⟩
abbrev w_Model_small : List Cond := .code y_Model_small prog_12_method_19_code 8 (Option.none : Option Jvm.ClassFile.FieldType) :: sx_tbl
abbrev y_Model_wide : MethodName := ⟨"ScriptDeskModel", "wide", "(I)V"⟩
abbrev w_Model_wide : List Cond := .code y_Model_wide prog_12_method_17_code 8 (Option.none : Option Jvm.ClassFile.FieldType) :: sx_tbl
abbrev y_Model_digest : MethodName := ⟨"ScriptDeskModel", "digest", "(I)V"⟩
abbrev w_Model_digest : List Cond := .code y_Model_digest prog_12_method_34_code 2 (Option.none : Option Jvm.ClassFile.FieldType) :: sx_tbl
abbrev y_Model_fit : MethodName := ⟨"ScriptDeskModel", "fit", "(II)Z"⟩
abbrev w_Model_fit : List Cond := .code y_Model_fit prog_12_method_21_code 5 (Option.some Jvm.ClassFile.FieldType.boolean) :: sx_tbl
abbrev y_Model_one : MethodName := ⟨"ScriptDeskModel", "one", "(Z)V"⟩
abbrev w_Model_one : List Cond := .code y_Model_one prog_12_method_22_code 3 (Option.none : Option Jvm.ClassFile.FieldType) :: sx_tbl
abbrev y_Model_several : MethodName := ⟨"ScriptDeskModel", "several", "(Z)V"⟩
abbrev w_Model_several : List Cond := .code y_Model_several prog_12_method_23_code 6 (Option.none : Option Jvm.ClassFile.FieldType) :: sx_tbl
abbrev y_Model_copy : MethodName := ⟨"ScriptDeskModel", "copy", "(II)V"⟩
abbrev w_Model_copy : List Cond := .code y_Model_copy prog_12_method_4_code 4 (Option.none : Option Jvm.ClassFile.FieldType) :: sx_tbl
abbrev y_Model_push : MethodName := ⟨"ScriptDeskModel", "push", "(I)V"⟩
abbrev w_Model_push : List Cond := .code y_Model_push prog_12_method_6_code 2 (Option.none : Option Jvm.ClassFile.FieldType) :: sx_tbl
abbrev y_Model_again : MethodName := ⟨"ScriptDeskModel", "again", "(III)V"⟩
abbrev w_Model_again : List Cond := .code y_Model_again prog_12_method_26_code 6 (Option.none : Option Jvm.ClassFile.FieldType) :: sx_tbl
abbrev y_Model_turn : MethodName := ⟨"ScriptDeskModel", "turn", "(II)V"⟩
abbrev w_Model_turn : List Cond := .code y_Model_turn prog_12_method_27_code 5 (Option.none : Option Jvm.ClassFile.FieldType) :: sx_tbl
abbrev y_Model_takeOut : MethodName := ⟨"ScriptDeskModel", "takeOut", "(I)V"⟩
abbrev w_Model_takeOut : List Cond := .code y_Model_takeOut prog_12_method_28_code 3 (Option.none : Option Jvm.ClassFile.FieldType) :: sx_tbl
abbrev y_Model_pick : MethodName := ⟨"ScriptDeskModel", "pick", "(Z)V"⟩
abbrev w_Model_pick : List Cond := .code y_Model_pick prog_12_method_29_code 3 (Option.none : Option Jvm.ClassFile.FieldType) :: sx_tbl
abbrev y_Model_moves : MethodName := ⟨"ScriptDeskModel", "moves", "(I)V"⟩
abbrev w_Model_moves : List Cond := .code y_Model_moves prog_12_method_30_code 2 (Option.none : Option Jvm.ClassFile.FieldType) :: sx_tbl
abbrev y_Model_operation : MethodName := ⟨"ScriptDeskModel", "operation", "(I)V"⟩
abbrev w_Model_operation : List Cond := .code y_Model_operation prog_12_method_35_code 2 (Option.none : Option Jvm.ClassFile.FieldType) :: sx_tbl
abbrev y_Model_pushes : MethodName := ⟨"ScriptDeskModel", "pushes", "(IIZ)I"⟩
abbrev w_Model_pushes : List Cond := .code y_Model_pushes prog_12_method_36_code 5 (Option.some Jvm.ClassFile.FieldType.int) :: sx_tbl
abbrev y_Model_next : MethodName := ⟨"ScriptDeskModel", "next", "(I)I"⟩
abbrev w_Model_next : List Cond := .code y_Model_next prog_12_method_37_code 6 (Option.some Jvm.ClassFile.FieldType.int) :: sx_tbl
abbrev y_Model_run : MethodName := ⟨"ScriptDeskModel", "run", "()I"⟩
abbrev w_Model_run : List Cond := .code y_Model_run prog_12_method_38_code 3 (Option.some Jvm.ClassFile.FieldType.int) :: sx_tbl
abbrev y_Model_place : MethodName := ⟨"ScriptDeskModel", "place", "()I"⟩
abbrev w_Model_place : List Cond := .code y_Model_place prog_12_method_39_code 1 (Option.some Jvm.ClassFile.FieldType.int) :: sx_tbl
abbrev y_Model_clear : MethodName := ⟨"ScriptDeskModel", "clear", "()I"⟩
abbrev w_Model_clear : List Cond := .code y_Model_clear prog_12_method_40_code 2 (Option.some Jvm.ClassFile.FieldType.int) :: sx_tbl
abbrev y_Model_size : MethodName := ⟨"ScriptDeskModel", "size", "()I"⟩
abbrev w_Model_size : List Cond := .code y_Model_size prog_12_method_41_code 1 (Option.some Jvm.ClassFile.FieldType.int) :: sx_tbl
abbrev y_Model_isTrue : MethodName := ⟨"ScriptDeskModel", "isTrue", "()Z"⟩
abbrev w_Model_isTrue : List Cond := .code y_Model_isTrue prog_12_method_42_code 1 (Option.some Jvm.ClassFile.FieldType.boolean) :: sx_tbl
abbrev y_Model_bytes : MethodName := ⟨"ScriptDeskModel", "bytes", "(I)I"⟩
abbrev w_Model_bytes : List Cond := .code y_Model_bytes prog_12_method_43_code 2 (Option.some Jvm.ClassFile.FieldType.int) :: sx_tbl
abbrev y_Model_byteOf : MethodName := ⟨"ScriptDeskModel", "byteOf", "(II)I"⟩
abbrev w_Model_byteOf : List Cond := .code y_Model_byteOf prog_12_method_44_code 3 (Option.some Jvm.ClassFile.FieldType.int) :: sx_tbl
abbrev y_Model_count : MethodName := ⟨"ScriptDeskModel", "count", "(I)I"⟩
abbrev w_Model_count : List Cond := .code y_Model_count prog_12_method_45_code 2 (Option.some Jvm.ClassFile.FieldType.int) :: sx_tbl
theorem tw_1 : (Jvm.Cond.initialized "ScriptDesk") ∈ sx_tbl := tw_of (i := 1) (by decide +kernel) rfl
theorem tw_2 : (Jvm.Cond.initialized "ScriptDesk$Elements") ∈ sx_tbl := tw_of (i := 2) (by decide +kernel) rfl
theorem tw_3 : (Jvm.Cond.initialized "ScriptDesk$Tally") ∈ sx_tbl := tw_of (i := 3) (by decide +kernel) rfl
theorem tw_4 : (Jvm.Cond.initialized "ScriptDesk$Flow") ∈ sx_tbl := tw_of (i := 4) (by decide +kernel) rfl
theorem tw_5 : (Jvm.Cond.initialized "ScriptDesk$Signatures") ∈ sx_tbl := tw_of (i := 5) (by decide +kernel) rfl
theorem tw_6 : (Jvm.Cond.initialized "ScriptDesk$BlockDigest") ∈ sx_tbl := tw_of (i := 6) (by decide +kernel) rfl
theorem tw_7 : (Jvm.Cond.initialized "ScriptDesk$Sha256") ∈ sx_tbl := tw_of (i := 7) (by decide +kernel) rfl
theorem tw_8 : (Jvm.Cond.initialized "ScriptDesk$Ripemd160") ∈ sx_tbl := tw_of (i := 8) (by decide +kernel) rfl
theorem tw_9 : (Jvm.Cond.initialized "ScriptDeskModel") ∈ sx_tbl := tw_of (i := 9) (by decide +kernel) rfl
theorem tw_10 : (Jvm.Cond.initialized "java/lang/System") ∈ sx_tbl := tw_of (i := 10) (by decide +kernel) rfl
theorem tw_11 : (Jvm.Cond.initialized "java/lang/Math") ∈ sx_tbl := tw_of (i := 11) (by decide +kernel) rfl
theorem tw_12 : (Jvm.Cond.initialized "ScriptDesk$Moves") ∈ sx_tbl := tw_of (i := 12) (by decide +kernel) rfl
theorem tw_13 : (Jvm.Cond.initialized "ScriptDesk$Numbers") ∈ sx_tbl := tw_of (i := 13) (by decide +kernel) rfl
theorem tw_14 : (Jvm.Cond.initialized "java/util/Arrays") ∈ sx_tbl := tw_of (i := 14) (by decide +kernel) rfl
theorem tw_29 : (Jvm.Cond.fieldLink "ScriptDesk$Elements" (11 : Nat) "ScriptDesk$Elements" "octets" "[I") ∈ sx_tbl := tw_of (i := 29) (by decide +kernel) rfl
theorem tw_30 : (Jvm.Cond.fieldLink "ScriptDesk$Elements" (15 : Nat) "ScriptDesk$Elements" "lengths" "[I") ∈ sx_tbl := tw_of (i := 30) (by decide +kernel) rfl
theorem tw_31 : (Jvm.Cond.fieldLink "ScriptDesk$Elements" (18 : Nat) "ScriptDesk$Elements" "order" "[I") ∈ sx_tbl := tw_of (i := 31) (by decide +kernel) rfl
theorem tw_32 : (Jvm.Cond.fieldLink "ScriptDesk$Elements" (25 : Nat) "ScriptDesk$Elements" "side" "I") ∈ sx_tbl := tw_of (i := 32) (by decide +kernel) rfl
theorem tw_33 : (Jvm.Cond.fieldLink "ScriptDesk$Elements" (21 : Nat) "ScriptDesk$Elements" "depth" "I") ∈ sx_tbl := tw_of (i := 33) (by decide +kernel) rfl
theorem tw_34 : (Jvm.Cond.fieldLink "ScriptDesk$Moves" (19 : Nat) "ScriptDesk$Elements" "depth" "I") ∈ sx_tbl := tw_of (i := 34) (by decide +kernel) rfl
theorem tw_35 : (Jvm.Cond.fieldLink "ScriptDesk$Signatures" (25 : Nat) "ScriptDesk$Elements" "depth" "I") ∈ sx_tbl := tw_of (i := 35) (by decide +kernel) rfl
theorem tw_36 : (Jvm.Cond.fieldLink "ScriptDesk" (90 : Nat) "ScriptDesk$Elements" "depth" "I") ∈ sx_tbl := tw_of (i := 36) (by decide +kernel) rfl
theorem tw_55 : (Jvm.Cond.fieldLink "ScriptDesk$Tally" (9 : Nat) "ScriptDesk$Tally" "operations" "I") ∈ sx_tbl := tw_of (i := 55) (by decide +kernel) rfl
theorem tw_56 : (Jvm.Cond.fieldLink "ScriptDesk" (107 : Nat) "ScriptDesk$Tally" "operations" "I") ∈ sx_tbl := tw_of (i := 56) (by decide +kernel) rfl
theorem tw_66 : (Jvm.Cond.fieldLink "ScriptDesk$Flow" (7 : Nat) "ScriptDesk$Flow" "open" "I") ∈ sx_tbl := tw_of (i := 66) (by decide +kernel) rfl
theorem tw_67 : (Jvm.Cond.fieldLink "ScriptDesk$Flow" (13 : Nat) "ScriptDesk$Flow" "firstNotDone" "I") ∈ sx_tbl := tw_of (i := 67) (by decide +kernel) rfl
theorem tw_79 : (Jvm.Cond.fieldLink "ScriptDesk" (66 : Nat) "ScriptDesk$Signatures" "hidden" "I") ∈ sx_tbl := tw_of (i := 79) (by decide +kernel) rfl
theorem tw_80 : (Jvm.Cond.fieldLink "ScriptDesk$Signatures" (68 : Nat) "ScriptDesk$Signatures" "hidden" "I") ∈ sx_tbl := tw_of (i := 80) (by decide +kernel) rfl
theorem tw_81 : (Jvm.Cond.fieldLink "ScriptDesk$Signatures" (58 : Nat) "ScriptDesk$Signatures" "asked" "I") ∈ sx_tbl := tw_of (i := 81) (by decide +kernel) rfl
theorem tw_82 : (Jvm.Cond.fieldLink "ScriptDesk" (110 : Nat) "ScriptDesk$Signatures" "asked" "I") ∈ sx_tbl := tw_of (i := 82) (by decide +kernel) rfl
theorem tw_97 : (Jvm.Cond.fieldLink "ScriptDesk$BlockDigest" (11 : Nat) "ScriptDesk$BlockDigest" "message" "[I") ∈ sx_tbl := tw_of (i := 97) (by decide +kernel) rfl
theorem tw_98 : (Jvm.Cond.fieldLink "ScriptDesk$BlockDigest" (25 : Nat) "ScriptDesk$BlockDigest" "result" "[I") ∈ sx_tbl := tw_of (i := 98) (by decide +kernel) rfl
theorem tw_99 : (Jvm.Cond.fieldLink "ScriptDesk$BlockDigest" (15 : Nat) "ScriptDesk$BlockDigest" "highFirst" "Z") ∈ sx_tbl := tw_of (i := 99) (by decide +kernel) rfl
theorem tw_100 : (Jvm.Cond.fieldLink "ScriptDesk$BlockDigest" (19 : Nat) "ScriptDesk$BlockDigest" "words" "[I") ∈ sx_tbl := tw_of (i := 100) (by decide +kernel) rfl
theorem tw_101 : (Jvm.Cond.fieldLink "ScriptDesk$Ripemd160" (28 : Nat) "ScriptDesk$Ripemd160" "words" "[I") ∈ sx_tbl := tw_of (i := 101) (by decide +kernel) rfl
theorem tw_102 : (Jvm.Cond.sameField "ScriptDesk$Ripemd160" "ScriptDesk$BlockDigest" "words" "[I") ∈ sx_tbl := tw_of (i := 102) (by decide +kernel) rfl
theorem tw_103 : (Jvm.Cond.fieldLink "ScriptDesk$Sha256" (33 : Nat) "ScriptDesk$Sha256" "words" "[I") ∈ sx_tbl := tw_of (i := 103) (by decide +kernel) rfl
theorem tw_104 : (Jvm.Cond.sameField "ScriptDesk$Sha256" "ScriptDesk$BlockDigest" "words" "[I") ∈ sx_tbl := tw_of (i := 104) (by decide +kernel) rfl
theorem tw_105 : (Jvm.Cond.fieldLink "ScriptDesk$BlockDigest" (22 : Nat) "ScriptDesk$BlockDigest" "state" "[I") ∈ sx_tbl := tw_of (i := 105) (by decide +kernel) rfl
theorem tw_106 : (Jvm.Cond.fieldLink "ScriptDesk$Ripemd160" (19 : Nat) "ScriptDesk$Ripemd160" "state" "[I") ∈ sx_tbl := tw_of (i := 106) (by decide +kernel) rfl
theorem tw_107 : (Jvm.Cond.sameField "ScriptDesk$Ripemd160" "ScriptDesk$BlockDigest" "state" "[I") ∈ sx_tbl := tw_of (i := 107) (by decide +kernel) rfl
theorem tw_108 : (Jvm.Cond.fieldLink "ScriptDesk$Sha256" (13 : Nat) "ScriptDesk$Sha256" "state" "[I") ∈ sx_tbl := tw_of (i := 108) (by decide +kernel) rfl
theorem tw_109 : (Jvm.Cond.sameField "ScriptDesk$Sha256" "ScriptDesk$BlockDigest" "state" "[I") ∈ sx_tbl := tw_of (i := 109) (by decide +kernel) rfl
theorem tw_127 : (Jvm.Cond.fieldLink "ScriptDesk$Ripemd160" (7 : Nat) "ScriptDesk$Ripemd160" "left" "[I") ∈ sx_tbl := tw_of (i := 127) (by decide +kernel) rfl
theorem tw_128 : (Jvm.Cond.fieldLink "ScriptDesk$Ripemd160" (13 : Nat) "ScriptDesk$Ripemd160" "right" "[I") ∈ sx_tbl := tw_of (i := 128) (by decide +kernel) rfl
theorem tw_139 : (Jvm.Cond.fieldLink "ScriptDesk" (9 : Nat) "ScriptDesk" "script" "[I") ∈ sx_tbl := tw_of (i := 139) (by decide +kernel) rfl
theorem tw_140 : (Jvm.Cond.fieldLink "ScriptDesk" (13 : Nat) "ScriptDesk" "scriptLength" "I") ∈ sx_tbl := tw_of (i := 140) (by decide +kernel) rfl
theorem tw_141 : (Jvm.Cond.fieldLink "ScriptDesk" (17 : Nat) "ScriptDesk" "next" "I") ∈ sx_tbl := tw_of (i := 141) (by decide +kernel) rfl
theorem tw_142 : (Jvm.Cond.fieldLink "ScriptDesk" (20 : Nat) "ScriptDesk" "stoppedAt" "I") ∈ sx_tbl := tw_of (i := 142) (by decide +kernel) rfl
theorem tw_143 : (Jvm.Cond.fieldLink "ScriptDesk" (26 : Nat) "ScriptDesk" "elements" "LScriptDesk$Elements;") ∈ sx_tbl := tw_of (i := 143) (by decide +kernel) rfl
theorem tw_144 : (Jvm.Cond.fieldLink "ScriptDesk" (33 : Nat) "ScriptDesk" "tally" "LScriptDesk$Tally;") ∈ sx_tbl := tw_of (i := 144) (by decide +kernel) rfl
theorem tw_145 : (Jvm.Cond.fieldLink "ScriptDesk" (40 : Nat) "ScriptDesk" "flow" "LScriptDesk$Flow;") ∈ sx_tbl := tw_of (i := 145) (by decide +kernel) rfl
theorem tw_146 : (Jvm.Cond.fieldLink "ScriptDesk" (47 : Nat) "ScriptDesk" "signatures" "LScriptDesk$Signatures;") ∈ sx_tbl := tw_of (i := 146) (by decide +kernel) rfl
theorem tw_147 : (Jvm.Cond.fieldLink "ScriptDesk" (54 : Nat) "ScriptDesk" "sha256" "LScriptDesk$BlockDigest;") ∈ sx_tbl := tw_of (i := 147) (by decide +kernel) rfl
theorem tw_148 : (Jvm.Cond.fieldLink "ScriptDesk" (61 : Nat) "ScriptDesk" "ripemd160" "LScriptDesk$BlockDigest;") ∈ sx_tbl := tw_of (i := 148) (by decide +kernel) rfl
theorem tw_174 : (Jvm.Cond.constantLong "ScriptDesk" (64 : Nat) (255 : Int64)) ∈ sx_tbl := tw_of (i := 174) (by decide +kernel) rfl
theorem tw_183 : (Jvm.Cond.methodLink "ScriptDesk" (69 : Nat) ({ cls := "ScriptDesk", name := "restart", desc := "()V" } : Jvm.MethodName)) ∈ sx_tbl := tw_of (i := 183) (by decide +kernel) rfl
theorem tw_185 : (Jvm.Cond.instanceMethod ({ cls := "ScriptDesk", name := "restart", desc := "()V" } : Jvm.MethodName)) ∈ sx_tbl := tw_of (i := 185) (by decide +kernel) rfl
set_option maxRecDepth 20000 in
theorem tw_186 : (Jvm.Cond.code ({ cls := "ScriptDesk", name := "restart", desc := "()V" } : Jvm.MethodName) prog_1_method_12_code (1 : Nat) (Option.none : Option Jvm.ClassFile.FieldType)) ∈ sx_tbl := tw_of (i := 186) rfl rfl
theorem tw_187 : (Jvm.Cond.methodLink "ScriptDesk" (113 : Nat) ({ cls := "ScriptDesk$Flow", name := "restart", desc := "()V" } : Jvm.MethodName)) ∈ sx_tbl := tw_of (i := 187) (by decide +kernel) rfl
theorem tw_188 : (Jvm.Cond.instanceMethod ({ cls := "ScriptDesk$Flow", name := "restart", desc := "()V" } : Jvm.MethodName)) ∈ sx_tbl := tw_of (i := 188) (by decide +kernel) rfl
theorem tw_189 : (Jvm.Cond.selects "ScriptDesk$Flow" ({ cls := "ScriptDesk$Flow", name := "restart", desc := "()V" } : Jvm.MethodName) ({ cls := "ScriptDesk$Flow", name := "restart", desc := "()V" } : Jvm.MethodName)) ∈ sx_tbl := tw_of (i := 189) (by decide +kernel) rfl
set_option maxRecDepth 20000 in
theorem tw_190 : (Jvm.Cond.code ({ cls := "ScriptDesk$Flow", name := "restart", desc := "()V" } : Jvm.MethodName) prog_4_method_2_code (1 : Nat) (Option.none : Option Jvm.ClassFile.FieldType)) ∈ sx_tbl := tw_of (i := 190) rfl rfl
theorem tw_191 : (Jvm.Cond.methodLink "ScriptDesk" (72 : Nat) ({ cls := "ScriptDesk", name := "pushFromScript", desc := "(III)I" } : Jvm.MethodName)) ∈ sx_tbl := tw_of (i := 191) (by decide +kernel) rfl
theorem tw_193 : (Jvm.Cond.instanceMethod ({ cls := "ScriptDesk", name := "pushFromScript", desc := "(III)I" } : Jvm.MethodName)) ∈ sx_tbl := tw_of (i := 193) (by decide +kernel) rfl
set_option maxRecDepth 20000 in
theorem tw_194 : (Jvm.Cond.code ({ cls := "ScriptDesk", name := "pushFromScript", desc := "(III)I" } : Jvm.MethodName) prog_1_method_13_code (7 : Nat) (Option.some Jvm.ClassFile.FieldType.int)) ∈ sx_tbl := tw_of (i := 194) rfl rfl
theorem tw_195 : (Jvm.Cond.methodLink "ScriptDesk" (114 : Nat) ({ cls := "ScriptDesk$Flow", name := "isDone", desc := "()Z" } : Jvm.MethodName)) ∈ sx_tbl := tw_of (i := 195) (by decide +kernel) rfl
theorem tw_196 : (Jvm.Cond.instanceMethod ({ cls := "ScriptDesk$Flow", name := "isDone", desc := "()Z" } : Jvm.MethodName)) ∈ sx_tbl := tw_of (i := 196) (by decide +kernel) rfl
theorem tw_197 : (Jvm.Cond.selects "ScriptDesk$Flow" ({ cls := "ScriptDesk$Flow", name := "isDone", desc := "()Z" } : Jvm.MethodName) ({ cls := "ScriptDesk$Flow", name := "isDone", desc := "()Z" } : Jvm.MethodName)) ∈ sx_tbl := tw_of (i := 197) (by decide +kernel) rfl
set_option maxRecDepth 20000 in
theorem tw_198 : (Jvm.Cond.code ({ cls := "ScriptDesk$Flow", name := "isDone", desc := "()Z" } : Jvm.MethodName) prog_4_method_4_code (1 : Nat) (Option.some Jvm.ClassFile.FieldType.boolean)) ∈ sx_tbl := tw_of (i := 198) rfl rfl
theorem tw_199 : (Jvm.Cond.methodLink "ScriptDesk" (117 : Nat) ({ cls := "ScriptDesk$Elements", name := "push", desc := "([III)V" } : Jvm.MethodName)) ∈ sx_tbl := tw_of (i := 199) (by decide +kernel) rfl
theorem tw_200 : (Jvm.Cond.instanceMethod ({ cls := "ScriptDesk$Elements", name := "push", desc := "([III)V" } : Jvm.MethodName)) ∈ sx_tbl := tw_of (i := 200) (by decide +kernel) rfl
theorem tw_201 : (Jvm.Cond.selects "ScriptDesk$Elements" ({ cls := "ScriptDesk$Elements", name := "push", desc := "([III)V" } : Jvm.MethodName) ({ cls := "ScriptDesk$Elements", name := "push", desc := "([III)V" } : Jvm.MethodName)) ∈ sx_tbl := tw_of (i := 201) (by decide +kernel) rfl
set_option maxRecDepth 20000 in
theorem tw_202 : (Jvm.Cond.code ({ cls := "ScriptDesk$Elements", name := "push", desc := "([III)V" } : Jvm.MethodName) prog_3_method_11_code (5 : Nat) (Option.none : Option Jvm.ClassFile.FieldType)) ∈ sx_tbl := tw_of (i := 202) rfl rfl
theorem tw_203 : (Jvm.Cond.methodLink "ScriptDesk$Elements" (43 : Nat) ({ cls := "java/lang/System", name := "arraycopy", desc := "(Ljava/lang/Object;ILjava/lang/Object;II)V" } : Jvm.MethodName)) ∈ sx_tbl := tw_of (i := 203) (by decide +kernel) rfl
theorem tw_204 : (Jvm.Cond.static ({ cls := "java/lang/System", name := "arraycopy", desc := "(Ljava/lang/Object;ILjava/lang/Object;II)V" } : Jvm.MethodName)) ∈ sx_tbl := tw_of (i := 204) (by decide +kernel) rfl
theorem tw_205 : (Jvm.Cond.native ({ cls := "java/lang/System", name := "arraycopy", desc := "(Ljava/lang/Object;ILjava/lang/Object;II)V" } : Jvm.MethodName)) ∈ sx_tbl := tw_of (i := 205) (by decide +kernel) rfl
theorem tw_206 : (Jvm.Cond.methodLink "ScriptDesk" (76 : Nat) ({ cls := "ScriptDesk", name := "perform", desc := "(I)I" } : Jvm.MethodName)) ∈ sx_tbl := tw_of (i := 206) (by decide +kernel) rfl
theorem tw_208 : (Jvm.Cond.instanceMethod ({ cls := "ScriptDesk", name := "perform", desc := "(I)I" } : Jvm.MethodName)) ∈ sx_tbl := tw_of (i := 208) (by decide +kernel) rfl
set_option maxRecDepth 20000 in
theorem tw_209 : (Jvm.Cond.code ({ cls := "ScriptDesk", name := "perform", desc := "(I)I" } : Jvm.MethodName) prog_1_method_14_code (2 : Nat) (Option.some Jvm.ClassFile.FieldType.int)) ∈ sx_tbl := tw_of (i := 209) rfl rfl
theorem tw_210 : (Jvm.Cond.methodLink "ScriptDesk" (121 : Nat) ({ cls := "ScriptDesk$Tally", name := "passesLimit", desc := "(I)Z" } : Jvm.MethodName)) ∈ sx_tbl := tw_of (i := 210) (by decide +kernel) rfl
theorem tw_211 : (Jvm.Cond.instanceMethod ({ cls := "ScriptDesk$Tally", name := "passesLimit", desc := "(I)Z" } : Jvm.MethodName)) ∈ sx_tbl := tw_of (i := 211) (by decide +kernel) rfl
theorem tw_212 : (Jvm.Cond.selects "ScriptDesk$Tally" ({ cls := "ScriptDesk$Tally", name := "passesLimit", desc := "(I)Z" } : Jvm.MethodName) ({ cls := "ScriptDesk$Tally", name := "passesLimit", desc := "(I)Z" } : Jvm.MethodName)) ∈ sx_tbl := tw_of (i := 212) (by decide +kernel) rfl
set_option maxRecDepth 20000 in
theorem tw_213 : (Jvm.Cond.code ({ cls := "ScriptDesk$Tally", name := "passesLimit", desc := "(I)Z" } : Jvm.MethodName) prog_10_method_2_code (2 : Nat) (Option.some Jvm.ClassFile.FieldType.boolean)) ∈ sx_tbl := tw_of (i := 213) rfl rfl
theorem tw_214 : (Jvm.Cond.methodLink "ScriptDesk" (125 : Nat) ({ cls := "ScriptDesk", name := "enterPart", desc := "(Z)I" } : Jvm.MethodName)) ∈ sx_tbl := tw_of (i := 214) (by decide +kernel) rfl
theorem tw_216 : (Jvm.Cond.instanceMethod ({ cls := "ScriptDesk", name := "enterPart", desc := "(Z)I" } : Jvm.MethodName)) ∈ sx_tbl := tw_of (i := 216) (by decide +kernel) rfl
set_option maxRecDepth 20000 in
theorem tw_217 : (Jvm.Cond.code ({ cls := "ScriptDesk", name := "enterPart", desc := "(Z)I" } : Jvm.MethodName) prog_1_method_15_code (3 : Nat) (Option.some Jvm.ClassFile.FieldType.int)) ∈ sx_tbl := tw_of (i := 217) rfl rfl
theorem tw_218 : (Jvm.Cond.methodLink "ScriptDesk" (152 : Nat) ({ cls := "ScriptDesk$Flow", name := "enter", desc := "(Z)V" } : Jvm.MethodName)) ∈ sx_tbl := tw_of (i := 218) (by decide +kernel) rfl
theorem tw_219 : (Jvm.Cond.instanceMethod ({ cls := "ScriptDesk$Flow", name := "enter", desc := "(Z)V" } : Jvm.MethodName)) ∈ sx_tbl := tw_of (i := 219) (by decide +kernel) rfl
theorem tw_220 : (Jvm.Cond.selects "ScriptDesk$Flow" ({ cls := "ScriptDesk$Flow", name := "enter", desc := "(Z)V" } : Jvm.MethodName) ({ cls := "ScriptDesk$Flow", name := "enter", desc := "(Z)V" } : Jvm.MethodName)) ∈ sx_tbl := tw_of (i := 220) (by decide +kernel) rfl
set_option maxRecDepth 20000 in
theorem tw_221 : (Jvm.Cond.code ({ cls := "ScriptDesk$Flow", name := "enter", desc := "(Z)V" } : Jvm.MethodName) prog_4_method_5_code (2 : Nat) (Option.none : Option Jvm.ClassFile.FieldType)) ∈ sx_tbl := tw_of (i := 221) rfl rfl
theorem tw_222 : (Jvm.Cond.methodLink "ScriptDesk" (97 : Nat) ({ cls := "ScriptDesk$Elements", name := "topHolds", desc := "()Z" } : Jvm.MethodName)) ∈ sx_tbl := tw_of (i := 222) (by decide +kernel) rfl
theorem tw_223 : (Jvm.Cond.instanceMethod ({ cls := "ScriptDesk$Elements", name := "topHolds", desc := "()Z" } : Jvm.MethodName)) ∈ sx_tbl := tw_of (i := 223) (by decide +kernel) rfl
theorem tw_224 : (Jvm.Cond.selects "ScriptDesk$Elements" ({ cls := "ScriptDesk$Elements", name := "topHolds", desc := "()Z" } : Jvm.MethodName) ({ cls := "ScriptDesk$Elements", name := "topHolds", desc := "()Z" } : Jvm.MethodName)) ∈ sx_tbl := tw_of (i := 224) (by decide +kernel) rfl
set_option maxRecDepth 20000 in
theorem tw_225 : (Jvm.Cond.code ({ cls := "ScriptDesk$Elements", name := "topHolds", desc := "()Z" } : Jvm.MethodName) prog_3_method_5_code (3 : Nat) (Option.some Jvm.ClassFile.FieldType.boolean)) ∈ sx_tbl := tw_of (i := 225) rfl rfl
theorem tw_226 : (Jvm.Cond.methodLink "ScriptDesk$Elements" (28 : Nat) ({ cls := "ScriptDesk$Elements", name := "lengthAt", desc := "(I)I" } : Jvm.MethodName)) ∈ sx_tbl := tw_of (i := 226) (by decide +kernel) rfl
theorem tw_227 : (Jvm.Cond.instanceMethod ({ cls := "ScriptDesk$Elements", name := "lengthAt", desc := "(I)I" } : Jvm.MethodName)) ∈ sx_tbl := tw_of (i := 227) (by decide +kernel) rfl
theorem tw_228 : (Jvm.Cond.selects "ScriptDesk$Elements" ({ cls := "ScriptDesk$Elements", name := "lengthAt", desc := "(I)I" } : Jvm.MethodName) ({ cls := "ScriptDesk$Elements", name := "lengthAt", desc := "(I)I" } : Jvm.MethodName)) ∈ sx_tbl := tw_of (i := 228) (by decide +kernel) rfl
set_option maxRecDepth 20000 in
theorem tw_229 : (Jvm.Cond.code ({ cls := "ScriptDesk$Elements", name := "lengthAt", desc := "(I)I" } : Jvm.MethodName) prog_3_method_3_code (2 : Nat) (Option.some Jvm.ClassFile.FieldType.int)) ∈ sx_tbl := tw_of (i := 229) rfl rfl
theorem tw_230 : (Jvm.Cond.methodLink "ScriptDesk$Elements" (32 : Nat) ({ cls := "ScriptDesk$Elements", name := "octetAt", desc := "(II)I" } : Jvm.MethodName)) ∈ sx_tbl := tw_of (i := 230) (by decide +kernel) rfl
theorem tw_231 : (Jvm.Cond.instanceMethod ({ cls := "ScriptDesk$Elements", name := "octetAt", desc := "(II)I" } : Jvm.MethodName)) ∈ sx_tbl := tw_of (i := 231) (by decide +kernel) rfl
theorem tw_232 : (Jvm.Cond.selects "ScriptDesk$Elements" ({ cls := "ScriptDesk$Elements", name := "octetAt", desc := "(II)I" } : Jvm.MethodName) ({ cls := "ScriptDesk$Elements", name := "octetAt", desc := "(II)I" } : Jvm.MethodName)) ∈ sx_tbl := tw_of (i := 232) (by decide +kernel) rfl
set_option maxRecDepth 20000 in
theorem tw_233 : (Jvm.Cond.code ({ cls := "ScriptDesk$Elements", name := "octetAt", desc := "(II)I" } : Jvm.MethodName) prog_3_method_4_code (4 : Nat) (Option.some Jvm.ClassFile.FieldType.int)) ∈ sx_tbl := tw_of (i := 233) rfl rfl
theorem tw_234 : (Jvm.Cond.methodLink "ScriptDesk" (93 : Nat) ({ cls := "ScriptDesk$Elements", name := "drop", desc := "(I)V" } : Jvm.MethodName)) ∈ sx_tbl := tw_of (i := 234) (by decide +kernel) rfl
theorem tw_235 : (Jvm.Cond.instanceMethod ({ cls := "ScriptDesk$Elements", name := "drop", desc := "(I)V" } : Jvm.MethodName)) ∈ sx_tbl := tw_of (i := 235) (by decide +kernel) rfl
theorem tw_236 : (Jvm.Cond.selects "ScriptDesk$Elements" ({ cls := "ScriptDesk$Elements", name := "drop", desc := "(I)V" } : Jvm.MethodName) ({ cls := "ScriptDesk$Elements", name := "drop", desc := "(I)V" } : Jvm.MethodName)) ∈ sx_tbl := tw_of (i := 236) (by decide +kernel) rfl
set_option maxRecDepth 20000 in
theorem tw_237 : (Jvm.Cond.code ({ cls := "ScriptDesk$Elements", name := "drop", desc := "(I)V" } : Jvm.MethodName) prog_3_method_9_code (2 : Nat) (Option.none : Option Jvm.ClassFile.FieldType)) ∈ sx_tbl := tw_of (i := 237) rfl rfl
theorem tw_238 : (Jvm.Cond.methodLink "ScriptDesk$Elements" (38 : Nat) ({ cls := "java/lang/Math", name := "max", desc := "(II)I" } : Jvm.MethodName)) ∈ sx_tbl := tw_of (i := 238) (by decide +kernel) rfl
theorem tw_239 : (Jvm.Cond.static ({ cls := "java/lang/Math", name := "max", desc := "(II)I" } : Jvm.MethodName)) ∈ sx_tbl := tw_of (i := 239) (by decide +kernel) rfl
set_option maxRecDepth 20000 in
theorem tw_240 : (Jvm.Cond.code ({ cls := "java/lang/Math", name := "max", desc := "(II)I" } : Jvm.MethodName) prog_13_method_65_code (2 : Nat) (Option.some Jvm.ClassFile.FieldType.int)) ∈ sx_tbl := tw_of (i := 240) rfl rfl
theorem tw_241 : (Jvm.Cond.methodLink "ScriptDesk" (129 : Nat) ({ cls := "ScriptDesk", name := "leavePart", desc := "(Z)I" } : Jvm.MethodName)) ∈ sx_tbl := tw_of (i := 241) (by decide +kernel) rfl
theorem tw_243 : (Jvm.Cond.instanceMethod ({ cls := "ScriptDesk", name := "leavePart", desc := "(Z)I" } : Jvm.MethodName)) ∈ sx_tbl := tw_of (i := 243) (by decide +kernel) rfl
set_option maxRecDepth 20000 in
theorem tw_244 : (Jvm.Cond.code ({ cls := "ScriptDesk", name := "leavePart", desc := "(Z)I" } : Jvm.MethodName) prog_1_method_16_code (2 : Nat) (Option.some Jvm.ClassFile.FieldType.int)) ∈ sx_tbl := tw_of (i := 244) rfl rfl
theorem tw_245 : (Jvm.Cond.methodLink "ScriptDesk" (84 : Nat) ({ cls := "ScriptDesk$Flow", name := "isInside", desc := "()Z" } : Jvm.MethodName)) ∈ sx_tbl := tw_of (i := 245) (by decide +kernel) rfl
theorem tw_246 : (Jvm.Cond.instanceMethod ({ cls := "ScriptDesk$Flow", name := "isInside", desc := "()Z" } : Jvm.MethodName)) ∈ sx_tbl := tw_of (i := 246) (by decide +kernel) rfl
theorem tw_247 : (Jvm.Cond.selects "ScriptDesk$Flow" ({ cls := "ScriptDesk$Flow", name := "isInside", desc := "()Z" } : Jvm.MethodName) ({ cls := "ScriptDesk$Flow", name := "isInside", desc := "()Z" } : Jvm.MethodName)) ∈ sx_tbl := tw_of (i := 247) (by decide +kernel) rfl
set_option maxRecDepth 20000 in
theorem tw_248 : (Jvm.Cond.code ({ cls := "ScriptDesk$Flow", name := "isInside", desc := "()Z" } : Jvm.MethodName) prog_4_method_3_code (1 : Nat) (Option.some Jvm.ClassFile.FieldType.boolean)) ∈ sx_tbl := tw_of (i := 248) rfl rfl
theorem tw_249 : (Jvm.Cond.methodLink "ScriptDesk" (156 : Nat) ({ cls := "ScriptDesk$Flow", name := "end", desc := "()V" } : Jvm.MethodName)) ∈ sx_tbl := tw_of (i := 249) (by decide +kernel) rfl
theorem tw_250 : (Jvm.Cond.instanceMethod ({ cls := "ScriptDesk$Flow", name := "end", desc := "()V" } : Jvm.MethodName)) ∈ sx_tbl := tw_of (i := 250) (by decide +kernel) rfl
theorem tw_251 : (Jvm.Cond.selects "ScriptDesk$Flow" ({ cls := "ScriptDesk$Flow", name := "end", desc := "()V" } : Jvm.MethodName) ({ cls := "ScriptDesk$Flow", name := "end", desc := "()V" } : Jvm.MethodName)) ∈ sx_tbl := tw_of (i := 251) (by decide +kernel) rfl
set_option maxRecDepth 20000 in
theorem tw_252 : (Jvm.Cond.code ({ cls := "ScriptDesk$Flow", name := "end", desc := "()V" } : Jvm.MethodName) prog_4_method_7_code (1 : Nat) (Option.none : Option Jvm.ClassFile.FieldType)) ∈ sx_tbl := tw_of (i := 252) rfl rfl
theorem tw_253 : (Jvm.Cond.methodLink "ScriptDesk" (159 : Nat) ({ cls := "ScriptDesk$Flow", name := "turn", desc := "()V" } : Jvm.MethodName)) ∈ sx_tbl := tw_of (i := 253) (by decide +kernel) rfl
theorem tw_254 : (Jvm.Cond.instanceMethod ({ cls := "ScriptDesk$Flow", name := "turn", desc := "()V" } : Jvm.MethodName)) ∈ sx_tbl := tw_of (i := 254) (by decide +kernel) rfl
theorem tw_255 : (Jvm.Cond.selects "ScriptDesk$Flow" ({ cls := "ScriptDesk$Flow", name := "turn", desc := "()V" } : Jvm.MethodName) ({ cls := "ScriptDesk$Flow", name := "turn", desc := "()V" } : Jvm.MethodName)) ∈ sx_tbl := tw_of (i := 255) (by decide +kernel) rfl
set_option maxRecDepth 20000 in
theorem tw_256 : (Jvm.Cond.code ({ cls := "ScriptDesk$Flow", name := "turn", desc := "()V" } : Jvm.MethodName) prog_4_method_6_code (1 : Nat) (Option.none : Option Jvm.ClassFile.FieldType)) ∈ sx_tbl := tw_of (i := 256) rfl rfl
theorem tw_257 : (Jvm.Cond.methodLink "ScriptDesk" (132 : Nat) ({ cls := "ScriptDesk", name := "pushSmallNumber", desc := "(I)I" } : Jvm.MethodName)) ∈ sx_tbl := tw_of (i := 257) (by decide +kernel) rfl
theorem tw_259 : (Jvm.Cond.instanceMethod ({ cls := "ScriptDesk", name := "pushSmallNumber", desc := "(I)I" } : Jvm.MethodName)) ∈ sx_tbl := tw_of (i := 259) (by decide +kernel) rfl
set_option maxRecDepth 20000 in
theorem tw_260 : (Jvm.Cond.code ({ cls := "ScriptDesk", name := "pushSmallNumber", desc := "(I)I" } : Jvm.MethodName) prog_1_method_17_code (2 : Nat) (Option.some Jvm.ClassFile.FieldType.int)) ∈ sx_tbl := tw_of (i := 260) rfl rfl
theorem tw_261 : (Jvm.Cond.methodLink "ScriptDesk" (162 : Nat) ({ cls := "ScriptDesk$Elements", name := "pushNumber", desc := "(J)V" } : Jvm.MethodName)) ∈ sx_tbl := tw_of (i := 261) (by decide +kernel) rfl
theorem tw_262 : (Jvm.Cond.instanceMethod ({ cls := "ScriptDesk$Elements", name := "pushNumber", desc := "(J)V" } : Jvm.MethodName)) ∈ sx_tbl := tw_of (i := 262) (by decide +kernel) rfl
theorem tw_263 : (Jvm.Cond.selects "ScriptDesk$Elements" ({ cls := "ScriptDesk$Elements", name := "pushNumber", desc := "(J)V" } : Jvm.MethodName) ({ cls := "ScriptDesk$Elements", name := "pushNumber", desc := "(J)V" } : Jvm.MethodName)) ∈ sx_tbl := tw_of (i := 263) (by decide +kernel) rfl
set_option maxRecDepth 20000 in
theorem tw_264 : (Jvm.Cond.code ({ cls := "ScriptDesk$Elements", name := "pushNumber", desc := "(J)V" } : Jvm.MethodName) prog_3_method_14_code (8 : Nat) (Option.none : Option Jvm.ClassFile.FieldType)) ∈ sx_tbl := tw_of (i := 264) rfl rfl
theorem tw_265 : (Jvm.Cond.constantLong "ScriptDesk$Elements" (57 : Nat) (255 : Int64)) ∈ sx_tbl := tw_of (i := 265) (by decide +kernel) rfl
theorem tw_266 : (Jvm.Cond.methodLink "ScriptDesk" (135 : Nat) ({ cls := "ScriptDesk", name := "performPlain", desc := "(I)I" } : Jvm.MethodName)) ∈ sx_tbl := tw_of (i := 266) (by decide +kernel) rfl
theorem tw_268 : (Jvm.Cond.instanceMethod ({ cls := "ScriptDesk", name := "performPlain", desc := "(I)I" } : Jvm.MethodName)) ∈ sx_tbl := tw_of (i := 268) (by decide +kernel) rfl
set_option maxRecDepth 20000 in
theorem tw_269 : (Jvm.Cond.code ({ cls := "ScriptDesk", name := "performPlain", desc := "(I)I" } : Jvm.MethodName) prog_1_method_18_code (2 : Nat) (Option.some Jvm.ClassFile.FieldType.int)) ∈ sx_tbl := tw_of (i := 269) rfl rfl
theorem tw_270 : (Jvm.Cond.methodLink "ScriptDesk" (166 : Nat) ({ cls := "ScriptDesk$Elements", name := "takeTrue", desc := "()I" } : Jvm.MethodName)) ∈ sx_tbl := tw_of (i := 270) (by decide +kernel) rfl
theorem tw_271 : (Jvm.Cond.instanceMethod ({ cls := "ScriptDesk$Elements", name := "takeTrue", desc := "()I" } : Jvm.MethodName)) ∈ sx_tbl := tw_of (i := 271) (by decide +kernel) rfl
theorem tw_272 : (Jvm.Cond.selects "ScriptDesk$Elements" ({ cls := "ScriptDesk$Elements", name := "takeTrue", desc := "()I" } : Jvm.MethodName) ({ cls := "ScriptDesk$Elements", name := "takeTrue", desc := "()I" } : Jvm.MethodName)) ∈ sx_tbl := tw_of (i := 272) (by decide +kernel) rfl
set_option maxRecDepth 20000 in
theorem tw_273 : (Jvm.Cond.code ({ cls := "ScriptDesk$Elements", name := "takeTrue", desc := "()I" } : Jvm.MethodName) prog_3_method_19_code (1 : Nat) (Option.some Jvm.ClassFile.FieldType.int)) ∈ sx_tbl := tw_of (i := 273) rfl rfl
theorem tw_274 : (Jvm.Cond.methodLink "ScriptDesk$Elements" (70 : Nat) ({ cls := "ScriptDesk$Elements", name := "topHolds", desc := "()Z" } : Jvm.MethodName)) ∈ sx_tbl := tw_of (i := 274) (by decide +kernel) rfl
theorem tw_275 : (Jvm.Cond.methodLink "ScriptDesk$Elements" (59 : Nat) ({ cls := "ScriptDesk$Elements", name := "drop", desc := "(I)V" } : Jvm.MethodName)) ∈ sx_tbl := tw_of (i := 275) (by decide +kernel) rfl
theorem tw_276 : (Jvm.Cond.methodLink "ScriptDesk" (170 : Nat) ({ cls := "ScriptDesk$Elements", name := "toSide", desc := "()I" } : Jvm.MethodName)) ∈ sx_tbl := tw_of (i := 276) (by decide +kernel) rfl
theorem tw_277 : (Jvm.Cond.instanceMethod ({ cls := "ScriptDesk$Elements", name := "toSide", desc := "()I" } : Jvm.MethodName)) ∈ sx_tbl := tw_of (i := 277) (by decide +kernel) rfl
theorem tw_278 : (Jvm.Cond.selects "ScriptDesk$Elements" ({ cls := "ScriptDesk$Elements", name := "toSide", desc := "()I" } : Jvm.MethodName) ({ cls := "ScriptDesk$Elements", name := "toSide", desc := "()I" } : Jvm.MethodName)) ∈ sx_tbl := tw_of (i := 278) (by decide +kernel) rfl
set_option maxRecDepth 20000 in
theorem tw_279 : (Jvm.Cond.code ({ cls := "ScriptDesk$Elements", name := "toSide", desc := "()I" } : Jvm.MethodName) prog_3_method_17_code (1 : Nat) (Option.some Jvm.ClassFile.FieldType.int)) ∈ sx_tbl := tw_of (i := 279) rfl rfl
theorem tw_280 : (Jvm.Cond.methodLink "ScriptDesk$Elements" (66 : Nat) ({ cls := "ScriptDesk$Elements", name := "swapSlots", desc := "(II)V" } : Jvm.MethodName)) ∈ sx_tbl := tw_of (i := 280) (by decide +kernel) rfl
theorem tw_282 : (Jvm.Cond.instanceMethod ({ cls := "ScriptDesk$Elements", name := "swapSlots", desc := "(II)V" } : Jvm.MethodName)) ∈ sx_tbl := tw_of (i := 282) (by decide +kernel) rfl
set_option maxRecDepth 20000 in
theorem tw_283 : (Jvm.Cond.code ({ cls := "ScriptDesk$Elements", name := "swapSlots", desc := "(II)V" } : Jvm.MethodName) prog_3_method_20_code (4 : Nat) (Option.none : Option Jvm.ClassFile.FieldType)) ∈ sx_tbl := tw_of (i := 283) rfl rfl
theorem tw_284 : (Jvm.Cond.methodLink "ScriptDesk" (173 : Nat) ({ cls := "ScriptDesk$Elements", name := "fromSide", desc := "()I" } : Jvm.MethodName)) ∈ sx_tbl := tw_of (i := 284) (by decide +kernel) rfl
theorem tw_285 : (Jvm.Cond.instanceMethod ({ cls := "ScriptDesk$Elements", name := "fromSide", desc := "()I" } : Jvm.MethodName)) ∈ sx_tbl := tw_of (i := 285) (by decide +kernel) rfl
theorem tw_286 : (Jvm.Cond.selects "ScriptDesk$Elements" ({ cls := "ScriptDesk$Elements", name := "fromSide", desc := "()I" } : Jvm.MethodName) ({ cls := "ScriptDesk$Elements", name := "fromSide", desc := "()I" } : Jvm.MethodName)) ∈ sx_tbl := tw_of (i := 286) (by decide +kernel) rfl
set_option maxRecDepth 20000 in
theorem tw_287 : (Jvm.Cond.code ({ cls := "ScriptDesk$Elements", name := "fromSide", desc := "()I" } : Jvm.MethodName) prog_3_method_18_code (1 : Nat) (Option.some Jvm.ClassFile.FieldType.int)) ∈ sx_tbl := tw_of (i := 287) rfl rfl
theorem tw_288 : (Jvm.Cond.methodLink "ScriptDesk" (138 : Nat) ({ cls := "ScriptDesk$Moves", name := "perform", desc := "(LScriptDesk$Elements;I)I" } : Jvm.MethodName)) ∈ sx_tbl := tw_of (i := 288) (by decide +kernel) rfl
theorem tw_289 : (Jvm.Cond.static ({ cls := "ScriptDesk$Moves", name := "perform", desc := "(LScriptDesk$Elements;I)I" } : Jvm.MethodName)) ∈ sx_tbl := tw_of (i := 289) (by decide +kernel) rfl
set_option maxRecDepth 20000 in
theorem tw_290 : (Jvm.Cond.code ({ cls := "ScriptDesk$Moves", name := "perform", desc := "(LScriptDesk$Elements;I)I" } : Jvm.MethodName) prog_5_method_2_code (3 : Nat) (Option.some Jvm.ClassFile.FieldType.int)) ∈ sx_tbl := tw_of (i := 290) rfl rfl
theorem tw_291 : (Jvm.Cond.methodLink "ScriptDesk$Moves" (9 : Nat) ({ cls := "ScriptDesk$Moves", name := "pick", desc := "(LScriptDesk$Elements;Z)I" } : Jvm.MethodName)) ∈ sx_tbl := tw_of (i := 291) (by decide +kernel) rfl
theorem tw_292 : (Jvm.Cond.static ({ cls := "ScriptDesk$Moves", name := "pick", desc := "(LScriptDesk$Elements;Z)I" } : Jvm.MethodName)) ∈ sx_tbl := tw_of (i := 292) (by decide +kernel) rfl
set_option maxRecDepth 20000 in
theorem tw_293 : (Jvm.Cond.code ({ cls := "ScriptDesk$Moves", name := "pick", desc := "(LScriptDesk$Elements;Z)I" } : Jvm.MethodName) prog_5_method_4_code (5 : Nat) (Option.some Jvm.ClassFile.FieldType.int)) ∈ sx_tbl := tw_of (i := 293) rfl rfl
theorem tw_294 : (Jvm.Cond.methodLink "ScriptDesk$Moves" (36 : Nat) ({ cls := "ScriptDesk$Elements", name := "faultOfNumber", desc := "(I)I" } : Jvm.MethodName)) ∈ sx_tbl := tw_of (i := 294) (by decide +kernel) rfl
theorem tw_295 : (Jvm.Cond.instanceMethod ({ cls := "ScriptDesk$Elements", name := "faultOfNumber", desc := "(I)I" } : Jvm.MethodName)) ∈ sx_tbl := tw_of (i := 295) (by decide +kernel) rfl
theorem tw_296 : (Jvm.Cond.selects "ScriptDesk$Elements" ({ cls := "ScriptDesk$Elements", name := "faultOfNumber", desc := "(I)I" } : Jvm.MethodName) ({ cls := "ScriptDesk$Elements", name := "faultOfNumber", desc := "(I)I" } : Jvm.MethodName)) ∈ sx_tbl := tw_of (i := 296) (by decide +kernel) rfl
set_option maxRecDepth 20000 in
theorem tw_297 : (Jvm.Cond.code ({ cls := "ScriptDesk$Elements", name := "faultOfNumber", desc := "(I)I" } : Jvm.MethodName) prog_3_method_7_code (2 : Nat) (Option.some Jvm.ClassFile.FieldType.int)) ∈ sx_tbl := tw_of (i := 297) rfl rfl
theorem tw_298 : (Jvm.Cond.methodLink "ScriptDesk$Moves" (39 : Nat) ({ cls := "ScriptDesk$Elements", name := "numberAt", desc := "(I)J" } : Jvm.MethodName)) ∈ sx_tbl := tw_of (i := 298) (by decide +kernel) rfl
theorem tw_299 : (Jvm.Cond.instanceMethod ({ cls := "ScriptDesk$Elements", name := "numberAt", desc := "(I)J" } : Jvm.MethodName)) ∈ sx_tbl := tw_of (i := 299) (by decide +kernel) rfl
theorem tw_300 : (Jvm.Cond.selects "ScriptDesk$Elements" ({ cls := "ScriptDesk$Elements", name := "numberAt", desc := "(I)J" } : Jvm.MethodName) ({ cls := "ScriptDesk$Elements", name := "numberAt", desc := "(I)J" } : Jvm.MethodName)) ∈ sx_tbl := tw_of (i := 300) (by decide +kernel) rfl
set_option maxRecDepth 20000 in
theorem tw_301 : (Jvm.Cond.code ({ cls := "ScriptDesk$Elements", name := "numberAt", desc := "(I)J" } : Jvm.MethodName) prog_3_method_8_code (6 : Nat) (Option.some Jvm.ClassFile.FieldType.long)) ∈ sx_tbl := tw_of (i := 301) rfl rfl
theorem tw_302 : (Jvm.Cond.constantLong "ScriptDesk$Elements" (36 : Nat) (256 : Int64)) ∈ sx_tbl := tw_of (i := 302) (by decide +kernel) rfl
theorem tw_303 : (Jvm.Cond.methodLink "ScriptDesk$Moves" (43 : Nat) ({ cls := "ScriptDesk$Elements", name := "drop", desc := "(I)V" } : Jvm.MethodName)) ∈ sx_tbl := tw_of (i := 303) (by decide +kernel) rfl
theorem tw_304 : (Jvm.Cond.methodLink "ScriptDesk$Moves" (47 : Nat) ({ cls := "ScriptDesk$Elements", name := "lift", desc := "(I)V" } : Jvm.MethodName)) ∈ sx_tbl := tw_of (i := 304) (by decide +kernel) rfl
theorem tw_305 : (Jvm.Cond.instanceMethod ({ cls := "ScriptDesk$Elements", name := "lift", desc := "(I)V" } : Jvm.MethodName)) ∈ sx_tbl := tw_of (i := 305) (by decide +kernel) rfl
theorem tw_306 : (Jvm.Cond.selects "ScriptDesk$Elements" ({ cls := "ScriptDesk$Elements", name := "lift", desc := "(I)V" } : Jvm.MethodName) ({ cls := "ScriptDesk$Elements", name := "lift", desc := "(I)V" } : Jvm.MethodName)) ∈ sx_tbl := tw_of (i := 306) (by decide +kernel) rfl
set_option maxRecDepth 20000 in
theorem tw_307 : (Jvm.Cond.code ({ cls := "ScriptDesk$Elements", name := "lift", desc := "(I)V" } : Jvm.MethodName) prog_3_method_16_code (5 : Nat) (Option.none : Option Jvm.ClassFile.FieldType)) ∈ sx_tbl := tw_of (i := 307) rfl rfl
theorem tw_308 : (Jvm.Cond.methodLink "ScriptDesk$Moves" (50 : Nat) ({ cls := "ScriptDesk$Elements", name := "pushCopy", desc := "(I)V" } : Jvm.MethodName)) ∈ sx_tbl := tw_of (i := 308) (by decide +kernel) rfl
theorem tw_309 : (Jvm.Cond.instanceMethod ({ cls := "ScriptDesk$Elements", name := "pushCopy", desc := "(I)V" } : Jvm.MethodName)) ∈ sx_tbl := tw_of (i := 309) (by decide +kernel) rfl
theorem tw_310 : (Jvm.Cond.selects "ScriptDesk$Elements" ({ cls := "ScriptDesk$Elements", name := "pushCopy", desc := "(I)V" } : Jvm.MethodName) ({ cls := "ScriptDesk$Elements", name := "pushCopy", desc := "(I)V" } : Jvm.MethodName)) ∈ sx_tbl := tw_of (i := 310) (by decide +kernel) rfl
set_option maxRecDepth 20000 in
theorem tw_311 : (Jvm.Cond.code ({ cls := "ScriptDesk$Elements", name := "pushCopy", desc := "(I)V" } : Jvm.MethodName) prog_3_method_12_code (3 : Nat) (Option.none : Option Jvm.ClassFile.FieldType)) ∈ sx_tbl := tw_of (i := 311) rfl rfl
theorem tw_312 : (Jvm.Cond.methodLink "ScriptDesk$Elements" (49 : Nat) ({ cls := "ScriptDesk$Elements", name := "push", desc := "([III)V" } : Jvm.MethodName)) ∈ sx_tbl := tw_of (i := 312) (by decide +kernel) rfl
theorem tw_313 : (Jvm.Cond.methodLink "ScriptDesk$Moves" (15 : Nat) ({ cls := "ScriptDesk$Moves", name := "operandsOf", desc := "(I)I" } : Jvm.MethodName)) ∈ sx_tbl := tw_of (i := 313) (by decide +kernel) rfl
theorem tw_314 : (Jvm.Cond.static ({ cls := "ScriptDesk$Moves", name := "operandsOf", desc := "(I)I" } : Jvm.MethodName)) ∈ sx_tbl := tw_of (i := 314) (by decide +kernel) rfl
set_option maxRecDepth 20000 in
theorem tw_315 : (Jvm.Cond.code ({ cls := "ScriptDesk$Moves", name := "operandsOf", desc := "(I)I" } : Jvm.MethodName) prog_5_method_3_code (1 : Nat) (Option.some Jvm.ClassFile.FieldType.int)) ∈ sx_tbl := tw_of (i := 315) rfl rfl
theorem tw_316 : (Jvm.Cond.methodLink "ScriptDesk$Moves" (25 : Nat) ({ cls := "ScriptDesk$Moves", name := "look", desc := "(LScriptDesk$Elements;I)I" } : Jvm.MethodName)) ∈ sx_tbl := tw_of (i := 316) (by decide +kernel) rfl
theorem tw_317 : (Jvm.Cond.static ({ cls := "ScriptDesk$Moves", name := "look", desc := "(LScriptDesk$Elements;I)I" } : Jvm.MethodName)) ∈ sx_tbl := tw_of (i := 317) (by decide +kernel) rfl
set_option maxRecDepth 20000 in
theorem tw_318 : (Jvm.Cond.code ({ cls := "ScriptDesk$Moves", name := "look", desc := "(LScriptDesk$Elements;I)I" } : Jvm.MethodName) prog_5_method_7_code (3 : Nat) (Option.some Jvm.ClassFile.FieldType.int)) ∈ sx_tbl := tw_of (i := 318) rfl rfl
theorem tw_319 : (Jvm.Cond.methodLink "ScriptDesk$Moves" (65 : Nat) ({ cls := "ScriptDesk$Elements", name := "lengthAt", desc := "(I)I" } : Jvm.MethodName)) ∈ sx_tbl := tw_of (i := 319) (by decide +kernel) rfl
theorem tw_320 : (Jvm.Cond.methodLink "ScriptDesk$Moves" (61 : Nat) ({ cls := "ScriptDesk$Elements", name := "pushNumber", desc := "(J)V" } : Jvm.MethodName)) ∈ sx_tbl := tw_of (i := 320) (by decide +kernel) rfl
theorem tw_321 : (Jvm.Cond.methodLink "ScriptDesk$Moves" (68 : Nat) ({ cls := "ScriptDesk$Elements", name := "areSame", desc := "(II)Z" } : Jvm.MethodName)) ∈ sx_tbl := tw_of (i := 321) (by decide +kernel) rfl
theorem tw_322 : (Jvm.Cond.instanceMethod ({ cls := "ScriptDesk$Elements", name := "areSame", desc := "(II)Z" } : Jvm.MethodName)) ∈ sx_tbl := tw_of (i := 322) (by decide +kernel) rfl
theorem tw_323 : (Jvm.Cond.selects "ScriptDesk$Elements" ({ cls := "ScriptDesk$Elements", name := "areSame", desc := "(II)Z" } : Jvm.MethodName) ({ cls := "ScriptDesk$Elements", name := "areSame", desc := "(II)Z" } : Jvm.MethodName)) ∈ sx_tbl := tw_of (i := 323) (by decide +kernel) rfl
set_option maxRecDepth 20000 in
theorem tw_324 : (Jvm.Cond.code ({ cls := "ScriptDesk$Elements", name := "areSame", desc := "(II)Z" } : Jvm.MethodName) prog_3_method_6_code (5 : Nat) (Option.some Jvm.ClassFile.FieldType.boolean)) ∈ sx_tbl := tw_of (i := 324) rfl rfl
theorem tw_325 : (Jvm.Cond.methodLink "ScriptDesk$Moves" (72 : Nat) ({ cls := "ScriptDesk$Elements", name := "replaceByTruth", desc := "(IZ)V" } : Jvm.MethodName)) ∈ sx_tbl := tw_of (i := 325) (by decide +kernel) rfl
theorem tw_326 : (Jvm.Cond.instanceMethod ({ cls := "ScriptDesk$Elements", name := "replaceByTruth", desc := "(IZ)V" } : Jvm.MethodName)) ∈ sx_tbl := tw_of (i := 326) (by decide +kernel) rfl
theorem tw_327 : (Jvm.Cond.selects "ScriptDesk$Elements" ({ cls := "ScriptDesk$Elements", name := "replaceByTruth", desc := "(IZ)V" } : Jvm.MethodName) ({ cls := "ScriptDesk$Elements", name := "replaceByTruth", desc := "(IZ)V" } : Jvm.MethodName)) ∈ sx_tbl := tw_of (i := 327) (by decide +kernel) rfl
set_option maxRecDepth 20000 in
theorem tw_328 : (Jvm.Cond.code ({ cls := "ScriptDesk$Elements", name := "replaceByTruth", desc := "(IZ)V" } : Jvm.MethodName) prog_3_method_15_code (3 : Nat) (Option.none : Option Jvm.ClassFile.FieldType)) ∈ sx_tbl := tw_of (i := 328) rfl rfl
theorem tw_329 : (Jvm.Cond.methodLink "ScriptDesk$Elements" (62 : Nat) ({ cls := "ScriptDesk$Elements", name := "pushNumber", desc := "(J)V" } : Jvm.MethodName)) ∈ sx_tbl := tw_of (i := 329) (by decide +kernel) rfl
theorem tw_330 : (Jvm.Cond.methodLink "ScriptDesk$Moves" (76 : Nat) ({ cls := "ScriptDesk$Elements", name := "takeTrue", desc := "()I" } : Jvm.MethodName)) ∈ sx_tbl := tw_of (i := 330) (by decide +kernel) rfl
theorem tw_331 : (Jvm.Cond.methodLink "ScriptDesk$Moves" (29 : Nat) ({ cls := "ScriptDesk$Moves", name := "moveGroups", desc := "(LScriptDesk$Elements;I)V" } : Jvm.MethodName)) ∈ sx_tbl := tw_of (i := 331) (by decide +kernel) rfl
theorem tw_332 : (Jvm.Cond.static ({ cls := "ScriptDesk$Moves", name := "moveGroups", desc := "(LScriptDesk$Elements;I)V" } : Jvm.MethodName)) ∈ sx_tbl := tw_of (i := 332) (by decide +kernel) rfl
set_option maxRecDepth 20000 in
theorem tw_333 : (Jvm.Cond.code ({ cls := "ScriptDesk$Moves", name := "moveGroups", desc := "(LScriptDesk$Elements;I)V" } : Jvm.MethodName) prog_5_method_5_code (2 : Nat) (Option.none : Option Jvm.ClassFile.FieldType)) ∈ sx_tbl := tw_of (i := 333) rfl rfl
theorem tw_334 : (Jvm.Cond.methodLink "ScriptDesk$Moves" (53 : Nat) ({ cls := "ScriptDesk$Elements", name := "pushCopies", desc := "(II)V" } : Jvm.MethodName)) ∈ sx_tbl := tw_of (i := 334) (by decide +kernel) rfl
theorem tw_335 : (Jvm.Cond.instanceMethod ({ cls := "ScriptDesk$Elements", name := "pushCopies", desc := "(II)V" } : Jvm.MethodName)) ∈ sx_tbl := tw_of (i := 335) (by decide +kernel) rfl
theorem tw_336 : (Jvm.Cond.selects "ScriptDesk$Elements" ({ cls := "ScriptDesk$Elements", name := "pushCopies", desc := "(II)V" } : Jvm.MethodName) ({ cls := "ScriptDesk$Elements", name := "pushCopies", desc := "(II)V" } : Jvm.MethodName)) ∈ sx_tbl := tw_of (i := 336) (by decide +kernel) rfl
set_option maxRecDepth 20000 in
theorem tw_337 : (Jvm.Cond.code ({ cls := "ScriptDesk$Elements", name := "pushCopies", desc := "(II)V" } : Jvm.MethodName) prog_3_method_13_code (4 : Nat) (Option.none : Option Jvm.ClassFile.FieldType)) ∈ sx_tbl := tw_of (i := 337) rfl rfl
theorem tw_338 : (Jvm.Cond.methodLink "ScriptDesk$Elements" (53 : Nat) ({ cls := "ScriptDesk$Elements", name := "pushCopy", desc := "(I)V" } : Jvm.MethodName)) ∈ sx_tbl := tw_of (i := 338) (by decide +kernel) rfl
theorem tw_339 : (Jvm.Cond.methodLink "ScriptDesk$Moves" (33 : Nat) ({ cls := "ScriptDesk$Moves", name := "moveSingles", desc := "(LScriptDesk$Elements;I)V" } : Jvm.MethodName)) ∈ sx_tbl := tw_of (i := 339) (by decide +kernel) rfl
theorem tw_340 : (Jvm.Cond.static ({ cls := "ScriptDesk$Moves", name := "moveSingles", desc := "(LScriptDesk$Elements;I)V" } : Jvm.MethodName)) ∈ sx_tbl := tw_of (i := 340) (by decide +kernel) rfl
set_option maxRecDepth 20000 in
theorem tw_341 : (Jvm.Cond.code ({ cls := "ScriptDesk$Moves", name := "moveSingles", desc := "(LScriptDesk$Elements;I)V" } : Jvm.MethodName) prog_5_method_6_code (2 : Nat) (Option.none : Option Jvm.ClassFile.FieldType)) ∈ sx_tbl := tw_of (i := 341) rfl rfl
theorem tw_342 : (Jvm.Cond.methodLink "ScriptDesk$Moves" (57 : Nat) ({ cls := "ScriptDesk$Elements", name := "topHolds", desc := "()Z" } : Jvm.MethodName)) ∈ sx_tbl := tw_of (i := 342) (by decide +kernel) rfl
theorem tw_343 : (Jvm.Cond.methodLink "ScriptDesk" (143 : Nat) ({ cls := "ScriptDesk$Numbers", name := "perform", desc := "(LScriptDesk$Elements;I)I" } : Jvm.MethodName)) ∈ sx_tbl := tw_of (i := 343) (by decide +kernel) rfl
theorem tw_344 : (Jvm.Cond.static ({ cls := "ScriptDesk$Numbers", name := "perform", desc := "(LScriptDesk$Elements;I)I" } : Jvm.MethodName)) ∈ sx_tbl := tw_of (i := 344) (by decide +kernel) rfl
set_option maxRecDepth 20000 in
theorem tw_345 : (Jvm.Cond.code ({ cls := "ScriptDesk$Numbers", name := "perform", desc := "(LScriptDesk$Elements;I)I" } : Jvm.MethodName) prog_6_method_2_code (5 : Nat) (Option.some Jvm.ClassFile.FieldType.int)) ∈ sx_tbl := tw_of (i := 345) rfl rfl
theorem tw_346 : (Jvm.Cond.methodLink "ScriptDesk$Numbers" (9 : Nat) ({ cls := "ScriptDesk$Numbers", name := "operandsOf", desc := "(I)I" } : Jvm.MethodName)) ∈ sx_tbl := tw_of (i := 346) (by decide +kernel) rfl
theorem tw_347 : (Jvm.Cond.static ({ cls := "ScriptDesk$Numbers", name := "operandsOf", desc := "(I)I" } : Jvm.MethodName)) ∈ sx_tbl := tw_of (i := 347) (by decide +kernel) rfl
set_option maxRecDepth 20000 in
theorem tw_348 : (Jvm.Cond.code ({ cls := "ScriptDesk$Numbers", name := "operandsOf", desc := "(I)I" } : Jvm.MethodName) prog_6_method_3_code (1 : Nat) (Option.some Jvm.ClassFile.FieldType.int)) ∈ sx_tbl := tw_of (i := 348) rfl rfl
theorem tw_349 : (Jvm.Cond.methodLink "ScriptDesk$Numbers" (15 : Nat) ({ cls := "ScriptDesk$Elements", name := "faultOfNumber", desc := "(I)I" } : Jvm.MethodName)) ∈ sx_tbl := tw_of (i := 349) (by decide +kernel) rfl
theorem tw_350 : (Jvm.Cond.methodLink "ScriptDesk$Numbers" (20 : Nat) ({ cls := "ScriptDesk$Numbers", name := "resultOf", desc := "(LScriptDesk$Elements;II)J" } : Jvm.MethodName)) ∈ sx_tbl := tw_of (i := 350) (by decide +kernel) rfl
theorem tw_351 : (Jvm.Cond.static ({ cls := "ScriptDesk$Numbers", name := "resultOf", desc := "(LScriptDesk$Elements;II)J" } : Jvm.MethodName)) ∈ sx_tbl := tw_of (i := 351) (by decide +kernel) rfl
set_option maxRecDepth 20000 in
theorem tw_352 : (Jvm.Cond.code ({ cls := "ScriptDesk$Numbers", name := "resultOf", desc := "(LScriptDesk$Elements;II)J" } : Jvm.MethodName) prog_6_method_4_code (9 : Nat) (Option.some Jvm.ClassFile.FieldType.long)) ∈ sx_tbl := tw_of (i := 352) rfl rfl
theorem tw_353 : (Jvm.Cond.methodLink "ScriptDesk$Numbers" (36 : Nat) ({ cls := "ScriptDesk$Elements", name := "numberAt", desc := "(I)J" } : Jvm.MethodName)) ∈ sx_tbl := tw_of (i := 353) (by decide +kernel) rfl
theorem tw_354 : (Jvm.Cond.methodLink "ScriptDesk$Numbers" (40 : Nat) ({ cls := "ScriptDesk$Numbers", name := "ofOne", desc := "(IJ)J" } : Jvm.MethodName)) ∈ sx_tbl := tw_of (i := 354) (by decide +kernel) rfl
theorem tw_355 : (Jvm.Cond.static ({ cls := "ScriptDesk$Numbers", name := "ofOne", desc := "(IJ)J" } : Jvm.MethodName)) ∈ sx_tbl := tw_of (i := 355) (by decide +kernel) rfl
set_option maxRecDepth 20000 in
theorem tw_356 : (Jvm.Cond.code ({ cls := "ScriptDesk$Numbers", name := "ofOne", desc := "(IJ)J" } : Jvm.MethodName) prog_6_method_5_code (3 : Nat) (Option.some Jvm.ClassFile.FieldType.long)) ∈ sx_tbl := tw_of (i := 356) rfl rfl
theorem tw_357 : (Jvm.Cond.methodLink "ScriptDesk$Numbers" (44 : Nat) ({ cls := "java/lang/Math", name := "min", desc := "(JJ)J" } : Jvm.MethodName)) ∈ sx_tbl := tw_of (i := 357) (by decide +kernel) rfl
theorem tw_358 : (Jvm.Cond.static ({ cls := "java/lang/Math", name := "min", desc := "(JJ)J" } : Jvm.MethodName)) ∈ sx_tbl := tw_of (i := 358) (by decide +kernel) rfl
set_option maxRecDepth 20000 in
theorem tw_359 : (Jvm.Cond.code ({ cls := "java/lang/Math", name := "min", desc := "(JJ)J" } : Jvm.MethodName) prog_13_method_70_code (4 : Nat) (Option.some Jvm.ClassFile.FieldType.long)) ∈ sx_tbl := tw_of (i := 359) rfl rfl
theorem tw_360 : (Jvm.Cond.methodLink "ScriptDesk$Numbers" (50 : Nat) ({ cls := "java/lang/Math", name := "max", desc := "(JJ)J" } : Jvm.MethodName)) ∈ sx_tbl := tw_of (i := 360) (by decide +kernel) rfl
theorem tw_361 : (Jvm.Cond.static ({ cls := "java/lang/Math", name := "max", desc := "(JJ)J" } : Jvm.MethodName)) ∈ sx_tbl := tw_of (i := 361) (by decide +kernel) rfl
set_option maxRecDepth 20000 in
theorem tw_362 : (Jvm.Cond.code ({ cls := "java/lang/Math", name := "max", desc := "(JJ)J" } : Jvm.MethodName) prog_13_method_66_code (4 : Nat) (Option.some Jvm.ClassFile.FieldType.long)) ∈ sx_tbl := tw_of (i := 362) rfl rfl
theorem tw_363 : (Jvm.Cond.methodLink "ScriptDesk$Numbers" (53 : Nat) ({ cls := "ScriptDesk$Numbers", name := "compare", desc := "(IJJ)Z" } : Jvm.MethodName)) ∈ sx_tbl := tw_of (i := 363) (by decide +kernel) rfl
theorem tw_364 : (Jvm.Cond.static ({ cls := "ScriptDesk$Numbers", name := "compare", desc := "(IJJ)Z" } : Jvm.MethodName)) ∈ sx_tbl := tw_of (i := 364) (by decide +kernel) rfl
set_option maxRecDepth 20000 in
theorem tw_365 : (Jvm.Cond.code ({ cls := "ScriptDesk$Numbers", name := "compare", desc := "(IJJ)Z" } : Jvm.MethodName) prog_6_method_6_code (5 : Nat) (Option.some Jvm.ClassFile.FieldType.boolean)) ∈ sx_tbl := tw_of (i := 365) rfl rfl
theorem tw_366 : (Jvm.Cond.methodLink "ScriptDesk$Numbers" (24 : Nat) ({ cls := "ScriptDesk$Elements", name := "drop", desc := "(I)V" } : Jvm.MethodName)) ∈ sx_tbl := tw_of (i := 366) (by decide +kernel) rfl
theorem tw_367 : (Jvm.Cond.methodLink "ScriptDesk$Numbers" (28 : Nat) ({ cls := "ScriptDesk$Elements", name := "pushNumber", desc := "(J)V" } : Jvm.MethodName)) ∈ sx_tbl := tw_of (i := 367) (by decide +kernel) rfl
theorem tw_368 : (Jvm.Cond.methodLink "ScriptDesk$Numbers" (32 : Nat) ({ cls := "ScriptDesk$Elements", name := "takeTrue", desc := "()I" } : Jvm.MethodName)) ∈ sx_tbl := tw_of (i := 368) (by decide +kernel) rfl
theorem tw_369 : (Jvm.Cond.methodLink "ScriptDesk" (146 : Nat) ({ cls := "ScriptDesk", name := "performDigest", desc := "(I)I" } : Jvm.MethodName)) ∈ sx_tbl := tw_of (i := 369) (by decide +kernel) rfl
theorem tw_371 : (Jvm.Cond.instanceMethod ({ cls := "ScriptDesk", name := "performDigest", desc := "(I)I" } : Jvm.MethodName)) ∈ sx_tbl := tw_of (i := 371) (by decide +kernel) rfl
set_option maxRecDepth 20000 in
theorem tw_372 : (Jvm.Cond.code ({ cls := "ScriptDesk", name := "performDigest", desc := "(I)I" } : Jvm.MethodName) prog_1_method_19_code (2 : Nat) (Option.some Jvm.ClassFile.FieldType.int)) ∈ sx_tbl := tw_of (i := 372) rfl rfl
theorem tw_373 : (Jvm.Cond.methodLink "ScriptDesk" (176 : Nat) ({ cls := "ScriptDesk$BlockDigest", name := "replaceTop", desc := "(LScriptDesk$Elements;)V" } : Jvm.MethodName)) ∈ sx_tbl := tw_of (i := 373) (by decide +kernel) rfl
theorem tw_374 : (Jvm.Cond.instanceMethod ({ cls := "ScriptDesk$BlockDigest", name := "replaceTop", desc := "(LScriptDesk$Elements;)V" } : Jvm.MethodName)) ∈ sx_tbl := tw_of (i := 374) (by decide +kernel) rfl
theorem tw_375 : (Jvm.Cond.sameMethod "ScriptDesk$BlockDigest" "ScriptDesk$BlockDigest" "replaceTop" "(LScriptDesk$Elements;)V") ∈ sx_tbl := tw_of (i := 375) (by decide +kernel) rfl
theorem tw_376 : (Jvm.Cond.selects "ScriptDesk$Ripemd160" ({ cls := "ScriptDesk$BlockDigest", name := "replaceTop", desc := "(LScriptDesk$Elements;)V" } : Jvm.MethodName) ({ cls := "ScriptDesk$BlockDigest", name := "replaceTop", desc := "(LScriptDesk$Elements;)V" } : Jvm.MethodName)) ∈ sx_tbl := tw_of (i := 376) (by decide +kernel) rfl
theorem tw_377 : (Jvm.Cond.selects "ScriptDesk$Sha256" ({ cls := "ScriptDesk$BlockDigest", name := "replaceTop", desc := "(LScriptDesk$Elements;)V" } : Jvm.MethodName) ({ cls := "ScriptDesk$BlockDigest", name := "replaceTop", desc := "(LScriptDesk$Elements;)V" } : Jvm.MethodName)) ∈ sx_tbl := tw_of (i := 377) (by decide +kernel) rfl
set_option maxRecDepth 20000 in
theorem tw_378 : (Jvm.Cond.code ({ cls := "ScriptDesk$BlockDigest", name := "replaceTop", desc := "(LScriptDesk$Elements;)V" } : Jvm.MethodName) prog_2_method_4_code (5 : Nat) (Option.none : Option Jvm.ClassFile.FieldType)) ∈ sx_tbl := tw_of (i := 378) rfl rfl
theorem tw_379 : (Jvm.Cond.methodLink "ScriptDesk$BlockDigest" (28 : Nat) ({ cls := "ScriptDesk$Elements", name := "lengthAt", desc := "(I)I" } : Jvm.MethodName)) ∈ sx_tbl := tw_of (i := 379) (by decide +kernel) rfl
theorem tw_380 : (Jvm.Cond.methodLink "ScriptDesk$BlockDigest" (34 : Nat) ({ cls := "ScriptDesk$BlockDigest", name := "pad", desc := "(LScriptDesk$Elements;I)I" } : Jvm.MethodName)) ∈ sx_tbl := tw_of (i := 380) (by decide +kernel) rfl
theorem tw_382 : (Jvm.Cond.instanceMethod ({ cls := "ScriptDesk$BlockDigest", name := "pad", desc := "(LScriptDesk$Elements;I)I" } : Jvm.MethodName)) ∈ sx_tbl := tw_of (i := 382) (by decide +kernel) rfl
set_option maxRecDepth 20000 in
theorem tw_383 : (Jvm.Cond.code ({ cls := "ScriptDesk$BlockDigest", name := "pad", desc := "(LScriptDesk$Elements;I)I" } : Jvm.MethodName) prog_2_method_5_code (5 : Nat) (Option.some Jvm.ClassFile.FieldType.int)) ∈ sx_tbl := tw_of (i := 383) rfl rfl
theorem tw_384 : (Jvm.Cond.methodLink "ScriptDesk$BlockDigest" (59 : Nat) ({ cls := "java/util/Arrays", name := "fill", desc := "([II)V" } : Jvm.MethodName)) ∈ sx_tbl := tw_of (i := 384) (by decide +kernel) rfl
theorem tw_385 : (Jvm.Cond.static ({ cls := "java/util/Arrays", name := "fill", desc := "([II)V" } : Jvm.MethodName)) ∈ sx_tbl := tw_of (i := 385) (by decide +kernel) rfl
set_option maxRecDepth 20000 in
theorem tw_386 : (Jvm.Cond.code ({ cls := "java/util/Arrays", name := "fill", desc := "([II)V" } : Jvm.MethodName) prog_15_method_103_code (4 : Nat) (Option.none : Option Jvm.ClassFile.FieldType)) ∈ sx_tbl := tw_of (i := 386) rfl rfl
theorem tw_387 : (Jvm.Cond.methodLink "ScriptDesk$BlockDigest" (65 : Nat) ({ cls := "ScriptDesk$Elements", name := "octetAt", desc := "(II)I" } : Jvm.MethodName)) ∈ sx_tbl := tw_of (i := 387) (by decide +kernel) rfl
theorem tw_388 : (Jvm.Cond.methodLink "ScriptDesk$BlockDigest" (48 : Nat) ({ cls := "ScriptDesk$BlockDigest", name := "write", desc := "(I[II)V" } : Jvm.MethodName)) ∈ sx_tbl := tw_of (i := 388) (by decide +kernel) rfl
theorem tw_390 : (Jvm.Cond.instanceMethod ({ cls := "ScriptDesk$BlockDigest", name := "write", desc := "(I[II)V" } : Jvm.MethodName)) ∈ sx_tbl := tw_of (i := 390) (by decide +kernel) rfl
set_option maxRecDepth 20000 in
theorem tw_391 : (Jvm.Cond.code ({ cls := "ScriptDesk$BlockDigest", name := "write", desc := "(I[II)V" } : Jvm.MethodName) prog_2_method_7_code (5 : Nat) (Option.none : Option Jvm.ClassFile.FieldType)) ∈ sx_tbl := tw_of (i := 391) rfl rfl
theorem tw_392 : (Jvm.Cond.methodLink "ScriptDesk$BlockDigest" (69 : Nat) ({ cls := "ScriptDesk$BlockDigest", name := "shiftOf", desc := "(I)I" } : Jvm.MethodName)) ∈ sx_tbl := tw_of (i := 392) (by decide +kernel) rfl
theorem tw_394 : (Jvm.Cond.instanceMethod ({ cls := "ScriptDesk$BlockDigest", name := "shiftOf", desc := "(I)I" } : Jvm.MethodName)) ∈ sx_tbl := tw_of (i := 394) (by decide +kernel) rfl
set_option maxRecDepth 20000 in
theorem tw_395 : (Jvm.Cond.code ({ cls := "ScriptDesk$BlockDigest", name := "shiftOf", desc := "(I)I" } : Jvm.MethodName) prog_2_method_8_code (2 : Nat) (Option.some Jvm.ClassFile.FieldType.int)) ∈ sx_tbl := tw_of (i := 395) rfl rfl
theorem tw_396 : (Jvm.Cond.methodLink "ScriptDesk$BlockDigest" (38 : Nat) ({ cls := "ScriptDesk$BlockDigest", name := "begin", desc := "()V" } : Jvm.MethodName)) ∈ sx_tbl := tw_of (i := 396) (by decide +kernel) rfl
theorem tw_398 : (Jvm.Cond.sameMethod "ScriptDesk$BlockDigest" "ScriptDesk$BlockDigest" "begin" "()V") ∈ sx_tbl := tw_of (i := 398) (by decide +kernel) rfl
theorem tw_399 : (Jvm.Cond.selects "ScriptDesk$Ripemd160" ({ cls := "ScriptDesk$BlockDigest", name := "begin", desc := "()V" } : Jvm.MethodName) ({ cls := "ScriptDesk$Ripemd160", name := "begin", desc := "()V" } : Jvm.MethodName)) ∈ sx_tbl := tw_of (i := 399) (by decide +kernel) rfl
theorem tw_400 : (Jvm.Cond.instanceMethod ({ cls := "ScriptDesk$Ripemd160", name := "begin", desc := "()V" } : Jvm.MethodName)) ∈ sx_tbl := tw_of (i := 400) (by decide +kernel) rfl
set_option maxRecDepth 20000 in
theorem tw_401 : (Jvm.Cond.code ({ cls := "ScriptDesk$Ripemd160", name := "begin", desc := "()V" } : Jvm.MethodName) prog_7_method_2_code (1 : Nat) (Option.none : Option Jvm.ClassFile.FieldType)) ∈ sx_tbl := tw_of (i := 401) rfl rfl
theorem tw_402 : (Jvm.Cond.fieldLink "ScriptDesk$Ripemd160" (16 : Nat) "ScriptDesk$Ripemd160" "FIRST" "[I") ∈ sx_tbl := tw_of (i := 402) (by decide +kernel) rfl
theorem tw_404 : (Jvm.Cond.methodLink "ScriptDesk$Ripemd160" (22 : Nat) ({ cls := "java/lang/System", name := "arraycopy", desc := "(Ljava/lang/Object;ILjava/lang/Object;II)V" } : Jvm.MethodName)) ∈ sx_tbl := tw_of (i := 404) (by decide +kernel) rfl
theorem tw_405 : (Jvm.Cond.selects "ScriptDesk$Sha256" ({ cls := "ScriptDesk$BlockDigest", name := "begin", desc := "()V" } : Jvm.MethodName) ({ cls := "ScriptDesk$Sha256", name := "begin", desc := "()V" } : Jvm.MethodName)) ∈ sx_tbl := tw_of (i := 405) (by decide +kernel) rfl
theorem tw_406 : (Jvm.Cond.instanceMethod ({ cls := "ScriptDesk$Sha256", name := "begin", desc := "()V" } : Jvm.MethodName)) ∈ sx_tbl := tw_of (i := 406) (by decide +kernel) rfl
set_option maxRecDepth 20000 in
theorem tw_407 : (Jvm.Cond.code ({ cls := "ScriptDesk$Sha256", name := "begin", desc := "()V" } : Jvm.MethodName) prog_8_method_2_code (1 : Nat) (Option.none : Option Jvm.ClassFile.FieldType)) ∈ sx_tbl := tw_of (i := 407) rfl rfl
theorem tw_408 : (Jvm.Cond.fieldLink "ScriptDesk$Sha256" (7 : Nat) "ScriptDesk$Sha256" "FIRST" "[I") ∈ sx_tbl := tw_of (i := 408) (by decide +kernel) rfl
theorem tw_410 : (Jvm.Cond.methodLink "ScriptDesk$Sha256" (16 : Nat) ({ cls := "java/lang/System", name := "arraycopy", desc := "(Ljava/lang/Object;ILjava/lang/Object;II)V" } : Jvm.MethodName)) ∈ sx_tbl := tw_of (i := 410) (by decide +kernel) rfl
theorem tw_411 : (Jvm.Cond.methodLink "ScriptDesk$BlockDigest" (41 : Nat) ({ cls := "ScriptDesk$BlockDigest", name := "readBlock", desc := "(I)V" } : Jvm.MethodName)) ∈ sx_tbl := tw_of (i := 411) (by decide +kernel) rfl
theorem tw_413 : (Jvm.Cond.instanceMethod ({ cls := "ScriptDesk$BlockDigest", name := "readBlock", desc := "(I)V" } : Jvm.MethodName)) ∈ sx_tbl := tw_of (i := 413) (by decide +kernel) rfl
set_option maxRecDepth 20000 in
theorem tw_414 : (Jvm.Cond.code ({ cls := "ScriptDesk$BlockDigest", name := "readBlock", desc := "(I)V" } : Jvm.MethodName) prog_2_method_6_code (5 : Nat) (Option.none : Option Jvm.ClassFile.FieldType)) ∈ sx_tbl := tw_of (i := 414) rfl rfl
theorem tw_415 : (Jvm.Cond.methodLink "ScriptDesk$BlockDigest" (45 : Nat) ({ cls := "ScriptDesk$BlockDigest", name := "mix", desc := "()V" } : Jvm.MethodName)) ∈ sx_tbl := tw_of (i := 415) (by decide +kernel) rfl
theorem tw_417 : (Jvm.Cond.sameMethod "ScriptDesk$BlockDigest" "ScriptDesk$BlockDigest" "mix" "()V") ∈ sx_tbl := tw_of (i := 417) (by decide +kernel) rfl
theorem tw_418 : (Jvm.Cond.selects "ScriptDesk$Ripemd160" ({ cls := "ScriptDesk$BlockDigest", name := "mix", desc := "()V" } : Jvm.MethodName) ({ cls := "ScriptDesk$Ripemd160", name := "mix", desc := "()V" } : Jvm.MethodName)) ∈ sx_tbl := tw_of (i := 418) (by decide +kernel) rfl
theorem tw_419 : (Jvm.Cond.instanceMethod ({ cls := "ScriptDesk$Ripemd160", name := "mix", desc := "()V" } : Jvm.MethodName)) ∈ sx_tbl := tw_of (i := 419) (by decide +kernel) rfl
set_option maxRecDepth 20000 in
theorem tw_420 : (Jvm.Cond.code ({ cls := "ScriptDesk$Ripemd160", name := "mix", desc := "()V" } : Jvm.MethodName) prog_7_method_3_code (3 : Nat) (Option.none : Option Jvm.ClassFile.FieldType)) ∈ sx_tbl := tw_of (i := 420) rfl rfl
theorem tw_421 : (Jvm.Cond.fieldLink "ScriptDesk$Ripemd160" (31 : Nat) "ScriptDesk$Ripemd160" "LEFT_WORD" "[I") ∈ sx_tbl := tw_of (i := 421) (by decide +kernel) rfl
theorem tw_423 : (Jvm.Cond.fieldLink "ScriptDesk$Ripemd160" (34 : Nat) "ScriptDesk$Ripemd160" "LEFT_ADDED" "[I") ∈ sx_tbl := tw_of (i := 423) (by decide +kernel) rfl
theorem tw_425 : (Jvm.Cond.fieldLink "ScriptDesk$Ripemd160" (37 : Nat) "ScriptDesk$Ripemd160" "LEFT_TURN" "[I") ∈ sx_tbl := tw_of (i := 425) (by decide +kernel) rfl
theorem tw_427 : (Jvm.Cond.methodLink "ScriptDesk$Ripemd160" (40 : Nat) ({ cls := "ScriptDesk$Ripemd160", name := "step", desc := "([IIII)V" } : Jvm.MethodName)) ∈ sx_tbl := tw_of (i := 427) (by decide +kernel) rfl
theorem tw_428 : (Jvm.Cond.static ({ cls := "ScriptDesk$Ripemd160", name := "step", desc := "([IIII)V" } : Jvm.MethodName)) ∈ sx_tbl := tw_of (i := 428) (by decide +kernel) rfl
set_option maxRecDepth 20000 in
theorem tw_429 : (Jvm.Cond.code ({ cls := "ScriptDesk$Ripemd160", name := "step", desc := "([IIII)V" } : Jvm.MethodName) prog_7_method_4_code (6 : Nat) (Option.none : Option Jvm.ClassFile.FieldType)) ∈ sx_tbl := tw_of (i := 429) rfl rfl
theorem tw_430 : (Jvm.Cond.methodLink "ScriptDesk$Ripemd160" (53 : Nat) ({ cls := "ScriptDesk$Ripemd160", name := "blend", desc := "(IIII)I" } : Jvm.MethodName)) ∈ sx_tbl := tw_of (i := 430) (by decide +kernel) rfl
theorem tw_431 : (Jvm.Cond.static ({ cls := "ScriptDesk$Ripemd160", name := "blend", desc := "(IIII)I" } : Jvm.MethodName)) ∈ sx_tbl := tw_of (i := 431) (by decide +kernel) rfl
set_option maxRecDepth 20000 in
theorem tw_432 : (Jvm.Cond.code ({ cls := "ScriptDesk$Ripemd160", name := "blend", desc := "(IIII)I" } : Jvm.MethodName) prog_7_method_5_code (4 : Nat) (Option.some Jvm.ClassFile.FieldType.int)) ∈ sx_tbl := tw_of (i := 432) rfl rfl
theorem tw_433 : (Jvm.Cond.methodLink "ScriptDesk$Ripemd160" (57 : Nat) ({ cls := "ScriptDesk$Ripemd160", name := "turned", desc := "(II)I" } : Jvm.MethodName)) ∈ sx_tbl := tw_of (i := 433) (by decide +kernel) rfl
theorem tw_434 : (Jvm.Cond.static ({ cls := "ScriptDesk$Ripemd160", name := "turned", desc := "(II)I" } : Jvm.MethodName)) ∈ sx_tbl := tw_of (i := 434) (by decide +kernel) rfl
set_option maxRecDepth 20000 in
theorem tw_435 : (Jvm.Cond.code ({ cls := "ScriptDesk$Ripemd160", name := "turned", desc := "(II)I" } : Jvm.MethodName) prog_7_method_6_code (2 : Nat) (Option.some Jvm.ClassFile.FieldType.int)) ∈ sx_tbl := tw_of (i := 435) rfl rfl
theorem tw_436 : (Jvm.Cond.fieldLink "ScriptDesk$Ripemd160" (44 : Nat) "ScriptDesk$Ripemd160" "RIGHT_WORD" "[I") ∈ sx_tbl := tw_of (i := 436) (by decide +kernel) rfl
theorem tw_438 : (Jvm.Cond.fieldLink "ScriptDesk$Ripemd160" (47 : Nat) "ScriptDesk$Ripemd160" "RIGHT_ADDED" "[I") ∈ sx_tbl := tw_of (i := 438) (by decide +kernel) rfl
theorem tw_440 : (Jvm.Cond.fieldLink "ScriptDesk$Ripemd160" (50 : Nat) "ScriptDesk$Ripemd160" "RIGHT_TURN" "[I") ∈ sx_tbl := tw_of (i := 440) (by decide +kernel) rfl
theorem tw_442 : (Jvm.Cond.selects "ScriptDesk$Sha256" ({ cls := "ScriptDesk$BlockDigest", name := "mix", desc := "()V" } : Jvm.MethodName) ({ cls := "ScriptDesk$Sha256", name := "mix", desc := "()V" } : Jvm.MethodName)) ∈ sx_tbl := tw_of (i := 442) (by decide +kernel) rfl
theorem tw_443 : (Jvm.Cond.instanceMethod ({ cls := "ScriptDesk$Sha256", name := "mix", desc := "()V" } : Jvm.MethodName)) ∈ sx_tbl := tw_of (i := 443) (by decide +kernel) rfl
set_option maxRecDepth 20000 in
theorem tw_444 : (Jvm.Cond.code ({ cls := "ScriptDesk$Sha256", name := "mix", desc := "()V" } : Jvm.MethodName) prog_8_method_3_code (14 : Nat) (Option.none : Option Jvm.ClassFile.FieldType)) ∈ sx_tbl := tw_of (i := 444) rfl rfl
theorem tw_445 : (Jvm.Cond.methodLink "ScriptDesk$Sha256" (22 : Nat) ({ cls := "ScriptDesk$Sha256", name := "spreadWords", desc := "()V" } : Jvm.MethodName)) ∈ sx_tbl := tw_of (i := 445) (by decide +kernel) rfl
theorem tw_447 : (Jvm.Cond.instanceMethod ({ cls := "ScriptDesk$Sha256", name := "spreadWords", desc := "()V" } : Jvm.MethodName)) ∈ sx_tbl := tw_of (i := 447) (by decide +kernel) rfl
set_option maxRecDepth 20000 in
theorem tw_448 : (Jvm.Cond.code ({ cls := "ScriptDesk$Sha256", name := "spreadWords", desc := "()V" } : Jvm.MethodName) prog_8_method_4_code (6 : Nat) (Option.none : Option Jvm.ClassFile.FieldType)) ∈ sx_tbl := tw_of (i := 448) rfl rfl
theorem tw_449 : (Jvm.Cond.methodLink "ScriptDesk$Sha256" (26 : Nat) ({ cls := "ScriptDesk$Sha256", name := "turned", desc := "(II)I" } : Jvm.MethodName)) ∈ sx_tbl := tw_of (i := 449) (by decide +kernel) rfl
theorem tw_450 : (Jvm.Cond.static ({ cls := "ScriptDesk$Sha256", name := "turned", desc := "(II)I" } : Jvm.MethodName)) ∈ sx_tbl := tw_of (i := 450) (by decide +kernel) rfl
set_option maxRecDepth 20000 in
theorem tw_451 : (Jvm.Cond.code ({ cls := "ScriptDesk$Sha256", name := "turned", desc := "(II)I" } : Jvm.MethodName) prog_8_method_5_code (2 : Nat) (Option.some Jvm.ClassFile.FieldType.int)) ∈ sx_tbl := tw_of (i := 451) rfl rfl
theorem tw_452 : (Jvm.Cond.fieldLink "ScriptDesk$Sha256" (30 : Nat) "ScriptDesk$Sha256" "ROUND" "[I") ∈ sx_tbl := tw_of (i := 452) (by decide +kernel) rfl
theorem tw_454 : (Jvm.Cond.methodLink "ScriptDesk$BlockDigest" (52 : Nat) ({ cls := "ScriptDesk$Elements", name := "drop", desc := "(I)V" } : Jvm.MethodName)) ∈ sx_tbl := tw_of (i := 454) (by decide +kernel) rfl
theorem tw_455 : (Jvm.Cond.methodLink "ScriptDesk$BlockDigest" (55 : Nat) ({ cls := "ScriptDesk$Elements", name := "push", desc := "([III)V" } : Jvm.MethodName)) ∈ sx_tbl := tw_of (i := 455) (by decide +kernel) rfl
theorem tw_456 : (Jvm.Cond.methodLink "ScriptDesk" (149 : Nat) ({ cls := "ScriptDesk$Signatures", name := "perform", desc := "(LScriptDesk$Elements;LScriptDesk$Tally;I)I" } : Jvm.MethodName)) ∈ sx_tbl := tw_of (i := 456) (by decide +kernel) rfl
theorem tw_457 : (Jvm.Cond.instanceMethod ({ cls := "ScriptDesk$Signatures", name := "perform", desc := "(LScriptDesk$Elements;LScriptDesk$Tally;I)I" } : Jvm.MethodName)) ∈ sx_tbl := tw_of (i := 457) (by decide +kernel) rfl
theorem tw_458 : (Jvm.Cond.selects "ScriptDesk$Signatures" ({ cls := "ScriptDesk$Signatures", name := "perform", desc := "(LScriptDesk$Elements;LScriptDesk$Tally;I)I" } : Jvm.MethodName) ({ cls := "ScriptDesk$Signatures", name := "perform", desc := "(LScriptDesk$Elements;LScriptDesk$Tally;I)I" } : Jvm.MethodName)) ∈ sx_tbl := tw_of (i := 458) (by decide +kernel) rfl
set_option maxRecDepth 20000 in
theorem tw_459 : (Jvm.Cond.code ({ cls := "ScriptDesk$Signatures", name := "perform", desc := "(LScriptDesk$Elements;LScriptDesk$Tally;I)I" } : Jvm.MethodName) prog_9_method_2_code (6 : Nat) (Option.some Jvm.ClassFile.FieldType.int)) ∈ sx_tbl := tw_of (i := 459) rfl rfl
theorem tw_460 : (Jvm.Cond.methodLink "ScriptDesk$Signatures" (9 : Nat) ({ cls := "ScriptDesk$Signatures", name := "askOne", desc := "(LScriptDesk$Elements;)I" } : Jvm.MethodName)) ∈ sx_tbl := tw_of (i := 460) (by decide +kernel) rfl
theorem tw_462 : (Jvm.Cond.instanceMethod ({ cls := "ScriptDesk$Signatures", name := "askOne", desc := "(LScriptDesk$Elements;)I" } : Jvm.MethodName)) ∈ sx_tbl := tw_of (i := 462) (by decide +kernel) rfl
set_option maxRecDepth 20000 in
theorem tw_463 : (Jvm.Cond.code ({ cls := "ScriptDesk$Signatures", name := "askOne", desc := "(LScriptDesk$Elements;)I" } : Jvm.MethodName) prog_9_method_3_code (3 : Nat) (Option.some Jvm.ClassFile.FieldType.int)) ∈ sx_tbl := tw_of (i := 463) rfl rfl
theorem tw_464 : (Jvm.Cond.methodLink "ScriptDesk$Signatures" (29 : Nat) ({ cls := "ScriptDesk$Signatures", name := "fits", desc := "(LScriptDesk$Elements;II)Z" } : Jvm.MethodName)) ∈ sx_tbl := tw_of (i := 464) (by decide +kernel) rfl
theorem tw_466 : (Jvm.Cond.instanceMethod ({ cls := "ScriptDesk$Signatures", name := "fits", desc := "(LScriptDesk$Elements;II)Z" } : Jvm.MethodName)) ∈ sx_tbl := tw_of (i := 466) (by decide +kernel) rfl
set_option maxRecDepth 20000 in
theorem tw_467 : (Jvm.Cond.code ({ cls := "ScriptDesk$Signatures", name := "fits", desc := "(LScriptDesk$Elements;II)Z" } : Jvm.MethodName) prog_9_method_7_code (12 : Nat) (Option.some Jvm.ClassFile.FieldType.boolean)) ∈ sx_tbl := tw_of (i := 467) rfl rfl
theorem tw_468 : (Jvm.Cond.methodLink "ScriptDesk$Signatures" (61 : Nat) ({ cls := "ScriptDesk$Elements", name := "lengthAt", desc := "(I)I" } : Jvm.MethodName)) ∈ sx_tbl := tw_of (i := 468) (by decide +kernel) rfl
theorem tw_469 : (Jvm.Cond.methodLink "ScriptDesk$Signatures" (64 : Nat) ({ cls := "ScriptDesk$Elements", name := "octetAt", desc := "(II)I" } : Jvm.MethodName)) ∈ sx_tbl := tw_of (i := 469) (by decide +kernel) rfl
theorem tw_470 : (Jvm.Cond.constantLong "ScriptDesk$Signatures" (71 : Nat) (3 : Int64)) ∈ sx_tbl := tw_of (i := 470) (by decide +kernel) rfl
theorem tw_471 : (Jvm.Cond.methodLink "ScriptDesk$Signatures" (33 : Nat) ({ cls := "ScriptDesk$Elements", name := "replaceByTruth", desc := "(IZ)V" } : Jvm.MethodName)) ∈ sx_tbl := tw_of (i := 471) (by decide +kernel) rfl
theorem tw_472 : (Jvm.Cond.methodLink "ScriptDesk$Signatures" (15 : Nat) ({ cls := "ScriptDesk$Signatures", name := "askMany", desc := "(LScriptDesk$Elements;LScriptDesk$Tally;)I" } : Jvm.MethodName)) ∈ sx_tbl := tw_of (i := 472) (by decide +kernel) rfl
theorem tw_474 : (Jvm.Cond.instanceMethod ({ cls := "ScriptDesk$Signatures", name := "askMany", desc := "(LScriptDesk$Elements;LScriptDesk$Tally;)I" } : Jvm.MethodName)) ∈ sx_tbl := tw_of (i := 474) (by decide +kernel) rfl
set_option maxRecDepth 20000 in
theorem tw_475 : (Jvm.Cond.code ({ cls := "ScriptDesk$Signatures", name := "askMany", desc := "(LScriptDesk$Elements;LScriptDesk$Tally;)I" } : Jvm.MethodName) prog_9_method_4_code (8 : Nat) (Option.some Jvm.ClassFile.FieldType.int)) ∈ sx_tbl := tw_of (i := 475) rfl rfl
theorem tw_476 : (Jvm.Cond.methodLink "ScriptDesk$Signatures" (37 : Nat) ({ cls := "ScriptDesk$Signatures", name := "faultOfAmount", desc := "(LScriptDesk$Elements;II)I" } : Jvm.MethodName)) ∈ sx_tbl := tw_of (i := 476) (by decide +kernel) rfl
theorem tw_477 : (Jvm.Cond.static ({ cls := "ScriptDesk$Signatures", name := "faultOfAmount", desc := "(LScriptDesk$Elements;II)I" } : Jvm.MethodName)) ∈ sx_tbl := tw_of (i := 477) (by decide +kernel) rfl
set_option maxRecDepth 20000 in
theorem tw_478 : (Jvm.Cond.code ({ cls := "ScriptDesk$Signatures", name := "faultOfAmount", desc := "(LScriptDesk$Elements;II)I" } : Jvm.MethodName) prog_9_method_5_code (6 : Nat) (Option.some Jvm.ClassFile.FieldType.int)) ∈ sx_tbl := tw_of (i := 478) rfl rfl
theorem tw_479 : (Jvm.Cond.methodLink "ScriptDesk$Signatures" (54 : Nat) ({ cls := "ScriptDesk$Elements", name := "faultOfNumber", desc := "(I)I" } : Jvm.MethodName)) ∈ sx_tbl := tw_of (i := 479) (by decide +kernel) rfl
theorem tw_480 : (Jvm.Cond.methodLink "ScriptDesk$Signatures" (41 : Nat) ({ cls := "ScriptDesk$Elements", name := "numberAt", desc := "(I)J" } : Jvm.MethodName)) ∈ sx_tbl := tw_of (i := 480) (by decide +kernel) rfl
theorem tw_481 : (Jvm.Cond.methodLink "ScriptDesk$Signatures" (45 : Nat) ({ cls := "ScriptDesk$Tally", name := "passesLimit", desc := "(I)Z" } : Jvm.MethodName)) ∈ sx_tbl := tw_of (i := 481) (by decide +kernel) rfl
theorem tw_482 : (Jvm.Cond.methodLink "ScriptDesk$Signatures" (51 : Nat) ({ cls := "ScriptDesk$Signatures", name := "allFit", desc := "(LScriptDesk$Elements;II)Z" } : Jvm.MethodName)) ∈ sx_tbl := tw_of (i := 482) (by decide +kernel) rfl
theorem tw_484 : (Jvm.Cond.instanceMethod ({ cls := "ScriptDesk$Signatures", name := "allFit", desc := "(LScriptDesk$Elements;II)Z" } : Jvm.MethodName)) ∈ sx_tbl := tw_of (i := 484) (by decide +kernel) rfl
set_option maxRecDepth 20000 in
theorem tw_485 : (Jvm.Cond.code ({ cls := "ScriptDesk$Signatures", name := "allFit", desc := "(LScriptDesk$Elements;II)Z" } : Jvm.MethodName) prog_9_method_6_code (6 : Nat) (Option.some Jvm.ClassFile.FieldType.boolean)) ∈ sx_tbl := tw_of (i := 485) rfl rfl
theorem tw_486 : (Jvm.Cond.methodLink "ScriptDesk$Signatures" (19 : Nat) ({ cls := "ScriptDesk$Elements", name := "takeTrue", desc := "()I" } : Jvm.MethodName)) ∈ sx_tbl := tw_of (i := 486) (by decide +kernel) rfl
theorem tw_487 : (Jvm.Cond.methodLink "ScriptDesk" (80 : Nat) ({ cls := "ScriptDesk$Elements", name := "areTooMany", desc := "()Z" } : Jvm.MethodName)) ∈ sx_tbl := tw_of (i := 487) (by decide +kernel) rfl
theorem tw_488 : (Jvm.Cond.instanceMethod ({ cls := "ScriptDesk$Elements", name := "areTooMany", desc := "()Z" } : Jvm.MethodName)) ∈ sx_tbl := tw_of (i := 488) (by decide +kernel) rfl
theorem tw_489 : (Jvm.Cond.selects "ScriptDesk$Elements" ({ cls := "ScriptDesk$Elements", name := "areTooMany", desc := "()Z" } : Jvm.MethodName) ({ cls := "ScriptDesk$Elements", name := "areTooMany", desc := "()Z" } : Jvm.MethodName)) ∈ sx_tbl := tw_of (i := 489) (by decide +kernel) rfl
set_option maxRecDepth 20000 in
theorem tw_490 : (Jvm.Cond.code ({ cls := "ScriptDesk$Elements", name := "areTooMany", desc := "()Z" } : Jvm.MethodName) prog_3_method_2_code (1 : Nat) (Option.some Jvm.ClassFile.FieldType.boolean)) ∈ sx_tbl := tw_of (i := 490) rfl rfl
theorem tw_491 : (Jvm.Cond.methodLink "ScriptDesk" (87 : Nat) ({ cls := "ScriptDesk$Elements", name := "dropSide", desc := "()V" } : Jvm.MethodName)) ∈ sx_tbl := tw_of (i := 491) (by decide +kernel) rfl
theorem tw_492 : (Jvm.Cond.instanceMethod ({ cls := "ScriptDesk$Elements", name := "dropSide", desc := "()V" } : Jvm.MethodName)) ∈ sx_tbl := tw_of (i := 492) (by decide +kernel) rfl
theorem tw_493 : (Jvm.Cond.selects "ScriptDesk$Elements" ({ cls := "ScriptDesk$Elements", name := "dropSide", desc := "()V" } : Jvm.MethodName) ({ cls := "ScriptDesk$Elements", name := "dropSide", desc := "()V" } : Jvm.MethodName)) ∈ sx_tbl := tw_of (i := 493) (by decide +kernel) rfl
set_option maxRecDepth 20000 in
theorem tw_494 : (Jvm.Cond.code ({ cls := "ScriptDesk$Elements", name := "dropSide", desc := "()V" } : Jvm.MethodName) prog_3_method_10_code (1 : Nat) (Option.none : Option Jvm.ClassFile.FieldType)) ∈ sx_tbl := tw_of (i := 494) rfl rfl
theorem tw_515 : (Jvm.Cond.methodLink "ScriptDesk" (100 : Nat) ({ cls := "ScriptDesk$Elements", name := "lengthAt", desc := "(I)I" } : Jvm.MethodName)) ∈ sx_tbl := tw_of (i := 515) (by decide +kernel) rfl
theorem tw_520 : (Jvm.Cond.methodLink "ScriptDesk" (103 : Nat) ({ cls := "ScriptDesk$Elements", name := "octetAt", desc := "(II)I" } : Jvm.MethodName)) ∈ sx_tbl := tw_of (i := 520) (by decide +kernel) rfl
theorem tw_531 : (Jvm.Cond.fieldLink "ScriptDeskModel" (7 : Nat) "ScriptDeskModel" "bytes" "[I") ∈ sx_tbl := tw_of (i := 531) (by decide +kernel) rfl
theorem tw_532 : (Jvm.Cond.fieldLink "ScriptDeskModel" (13 : Nat) "ScriptDeskModel" "sizes" "[I") ∈ sx_tbl := tw_of (i := 532) (by decide +kernel) rfl
theorem tw_533 : (Jvm.Cond.fieldLink "ScriptDeskModel" (47 : Nat) "ScriptDeskModel" "size" "I") ∈ sx_tbl := tw_of (i := 533) (by decide +kernel) rfl
theorem tw_534 : (Jvm.Cond.fieldLink "ScriptDeskModel" (170 : Nat) "ScriptDeskModel" "side" "I") ∈ sx_tbl := tw_of (i := 534) (by decide +kernel) rfl
theorem tw_535 : (Jvm.Cond.fieldLink "ScriptDeskModel" (16 : Nat) "ScriptDeskModel" "script" "[I") ∈ sx_tbl := tw_of (i := 535) (by decide +kernel) rfl
theorem tw_536 : (Jvm.Cond.fieldLink "ScriptDeskModel" (38 : Nat) "ScriptDeskModel" "length" "I") ∈ sx_tbl := tw_of (i := 536) (by decide +kernel) rfl
theorem tw_537 : (Jvm.Cond.fieldLink "ScriptDeskModel" (43 : Nat) "ScriptDeskModel" "secret" "J") ∈ sx_tbl := tw_of (i := 537) (by decide +kernel) rfl
theorem tw_538 : (Jvm.Cond.fieldLink "ScriptDeskModel" (60 : Nat) "ScriptDeskModel" "fault" "I") ∈ sx_tbl := tw_of (i := 538) (by decide +kernel) rfl
theorem tw_539 : (Jvm.Cond.fieldLink "ScriptDeskModel" (19 : Nat) "ScriptDeskModel" "place" "I") ∈ sx_tbl := tw_of (i := 539) (by decide +kernel) rfl
theorem tw_540 : (Jvm.Cond.fieldLink "ScriptDeskModel" (154 : Nat) "ScriptDeskModel" "operations" "I") ∈ sx_tbl := tw_of (i := 540) (by decide +kernel) rfl
theorem tw_541 : (Jvm.Cond.fieldLink "ScriptDeskModel" (133 : Nat) "ScriptDeskModel" "asked" "I") ∈ sx_tbl := tw_of (i := 541) (by decide +kernel) rfl
theorem tw_542 : (Jvm.Cond.fieldLink "ScriptDeskModel" (157 : Nat) "ScriptDeskModel" "depth" "I") ∈ sx_tbl := tw_of (i := 542) (by decide +kernel) rfl
theorem tw_543 : (Jvm.Cond.fieldLink "ScriptDeskModel" (23 : Nat) "ScriptDeskModel" "parts" "[I") ∈ sx_tbl := tw_of (i := 543) (by decide +kernel) rfl
theorem tw_544 : (Jvm.Cond.fieldLink "ScriptDeskModel" (75 : Nat) "ScriptDeskModel" "number" "J") ∈ sx_tbl := tw_of (i := 544) (by decide +kernel) rfl
theorem tw_545 : (Jvm.Cond.fieldLink "ScriptDeskModel" (26 : Nat) "ScriptDeskModel" "message" "[I") ∈ sx_tbl := tw_of (i := 545) (by decide +kernel) rfl
theorem tw_546 : (Jvm.Cond.fieldLink "ScriptDeskModel" (29 : Nat) "ScriptDeskModel" "row" "[I") ∈ sx_tbl := tw_of (i := 546) (by decide +kernel) rfl
theorem tw_547 : (Jvm.Cond.fieldLink "ScriptDeskModel" (32 : Nat) "ScriptDeskModel" "h" "[I") ∈ sx_tbl := tw_of (i := 547) (by decide +kernel) rfl
theorem tw_548 : (Jvm.Cond.fieldLink "ScriptDeskModel" (35 : Nat) "ScriptDeskModel" "v" "[I") ∈ sx_tbl := tw_of (i := 548) (by decide +kernel) rfl
theorem tw_590 : (Jvm.Cond.constantLong "ScriptDeskModel" (41 : Nat) (255 : Int64)) ∈ sx_tbl := tw_of (i := 590) (by decide +kernel) rfl
theorem tw_599 : (Jvm.Cond.methodLink "ScriptDeskModel" (224 : Nat) ({ cls := "ScriptDeskModel", name := "next", desc := "(I)I" } : Jvm.MethodName)) ∈ sx_tbl := tw_of (i := 599) (by decide +kernel) rfl
theorem tw_601 : (Jvm.Cond.instanceMethod ({ cls := "ScriptDeskModel", name := "next", desc := "(I)I" } : Jvm.MethodName)) ∈ sx_tbl := tw_of (i := 601) (by decide +kernel) rfl
set_option maxRecDepth 20000 in
theorem tw_602 : (Jvm.Cond.code ({ cls := "ScriptDeskModel", name := "next", desc := "(I)I" } : Jvm.MethodName) prog_12_method_37_code (6 : Nat) (Option.some Jvm.ClassFile.FieldType.int)) ∈ sx_tbl := tw_of (i := 602) rfl rfl
theorem tw_603 : (Jvm.Cond.methodLink "ScriptDeskModel" (160 : Nat) ({ cls := "ScriptDeskModel", name := "isDone", desc := "()Z" } : Jvm.MethodName)) ∈ sx_tbl := tw_of (i := 603) (by decide +kernel) rfl
theorem tw_605 : (Jvm.Cond.instanceMethod ({ cls := "ScriptDeskModel", name := "isDone", desc := "()Z" } : Jvm.MethodName)) ∈ sx_tbl := tw_of (i := 605) (by decide +kernel) rfl
set_option maxRecDepth 20000 in
theorem tw_606 : (Jvm.Cond.code ({ cls := "ScriptDeskModel", name := "isDone", desc := "()Z" } : Jvm.MethodName) prog_12_method_24_code (1 : Nat) (Option.some Jvm.ClassFile.FieldType.boolean)) ∈ sx_tbl := tw_of (i := 606) rfl rfl
theorem tw_607 : (Jvm.Cond.methodLink "ScriptDeskModel" (63 : Nat) ({ cls := "ScriptDeskModel", name := "fails", desc := "(I)V" } : Jvm.MethodName)) ∈ sx_tbl := tw_of (i := 607) (by decide +kernel) rfl
theorem tw_609 : (Jvm.Cond.instanceMethod ({ cls := "ScriptDeskModel", name := "fails", desc := "(I)V" } : Jvm.MethodName)) ∈ sx_tbl := tw_of (i := 609) (by decide +kernel) rfl
set_option maxRecDepth 20000 in
theorem tw_610 : (Jvm.Cond.code ({ cls := "ScriptDeskModel", name := "fails", desc := "(I)V" } : Jvm.MethodName) prog_12_method_11_code (2 : Nat) (Option.none : Option Jvm.ClassFile.FieldType)) ∈ sx_tbl := tw_of (i := 610) rfl rfl
theorem tw_611 : (Jvm.Cond.methodLink "ScriptDeskModel" (212 : Nat) ({ cls := "ScriptDeskModel", name := "pushes", desc := "(IIZ)I" } : Jvm.MethodName)) ∈ sx_tbl := tw_of (i := 611) (by decide +kernel) rfl
theorem tw_613 : (Jvm.Cond.instanceMethod ({ cls := "ScriptDeskModel", name := "pushes", desc := "(IIZ)I" } : Jvm.MethodName)) ∈ sx_tbl := tw_of (i := 613) (by decide +kernel) rfl
set_option maxRecDepth 20000 in
theorem tw_614 : (Jvm.Cond.code ({ cls := "ScriptDeskModel", name := "pushes", desc := "(IIZ)I" } : Jvm.MethodName) prog_12_method_36_code (5 : Nat) (Option.some Jvm.ClassFile.FieldType.int)) ∈ sx_tbl := tw_of (i := 614) rfl rfl
theorem tw_615 : (Jvm.Cond.methodLink "ScriptDeskModel" (216 : Nat) ({ cls := "ScriptDeskModel", name := "flow", desc := "(I)V" } : Jvm.MethodName)) ∈ sx_tbl := tw_of (i := 615) (by decide +kernel) rfl
theorem tw_617 : (Jvm.Cond.instanceMethod ({ cls := "ScriptDeskModel", name := "flow", desc := "(I)V" } : Jvm.MethodName)) ∈ sx_tbl := tw_of (i := 617) (by decide +kernel) rfl
set_option maxRecDepth 20000 in
theorem tw_618 : (Jvm.Cond.code ({ cls := "ScriptDeskModel", name := "flow", desc := "(I)V" } : Jvm.MethodName) prog_12_method_25_code (3 : Nat) (Option.none : Option Jvm.ClassFile.FieldType)) ∈ sx_tbl := tw_of (i := 618) rfl rfl
theorem tw_619 : (Jvm.Cond.methodLink "ScriptDeskModel" (67 : Nat) ({ cls := "ScriptDeskModel", name := "has", desc := "(I)Z" } : Jvm.MethodName)) ∈ sx_tbl := tw_of (i := 619) (by decide +kernel) rfl
theorem tw_621 : (Jvm.Cond.instanceMethod ({ cls := "ScriptDeskModel", name := "has", desc := "(I)Z" } : Jvm.MethodName)) ∈ sx_tbl := tw_of (i := 621) (by decide +kernel) rfl
set_option maxRecDepth 20000 in
theorem tw_622 : (Jvm.Cond.code ({ cls := "ScriptDeskModel", name := "has", desc := "(I)Z" } : Jvm.MethodName) prog_12_method_12_code (2 : Nat) (Option.some Jvm.ClassFile.FieldType.boolean)) ∈ sx_tbl := tw_of (i := 622) rfl rfl
theorem tw_623 : (Jvm.Cond.methodLink "ScriptDeskModel" (78 : Nat) ({ cls := "ScriptDeskModel", name := "isTrueRow", desc := "(I)Z" } : Jvm.MethodName)) ∈ sx_tbl := tw_of (i := 623) (by decide +kernel) rfl
theorem tw_625 : (Jvm.Cond.instanceMethod ({ cls := "ScriptDeskModel", name := "isTrueRow", desc := "(I)Z" } : Jvm.MethodName)) ∈ sx_tbl := tw_of (i := 625) (by decide +kernel) rfl
set_option maxRecDepth 20000 in
theorem tw_626 : (Jvm.Cond.code ({ cls := "ScriptDeskModel", name := "isTrueRow", desc := "(I)Z" } : Jvm.MethodName) prog_12_method_9_code (5 : Nat) (Option.some Jvm.ClassFile.FieldType.boolean)) ∈ sx_tbl := tw_of (i := 626) rfl rfl
theorem tw_627 : (Jvm.Cond.constantLong "ScriptDeskModel" (219 : Nat) (-1 : Int64)) ∈ sx_tbl := tw_of (i := 627) (by decide +kernel) rfl
theorem tw_628 : (Jvm.Cond.methodLink "ScriptDeskModel" (56 : Nat) ({ cls := "ScriptDeskModel", name := "pushNumber", desc := "(J)V" } : Jvm.MethodName)) ∈ sx_tbl := tw_of (i := 628) (by decide +kernel) rfl
theorem tw_630 : (Jvm.Cond.instanceMethod ({ cls := "ScriptDeskModel", name := "pushNumber", desc := "(J)V" } : Jvm.MethodName)) ∈ sx_tbl := tw_of (i := 630) (by decide +kernel) rfl
set_option maxRecDepth 20000 in
theorem tw_631 : (Jvm.Cond.code ({ cls := "ScriptDeskModel", name := "pushNumber", desc := "(J)V" } : Jvm.MethodName) prog_12_method_7_code (6 : Nat) (Option.none : Option Jvm.ClassFile.FieldType)) ∈ sx_tbl := tw_of (i := 631) rfl rfl
theorem tw_632 : (Jvm.Cond.constantLong "ScriptDeskModel" (54 : Nat) (256 : Int64)) ∈ sx_tbl := tw_of (i := 632) (by decide +kernel) rfl
theorem tw_633 : (Jvm.Cond.methodLink "ScriptDeskModel" (221 : Nat) ({ cls := "ScriptDeskModel", name := "operation", desc := "(I)V" } : Jvm.MethodName)) ∈ sx_tbl := tw_of (i := 633) (by decide +kernel) rfl
theorem tw_635 : (Jvm.Cond.instanceMethod ({ cls := "ScriptDeskModel", name := "operation", desc := "(I)V" } : Jvm.MethodName)) ∈ sx_tbl := tw_of (i := 635) (by decide +kernel) rfl
set_option maxRecDepth 20000 in
theorem tw_636 : (Jvm.Cond.code ({ cls := "ScriptDeskModel", name := "operation", desc := "(I)V" } : Jvm.MethodName) prog_12_method_35_code (2 : Nat) (Option.none : Option Jvm.ClassFile.FieldType)) ∈ sx_tbl := tw_of (i := 636) rfl rfl
theorem tw_637 : (Jvm.Cond.methodLink "ScriptDeskModel" (191 : Nat) ({ cls := "ScriptDeskModel", name := "moves", desc := "(I)V" } : Jvm.MethodName)) ∈ sx_tbl := tw_of (i := 637) (by decide +kernel) rfl
theorem tw_639 : (Jvm.Cond.instanceMethod ({ cls := "ScriptDeskModel", name := "moves", desc := "(I)V" } : Jvm.MethodName)) ∈ sx_tbl := tw_of (i := 639) (by decide +kernel) rfl
set_option maxRecDepth 20000 in
theorem tw_640 : (Jvm.Cond.code ({ cls := "ScriptDeskModel", name := "moves", desc := "(I)V" } : Jvm.MethodName) prog_12_method_30_code (2 : Nat) (Option.none : Option Jvm.ClassFile.FieldType)) ∈ sx_tbl := tw_of (i := 640) rfl rfl
theorem tw_641 : (Jvm.Cond.methodLink "ScriptDeskModel" (50 : Nat) ({ cls := "ScriptDeskModel", name := "copy", desc := "(II)V" } : Jvm.MethodName)) ∈ sx_tbl := tw_of (i := 641) (by decide +kernel) rfl
theorem tw_643 : (Jvm.Cond.instanceMethod ({ cls := "ScriptDeskModel", name := "copy", desc := "(II)V" } : Jvm.MethodName)) ∈ sx_tbl := tw_of (i := 643) (by decide +kernel) rfl
set_option maxRecDepth 20000 in
theorem tw_644 : (Jvm.Cond.code ({ cls := "ScriptDeskModel", name := "copy", desc := "(II)V" } : Jvm.MethodName) prog_12_method_4_code (4 : Nat) (Option.none : Option Jvm.ClassFile.FieldType)) ∈ sx_tbl := tw_of (i := 644) rfl rfl
theorem tw_645 : (Jvm.Cond.methodLink "ScriptDeskModel" (164 : Nat) ({ cls := "ScriptDeskModel", name := "push", desc := "(I)V" } : Jvm.MethodName)) ∈ sx_tbl := tw_of (i := 645) (by decide +kernel) rfl
theorem tw_647 : (Jvm.Cond.instanceMethod ({ cls := "ScriptDeskModel", name := "push", desc := "(I)V" } : Jvm.MethodName)) ∈ sx_tbl := tw_of (i := 647) (by decide +kernel) rfl
set_option maxRecDepth 20000 in
theorem tw_648 : (Jvm.Cond.code ({ cls := "ScriptDeskModel", name := "push", desc := "(I)V" } : Jvm.MethodName) prog_12_method_6_code (2 : Nat) (Option.none : Option Jvm.ClassFile.FieldType)) ∈ sx_tbl := tw_of (i := 648) rfl rfl
theorem tw_649 : (Jvm.Cond.methodLink "ScriptDeskModel" (173 : Nat) ({ cls := "ScriptDeskModel", name := "again", desc := "(III)V" } : Jvm.MethodName)) ∈ sx_tbl := tw_of (i := 649) (by decide +kernel) rfl
theorem tw_651 : (Jvm.Cond.instanceMethod ({ cls := "ScriptDeskModel", name := "again", desc := "(III)V" } : Jvm.MethodName)) ∈ sx_tbl := tw_of (i := 651) (by decide +kernel) rfl
set_option maxRecDepth 20000 in
theorem tw_652 : (Jvm.Cond.code ({ cls := "ScriptDeskModel", name := "again", desc := "(III)V" } : Jvm.MethodName) prog_12_method_26_code (6 : Nat) (Option.none : Option Jvm.ClassFile.FieldType)) ∈ sx_tbl := tw_of (i := 652) rfl rfl
theorem tw_653 : (Jvm.Cond.methodLink "ScriptDeskModel" (176 : Nat) ({ cls := "ScriptDeskModel", name := "turn", desc := "(II)V" } : Jvm.MethodName)) ∈ sx_tbl := tw_of (i := 653) (by decide +kernel) rfl
theorem tw_655 : (Jvm.Cond.instanceMethod ({ cls := "ScriptDeskModel", name := "turn", desc := "(II)V" } : Jvm.MethodName)) ∈ sx_tbl := tw_of (i := 655) (by decide +kernel) rfl
set_option maxRecDepth 20000 in
theorem tw_656 : (Jvm.Cond.code ({ cls := "ScriptDeskModel", name := "turn", desc := "(II)V" } : Jvm.MethodName) prog_12_method_27_code (5 : Nat) (Option.none : Option Jvm.ClassFile.FieldType)) ∈ sx_tbl := tw_of (i := 656) rfl rfl
theorem tw_657 : (Jvm.Cond.methodLink "ScriptDeskModel" (71 : Nat) ({ cls := "ScriptDeskModel", name := "top", desc := "(I)I" } : Jvm.MethodName)) ∈ sx_tbl := tw_of (i := 657) (by decide +kernel) rfl
theorem tw_659 : (Jvm.Cond.instanceMethod ({ cls := "ScriptDeskModel", name := "top", desc := "(I)I" } : Jvm.MethodName)) ∈ sx_tbl := tw_of (i := 659) (by decide +kernel) rfl
set_option maxRecDepth 20000 in
theorem tw_660 : (Jvm.Cond.code ({ cls := "ScriptDeskModel", name := "top", desc := "(I)I" } : Jvm.MethodName) prog_12_method_5_code (2 : Nat) (Option.some Jvm.ClassFile.FieldType.int)) ∈ sx_tbl := tw_of (i := 660) rfl rfl
theorem tw_661 : (Jvm.Cond.methodLink "ScriptDeskModel" (167 : Nat) ({ cls := "ScriptDeskModel", name := "takeOut", desc := "(I)V" } : Jvm.MethodName)) ∈ sx_tbl := tw_of (i := 661) (by decide +kernel) rfl
theorem tw_663 : (Jvm.Cond.instanceMethod ({ cls := "ScriptDeskModel", name := "takeOut", desc := "(I)V" } : Jvm.MethodName)) ∈ sx_tbl := tw_of (i := 663) (by decide +kernel) rfl
set_option maxRecDepth 20000 in
theorem tw_664 : (Jvm.Cond.code ({ cls := "ScriptDeskModel", name := "takeOut", desc := "(I)V" } : Jvm.MethodName) prog_12_method_28_code (3 : Nat) (Option.none : Option Jvm.ClassFile.FieldType)) ∈ sx_tbl := tw_of (i := 664) rfl rfl
theorem tw_665 : (Jvm.Cond.methodLink "ScriptDeskModel" (179 : Nat) ({ cls := "ScriptDeskModel", name := "pick", desc := "(Z)V" } : Jvm.MethodName)) ∈ sx_tbl := tw_of (i := 665) (by decide +kernel) rfl
theorem tw_667 : (Jvm.Cond.instanceMethod ({ cls := "ScriptDeskModel", name := "pick", desc := "(Z)V" } : Jvm.MethodName)) ∈ sx_tbl := tw_of (i := 667) (by decide +kernel) rfl
set_option maxRecDepth 20000 in
theorem tw_668 : (Jvm.Cond.code ({ cls := "ScriptDeskModel", name := "pick", desc := "(Z)V" } : Jvm.MethodName) prog_12_method_29_code (3 : Nat) (Option.none : Option Jvm.ClassFile.FieldType)) ∈ sx_tbl := tw_of (i := 668) rfl rfl
theorem tw_669 : (Jvm.Cond.methodLink "ScriptDeskModel" (149 : Nat) ({ cls := "ScriptDeskModel", name := "reads", desc := "(I)Z" } : Jvm.MethodName)) ∈ sx_tbl := tw_of (i := 669) (by decide +kernel) rfl
theorem tw_671 : (Jvm.Cond.instanceMethod ({ cls := "ScriptDeskModel", name := "reads", desc := "(I)Z" } : Jvm.MethodName)) ∈ sx_tbl := tw_of (i := 671) (by decide +kernel) rfl
set_option maxRecDepth 20000 in
theorem tw_672 : (Jvm.Cond.code ({ cls := "ScriptDeskModel", name := "reads", desc := "(I)Z" } : Jvm.MethodName) prog_12_method_13_code (5 : Nat) (Option.some Jvm.ClassFile.FieldType.boolean)) ∈ sx_tbl := tw_of (i := 672) rfl rfl
theorem tw_673 : (Jvm.Cond.methodLink "ScriptDeskModel" (194 : Nat) ({ cls := "ScriptDeskModel", name := "equal", desc := "(Z)V" } : Jvm.MethodName)) ∈ sx_tbl := tw_of (i := 673) (by decide +kernel) rfl
theorem tw_675 : (Jvm.Cond.instanceMethod ({ cls := "ScriptDeskModel", name := "equal", desc := "(Z)V" } : Jvm.MethodName)) ∈ sx_tbl := tw_of (i := 675) (by decide +kernel) rfl
set_option maxRecDepth 20000 in
theorem tw_676 : (Jvm.Cond.code ({ cls := "ScriptDeskModel", name := "equal", desc := "(Z)V" } : Jvm.MethodName) prog_12_method_31_code (3 : Nat) (Option.none : Option Jvm.ClassFile.FieldType)) ∈ sx_tbl := tw_of (i := 676) rfl rfl
theorem tw_677 : (Jvm.Cond.methodLink "ScriptDeskModel" (182 : Nat) ({ cls := "ScriptDeskModel", name := "isSame", desc := "(II)Z" } : Jvm.MethodName)) ∈ sx_tbl := tw_of (i := 677) (by decide +kernel) rfl
theorem tw_679 : (Jvm.Cond.instanceMethod ({ cls := "ScriptDeskModel", name := "isSame", desc := "(II)Z" } : Jvm.MethodName)) ∈ sx_tbl := tw_of (i := 679) (by decide +kernel) rfl
set_option maxRecDepth 20000 in
theorem tw_680 : (Jvm.Cond.code ({ cls := "ScriptDeskModel", name := "isSame", desc := "(II)Z" } : Jvm.MethodName) prog_12_method_10_code (5 : Nat) (Option.some Jvm.ClassFile.FieldType.boolean)) ∈ sx_tbl := tw_of (i := 680) rfl rfl
theorem tw_681 : (Jvm.Cond.methodLink "ScriptDeskModel" (142 : Nat) ({ cls := "ScriptDeskModel", name := "pushTruth", desc := "(Z)V" } : Jvm.MethodName)) ∈ sx_tbl := tw_of (i := 681) (by decide +kernel) rfl
theorem tw_683 : (Jvm.Cond.instanceMethod ({ cls := "ScriptDeskModel", name := "pushTruth", desc := "(Z)V" } : Jvm.MethodName)) ∈ sx_tbl := tw_of (i := 683) (by decide +kernel) rfl
set_option maxRecDepth 20000 in
theorem tw_684 : (Jvm.Cond.code ({ cls := "ScriptDeskModel", name := "pushTruth", desc := "(Z)V" } : Jvm.MethodName) prog_12_method_8_code (2 : Nat) (Option.none : Option Jvm.ClassFile.FieldType)) ∈ sx_tbl := tw_of (i := 684) rfl rfl
theorem tw_685 : (Jvm.Cond.methodLink "ScriptDeskModel" (146 : Nat) ({ cls := "ScriptDeskModel", name := "mustBeTrue", desc := "()V" } : Jvm.MethodName)) ∈ sx_tbl := tw_of (i := 685) (by decide +kernel) rfl
theorem tw_687 : (Jvm.Cond.instanceMethod ({ cls := "ScriptDeskModel", name := "mustBeTrue", desc := "()V" } : Jvm.MethodName)) ∈ sx_tbl := tw_of (i := 687) (by decide +kernel) rfl
set_option maxRecDepth 20000 in
theorem tw_688 : (Jvm.Cond.code ({ cls := "ScriptDeskModel", name := "mustBeTrue", desc := "()V" } : Jvm.MethodName) prog_12_method_14_code (1 : Nat) (Option.none : Option Jvm.ClassFile.FieldType)) ∈ sx_tbl := tw_of (i := 688) rfl rfl
theorem tw_689 : (Jvm.Cond.methodLink "ScriptDeskModel" (197 : Nat) ({ cls := "ScriptDeskModel", name := "numberOfOne", desc := "(I)V" } : Jvm.MethodName)) ∈ sx_tbl := tw_of (i := 689) (by decide +kernel) rfl
theorem tw_691 : (Jvm.Cond.instanceMethod ({ cls := "ScriptDeskModel", name := "numberOfOne", desc := "(I)V" } : Jvm.MethodName)) ∈ sx_tbl := tw_of (i := 691) (by decide +kernel) rfl
set_option maxRecDepth 20000 in
theorem tw_692 : (Jvm.Cond.code ({ cls := "ScriptDeskModel", name := "numberOfOne", desc := "(I)V" } : Jvm.MethodName) prog_12_method_32_code (4 : Nat) (Option.none : Option Jvm.ClassFile.FieldType)) ∈ sx_tbl := tw_of (i := 692) rfl rfl
theorem tw_693 : (Jvm.Cond.methodLink "ScriptDeskModel" (200 : Nat) ({ cls := "ScriptDeskModel", name := "numberOfTwo", desc := "(I)V" } : Jvm.MethodName)) ∈ sx_tbl := tw_of (i := 693) (by decide +kernel) rfl
theorem tw_695 : (Jvm.Cond.instanceMethod ({ cls := "ScriptDeskModel", name := "numberOfTwo", desc := "(I)V" } : Jvm.MethodName)) ∈ sx_tbl := tw_of (i := 695) (by decide +kernel) rfl
set_option maxRecDepth 20000 in
theorem tw_696 : (Jvm.Cond.code ({ cls := "ScriptDeskModel", name := "numberOfTwo", desc := "(I)V" } : Jvm.MethodName) prog_12_method_33_code (6 : Nat) (Option.none : Option Jvm.ClassFile.FieldType)) ∈ sx_tbl := tw_of (i := 696) rfl rfl
theorem tw_697 : (Jvm.Cond.methodLink "ScriptDeskModel" (203 : Nat) ({ cls := "ScriptDeskModel", name := "digest", desc := "(I)V" } : Jvm.MethodName)) ∈ sx_tbl := tw_of (i := 697) (by decide +kernel) rfl
theorem tw_699 : (Jvm.Cond.instanceMethod ({ cls := "ScriptDeskModel", name := "digest", desc := "(I)V" } : Jvm.MethodName)) ∈ sx_tbl := tw_of (i := 699) (by decide +kernel) rfl
set_option maxRecDepth 20000 in
theorem tw_700 : (Jvm.Cond.code ({ cls := "ScriptDeskModel", name := "digest", desc := "(I)V" } : Jvm.MethodName) prog_12_method_34_code (2 : Nat) (Option.none : Option Jvm.ClassFile.FieldType)) ∈ sx_tbl := tw_of (i := 700) rfl rfl
theorem tw_701 : (Jvm.Cond.methodLink "ScriptDeskModel" (185 : Nat) ({ cls := "ScriptDeskModel", name := "wide", desc := "(I)V" } : Jvm.MethodName)) ∈ sx_tbl := tw_of (i := 701) (by decide +kernel) rfl
theorem tw_703 : (Jvm.Cond.instanceMethod ({ cls := "ScriptDeskModel", name := "wide", desc := "(I)V" } : Jvm.MethodName)) ∈ sx_tbl := tw_of (i := 703) (by decide +kernel) rfl
set_option maxRecDepth 20000 in
theorem tw_704 : (Jvm.Cond.code ({ cls := "ScriptDeskModel", name := "wide", desc := "(I)V" } : Jvm.MethodName) prog_12_method_17_code (8 : Nat) (Option.none : Option Jvm.ClassFile.FieldType)) ∈ sx_tbl := tw_of (i := 704) rfl rfl
theorem tw_705 : (Jvm.Cond.methodLink "ScriptDeskModel" (81 : Nat) ({ cls := "ScriptDeskModel", name := "pad", desc := "(IZ)I" } : Jvm.MethodName)) ∈ sx_tbl := tw_of (i := 705) (by decide +kernel) rfl
theorem tw_707 : (Jvm.Cond.instanceMethod ({ cls := "ScriptDeskModel", name := "pad", desc := "(IZ)I" } : Jvm.MethodName)) ∈ sx_tbl := tw_of (i := 707) (by decide +kernel) rfl
set_option maxRecDepth 20000 in
theorem tw_708 : (Jvm.Cond.code ({ cls := "ScriptDeskModel", name := "pad", desc := "(IZ)I" } : Jvm.MethodName) prog_12_method_15_code (7 : Nat) (Option.some Jvm.ClassFile.FieldType.int)) ∈ sx_tbl := tw_of (i := 708) rfl rfl
theorem tw_709 : (Jvm.Cond.constant "ScriptDeskModel" (85 : Nat) (1779033703 : Int32)) ∈ sx_tbl := tw_of (i := 709) (by decide +kernel) rfl
theorem tw_710 : (Jvm.Cond.constant "ScriptDeskModel" (86 : Nat) (-1150833019 : Int32)) ∈ sx_tbl := tw_of (i := 710) (by decide +kernel) rfl
theorem tw_711 : (Jvm.Cond.constant "ScriptDeskModel" (87 : Nat) (1013904242 : Int32)) ∈ sx_tbl := tw_of (i := 711) (by decide +kernel) rfl
theorem tw_712 : (Jvm.Cond.constant "ScriptDeskModel" (88 : Nat) (-1521486534 : Int32)) ∈ sx_tbl := tw_of (i := 712) (by decide +kernel) rfl
theorem tw_713 : (Jvm.Cond.constant "ScriptDeskModel" (89 : Nat) (1359893119 : Int32)) ∈ sx_tbl := tw_of (i := 713) (by decide +kernel) rfl
theorem tw_714 : (Jvm.Cond.constant "ScriptDeskModel" (90 : Nat) (-1694144372 : Int32)) ∈ sx_tbl := tw_of (i := 714) (by decide +kernel) rfl
theorem tw_715 : (Jvm.Cond.constant "ScriptDeskModel" (91 : Nat) (528734635 : Int32)) ∈ sx_tbl := tw_of (i := 715) (by decide +kernel) rfl
theorem tw_716 : (Jvm.Cond.constant "ScriptDeskModel" (92 : Nat) (1541459225 : Int32)) ∈ sx_tbl := tw_of (i := 716) (by decide +kernel) rfl
theorem tw_717 : (Jvm.Cond.methodLink "ScriptDeskModel" (93 : Nat) ({ cls := "ScriptDeskModel", name := "right", desc := "(II)I" } : Jvm.MethodName)) ∈ sx_tbl := tw_of (i := 717) (by decide +kernel) rfl
theorem tw_718 : (Jvm.Cond.static ({ cls := "ScriptDeskModel", name := "right", desc := "(II)I" } : Jvm.MethodName)) ∈ sx_tbl := tw_of (i := 718) (by decide +kernel) rfl
set_option maxRecDepth 20000 in
theorem tw_719 : (Jvm.Cond.code ({ cls := "ScriptDeskModel", name := "right", desc := "(II)I" } : Jvm.MethodName) prog_12_method_16_code (2 : Nat) (Option.some Jvm.ClassFile.FieldType.int)) ∈ sx_tbl := tw_of (i := 719) rfl rfl
theorem tw_720 : (Jvm.Cond.fieldLink "ScriptDeskModel" (97 : Nat) "ScriptDeskModel" "CUBES" "[I") ∈ sx_tbl := tw_of (i := 720) (by decide +kernel) rfl
theorem tw_722 : (Jvm.Cond.methodLink "ScriptDeskModel" (188 : Nat) ({ cls := "ScriptDeskModel", name := "small", desc := "(I)V" } : Jvm.MethodName)) ∈ sx_tbl := tw_of (i := 722) (by decide +kernel) rfl
theorem tw_724 : (Jvm.Cond.instanceMethod ({ cls := "ScriptDeskModel", name := "small", desc := "(I)V" } : Jvm.MethodName)) ∈ sx_tbl := tw_of (i := 724) (by decide +kernel) rfl
set_option maxRecDepth 20000 in
theorem tw_725 : (Jvm.Cond.code ({ cls := "ScriptDeskModel", name := "small", desc := "(I)V" } : Jvm.MethodName) prog_12_method_19_code (8 : Nat) (Option.none : Option Jvm.ClassFile.FieldType)) ∈ sx_tbl := tw_of (i := 725) rfl rfl
theorem tw_726 : (Jvm.Cond.constant "ScriptDeskModel" (100 : Nat) (1732584193 : Int32)) ∈ sx_tbl := tw_of (i := 726) (by decide +kernel) rfl
theorem tw_727 : (Jvm.Cond.constant "ScriptDeskModel" (101 : Nat) (-271733879 : Int32)) ∈ sx_tbl := tw_of (i := 727) (by decide +kernel) rfl
theorem tw_728 : (Jvm.Cond.constant "ScriptDeskModel" (102 : Nat) (-1732584194 : Int32)) ∈ sx_tbl := tw_of (i := 728) (by decide +kernel) rfl
theorem tw_729 : (Jvm.Cond.constant "ScriptDeskModel" (103 : Nat) (271733878 : Int32)) ∈ sx_tbl := tw_of (i := 729) (by decide +kernel) rfl
theorem tw_730 : (Jvm.Cond.constant "ScriptDeskModel" (104 : Nat) (-1009589776 : Int32)) ∈ sx_tbl := tw_of (i := 730) (by decide +kernel) rfl
theorem tw_731 : (Jvm.Cond.constant "ScriptDeskModel" (105 : Nat) (1518500249 : Int32)) ∈ sx_tbl := tw_of (i := 731) (by decide +kernel) rfl
theorem tw_732 : (Jvm.Cond.constant "ScriptDeskModel" (106 : Nat) (1859775393 : Int32)) ∈ sx_tbl := tw_of (i := 732) (by decide +kernel) rfl
theorem tw_733 : (Jvm.Cond.constant "ScriptDeskModel" (107 : Nat) (-1894007588 : Int32)) ∈ sx_tbl := tw_of (i := 733) (by decide +kernel) rfl
theorem tw_734 : (Jvm.Cond.constant "ScriptDeskModel" (108 : Nat) (-1454113458 : Int32)) ∈ sx_tbl := tw_of (i := 734) (by decide +kernel) rfl
theorem tw_735 : (Jvm.Cond.constant "ScriptDeskModel" (109 : Nat) (1352829926 : Int32)) ∈ sx_tbl := tw_of (i := 735) (by decide +kernel) rfl
theorem tw_736 : (Jvm.Cond.constant "ScriptDeskModel" (110 : Nat) (1548603684 : Int32)) ∈ sx_tbl := tw_of (i := 736) (by decide +kernel) rfl
theorem tw_737 : (Jvm.Cond.constant "ScriptDeskModel" (111 : Nat) (1836072691 : Int32)) ∈ sx_tbl := tw_of (i := 737) (by decide +kernel) rfl
theorem tw_738 : (Jvm.Cond.constant "ScriptDeskModel" (112 : Nat) (2053994217 : Int32)) ∈ sx_tbl := tw_of (i := 738) (by decide +kernel) rfl
theorem tw_739 : (Jvm.Cond.methodLink "ScriptDeskModel" (113 : Nat) ({ cls := "ScriptDeskModel", name := "mixed", desc := "(IIII)I" } : Jvm.MethodName)) ∈ sx_tbl := tw_of (i := 739) (by decide +kernel) rfl
theorem tw_740 : (Jvm.Cond.static ({ cls := "ScriptDeskModel", name := "mixed", desc := "(IIII)I" } : Jvm.MethodName)) ∈ sx_tbl := tw_of (i := 740) (by decide +kernel) rfl
set_option maxRecDepth 20000 in
theorem tw_741 : (Jvm.Cond.code ({ cls := "ScriptDeskModel", name := "mixed", desc := "(IIII)I" } : Jvm.MethodName) prog_12_method_18_code (4 : Nat) (Option.some Jvm.ClassFile.FieldType.int)) ∈ sx_tbl := tw_of (i := 741) rfl rfl
theorem tw_742 : (Jvm.Cond.fieldLink "ScriptDeskModel" (117 : Nat) "ScriptDeskModel" "WORDS" "[I") ∈ sx_tbl := tw_of (i := 742) (by decide +kernel) rfl
theorem tw_744 : (Jvm.Cond.fieldLink "ScriptDeskModel" (120 : Nat) "ScriptDeskModel" "TURNS" "[I") ∈ sx_tbl := tw_of (i := 744) (by decide +kernel) rfl
theorem tw_746 : (Jvm.Cond.methodLink "ScriptDeskModel" (123 : Nat) ({ cls := "ScriptDeskModel", name := "step", desc := "(III)V" } : Jvm.MethodName)) ∈ sx_tbl := tw_of (i := 746) (by decide +kernel) rfl
theorem tw_748 : (Jvm.Cond.instanceMethod ({ cls := "ScriptDeskModel", name := "step", desc := "(III)V" } : Jvm.MethodName)) ∈ sx_tbl := tw_of (i := 748) (by decide +kernel) rfl
set_option maxRecDepth 20000 in
theorem tw_749 : (Jvm.Cond.code ({ cls := "ScriptDeskModel", name := "step", desc := "(III)V" } : Jvm.MethodName) prog_12_method_20_code (5 : Nat) (Option.none : Option Jvm.ClassFile.FieldType)) ∈ sx_tbl := tw_of (i := 749) rfl rfl
theorem tw_750 : (Jvm.Cond.fieldLink "ScriptDeskModel" (127 : Nat) "ScriptDeskModel" "OTHERS" "[I") ∈ sx_tbl := tw_of (i := 750) (by decide +kernel) rfl
theorem tw_752 : (Jvm.Cond.fieldLink "ScriptDeskModel" (130 : Nat) "ScriptDeskModel" "OTHER_TURNS" "[I") ∈ sx_tbl := tw_of (i := 752) (by decide +kernel) rfl
theorem tw_754 : (Jvm.Cond.methodLink "ScriptDeskModel" (206 : Nat) ({ cls := "ScriptDeskModel", name := "one", desc := "(Z)V" } : Jvm.MethodName)) ∈ sx_tbl := tw_of (i := 754) (by decide +kernel) rfl
theorem tw_756 : (Jvm.Cond.instanceMethod ({ cls := "ScriptDeskModel", name := "one", desc := "(Z)V" } : Jvm.MethodName)) ∈ sx_tbl := tw_of (i := 756) (by decide +kernel) rfl
set_option maxRecDepth 20000 in
theorem tw_757 : (Jvm.Cond.code ({ cls := "ScriptDeskModel", name := "one", desc := "(Z)V" } : Jvm.MethodName) prog_12_method_22_code (3 : Nat) (Option.none : Option Jvm.ClassFile.FieldType)) ∈ sx_tbl := tw_of (i := 757) rfl rfl
theorem tw_758 : (Jvm.Cond.methodLink "ScriptDeskModel" (138 : Nat) ({ cls := "ScriptDeskModel", name := "fit", desc := "(II)Z" } : Jvm.MethodName)) ∈ sx_tbl := tw_of (i := 758) (by decide +kernel) rfl
theorem tw_760 : (Jvm.Cond.instanceMethod ({ cls := "ScriptDeskModel", name := "fit", desc := "(II)Z" } : Jvm.MethodName)) ∈ sx_tbl := tw_of (i := 760) (by decide +kernel) rfl
set_option maxRecDepth 20000 in
theorem tw_761 : (Jvm.Cond.code ({ cls := "ScriptDeskModel", name := "fit", desc := "(II)Z" } : Jvm.MethodName) prog_12_method_21_code (5 : Nat) (Option.some Jvm.ClassFile.FieldType.boolean)) ∈ sx_tbl := tw_of (i := 761) rfl rfl
theorem tw_762 : (Jvm.Cond.constantLong "ScriptDeskModel" (136 : Nat) (3 : Int64)) ∈ sx_tbl := tw_of (i := 762) (by decide +kernel) rfl
theorem tw_763 : (Jvm.Cond.methodLink "ScriptDeskModel" (209 : Nat) ({ cls := "ScriptDeskModel", name := "several", desc := "(Z)V" } : Jvm.MethodName)) ∈ sx_tbl := tw_of (i := 763) (by decide +kernel) rfl
theorem tw_765 : (Jvm.Cond.instanceMethod ({ cls := "ScriptDeskModel", name := "several", desc := "(Z)V" } : Jvm.MethodName)) ∈ sx_tbl := tw_of (i := 765) (by decide +kernel) rfl
set_option maxRecDepth 20000 in
theorem tw_766 : (Jvm.Cond.code ({ cls := "ScriptDeskModel", name := "several", desc := "(Z)V" } : Jvm.MethodName) prog_12_method_23_code (6 : Nat) (Option.none : Option Jvm.ClassFile.FieldType)) ∈ sx_tbl := tw_of (i := 766) rfl rfl
theorem tw_767 : (Jvm.Cond.constantLong "ScriptDeskModel" (152 : Nat) (8 : Int64)) ∈ sx_tbl := tw_of (i := 767) (by decide +kernel) rfl
theorem tw_797 : (Jvm.Cond.sameMethod "ScriptDesk$BlockDigest" "ScriptDesk$BlockDigest" "pad" "(LScriptDesk$Elements;I)I") ∈ sx_tbl := tw_of (i := 797) (by decide +kernel) rfl
theorem tw_798 : (Jvm.Cond.sameMethod "ScriptDesk$BlockDigest" "ScriptDesk$BlockDigest" "write" "(I[II)V") ∈ sx_tbl := tw_of (i := 798) (by decide +kernel) rfl
theorem tw_799 : (Jvm.Cond.sameMethod "ScriptDesk$BlockDigest" "ScriptDesk$BlockDigest" "shiftOf" "(I)I") ∈ sx_tbl := tw_of (i := 799) (by decide +kernel) rfl
theorem tw_800 : (Jvm.Cond.sameMethod "ScriptDesk$BlockDigest" "ScriptDesk$BlockDigest" "readBlock" "(I)V") ∈ sx_tbl := tw_of (i := 800) (by decide +kernel) rfl
theorem ts_0 : Jvm.Cond.selects "ScriptDesk" ({ cls := "ScriptDesk", name := "restart", desc := "()V" } : Jvm.MethodName) ({ cls := "ScriptDesk", name := "restart", desc := "()V" } : Jvm.MethodName) ∈ sx_tbl := ts_of (i := 0) rfl rfl
theorem ts_1 : Jvm.Cond.selects "ScriptDesk" ({ cls := "ScriptDesk", name := "pushFromScript", desc := "(III)I" } : Jvm.MethodName) ({ cls := "ScriptDesk", name := "pushFromScript", desc := "(III)I" } : Jvm.MethodName) ∈ sx_tbl := ts_of (i := 1) rfl rfl
theorem ts_2 : Jvm.Cond.selects "ScriptDesk" ({ cls := "ScriptDesk", name := "perform", desc := "(I)I" } : Jvm.MethodName) ({ cls := "ScriptDesk", name := "perform", desc := "(I)I" } : Jvm.MethodName) ∈ sx_tbl := ts_of (i := 2) rfl rfl
theorem ts_3 : Jvm.Cond.selects "ScriptDesk" ({ cls := "ScriptDesk", name := "enterPart", desc := "(Z)I" } : Jvm.MethodName) ({ cls := "ScriptDesk", name := "enterPart", desc := "(Z)I" } : Jvm.MethodName) ∈ sx_tbl := ts_of (i := 3) rfl rfl
theorem ts_4 : Jvm.Cond.selects "ScriptDesk" ({ cls := "ScriptDesk", name := "leavePart", desc := "(Z)I" } : Jvm.MethodName) ({ cls := "ScriptDesk", name := "leavePart", desc := "(Z)I" } : Jvm.MethodName) ∈ sx_tbl := ts_of (i := 4) rfl rfl
theorem ts_5 : Jvm.Cond.selects "ScriptDesk" ({ cls := "ScriptDesk", name := "pushSmallNumber", desc := "(I)I" } : Jvm.MethodName) ({ cls := "ScriptDesk", name := "pushSmallNumber", desc := "(I)I" } : Jvm.MethodName) ∈ sx_tbl := ts_of (i := 5) rfl rfl
theorem ts_6 : Jvm.Cond.selects "ScriptDesk" ({ cls := "ScriptDesk", name := "performPlain", desc := "(I)I" } : Jvm.MethodName) ({ cls := "ScriptDesk", name := "performPlain", desc := "(I)I" } : Jvm.MethodName) ∈ sx_tbl := ts_of (i := 6) rfl rfl
theorem ts_7 : Jvm.Cond.selects "ScriptDesk$Elements" ({ cls := "ScriptDesk$Elements", name := "swapSlots", desc := "(II)V" } : Jvm.MethodName) ({ cls := "ScriptDesk$Elements", name := "swapSlots", desc := "(II)V" } : Jvm.MethodName) ∈ sx_tbl := ts_of (i := 7) rfl rfl
theorem ts_8 : Jvm.Cond.selects "ScriptDesk" ({ cls := "ScriptDesk", name := "performDigest", desc := "(I)I" } : Jvm.MethodName) ({ cls := "ScriptDesk", name := "performDigest", desc := "(I)I" } : Jvm.MethodName) ∈ sx_tbl := ts_of (i := 8) rfl rfl
theorem ts_9 : Jvm.Cond.selects "ScriptDesk$Sha256" ({ cls := "ScriptDesk$Sha256", name := "spreadWords", desc := "()V" } : Jvm.MethodName) ({ cls := "ScriptDesk$Sha256", name := "spreadWords", desc := "()V" } : Jvm.MethodName) ∈ sx_tbl := ts_of (i := 9) rfl rfl
theorem ts_10 : Jvm.Cond.selects "ScriptDesk$Signatures" ({ cls := "ScriptDesk$Signatures", name := "askOne", desc := "(LScriptDesk$Elements;)I" } : Jvm.MethodName) ({ cls := "ScriptDesk$Signatures", name := "askOne", desc := "(LScriptDesk$Elements;)I" } : Jvm.MethodName) ∈ sx_tbl := ts_of (i := 10) rfl rfl
theorem ts_11 : Jvm.Cond.selects "ScriptDesk$Signatures" ({ cls := "ScriptDesk$Signatures", name := "fits", desc := "(LScriptDesk$Elements;II)Z" } : Jvm.MethodName) ({ cls := "ScriptDesk$Signatures", name := "fits", desc := "(LScriptDesk$Elements;II)Z" } : Jvm.MethodName) ∈ sx_tbl := ts_of (i := 11) rfl rfl
theorem ts_12 : Jvm.Cond.selects "ScriptDesk$Signatures" ({ cls := "ScriptDesk$Signatures", name := "askMany", desc := "(LScriptDesk$Elements;LScriptDesk$Tally;)I" } : Jvm.MethodName) ({ cls := "ScriptDesk$Signatures", name := "askMany", desc := "(LScriptDesk$Elements;LScriptDesk$Tally;)I" } : Jvm.MethodName) ∈ sx_tbl := ts_of (i := 12) rfl rfl
theorem ts_13 : Jvm.Cond.selects "ScriptDesk$Signatures" ({ cls := "ScriptDesk$Signatures", name := "allFit", desc := "(LScriptDesk$Elements;II)Z" } : Jvm.MethodName) ({ cls := "ScriptDesk$Signatures", name := "allFit", desc := "(LScriptDesk$Elements;II)Z" } : Jvm.MethodName) ∈ sx_tbl := ts_of (i := 13) rfl rfl
theorem ts_14 : Jvm.Cond.selects "ScriptDeskModel" ({ cls := "ScriptDeskModel", name := "next", desc := "(I)I" } : Jvm.MethodName) ({ cls := "ScriptDeskModel", name := "next", desc := "(I)I" } : Jvm.MethodName) ∈ sx_tbl := ts_of (i := 14) rfl rfl
theorem ts_15 : Jvm.Cond.selects "ScriptDeskModel" ({ cls := "ScriptDeskModel", name := "isDone", desc := "()Z" } : Jvm.MethodName) ({ cls := "ScriptDeskModel", name := "isDone", desc := "()Z" } : Jvm.MethodName) ∈ sx_tbl := ts_of (i := 15) rfl rfl
theorem ts_16 : Jvm.Cond.selects "ScriptDeskModel" ({ cls := "ScriptDeskModel", name := "fails", desc := "(I)V" } : Jvm.MethodName) ({ cls := "ScriptDeskModel", name := "fails", desc := "(I)V" } : Jvm.MethodName) ∈ sx_tbl := ts_of (i := 16) rfl rfl
theorem ts_17 : Jvm.Cond.selects "ScriptDeskModel" ({ cls := "ScriptDeskModel", name := "pushes", desc := "(IIZ)I" } : Jvm.MethodName) ({ cls := "ScriptDeskModel", name := "pushes", desc := "(IIZ)I" } : Jvm.MethodName) ∈ sx_tbl := ts_of (i := 17) rfl rfl
theorem ts_18 : Jvm.Cond.selects "ScriptDeskModel" ({ cls := "ScriptDeskModel", name := "flow", desc := "(I)V" } : Jvm.MethodName) ({ cls := "ScriptDeskModel", name := "flow", desc := "(I)V" } : Jvm.MethodName) ∈ sx_tbl := ts_of (i := 18) rfl rfl
theorem ts_19 : Jvm.Cond.selects "ScriptDeskModel" ({ cls := "ScriptDeskModel", name := "has", desc := "(I)Z" } : Jvm.MethodName) ({ cls := "ScriptDeskModel", name := "has", desc := "(I)Z" } : Jvm.MethodName) ∈ sx_tbl := ts_of (i := 19) rfl rfl
theorem ts_20 : Jvm.Cond.selects "ScriptDeskModel" ({ cls := "ScriptDeskModel", name := "isTrueRow", desc := "(I)Z" } : Jvm.MethodName) ({ cls := "ScriptDeskModel", name := "isTrueRow", desc := "(I)Z" } : Jvm.MethodName) ∈ sx_tbl := ts_of (i := 20) rfl rfl
theorem ts_21 : Jvm.Cond.selects "ScriptDeskModel" ({ cls := "ScriptDeskModel", name := "pushNumber", desc := "(J)V" } : Jvm.MethodName) ({ cls := "ScriptDeskModel", name := "pushNumber", desc := "(J)V" } : Jvm.MethodName) ∈ sx_tbl := ts_of (i := 21) rfl rfl
theorem ts_22 : Jvm.Cond.selects "ScriptDeskModel" ({ cls := "ScriptDeskModel", name := "operation", desc := "(I)V" } : Jvm.MethodName) ({ cls := "ScriptDeskModel", name := "operation", desc := "(I)V" } : Jvm.MethodName) ∈ sx_tbl := ts_of (i := 22) rfl rfl
theorem ts_23 : Jvm.Cond.selects "ScriptDeskModel" ({ cls := "ScriptDeskModel", name := "moves", desc := "(I)V" } : Jvm.MethodName) ({ cls := "ScriptDeskModel", name := "moves", desc := "(I)V" } : Jvm.MethodName) ∈ sx_tbl := ts_of (i := 23) rfl rfl
theorem ts_24 : Jvm.Cond.selects "ScriptDeskModel" ({ cls := "ScriptDeskModel", name := "copy", desc := "(II)V" } : Jvm.MethodName) ({ cls := "ScriptDeskModel", name := "copy", desc := "(II)V" } : Jvm.MethodName) ∈ sx_tbl := ts_of (i := 24) rfl rfl
theorem ts_25 : Jvm.Cond.selects "ScriptDeskModel" ({ cls := "ScriptDeskModel", name := "push", desc := "(I)V" } : Jvm.MethodName) ({ cls := "ScriptDeskModel", name := "push", desc := "(I)V" } : Jvm.MethodName) ∈ sx_tbl := ts_of (i := 25) rfl rfl
theorem ts_26 : Jvm.Cond.selects "ScriptDeskModel" ({ cls := "ScriptDeskModel", name := "again", desc := "(III)V" } : Jvm.MethodName) ({ cls := "ScriptDeskModel", name := "again", desc := "(III)V" } : Jvm.MethodName) ∈ sx_tbl := ts_of (i := 26) rfl rfl
theorem ts_27 : Jvm.Cond.selects "ScriptDeskModel" ({ cls := "ScriptDeskModel", name := "turn", desc := "(II)V" } : Jvm.MethodName) ({ cls := "ScriptDeskModel", name := "turn", desc := "(II)V" } : Jvm.MethodName) ∈ sx_tbl := ts_of (i := 27) rfl rfl
theorem ts_28 : Jvm.Cond.selects "ScriptDeskModel" ({ cls := "ScriptDeskModel", name := "top", desc := "(I)I" } : Jvm.MethodName) ({ cls := "ScriptDeskModel", name := "top", desc := "(I)I" } : Jvm.MethodName) ∈ sx_tbl := ts_of (i := 28) rfl rfl
theorem ts_29 : Jvm.Cond.selects "ScriptDeskModel" ({ cls := "ScriptDeskModel", name := "takeOut", desc := "(I)V" } : Jvm.MethodName) ({ cls := "ScriptDeskModel", name := "takeOut", desc := "(I)V" } : Jvm.MethodName) ∈ sx_tbl := ts_of (i := 29) rfl rfl
theorem ts_30 : Jvm.Cond.selects "ScriptDeskModel" ({ cls := "ScriptDeskModel", name := "pick", desc := "(Z)V" } : Jvm.MethodName) ({ cls := "ScriptDeskModel", name := "pick", desc := "(Z)V" } : Jvm.MethodName) ∈ sx_tbl := ts_of (i := 30) rfl rfl
theorem ts_31 : Jvm.Cond.selects "ScriptDeskModel" ({ cls := "ScriptDeskModel", name := "reads", desc := "(I)Z" } : Jvm.MethodName) ({ cls := "ScriptDeskModel", name := "reads", desc := "(I)Z" } : Jvm.MethodName) ∈ sx_tbl := ts_of (i := 31) rfl rfl
theorem ts_32 : Jvm.Cond.selects "ScriptDeskModel" ({ cls := "ScriptDeskModel", name := "equal", desc := "(Z)V" } : Jvm.MethodName) ({ cls := "ScriptDeskModel", name := "equal", desc := "(Z)V" } : Jvm.MethodName) ∈ sx_tbl := ts_of (i := 32) rfl rfl
theorem ts_33 : Jvm.Cond.selects "ScriptDeskModel" ({ cls := "ScriptDeskModel", name := "isSame", desc := "(II)Z" } : Jvm.MethodName) ({ cls := "ScriptDeskModel", name := "isSame", desc := "(II)Z" } : Jvm.MethodName) ∈ sx_tbl := ts_of (i := 33) rfl rfl
theorem ts_34 : Jvm.Cond.selects "ScriptDeskModel" ({ cls := "ScriptDeskModel", name := "pushTruth", desc := "(Z)V" } : Jvm.MethodName) ({ cls := "ScriptDeskModel", name := "pushTruth", desc := "(Z)V" } : Jvm.MethodName) ∈ sx_tbl := ts_of (i := 34) rfl rfl
theorem ts_35 : Jvm.Cond.selects "ScriptDeskModel" ({ cls := "ScriptDeskModel", name := "mustBeTrue", desc := "()V" } : Jvm.MethodName) ({ cls := "ScriptDeskModel", name := "mustBeTrue", desc := "()V" } : Jvm.MethodName) ∈ sx_tbl := ts_of (i := 35) rfl rfl
theorem ts_36 : Jvm.Cond.selects "ScriptDeskModel" ({ cls := "ScriptDeskModel", name := "numberOfOne", desc := "(I)V" } : Jvm.MethodName) ({ cls := "ScriptDeskModel", name := "numberOfOne", desc := "(I)V" } : Jvm.MethodName) ∈ sx_tbl := ts_of (i := 36) rfl rfl
theorem ts_37 : Jvm.Cond.selects "ScriptDeskModel" ({ cls := "ScriptDeskModel", name := "numberOfTwo", desc := "(I)V" } : Jvm.MethodName) ({ cls := "ScriptDeskModel", name := "numberOfTwo", desc := "(I)V" } : Jvm.MethodName) ∈ sx_tbl := ts_of (i := 37) rfl rfl
theorem ts_38 : Jvm.Cond.selects "ScriptDeskModel" ({ cls := "ScriptDeskModel", name := "digest", desc := "(I)V" } : Jvm.MethodName) ({ cls := "ScriptDeskModel", name := "digest", desc := "(I)V" } : Jvm.MethodName) ∈ sx_tbl := ts_of (i := 38) rfl rfl
theorem ts_39 : Jvm.Cond.selects "ScriptDeskModel" ({ cls := "ScriptDeskModel", name := "wide", desc := "(I)V" } : Jvm.MethodName) ({ cls := "ScriptDeskModel", name := "wide", desc := "(I)V" } : Jvm.MethodName) ∈ sx_tbl := ts_of (i := 39) rfl rfl
theorem ts_40 : Jvm.Cond.selects "ScriptDeskModel" ({ cls := "ScriptDeskModel", name := "pad", desc := "(IZ)I" } : Jvm.MethodName) ({ cls := "ScriptDeskModel", name := "pad", desc := "(IZ)I" } : Jvm.MethodName) ∈ sx_tbl := ts_of (i := 40) rfl rfl
theorem ts_41 : Jvm.Cond.selects "ScriptDeskModel" ({ cls := "ScriptDeskModel", name := "small", desc := "(I)V" } : Jvm.MethodName) ({ cls := "ScriptDeskModel", name := "small", desc := "(I)V" } : Jvm.MethodName) ∈ sx_tbl := ts_of (i := 41) rfl rfl
theorem ts_42 : Jvm.Cond.selects "ScriptDeskModel" ({ cls := "ScriptDeskModel", name := "step", desc := "(III)V" } : Jvm.MethodName) ({ cls := "ScriptDeskModel", name := "step", desc := "(III)V" } : Jvm.MethodName) ∈ sx_tbl := ts_of (i := 42) rfl rfl
theorem ts_43 : Jvm.Cond.selects "ScriptDeskModel" ({ cls := "ScriptDeskModel", name := "one", desc := "(Z)V" } : Jvm.MethodName) ({ cls := "ScriptDeskModel", name := "one", desc := "(Z)V" } : Jvm.MethodName) ∈ sx_tbl := ts_of (i := 43) rfl rfl
theorem ts_44 : Jvm.Cond.selects "ScriptDeskModel" ({ cls := "ScriptDeskModel", name := "fit", desc := "(II)Z" } : Jvm.MethodName) ({ cls := "ScriptDeskModel", name := "fit", desc := "(II)Z" } : Jvm.MethodName) ∈ sx_tbl := ts_of (i := 44) rfl rfl
theorem ts_45 : Jvm.Cond.selects "ScriptDeskModel" ({ cls := "ScriptDeskModel", name := "several", desc := "(Z)V" } : Jvm.MethodName) ({ cls := "ScriptDeskModel", name := "several", desc := "(Z)V" } : Jvm.MethodName) ∈ sx_tbl := ts_of (i := 45) rfl rfl
theorem sp_0 : Jvm.Cond.selects "ScriptDesk$Ripemd160" ({ cls := "ScriptDesk$BlockDigest", name := "shiftOf", desc := "(I)I" } : Jvm.MethodName) ({ cls := "ScriptDesk$BlockDigest", name := "shiftOf", desc := "(I)I" } : Jvm.MethodName) ∈ sx_tbl := List.mem_append_left _ (List.mem_of_getElem? (i := 0) rfl)
theorem sp_1 : Jvm.Cond.selects "ScriptDesk$Ripemd160" ({ cls := "ScriptDesk$BlockDigest", name := "write", desc := "(I[II)V" } : Jvm.MethodName) ({ cls := "ScriptDesk$BlockDigest", name := "write", desc := "(I[II)V" } : Jvm.MethodName) ∈ sx_tbl := List.mem_append_left _ (List.mem_of_getElem? (i := 1) rfl)
theorem sp_2 : Jvm.Cond.selects "ScriptDesk$Ripemd160" ({ cls := "ScriptDesk$BlockDigest", name := "pad", desc := "(LScriptDesk$Elements;I)I" } : Jvm.MethodName) ({ cls := "ScriptDesk$BlockDigest", name := "pad", desc := "(LScriptDesk$Elements;I)I" } : Jvm.MethodName) ∈ sx_tbl := List.mem_append_left _ (List.mem_of_getElem? (i := 2) rfl)
theorem sp_3 : Jvm.Cond.selects "ScriptDesk$Ripemd160" ({ cls := "ScriptDesk$BlockDigest", name := "readBlock", desc := "(I)V" } : Jvm.MethodName) ({ cls := "ScriptDesk$BlockDigest", name := "readBlock", desc := "(I)V" } : Jvm.MethodName) ∈ sx_tbl := List.mem_append_left _ (List.mem_of_getElem? (i := 3) rfl)
theorem sp_4 : Jvm.Cond.selects "ScriptDesk$Sha256" ({ cls := "ScriptDesk$BlockDigest", name := "shiftOf", desc := "(I)I" } : Jvm.MethodName) ({ cls := "ScriptDesk$BlockDigest", name := "shiftOf", desc := "(I)I" } : Jvm.MethodName) ∈ sx_tbl := List.mem_append_left _ (List.mem_of_getElem? (i := 4) rfl)
theorem sp_5 : Jvm.Cond.selects "ScriptDesk$Sha256" ({ cls := "ScriptDesk$BlockDigest", name := "write", desc := "(I[II)V" } : Jvm.MethodName) ({ cls := "ScriptDesk$BlockDigest", name := "write", desc := "(I[II)V" } : Jvm.MethodName) ∈ sx_tbl := List.mem_append_left _ (List.mem_of_getElem? (i := 5) rfl)
theorem sp_6 : Jvm.Cond.selects "ScriptDesk$Sha256" ({ cls := "ScriptDesk$BlockDigest", name := "pad", desc := "(LScriptDesk$Elements;I)I" } : Jvm.MethodName) ({ cls := "ScriptDesk$BlockDigest", name := "pad", desc := "(LScriptDesk$Elements;I)I" } : Jvm.MethodName) ∈ sx_tbl := List.mem_append_left _ (List.mem_of_getElem? (i := 6) rfl)
theorem sp_7 : Jvm.Cond.selects "ScriptDesk$Sha256" ({ cls := "ScriptDesk$BlockDigest", name := "readBlock", desc := "(I)V" } : Jvm.MethodName) ({ cls := "ScriptDesk$BlockDigest", name := "readBlock", desc := "(I)V" } : Jvm.MethodName) ∈ sx_tbl := List.mem_append_left _ (List.mem_of_getElem? (i := 7) rfl)
end
section
def wdX (q : Nat → Nat) (cA : ClassId) (μ : sd_Me) : va_W := [
  (q 0, .inr (0, [.ref (q 1), .int (μ.1 0 1), .int (μ.1 0 2), .int (μ.1 0 3), .ref (q 2), .ref (q 6), .ref (q 7), .ref (q 8), .ref (q 9), .ref (q 14)])),
  (q 1, .inl (cA, 200, .inl (μ.1 1))),
  (q 2, .inr (1, [.ref (q 3), .ref (q 4), .ref (q 5), .int (μ.1 2 3), .int (μ.1 2 4)])),
  (q 3, .inl (cA, 7680, .inl (μ.1 3))),
  (q 4, .inl (cA, 64, .inl (μ.1 4))),
  (q 5, .inl (cA, 64, .inl (μ.1 5))),
  (q 6, .inr (2, [.int (μ.1 6 0)])),
  (q 7, .inr (3, [.int (μ.1 7 0), .int (μ.1 7 1)])),
  (q 8, .inr (4, [.int (μ.1 8 0), .int (μ.1 8 1)])),
  (q 9, .inr (5, [.ref (q 10), .ref (q 11), .int (μ.1 9 2), .ref (q 12), .ref (q 13)])),
  (q 10, .inl (cA, 192, .inl (μ.1 10))),
  (q 11, .inl (cA, 32, .inl (μ.1 11))),
  (q 12, .inl (cA, 64, .inl (μ.1 12))),
  (q 13, .inl (cA, 8, .inl (μ.1 13))),
  (q 14, .inr (6, [.ref (q 15), .ref (q 16), .int (μ.1 14 2), .ref (q 17), .ref (q 18), .ref (q 19), .ref (q 20)])),
  (q 15, .inl (cA, 192, .inl (μ.1 15))),
  (q 16, .inl (cA, 20, .inl (μ.1 16))),
  (q 17, .inl (cA, 16, .inl (μ.1 17))),
  (q 18, .inl (cA, 5, .inl (μ.1 18))),
  (q 19, .inl (cA, 5, .inl (μ.1 19))),
  (q 20, .inl (cA, 5, .inl (μ.1 20)))]
def tabX0_l : List Int32 := [1732584193, -271733879, -1732584194, 271733878, -1009589776]
def tabX0 : Nat → Int32 := fun j => tabX0_l.getD j 0
def tabX1_l : List Int32 := [1779033703, -1150833019, 1013904242, -1521486534, 1359893119, -1694144372, 528734635, 1541459225]
def tabX1 : Nat → Int32 := fun j => tabX1_l.getD j 0
def tabX2_l : List Int32 := [0, 1, 2, 3, 4, 5, 6, 7, 8, 9, 10, 11, 12, 13, 14, 15, 7, 4, 13, 1, 10, 6, 15, 3, 12, 0, 9, 5, 2, 14, 11, 8, 3, 10, 14, 4, 9, 15, 8, 1, 2, 7, 0, 6, 13, 11, 5, 12, 1, 9, 11, 10, 0, 8, 12, 4, 13, 3, 7, 15, 14, 5, 6, 2, 4, 0, 5, 9, 7, 12, 2, 10, 14, 1, 3, 8, 11, 6, 15, 13]
def tabX2 : Nat → Int32 := fun j => tabX2_l.getD j 0
def tabX3_l : List Int32 := [0, 1518500249, 1859775393, -1894007588, -1454113458]
def tabX3 : Nat → Int32 := fun j => tabX3_l.getD j 0
def tabX4_l : List Int32 := [11, 14, 15, 12, 5, 8, 7, 9, 11, 13, 14, 15, 6, 7, 9, 8, 7, 6, 8, 13, 11, 9, 7, 15, 7, 12, 15, 9, 11, 7, 13, 12, 11, 13, 6, 7, 14, 9, 13, 15, 14, 8, 13, 6, 5, 12, 7, 5, 11, 12, 14, 15, 14, 15, 9, 8, 9, 14, 5, 6, 8, 6, 5, 12, 9, 15, 5, 11, 6, 8, 13, 12, 5, 12, 13, 14, 11, 8, 5, 6]
def tabX4 : Nat → Int32 := fun j => tabX4_l.getD j 0
def tabX5_l : List Int32 := [5, 14, 7, 0, 9, 2, 11, 4, 13, 6, 15, 8, 1, 10, 3, 12, 6, 11, 3, 7, 0, 13, 5, 10, 14, 15, 8, 12, 4, 9, 1, 2, 15, 5, 1, 3, 7, 14, 6, 9, 11, 8, 12, 2, 10, 0, 4, 13, 8, 6, 4, 1, 3, 11, 15, 0, 5, 12, 2, 13, 9, 7, 10, 14, 12, 15, 10, 4, 1, 5, 8, 7, 6, 2, 13, 14, 0, 3, 9, 11]
def tabX5 : Nat → Int32 := fun j => tabX5_l.getD j 0
def tabX6_l : List Int32 := [1352829926, 1548603684, 1836072691, 2053994217, 0]
def tabX6 : Nat → Int32 := fun j => tabX6_l.getD j 0
def tabX7_l : List Int32 := [8, 9, 9, 11, 13, 15, 15, 5, 7, 7, 8, 11, 14, 14, 12, 6, 9, 13, 15, 7, 12, 8, 9, 11, 7, 7, 12, 7, 6, 15, 13, 11, 9, 7, 15, 11, 8, 6, 6, 14, 12, 13, 5, 14, 13, 13, 7, 5, 15, 5, 8, 11, 14, 14, 6, 14, 6, 9, 12, 9, 12, 5, 15, 8, 8, 5, 12, 9, 12, 5, 14, 6, 8, 13, 6, 5, 15, 13, 11, 11]
def tabX7 : Nat → Int32 := fun j => tabX7_l.getD j 0
def tabX8_l : List Int32 := [1116352408, 1899447441, -1245643825, -373957723, 961987163, 1508970993, -1841331548, -1424204075, -670586216, 310598401, 607225278, 1426881987, 1925078388, -2132889090, -1680079193, -1046744716, -459576895, -272742522, 264347078, 604807628, 770255983, 1249150122, 1555081692, 1996064986, -1740746414, -1473132947, -1341970488, -1084653625, -958395405, -710438585, 113926993, 338241895, 666307205, 773529912, 1294757372, 1396182291, 1695183700, 1986661051, -2117940946, -1838011259, -1564481375, -1474664885, -1035236496, -949202525, -778901479, -694614492, -200395387, 275423344, 430227734, 506948616, 659060556, 883997877, 958139571, 1322822218, 1537002063, 1747873779, 1955562222, 2024104815, -2067236844, -1933114872, -1866530822, -1538233109, -1090935817, -965641998]
def tabX8 : Nat → Int32 := fun j => tabX8_l.getD j 0
def ZX (tq : Nat → Nat) (A : Nat → Prop) (U : State) (H : Heap) : Prop := va_Nw (.declares ({ cls := "ScriptDesk$BlockDigest", name := "begin", desc := "()V" } : Jvm.MethodName)) U ∧ va_Nw (.declares ({ cls := "ScriptDesk$BlockDigest", name := "mix", desc := "()V" } : Jvm.MethodName)) U ∧ (va_Z "ScriptDesk$Ripemd160" "FIRST" "[I" (.ref (tq 0)) A U H ∧ va_T .int (tq 0) 5 (fun j => .int (tabX0 j)) A U H) ∧ (va_Z "ScriptDesk$Sha256" "FIRST" "[I" (.ref (tq 1)) A U H ∧ va_T .int (tq 1) 8 (fun j => .int (tabX1 j)) A U H) ∧ (va_Z "ScriptDesk$Ripemd160" "LEFT_WORD" "[I" (.ref (tq 2)) A U H ∧ va_T .int (tq 2) 80 (fun j => .int (tabX2 j)) A U H) ∧ (va_Z "ScriptDesk$Ripemd160" "LEFT_ADDED" "[I" (.ref (tq 3)) A U H ∧ va_T .int (tq 3) 5 (fun j => .int (tabX3 j)) A U H) ∧ (va_Z "ScriptDesk$Ripemd160" "LEFT_TURN" "[I" (.ref (tq 4)) A U H ∧ va_T .int (tq 4) 80 (fun j => .int (tabX4 j)) A U H) ∧ (va_Z "ScriptDesk$Ripemd160" "RIGHT_WORD" "[I" (.ref (tq 5)) A U H ∧ va_T .int (tq 5) 80 (fun j => .int (tabX5 j)) A U H) ∧ (va_Z "ScriptDesk$Ripemd160" "RIGHT_ADDED" "[I" (.ref (tq 6)) A U H ∧ va_T .int (tq 6) 5 (fun j => .int (tabX6 j)) A U H) ∧ (va_Z "ScriptDesk$Ripemd160" "RIGHT_TURN" "[I" (.ref (tq 7)) A U H ∧ va_T .int (tq 7) 80 (fun j => .int (tabX7 j)) A U H) ∧ (va_Z "ScriptDesk$Sha256" "ROUND" "[I" (.ref (tq 8)) A U H ∧ va_T .int (tq 8) 64 (fun j => .int (tabX8 j)) A U H)
theorem hZX_D0 {tq : Nat → Nat} {A : Nat → Prop} {U : State} {H : Heap} (h : ZX tq A U H) : va_Nw (.declares ({ cls := "ScriptDesk$BlockDigest", name := "begin", desc := "()V" } : Jvm.MethodName)) U := h.1
theorem hZX_D1 {tq : Nat → Nat} {A : Nat → Prop} {U : State} {H : Heap} (h : ZX tq A U H) : va_Nw (.declares ({ cls := "ScriptDesk$BlockDigest", name := "mix", desc := "()V" } : Jvm.MethodName)) U := h.2.1
theorem sd_Nw_decl {x : MethodName} {u U : State} (h : u.vm.Alike U.vm) (hZ : va_Nw (.declares x) u) : va_Nw (.declares x) U := va_tabs rfl (rfl : (u.setVm U.vm).vm = U.vm) (by rw [Cond.declares_setVm h]; exact hZ)
theorem hZX_Z0 {tq : Nat → Nat} {A : Nat → Prop} {U : State} {H : Heap} (h : ZX tq A U H) : va_Z "ScriptDesk$Ripemd160" "FIRST" "[I" (.ref (tq 0)) A U H := h.2.2.1.1
theorem hZX_T0 {tq : Nat → Nat} {A : Nat → Prop} {U : State} {H : Heap} (h : ZX tq A U H) : va_T .int (tq 0) 5 (fun j => .int (tabX0 j)) A U H := h.2.2.1.2
theorem hZX_Z1 {tq : Nat → Nat} {A : Nat → Prop} {U : State} {H : Heap} (h : ZX tq A U H) : va_Z "ScriptDesk$Sha256" "FIRST" "[I" (.ref (tq 1)) A U H := h.2.2.2.1.1
theorem hZX_T1 {tq : Nat → Nat} {A : Nat → Prop} {U : State} {H : Heap} (h : ZX tq A U H) : va_T .int (tq 1) 8 (fun j => .int (tabX1 j)) A U H := h.2.2.2.1.2
theorem hZX_Z2 {tq : Nat → Nat} {A : Nat → Prop} {U : State} {H : Heap} (h : ZX tq A U H) : va_Z "ScriptDesk$Ripemd160" "LEFT_WORD" "[I" (.ref (tq 2)) A U H := h.2.2.2.2.1.1
theorem hZX_T2 {tq : Nat → Nat} {A : Nat → Prop} {U : State} {H : Heap} (h : ZX tq A U H) : va_T .int (tq 2) 80 (fun j => .int (tabX2 j)) A U H := h.2.2.2.2.1.2
theorem hZX_Z3 {tq : Nat → Nat} {A : Nat → Prop} {U : State} {H : Heap} (h : ZX tq A U H) : va_Z "ScriptDesk$Ripemd160" "LEFT_ADDED" "[I" (.ref (tq 3)) A U H := h.2.2.2.2.2.1.1
theorem hZX_T3 {tq : Nat → Nat} {A : Nat → Prop} {U : State} {H : Heap} (h : ZX tq A U H) : va_T .int (tq 3) 5 (fun j => .int (tabX3 j)) A U H := h.2.2.2.2.2.1.2
theorem hZX_Z4 {tq : Nat → Nat} {A : Nat → Prop} {U : State} {H : Heap} (h : ZX tq A U H) : va_Z "ScriptDesk$Ripemd160" "LEFT_TURN" "[I" (.ref (tq 4)) A U H := h.2.2.2.2.2.2.1.1
theorem hZX_T4 {tq : Nat → Nat} {A : Nat → Prop} {U : State} {H : Heap} (h : ZX tq A U H) : va_T .int (tq 4) 80 (fun j => .int (tabX4 j)) A U H := h.2.2.2.2.2.2.1.2
theorem hZX_Z5 {tq : Nat → Nat} {A : Nat → Prop} {U : State} {H : Heap} (h : ZX tq A U H) : va_Z "ScriptDesk$Ripemd160" "RIGHT_WORD" "[I" (.ref (tq 5)) A U H := h.2.2.2.2.2.2.2.1.1
theorem hZX_T5 {tq : Nat → Nat} {A : Nat → Prop} {U : State} {H : Heap} (h : ZX tq A U H) : va_T .int (tq 5) 80 (fun j => .int (tabX5 j)) A U H := h.2.2.2.2.2.2.2.1.2
theorem hZX_Z6 {tq : Nat → Nat} {A : Nat → Prop} {U : State} {H : Heap} (h : ZX tq A U H) : va_Z "ScriptDesk$Ripemd160" "RIGHT_ADDED" "[I" (.ref (tq 6)) A U H := h.2.2.2.2.2.2.2.2.1.1
theorem hZX_T6 {tq : Nat → Nat} {A : Nat → Prop} {U : State} {H : Heap} (h : ZX tq A U H) : va_T .int (tq 6) 5 (fun j => .int (tabX6 j)) A U H := h.2.2.2.2.2.2.2.2.1.2
theorem hZX_Z7 {tq : Nat → Nat} {A : Nat → Prop} {U : State} {H : Heap} (h : ZX tq A U H) : va_Z "ScriptDesk$Ripemd160" "RIGHT_TURN" "[I" (.ref (tq 7)) A U H := h.2.2.2.2.2.2.2.2.2.1.1
theorem hZX_T7 {tq : Nat → Nat} {A : Nat → Prop} {U : State} {H : Heap} (h : ZX tq A U H) : va_T .int (tq 7) 80 (fun j => .int (tabX7 j)) A U H := h.2.2.2.2.2.2.2.2.2.1.2
theorem hZX_Z8 {tq : Nat → Nat} {A : Nat → Prop} {U : State} {H : Heap} (h : ZX tq A U H) : va_Z "ScriptDesk$Sha256" "ROUND" "[I" (.ref (tq 8)) A U H := h.2.2.2.2.2.2.2.2.2.2.1
theorem hZX_T8 {tq : Nat → Nat} {A : Nat → Prop} {U : State} {H : Heap} (h : ZX tq A U H) : va_T .int (tq 8) 64 (fun j => .int (tabX8 j)) A U H := h.2.2.2.2.2.2.2.2.2.2.2
theorem ZX_ok {tq : Nat → Nat} : sd_ZOK (ZX tq) := by
  intro A B u U H H1 hvm hZ hAB hq
  exact ⟨sd_Nw_decl hvm (hZX_D0 hZ), sd_Nw_decl hvm (hZX_D1 hZ), ⟨(((hZX_Z0 hZ).moved hvm).kept hq).narrow hAB, (((hZX_T0 hZ).moved hvm).kept hq).narrow hAB⟩, ⟨(((hZX_Z1 hZ).moved hvm).kept hq).narrow hAB, (((hZX_T1 hZ).moved hvm).kept hq).narrow hAB⟩, ⟨(((hZX_Z2 hZ).moved hvm).kept hq).narrow hAB, (((hZX_T2 hZ).moved hvm).kept hq).narrow hAB⟩, ⟨(((hZX_Z3 hZ).moved hvm).kept hq).narrow hAB, (((hZX_T3 hZ).moved hvm).kept hq).narrow hAB⟩, ⟨(((hZX_Z4 hZ).moved hvm).kept hq).narrow hAB, (((hZX_T4 hZ).moved hvm).kept hq).narrow hAB⟩, ⟨(((hZX_Z5 hZ).moved hvm).kept hq).narrow hAB, (((hZX_T5 hZ).moved hvm).kept hq).narrow hAB⟩, ⟨(((hZX_Z6 hZ).moved hvm).kept hq).narrow hAB, (((hZX_T6 hZ).moved hvm).kept hq).narrow hAB⟩, ⟨(((hZX_Z7 hZ).moved hvm).kept hq).narrow hAB, (((hZX_T7 hZ).moved hvm).kept hq).narrow hAB⟩, ⟨(((hZX_Z8 hZ).moved hvm).kept hq).narrow hAB, (((hZX_T8 hZ).moved hvm).kept hq).narrow hAB⟩⟩
def wdM (q : Nat → Nat) (cA : ClassId) (μ : sd_Me) : va_W := [
  (q 0, .inr (7, [.ref (q 1), .ref (q 2), .int (μ.1 0 2), .int (μ.1 0 3), .ref (q 3), .int (μ.1 0 5), .long (μ.2 0), .int (μ.1 0 7), .int (μ.1 0 8), .int (μ.1 0 9), .int (μ.1 0 10), .int (μ.1 0 11), .ref (q 4), .long (μ.2 1), .ref (q 5), .ref (q 6), .ref (q 7), .ref (q 8)])),
  (q 1, .inl (cA, 16800, .inl (μ.1 1))),
  (q 2, .inl (cA, 140, .inl (μ.1 2))),
  (q 3, .inl (cA, 200, .inl (μ.1 3))),
  (q 4, .inl (cA, 201, .inl (μ.1 4))),
  (q 5, .inl (cA, 192, .inl (μ.1 5))),
  (q 6, .inl (cA, 64, .inl (μ.1 6))),
  (q 7, .inl (cA, 8, .inl (μ.1 7))),
  (q 8, .inl (cA, 10, .inl (μ.1 8)))]
def tabM0_l : List Int32 := [1116352408, 1899447441, -1245643825, -373957723, 961987163, 1508970993, -1841331548, -1424204075, -670586216, 310598401, 607225278, 1426881987, 1925078388, -2132889090, -1680079193, -1046744716, -459576895, -272742522, 264347078, 604807628, 770255983, 1249150122, 1555081692, 1996064986, -1740746414, -1473132947, -1341970488, -1084653625, -958395405, -710438585, 113926993, 338241895, 666307205, 773529912, 1294757372, 1396182291, 1695183700, 1986661051, -2117940946, -1838011259, -1564481375, -1474664885, -1035236496, -949202525, -778901479, -694614492, -200395387, 275423344, 430227734, 506948616, 659060556, 883997877, 958139571, 1322822218, 1537002063, 1747873779, 1955562222, 2024104815, -2067236844, -1933114872, -1866530822, -1538233109, -1090935817, -965641998]
def tabM0 : Nat → Int32 := fun j => tabM0_l.getD j 0
def tabM1_l : List Int32 := [0, 1, 2, 3, 4, 5, 6, 7, 8, 9, 10, 11, 12, 13, 14, 15, 7, 4, 13, 1, 10, 6, 15, 3, 12, 0, 9, 5, 2, 14, 11, 8, 3, 10, 14, 4, 9, 15, 8, 1, 2, 7, 0, 6, 13, 11, 5, 12, 1, 9, 11, 10, 0, 8, 12, 4, 13, 3, 7, 15, 14, 5, 6, 2, 4, 0, 5, 9, 7, 12, 2, 10, 14, 1, 3, 8, 11, 6, 15, 13]
def tabM1 : Nat → Int32 := fun j => tabM1_l.getD j 0
def tabM2_l : List Int32 := [11, 14, 15, 12, 5, 8, 7, 9, 11, 13, 14, 15, 6, 7, 9, 8, 7, 6, 8, 13, 11, 9, 7, 15, 7, 12, 15, 9, 11, 7, 13, 12, 11, 13, 6, 7, 14, 9, 13, 15, 14, 8, 13, 6, 5, 12, 7, 5, 11, 12, 14, 15, 14, 15, 9, 8, 9, 14, 5, 6, 8, 6, 5, 12, 9, 15, 5, 11, 6, 8, 13, 12, 5, 12, 13, 14, 11, 8, 5, 6]
def tabM2 : Nat → Int32 := fun j => tabM2_l.getD j 0
def tabM3_l : List Int32 := [5, 14, 7, 0, 9, 2, 11, 4, 13, 6, 15, 8, 1, 10, 3, 12, 6, 11, 3, 7, 0, 13, 5, 10, 14, 15, 8, 12, 4, 9, 1, 2, 15, 5, 1, 3, 7, 14, 6, 9, 11, 8, 12, 2, 10, 0, 4, 13, 8, 6, 4, 1, 3, 11, 15, 0, 5, 12, 2, 13, 9, 7, 10, 14, 12, 15, 10, 4, 1, 5, 8, 7, 6, 2, 13, 14, 0, 3, 9, 11]
def tabM3 : Nat → Int32 := fun j => tabM3_l.getD j 0
def tabM4_l : List Int32 := [8, 9, 9, 11, 13, 15, 15, 5, 7, 7, 8, 11, 14, 14, 12, 6, 9, 13, 15, 7, 12, 8, 9, 11, 7, 7, 12, 7, 6, 15, 13, 11, 9, 7, 15, 11, 8, 6, 6, 14, 12, 13, 5, 14, 13, 13, 7, 5, 15, 5, 8, 11, 14, 14, 6, 14, 6, 9, 12, 9, 12, 5, 15, 8, 8, 5, 12, 9, 12, 5, 14, 6, 8, 13, 6, 5, 15, 13, 11, 11]
def tabM4 : Nat → Int32 := fun j => tabM4_l.getD j 0
def ZM (tq : Nat → Nat) (A : Nat → Prop) (U : State) (H : Heap) : Prop := (va_Z "ScriptDeskModel" "CUBES" "[I" (.ref (tq 0)) A U H ∧ va_T .int (tq 0) 64 (fun j => .int (tabM0 j)) A U H) ∧ (va_Z "ScriptDeskModel" "WORDS" "[I" (.ref (tq 1)) A U H ∧ va_T .int (tq 1) 80 (fun j => .int (tabM1 j)) A U H) ∧ (va_Z "ScriptDeskModel" "TURNS" "[I" (.ref (tq 2)) A U H ∧ va_T .int (tq 2) 80 (fun j => .int (tabM2 j)) A U H) ∧ (va_Z "ScriptDeskModel" "OTHERS" "[I" (.ref (tq 3)) A U H ∧ va_T .int (tq 3) 80 (fun j => .int (tabM3 j)) A U H) ∧ (va_Z "ScriptDeskModel" "OTHER_TURNS" "[I" (.ref (tq 4)) A U H ∧ va_T .int (tq 4) 80 (fun j => .int (tabM4 j)) A U H)
theorem hZM_Z0 {tq : Nat → Nat} {A : Nat → Prop} {U : State} {H : Heap} (h : ZM tq A U H) : va_Z "ScriptDeskModel" "CUBES" "[I" (.ref (tq 0)) A U H := h.1.1
theorem hZM_T0 {tq : Nat → Nat} {A : Nat → Prop} {U : State} {H : Heap} (h : ZM tq A U H) : va_T .int (tq 0) 64 (fun j => .int (tabM0 j)) A U H := h.1.2
theorem hZM_Z1 {tq : Nat → Nat} {A : Nat → Prop} {U : State} {H : Heap} (h : ZM tq A U H) : va_Z "ScriptDeskModel" "WORDS" "[I" (.ref (tq 1)) A U H := h.2.1.1
theorem hZM_T1 {tq : Nat → Nat} {A : Nat → Prop} {U : State} {H : Heap} (h : ZM tq A U H) : va_T .int (tq 1) 80 (fun j => .int (tabM1 j)) A U H := h.2.1.2
theorem hZM_Z2 {tq : Nat → Nat} {A : Nat → Prop} {U : State} {H : Heap} (h : ZM tq A U H) : va_Z "ScriptDeskModel" "TURNS" "[I" (.ref (tq 2)) A U H := h.2.2.1.1
theorem hZM_T2 {tq : Nat → Nat} {A : Nat → Prop} {U : State} {H : Heap} (h : ZM tq A U H) : va_T .int (tq 2) 80 (fun j => .int (tabM2 j)) A U H := h.2.2.1.2
theorem hZM_Z3 {tq : Nat → Nat} {A : Nat → Prop} {U : State} {H : Heap} (h : ZM tq A U H) : va_Z "ScriptDeskModel" "OTHERS" "[I" (.ref (tq 3)) A U H := h.2.2.2.1.1
theorem hZM_T3 {tq : Nat → Nat} {A : Nat → Prop} {U : State} {H : Heap} (h : ZM tq A U H) : va_T .int (tq 3) 80 (fun j => .int (tabM3 j)) A U H := h.2.2.2.1.2
theorem hZM_Z4 {tq : Nat → Nat} {A : Nat → Prop} {U : State} {H : Heap} (h : ZM tq A U H) : va_Z "ScriptDeskModel" "OTHER_TURNS" "[I" (.ref (tq 4)) A U H := h.2.2.2.2.1
theorem hZM_T4 {tq : Nat → Nat} {A : Nat → Prop} {U : State} {H : Heap} (h : ZM tq A U H) : va_T .int (tq 4) 80 (fun j => .int (tabM4 j)) A U H := h.2.2.2.2.2
theorem ZM_ok {tq : Nat → Nat} : sd_ZOK (ZM tq) := by
  intro A B u U H H1 hvm hZ hAB hq
  exact ⟨⟨(((hZM_Z0 hZ).moved hvm).kept hq).narrow hAB, (((hZM_T0 hZ).moved hvm).kept hq).narrow hAB⟩, ⟨(((hZM_Z1 hZ).moved hvm).kept hq).narrow hAB, (((hZM_T1 hZ).moved hvm).kept hq).narrow hAB⟩, ⟨(((hZM_Z2 hZ).moved hvm).kept hq).narrow hAB, (((hZM_T2 hZ).moved hvm).kept hq).narrow hAB⟩, ⟨(((hZM_Z3 hZ).moved hvm).kept hq).narrow hAB, (((hZM_T3 hZ).moved hvm).kept hq).narrow hAB⟩, ⟨(((hZM_Z4 hZ).moved hvm).kept hq).narrow hAB, (((hZM_T4 hZ).moved hvm).kept hq).narrow hAB⟩⟩
end
section
def fn_Model_put_r0_L30 (k72 : sd_Me → Option (Int32 × sd_Me)) : Nat → Int64 → Int32 → sd_Me → Option (Int32 × sd_Me)
  | 0, _, _, _ => none
  | n + 1, v1, v4, μ =>
    if v4 < (0 : Int32) then k72  μ else sd_gd (sd_ix (μ.1 0 5) 200) (sd_let (sd_st μ 3 (Int32.toNatClampNeg (μ.1 0 5)) (Int64.toInt32 ((sd_lsr v1 ((8 : Int32) * v4)) &&& (255 : Int64)))) (fun m2 => sd_let (sd_st m2 0 5 ((m2.1 0 5) + (1 : Int32))) (fun m3 => fn_Model_put_r0_L30 k72 n (v1) ((v4 + (-1 : Int32))) m3)))
def fn_Model_put_r0 (a1 : Int64) (a3 : Int32) (μ : sd_Me) : Option (Int32 × sd_Me) :=
  if a3 < (1 : Int32) then some ((0 : Int32), μ) else if (8 : Int32) < a3 then some ((0 : Int32), μ) else if ((μ.1 0 5) + a3) ≤ (200 : Int32) then sd_let ((a3 - (1 : Int32))) (fun x1 => fn_Model_put_r0_L30 (fun m4 => some ((1 : Int32), m4)) 10000 (a1) (x1) μ) else some ((0 : Int32), μ)
def fn_Model_secret_r0 (a1 : Int32) (μ : sd_Me) : Option (sd_Me) :=
  sd_let (sd_lst μ 0 (Int32.toInt64 a1)) (fun m1 => some m1)
def fn_Model_isDone_r0 (μ : sd_Me) : Option (Int32 × sd_Me) :=
  if (μ.1 0 11) = (0 : Int32) then some ((1 : Int32), μ) else sd_gd (sd_ix ((μ.1 0 11) - (1 : Int32)) 201) (if (μ.1 4 (Int32.toNatClampNeg ((μ.1 0 11) - (1 : Int32)))) = (1 : Int32) then some ((1 : Int32), μ) else some ((0 : Int32), μ))
def fn_Model_fails_r0 (a1 : Int32) (μ : sd_Me) : Option (sd_Me) :=
  if (μ.1 0 7) = (0 : Int32) then sd_let (sd_st μ 0 7 a1) (fun m2 => some m2) else sd_let (sd_st μ 0 7 (μ.1 0 7)) (fun m1 => some m1)
def fn_Model_has_r0 (a1 : Int32) (μ : sd_Me) : Option (Int32 × sd_Me) :=
  if a1 ≤ (μ.1 0 2) then if (μ.1 0 2) < a1 then some ((0 : Int32), μ) else some ((1 : Int32), μ) else sd_bv (fn_Model_fails_r0 (5 : Int32) μ) (fun m1 => if (m1.1 0 2) < a1 then some ((0 : Int32), m1) else some ((1 : Int32), m1))
def fn_Model_isTrueRow_r0_L4 (k68 : Int32 → sd_Me → Option (Int32 × sd_Me)) : Nat → Int32 → Int32 → Int32 → sd_Me → Option (Int32 × sd_Me)
  | 0, _, _, _, _ => none
  | n + 1, v1, v2, v3, μ =>
    sd_gd (sd_ix v1 140) (if (μ.1 2 (Int32.toNatClampNeg v1)) ≤ v3 then k68 (v2) μ else sd_gd (sd_ix (((120 : Int32) * v1) + v3) 16800) (sd_let ((μ.1 1 (Int32.toNatClampNeg (((120 : Int32) * v1) + v3)))) (fun x1 => if v2 = (0 : Int32) then if x1 = (0 : Int32) then fn_Model_isTrueRow_r0_L4 k68 n (v1) ((0 : Int32)) ((v3 + (1 : Int32))) μ else sd_gd (sd_ix v1 140) (if v3 < ((μ.1 2 (Int32.toNatClampNeg v1)) - (1 : Int32)) then fn_Model_isTrueRow_r0_L4 k68 n (v1) ((1 : Int32)) ((v3 + (1 : Int32))) μ else if x1 = (128 : Int32) then fn_Model_isTrueRow_r0_L4 k68 n (v1) ((0 : Int32)) ((v3 + (1 : Int32))) μ else fn_Model_isTrueRow_r0_L4 k68 n (v1) ((1 : Int32)) ((v3 + (1 : Int32))) μ) else fn_Model_isTrueRow_r0_L4 k68 n (v1) ((1 : Int32)) ((v3 + (1 : Int32))) μ)))
def fn_Model_isTrueRow_r0 (a1 : Int32) (μ : sd_Me) : Option (Int32 × sd_Me) :=
  fn_Model_isTrueRow_r0_L4 (fun x2 m3 => some (x2, m3)) 10000 (a1) ((0 : Int32)) ((0 : Int32)) μ
def fn_Model_flow_r0_J77 (s1 : Int32) (s2 : Int32) (s3 : Int32) (μ : sd_Me) : Option (sd_Me) :=
  if s2 = s3 then sd_gd (sd_ix s1 201) (sd_let (sd_st μ 4 (Int32.toNatClampNeg s1) (1 : Int32)) (fun m11 => sd_let (sd_st m11 0 11 ((m11.1 0 11) + (1 : Int32))) (fun m12 => some m12))) else sd_gd (sd_ix s1 201) (sd_let (sd_st μ 4 (Int32.toNatClampNeg s1) (2 : Int32)) (fun m9 => sd_let (sd_st m9 0 11 ((m9.1 0 11) + (1 : Int32))) (fun m10 => some m10)))
def fn_Model_flow_r0_J12 (v1 : Int32) (μ : sd_Me) : Option (sd_Me) :=
  sd_bi (fn_Model_isDone_r0 μ) (fun x2 m1 => if x2 = (0 : Int32) then sd_gd (sd_ix (m1.1 0 11) 201) (sd_let (sd_st m1 4 (Int32.toNatClampNeg (m1.1 0 11)) (3 : Int32)) (fun m13 => sd_let (sd_st m13 0 11 ((m13.1 0 11) + (1 : Int32))) (fun m14 => some m14))) else sd_bi (fn_Model_has_r0 (1 : Int32) m1) (fun x4 m3 => if x4 = (0 : Int32) then sd_let (sd_st m3 0 11 ((m3.1 0 11) + (1 : Int32))) (fun m5 => some m5) else sd_let (sd_st m3 0 2 ((m3.1 0 2) - (1 : Int32))) (fun m6 => sd_bi (fn_Model_isTrueRow_r0 (m6.1 0 2) m6) (fun x8 m7 => if v1 = (99 : Int32) then fn_Model_flow_r0_J77 ((m6.1 0 11)) (x8) ((1 : Int32)) m7 else fn_Model_flow_r0_J77 ((m6.1 0 11)) (x8) ((0 : Int32)) m7))))
def fn_Model_flow_r0 (a1 : Int32) (μ : sd_Me) : Option (sd_Me) :=
  if a1 = (99 : Int32) then fn_Model_flow_r0_J12 (a1) μ else if a1 = (100 : Int32) then fn_Model_flow_r0_J12 (a1) μ else if (μ.1 0 11) = (0 : Int32) then sd_bv (fn_Model_fails_r0 (10 : Int32) μ) (fun m19 => some m19) else if a1 = (104 : Int32) then sd_let (sd_st μ 0 11 ((μ.1 0 11) - (1 : Int32))) (fun m18 => some m18) else sd_gd (sd_ix ((μ.1 0 11) - (1 : Int32)) 201) (sd_let ((μ.1 4 (Int32.toNatClampNeg ((μ.1 0 11) - (1 : Int32))))) (fun x15 => if x15 = (3 : Int32) then sd_gd (sd_ix ((μ.1 0 11) - (1 : Int32)) 201) (sd_let (sd_st μ 4 (Int32.toNatClampNeg ((μ.1 0 11) - (1 : Int32))) (3 : Int32)) (fun m17 => some m17)) else sd_gd (sd_ix ((μ.1 0 11) - (1 : Int32)) 201) (sd_let (sd_st μ 4 (Int32.toNatClampNeg ((μ.1 0 11) - (1 : Int32))) ((3 : Int32) - x15)) (fun m16 => some m16))))
def fn_Model_top_r0 (a1 : Int32) (μ : sd_Me) : Option (Int32 × sd_Me) :=
  some ((((μ.1 0 2) - (1 : Int32)) - a1), μ)
def fn_Model_isSame_r0_L24 (k78 : Int32 → sd_Me → Option (Int32 × sd_Me)) : Nat → Int32 → Int32 → Int32 → Int32 → sd_Me → Option (Int32 × sd_Me)
  | 0, _, _, _, _, _ => none
  | n + 1, v1, v2, v3, v4, μ =>
    sd_gd (sd_ix v1 140) (if (μ.1 2 (Int32.toNatClampNeg v1)) ≤ v4 then k78 (v3) μ else if v3 = (0 : Int32) then fn_Model_isSame_r0_L24 k78 n (v1) (v2) ((0 : Int32)) ((v4 + (1 : Int32))) μ else sd_gd (sd_ix (((120 : Int32) * v1) + v4) 16800) (sd_gd (sd_ix (((120 : Int32) * v2) + v4) 16800) (if (μ.1 1 (Int32.toNatClampNeg (((120 : Int32) * v1) + v4))) = (μ.1 1 (Int32.toNatClampNeg (((120 : Int32) * v2) + v4))) then fn_Model_isSame_r0_L24 k78 n (v1) (v2) ((1 : Int32)) ((v4 + (1 : Int32))) μ else fn_Model_isSame_r0_L24 k78 n (v1) (v2) ((0 : Int32)) ((v4 + (1 : Int32))) μ)))
def fn_Model_isSame_r0_J20 (v1 : Int32) (v2 : Int32) (s0 : Int32) (μ : sd_Me) : Option (Int32 × sd_Me) :=
  fn_Model_isSame_r0_L24 (fun x1 m2 => some (x1, m2)) 10000 (v1) (v2) (s0) ((0 : Int32)) μ
def fn_Model_isSame_r0 (a1 : Int32) (a2 : Int32) (μ : sd_Me) : Option (Int32 × sd_Me) :=
  sd_gd (sd_ix a1 140) (sd_gd (sd_ix a2 140) (if (μ.1 2 (Int32.toNatClampNeg a1)) = (μ.1 2 (Int32.toNatClampNeg a2)) then fn_Model_isSame_r0_J20 (a1) (a2) ((1 : Int32)) μ else fn_Model_isSame_r0_J20 (a1) (a2) ((0 : Int32)) μ))
def fn_Model_pushNumber_r0_L16 (k55 : Int64 → Int32 → sd_Me → Option (sd_Me)) : Nat → Int64 → Int64 → Int32 → sd_Me → Option (sd_Me)
  | 0, _, _, _, _ => none
  | n + 1, v1, v3, v5, μ =>
    if (lg_cmp v3 (0 : Int64)) ≤ (0 : Int32) then k55 (v1) (v5) μ else sd_gd (sd_ix (((120 : Int32) * (μ.1 0 2)) + v5) 16800) (sd_let (sd_st μ 1 (Int32.toNatClampNeg (((120 : Int32) * (μ.1 0 2)) + v5)) (Int64.toInt32 (v3 - v3 / (256 : Int64) * (256 : Int64)))) (fun m1 => sd_let ((v3 / (256 : Int64))) (fun x2 => fn_Model_pushNumber_r0_L16 k55 n (v1) (x2) ((v5 + (1 : Int32))) m1)))
def fn_Model_pushNumber_r0_J130 (v5 : Int32) (μ : sd_Me) : Option (sd_Me) :=
  sd_gd (sd_ix (μ.1 0 2) 140) (sd_let (sd_st μ 2 (Int32.toNatClampNeg (μ.1 0 2)) v5) (fun m6 => sd_let (sd_st m6 0 2 ((m6.1 0 2) + (1 : Int32))) (fun m7 => some m7)))
def fn_Model_pushNumber_r0_J101 (v1 : Int64) (v5 : Int32) (μ : sd_Me) : Option (sd_Me) :=
  if (0 : Int32) ≤ (lg_cmp v1 (0 : Int64)) then fn_Model_pushNumber_r0_J130 (v5) μ else sd_gd (sd_ix ((((120 : Int32) * (μ.1 0 2)) + v5) - (1 : Int32)) 16800) (sd_gd (sd_ix ((((120 : Int32) * (μ.1 0 2)) + v5) - (1 : Int32)) 16800) (sd_let (sd_st μ 1 (Int32.toNatClampNeg ((((120 : Int32) * (μ.1 0 2)) + v5) - (1 : Int32))) ((μ.1 1 (Int32.toNatClampNeg ((((120 : Int32) * (μ.1 0 2)) + v5) - (1 : Int32)))) + (128 : Int32))) (fun m8 => fn_Model_pushNumber_r0_J130 (v5) m8)))
def fn_Model_pushNumber_r0_J12 (v1 : Int64) (s0 : Int64) (μ : sd_Me) : Option (sd_Me) :=
  fn_Model_pushNumber_r0_L16 (fun x3 x4 m5 => if x4 ≤ (0 : Int32) then fn_Model_pushNumber_r0_J101 (x3) (x4) m5 else sd_gd (sd_ix ((((120 : Int32) * (m5.1 0 2)) + x4) - (1 : Int32)) 16800) (if (m5.1 1 (Int32.toNatClampNeg ((((120 : Int32) * (m5.1 0 2)) + x4) - (1 : Int32)))) ≤ (127 : Int32) then fn_Model_pushNumber_r0_J101 (x3) (x4) m5 else sd_gd (sd_ix (((120 : Int32) * (m5.1 0 2)) + x4) 16800) (sd_let (sd_st m5 1 (Int32.toNatClampNeg (((120 : Int32) * (m5.1 0 2)) + x4)) (0 : Int32)) (fun m9 => fn_Model_pushNumber_r0_J101 (x3) ((x4 + (1 : Int32))) m9)))) 10000 (v1) (s0) ((0 : Int32)) μ
def fn_Model_pushNumber_r0 (a1 : Int64) (μ : sd_Me) : Option (sd_Me) :=
  if (0 : Int32) ≤ (lg_cmp a1 (0 : Int64)) then fn_Model_pushNumber_r0_J12 (a1) (a1) μ else fn_Model_pushNumber_r0_J12 (a1) ((-a1)) μ
def fn_Model_pushTruth_r0 (a1 : Int32) (μ : sd_Me) : Option (sd_Me) :=
  if a1 = (0 : Int32) then sd_bv (fn_Model_pushNumber_r0 (0 : Int64) μ) (fun m1 => some m1) else sd_bv (fn_Model_pushNumber_r0 (1 : Int64) μ) (fun m2 => some m2)
def fn_Model_mustBeTrue_r0 (μ : sd_Me) : Option (sd_Me) :=
  sd_bi (fn_Model_has_r0 (1 : Int32) μ) (fun x2 m1 => if x2 = (0 : Int32) then some m1 else sd_let (sd_st m1 0 2 ((m1.1 0 2) - (1 : Int32))) (fun m3 => sd_bi (fn_Model_isTrueRow_r0 (m3.1 0 2) m3) (fun x5 m4 => if x5 = (0 : Int32) then sd_bv (fn_Model_fails_r0 (8 : Int32) m4) (fun m6 => some m6) else some m4)))
def fn_Model_equal_r0 (a1 : Int32) (μ : sd_Me) : Option (sd_Me) :=
  sd_bi (fn_Model_has_r0 (2 : Int32) μ) (fun x2 m1 => if x2 = (0 : Int32) then some m1 else sd_bi (fn_Model_top_r0 (0 : Int32) m1) (fun x4 m3 => sd_bi (fn_Model_top_r0 (1 : Int32) m3) (fun x6 m5 => sd_bi (fn_Model_isSame_r0 x4 x6 m5) (fun x8 m7 => sd_let (sd_st m7 0 2 ((m7.1 0 2) - (2 : Int32))) (fun m9 => sd_bv (fn_Model_pushTruth_r0 x8 m9) (fun m10 => if a1 = (0 : Int32) then some m10 else sd_bv (fn_Model_mustBeTrue_r0 m10) (fun m11 => some m11)))))))
def fn_Model_reads_r0_L50 (k110 : Int32 → sd_Me → Option (Int32 × sd_Me)) : Nat → Int32 → Int32 → sd_Me → Option (Int32 × sd_Me)
  | 0, _, _, _ => none
  | n + 1, v2, v3, μ =>
    if v3 < (0 : Int32) then k110 (v2) μ else sd_gd (sd_ix (((120 : Int32) * v2) + v3) 16800) (sd_let ((μ.1 1 (Int32.toNatClampNeg (((120 : Int32) * v2) + v3)))) (fun x7 => sd_gd (sd_ix v2 140) (if v3 = ((μ.1 2 (Int32.toNatClampNeg v2)) - (1 : Int32)) then sd_let (sd_lst μ 1 (((μ.2 1) * (256 : Int64)) + (Int32.toInt64 (x7 - x7 / (128 : Int32) * (128 : Int32))))) (fun m9 => fn_Model_reads_r0_L50 k110 n (v2) ((v3 + (-1 : Int32))) m9) else sd_let (sd_lst μ 1 (((μ.2 1) * (256 : Int64)) + (Int32.toInt64 x7))) (fun m8 => fn_Model_reads_r0_L50 k110 n (v2) ((v3 + (-1 : Int32))) m8))))
def fn_Model_reads_r0 (a1 : Int32) (μ : sd_Me) : Option (Int32 × sd_Me) :=
  sd_bi (fn_Model_has_r0 (a1 + (1 : Int32)) μ) (fun x2 m1 => if x2 = (0 : Int32) then some ((0 : Int32), m1) else sd_bi (fn_Model_top_r0 a1 m1) (fun x4 m3 => sd_gd (sd_ix x4 140) (if (m3.1 2 (Int32.toNatClampNeg x4)) ≤ (4 : Int32) then sd_let (sd_lst m3 1 (0 : Int64)) (fun m5 => sd_gd (sd_ix x4 140) (sd_let (((m5.1 2 (Int32.toNatClampNeg x4)) - (1 : Int32))) (fun x6 => fn_Model_reads_r0_L50 (fun x10 m11 => sd_gd (sd_ix x10 140) (if (m11.1 2 (Int32.toNatClampNeg x10)) ≤ (0 : Int32) then sd_let (sd_lst m11 1 (m11.2 1)) (fun m12 => some ((1 : Int32), m12)) else sd_gd (sd_ix x10 140) (sd_gd (sd_ix ((((120 : Int32) * x10) + (m11.1 2 (Int32.toNatClampNeg x10))) - (1 : Int32)) 16800) (if (m11.1 1 (Int32.toNatClampNeg ((((120 : Int32) * x10) + (m11.1 2 (Int32.toNatClampNeg x10))) - (1 : Int32)))) ≤ (127 : Int32) then sd_let (sd_lst m11 1 (m11.2 1)) (fun m13 => some ((1 : Int32), m13)) else sd_let (sd_lst m11 1 (-(m11.2 1))) (fun m14 => some ((1 : Int32), m14)))))) 10000 (x4) (x6) m5))) else sd_bv (fn_Model_fails_r0 (6 : Int32) m3) (fun m15 => some ((0 : Int32), m15)))))
def fn_Model_numberOfOne_r0_J96 (v1 : Int32) (s1 : Int32) (μ : sd_Me) : Option (sd_Me) :=
  if v1 = (145 : Int32) then if s1 = (1 : Int32) then sd_bv (fn_Model_pushNumber_r0 (1 : Int64) μ) (fun m8 => some m8) else sd_bv (fn_Model_pushNumber_r0 (0 : Int64) μ) (fun m7 => some m7) else if s1 = (0 : Int32) then sd_bv (fn_Model_pushNumber_r0 (1 : Int64) μ) (fun m6 => some m6) else sd_bv (fn_Model_pushNumber_r0 (0 : Int64) μ) (fun m5 => some m5)
def fn_Model_numberOfOne_r0 (a1 : Int32) (μ : sd_Me) : Option (sd_Me) :=
  sd_bi (fn_Model_reads_r0 (0 : Int32) μ) (fun x2 m1 => if x2 = (0 : Int32) then some m1 else sd_let (sd_st m1 0 2 ((m1.1 0 2) - (1 : Int32))) (fun m3 => sd_let ((m3.2 1)) (fun x4 => if a1 = (139 : Int32) then sd_bv (fn_Model_pushNumber_r0 (x4 + (1 : Int64)) m3) (fun m13 => some m13) else if a1 = (140 : Int32) then sd_bv (fn_Model_pushNumber_r0 (x4 - (1 : Int64)) m3) (fun m12 => some m12) else if a1 = (143 : Int32) then sd_bv (fn_Model_pushNumber_r0 (-x4) m3) (fun m11 => some m11) else if a1 = (144 : Int32) then if (0 : Int32) ≤ (lg_cmp x4 (0 : Int64)) then sd_bv (fn_Model_pushNumber_r0 x4 m3) (fun m9 => some m9) else sd_bv (fn_Model_pushNumber_r0 (-x4) m3) (fun m10 => some m10) else if (lg_cmp x4 (0 : Int64)) = (0 : Int32) then fn_Model_numberOfOne_r0_J96 (a1) ((1 : Int32)) m3 else fn_Model_numberOfOne_r0_J96 (a1) ((0 : Int32)) m3)))
def fn_Model_numberOfTwo_r0 (a1 : Int32) (μ : sd_Me) : Option (sd_Me) :=
  sd_bi (fn_Model_reads_r0 (0 : Int32) μ) (fun x2 m1 => if x2 = (0 : Int32) then some m1 else sd_let ((m1.2 1)) (fun x3 => sd_bi (fn_Model_reads_r0 (1 : Int32) m1) (fun x5 m4 => if x5 = (0 : Int32) then some m4 else sd_let ((m4.2 1)) (fun x6 => if a1 = (165 : Int32) then sd_bi (fn_Model_reads_r0 (2 : Int32) m4) (fun x37 m36 => if x37 = (0 : Int32) then some m36 else sd_let (sd_st m36 0 2 ((m36.1 0 2) - (3 : Int32))) (fun m38 => if (0 : Int32) < (lg_cmp x6 (m38.2 1)) then sd_bv (fn_Model_pushTruth_r0 (0 : Int32) m38) (fun m39 => some m39) else if (0 : Int32) ≤ (lg_cmp (m38.2 1) x3) then sd_bv (fn_Model_pushTruth_r0 (0 : Int32) m38) (fun m40 => some m40) else sd_bv (fn_Model_pushTruth_r0 (1 : Int32) m38) (fun m41 => some m41))) else sd_let (sd_st m4 0 2 ((m4.1 0 2) - (2 : Int32))) (fun m7 => if a1 = (147 : Int32) then sd_bv (fn_Model_pushNumber_r0 (x6 + x3) m7) (fun m8 => some m8) else if a1 = (148 : Int32) then sd_bv (fn_Model_pushNumber_r0 (x6 - x3) m7) (fun m9 => some m9) else if a1 = (154 : Int32) then if (lg_cmp x6 (0 : Int64)) = (0 : Int32) then sd_bv (fn_Model_pushTruth_r0 (0 : Int32) m7) (fun m10 => some m10) else if (lg_cmp x3 (0 : Int64)) = (0 : Int32) then sd_bv (fn_Model_pushTruth_r0 (0 : Int32) m7) (fun m11 => some m11) else sd_bv (fn_Model_pushTruth_r0 (1 : Int32) m7) (fun m12 => some m12) else if a1 = (155 : Int32) then if (lg_cmp x6 (0 : Int64)) = (0 : Int32) then if (lg_cmp x3 (0 : Int64)) = (0 : Int32) then sd_bv (fn_Model_pushTruth_r0 (0 : Int32) m7) (fun m14 => some m14) else sd_bv (fn_Model_pushTruth_r0 (1 : Int32) m7) (fun m15 => some m15) else sd_bv (fn_Model_pushTruth_r0 (1 : Int32) m7) (fun m13 => some m13) else if a1 = (156 : Int32) then if (lg_cmp x6 x3) = (0 : Int32) then sd_bv (fn_Model_pushTruth_r0 (1 : Int32) m7) (fun m17 => some m17) else sd_bv (fn_Model_pushTruth_r0 (0 : Int32) m7) (fun m16 => some m16) else if a1 = (157 : Int32) then if (lg_cmp x6 x3) = (0 : Int32) then sd_bv (fn_Model_pushTruth_r0 (1 : Int32) m7) (fun m20 => sd_bv (fn_Model_mustBeTrue_r0 m20) (fun m21 => some m21)) else sd_bv (fn_Model_pushTruth_r0 (0 : Int32) m7) (fun m18 => sd_bv (fn_Model_mustBeTrue_r0 m18) (fun m19 => some m19)) else if a1 = (158 : Int32) then if (lg_cmp x6 x3) = (0 : Int32) then sd_bv (fn_Model_pushTruth_r0 (0 : Int32) m7) (fun m22 => some m22) else sd_bv (fn_Model_pushTruth_r0 (1 : Int32) m7) (fun m23 => some m23) else if a1 = (159 : Int32) then if (0 : Int32) ≤ (lg_cmp x6 x3) then sd_bv (fn_Model_pushTruth_r0 (0 : Int32) m7) (fun m24 => some m24) else sd_bv (fn_Model_pushTruth_r0 (1 : Int32) m7) (fun m25 => some m25) else if a1 = (160 : Int32) then if (lg_cmp x6 x3) ≤ (0 : Int32) then sd_bv (fn_Model_pushTruth_r0 (0 : Int32) m7) (fun m26 => some m26) else sd_bv (fn_Model_pushTruth_r0 (1 : Int32) m7) (fun m27 => some m27) else if a1 = (161 : Int32) then if (0 : Int32) < (lg_cmp x6 x3) then sd_bv (fn_Model_pushTruth_r0 (0 : Int32) m7) (fun m28 => some m28) else sd_bv (fn_Model_pushTruth_r0 (1 : Int32) m7) (fun m29 => some m29) else if a1 = (162 : Int32) then if (lg_cmp x6 x3) < (0 : Int32) then sd_bv (fn_Model_pushTruth_r0 (0 : Int32) m7) (fun m30 => some m30) else sd_bv (fn_Model_pushTruth_r0 (1 : Int32) m7) (fun m31 => some m31) else if a1 = (163 : Int32) then if (0 : Int32) ≤ (lg_cmp x6 x3) then sd_bv (fn_Model_pushNumber_r0 x3 m7) (fun m32 => some m32) else sd_bv (fn_Model_pushNumber_r0 x6 m7) (fun m33 => some m33) else if (lg_cmp x6 x3) ≤ (0 : Int32) then sd_bv (fn_Model_pushNumber_r0 x3 m7) (fun m34 => some m34) else sd_bv (fn_Model_pushNumber_r0 x6 m7) (fun m35 => some m35))))))
def fn_Model_pad_r0_L19 (k74 : Int32 → Int32 → Int32 → sd_Me → Option (Int32 × sd_Me)) : Nat → Int32 → Int32 → Int32 → Int32 → Int32 → sd_Me → Option (Int32 × sd_Me)
  | 0, _, _, _, _, _, _ => none
  | n + 1, v1, v2, v3, v4, v5, μ =>
    if (192 : Int32) ≤ v5 then k74 (v2) (v3) (v4) μ else if v3 ≤ v5 then if v5 = v3 then sd_gd (sd_ix v5 192) (sd_let (sd_st μ 5 (Int32.toNatClampNeg v5) (128 : Int32)) (fun m4 => fn_Model_pad_r0_L19 k74 n (v1) (v2) (v3) (v4) ((v5 + (1 : Int32))) m4)) else sd_gd (sd_ix v5 192) (sd_let (sd_st μ 5 (Int32.toNatClampNeg v5) (0 : Int32)) (fun m3 => fn_Model_pad_r0_L19 k74 n (v1) (v2) (v3) (v4) ((v5 + (1 : Int32))) m3)) else sd_gd (sd_ix (((120 : Int32) * v1) + v5) 16800) (sd_gd (sd_ix v5 192) (sd_let (sd_st μ 5 (Int32.toNatClampNeg v5) (μ.1 1 (Int32.toNatClampNeg (((120 : Int32) * v1) + v5)))) (fun m5 => fn_Model_pad_r0_L19 k74 n (v1) (v2) (v3) (v4) ((v5 + (1 : Int32))) m5)))
def fn_Model_pad_r0_J107 (v2 : Int32) (v4 : Int32) (v5 : Int32) (v6 : Int32) (s1 : Int32) (μ : sd_Me) : Option (Int32 × sd_Me) :=
  sd_gd (sd_ix s1 192) (sd_let (sd_st μ 5 (Int32.toNatClampNeg s1) (v5 - v5 / (256 : Int32) * (256 : Int32))) (fun m12 => if v2 = (0 : Int32) then sd_gd (sd_ix (v6 - (7 : Int32)) 192) (sd_let (sd_st m12 5 (Int32.toNatClampNeg (v6 - (7 : Int32))) (v5 / (256 : Int32))) (fun m13 => some (v4, m13))) else sd_gd (sd_ix (v6 - (2 : Int32)) 192) (sd_let (sd_st m12 5 (Int32.toNatClampNeg (v6 - (2 : Int32))) (v5 / (256 : Int32))) (fun m14 => some (v4, m14)))))
def fn_Model_pad_r0 (a1 : Int32) (a2 : Int32) (μ : sd_Me) : Option (Int32 × sd_Me) :=
  sd_gd (sd_ix a1 140) (sd_let ((μ.1 2 (Int32.toNatClampNeg a1))) (fun x1 => sd_let (((x1 + (72 : Int32)) / (64 : Int32))) (fun x2 => fn_Model_pad_r0_L19 (fun x6 x7 x8 m9 => sd_let (((8 : Int32) * x7)) (fun x10 => sd_let (((64 : Int32) * x8)) (fun x11 => if x6 = (0 : Int32) then fn_Model_pad_r0_J107 (x6) (x8) (x10) (x11) ((x11 - (8 : Int32))) m9 else fn_Model_pad_r0_J107 (x6) (x8) (x10) (x11) ((x11 - (1 : Int32))) m9))) 10000 (a1) (a2) (x1) (x2) ((0 : Int32)) μ)))
def fn_Model_mixed (a0 : Int32) (a1 : Int32) (a2 : Int32) (a3 : Int32) (μ : sd_Me) : Option (Int32 × sd_Me) :=
  if a0 = (0 : Int32) then some (((a1 ^^^ a2) ^^^ a3), μ) else if a0 = (1 : Int32) then some (((a1 &&& a2) ||| ((a1 ^^^ (-1 : Int32)) &&& a3)), μ) else if a0 = (2 : Int32) then some (((a1 ||| (a2 ^^^ (-1 : Int32))) ^^^ a3), μ) else if a0 = (3 : Int32) then some (((a1 &&& a3) ||| (a2 &&& (a3 ^^^ (-1 : Int32)))), μ) else some ((a1 ^^^ (a2 ||| (a3 ^^^ (-1 : Int32)))), μ)
def fn_Model_right (a0 : Int32) (a1 : Int32) (μ : sd_Me) : Option (Int32 × sd_Me) :=
  some (((sd_usr a0 a1) ||| (a0 <<< (((32 : Int32) - a1) &&& 31))), μ)
def fn_Model_step_r0 (a1 : Int32) (a2 : Int32) (a3 : Int32) (μ : sd_Me) : Option (sd_Me) :=
  sd_gd (sd_ix a1 10) (sd_bi (fn_Model_right ((μ.1 8 (Int32.toNatClampNeg a1)) + a2) ((32 : Int32) - a3) μ) (fun x2 m1 => sd_gd (sd_ix (a1 + (4 : Int32)) 10) (sd_let ((x2 + (m1.1 8 (Int32.toNatClampNeg (a1 + (4 : Int32)))))) (fun x3 => sd_gd (sd_ix (a1 + (4 : Int32)) 10) (sd_gd (sd_ix a1 10) (sd_let (sd_st m1 8 (Int32.toNatClampNeg a1) (m1.1 8 (Int32.toNatClampNeg (a1 + (4 : Int32))))) (fun m4 => sd_gd (sd_ix (a1 + (3 : Int32)) 10) (sd_gd (sd_ix (a1 + (4 : Int32)) 10) (sd_let (sd_st m4 8 (Int32.toNatClampNeg (a1 + (4 : Int32))) (m4.1 8 (Int32.toNatClampNeg (a1 + (3 : Int32))))) (fun m5 => sd_gd (sd_ix (a1 + (2 : Int32)) 10) (sd_bi (fn_Model_right (m5.1 8 (Int32.toNatClampNeg (a1 + (2 : Int32)))) (22 : Int32) m5) (fun x7 m6 => sd_gd (sd_ix (a1 + (3 : Int32)) 10) (sd_let (sd_st m6 8 (Int32.toNatClampNeg (a1 + (3 : Int32))) x7) (fun m8 => sd_gd (sd_ix (a1 + (1 : Int32)) 10) (sd_gd (sd_ix (a1 + (2 : Int32)) 10) (sd_let (sd_st m8 8 (Int32.toNatClampNeg (a1 + (2 : Int32))) (m8.1 8 (Int32.toNatClampNeg (a1 + (1 : Int32))))) (fun m9 => sd_gd (sd_ix (a1 + (1 : Int32)) 10) (sd_let (sd_st m9 8 (Int32.toNatClampNeg (a1 + (1 : Int32))) x3) (fun m10 => some m10)))))))))))))))))))
def fn_Model_small_r0_L57 (k134 : Int32 → Int32 → Int32 → sd_Me → Option (sd_Me)) : Nat → Int32 → Int32 → Int32 → Int32 → sd_Me → Option (sd_Me)
  | 0, _, _, _, _, _ => none
  | n + 1, v1, v2, v3, v4, μ =>
    if (16 : Int32) ≤ v4 then k134 (v1) (v2) (v3) μ else sd_let ((((64 : Int32) * v3) + ((4 : Int32) * v4))) (fun x8 => sd_gd (sd_ix (x8 + (3 : Int32)) 192) (sd_gd (sd_ix (x8 + (2 : Int32)) 192) (sd_gd (sd_ix (x8 + (1 : Int32)) 192) (sd_gd (sd_ix x8 192) (sd_gd (sd_ix v4 64) (sd_let (sd_st μ 6 (Int32.toNatClampNeg v4) (((((μ.1 5 (Int32.toNatClampNeg (x8 + (3 : Int32)))) <<< ((24 : Int32) &&& 31)) ||| ((μ.1 5 (Int32.toNatClampNeg (x8 + (2 : Int32)))) <<< ((16 : Int32) &&& 31))) ||| ((μ.1 5 (Int32.toNatClampNeg (x8 + (1 : Int32)))) <<< ((8 : Int32) &&& 31))) ||| (μ.1 5 (Int32.toNatClampNeg x8)))) (fun m9 => fn_Model_small_r0_L57 k134 n (v1) (v2) (v3) ((v4 + (1 : Int32))) m9)))))))
def fn_Model_small_r0_L137 (k166 : Int32 → Int32 → Int32 → sd_Me → Option (sd_Me)) : Nat → Int32 → Int32 → Int32 → Int32 → sd_Me → Option (sd_Me)
  | 0, _, _, _, _, _ => none
  | n + 1, v1, v2, v3, v4, μ =>
    if (10 : Int32) ≤ v4 then k166 (v1) (v2) (v3) μ else sd_gd (sd_ix (v4 - v4 / (5 : Int32) * (5 : Int32)) 8) (sd_gd (sd_ix v4 10) (sd_let (sd_st μ 8 (Int32.toNatClampNeg v4) (μ.1 7 (Int32.toNatClampNeg (v4 - v4 / (5 : Int32) * (5 : Int32))))) (fun m14 => fn_Model_small_r0_L137 k166 n (v1) (v2) (v3) ((v4 + (1 : Int32))) m14)))
def fn_Model_small_r0_J273 (rc : Int32 → Int32 → Int32 → Int32 → sd_Me → Option (sd_Me)) (v1 : Int32) (v2 : Int32) (v3 : Int32) (v4 : Int32) (v5 : Int32) (v6 : Int32) (s0 : Int32) (μ : sd_Me) : Option (sd_Me) :=
  sd_gd (sd_ix (1 : Int32) 10) (sd_gd (sd_ix (2 : Int32) 10) (sd_gd (sd_ix (3 : Int32) 10) (sd_bi (fn_Model_mixed v5 (μ.1 8 (Int32.toNatClampNeg (1 : Int32))) (μ.1 8 (Int32.toNatClampNeg (2 : Int32))) (μ.1 8 (Int32.toNatClampNeg (3 : Int32))) μ) (fun x21 m20 => sd_gd (sd_ix v4 80) (sd_gd (sd_ix (tabM1 (Int32.toNatClampNeg v4)) 64) (sd_gd (sd_ix v4 80) (sd_bv (fn_Model_step_r0 (0 : Int32) ((x21 + (m20.1 6 (Int32.toNatClampNeg (tabM1 (Int32.toNatClampNeg v4))))) + v6) (tabM2 (Int32.toNatClampNeg v4)) m20) (fun m22 => sd_gd (sd_ix (6 : Int32) 10) (sd_gd (sd_ix (7 : Int32) 10) (sd_gd (sd_ix (8 : Int32) 10) (sd_bi (fn_Model_mixed ((4 : Int32) - v5) (m22.1 8 (Int32.toNatClampNeg (6 : Int32))) (m22.1 8 (Int32.toNatClampNeg (7 : Int32))) (m22.1 8 (Int32.toNatClampNeg (8 : Int32))) m22) (fun x24 m23 => sd_gd (sd_ix v4 80) (sd_gd (sd_ix (tabM3 (Int32.toNatClampNeg v4)) 64) (sd_gd (sd_ix v4 80) (sd_bv (fn_Model_step_r0 (5 : Int32) ((x24 + (m23.1 6 (Int32.toNatClampNeg (tabM3 (Int32.toNatClampNeg v4))))) + s0) (tabM4 (Int32.toNatClampNeg v4)) m23) (fun m25 => rc (v1) (v2) (v3) ((v4 + (1 : Int32))) m25))))))))))))))))
def fn_Model_small_r0_J227 (rc : Int32 → Int32 → Int32 → Int32 → sd_Me → Option (sd_Me)) (v1 : Int32) (v2 : Int32) (v3 : Int32) (v4 : Int32) (v5 : Int32) (s0 : Int32) (μ : sd_Me) : Option (sd_Me) :=
  if v5 = (0 : Int32) then fn_Model_small_r0_J273 (rc) (v1) (v2) (v3) (v4) (v5) (s0) ((1352829926 : Int32)) μ else if v5 = (1 : Int32) then fn_Model_small_r0_J273 (rc) (v1) (v2) (v3) (v4) (v5) (s0) ((1548603684 : Int32)) μ else if v5 = (2 : Int32) then fn_Model_small_r0_J273 (rc) (v1) (v2) (v3) (v4) (v5) (s0) ((1836072691 : Int32)) μ else if v5 = (3 : Int32) then fn_Model_small_r0_J273 (rc) (v1) (v2) (v3) (v4) (v5) (s0) ((2053994217 : Int32)) μ else fn_Model_small_r0_J273 (rc) (v1) (v2) (v3) (v4) (v5) (s0) ((0 : Int32)) μ
def fn_Model_small_r0_L169 (k384 : Int32 → Int32 → Int32 → sd_Me → Option (sd_Me)) : Nat → Int32 → Int32 → Int32 → Int32 → sd_Me → Option (sd_Me)
  | 0, _, _, _, _, _ => none
  | n + 1, v1, v2, v3, v4, μ =>
    if (80 : Int32) ≤ v4 then k384 (v1) (v2) (v3) μ else sd_let ((v4 / (16 : Int32))) (fun x19 => if x19 = (0 : Int32) then fn_Model_small_r0_J227 (fn_Model_small_r0_L169 k384 n) (v1) (v2) (v3) (v4) (x19) ((0 : Int32)) μ else if x19 = (1 : Int32) then fn_Model_small_r0_J227 (fn_Model_small_r0_L169 k384 n) (v1) (v2) (v3) (v4) (x19) ((1518500249 : Int32)) μ else if x19 = (2 : Int32) then fn_Model_small_r0_J227 (fn_Model_small_r0_L169 k384 n) (v1) (v2) (v3) (v4) (x19) ((1859775393 : Int32)) μ else if x19 = (3 : Int32) then fn_Model_small_r0_J227 (fn_Model_small_r0_L169 k384 n) (v1) (v2) (v3) (v4) (x19) ((-1894007588 : Int32)) μ else fn_Model_small_r0_J227 (fn_Model_small_r0_L169 k384 n) (v1) (v2) (v3) (v4) (x19) ((-1454113458 : Int32)) μ)
def fn_Model_small_r0_L49 (k528 : Int32 → sd_Me → Option (sd_Me)) : Nat → Int32 → Int32 → Int32 → sd_Me → Option (sd_Me)
  | 0, _, _, _, _ => none
  | n + 1, v1, v2, v3, μ =>
    if v2 ≤ v3 then k528 (v1) μ else fn_Model_small_r0_L57 (fun x10 x11 x12 m13 => fn_Model_small_r0_L137 (fun x15 x16 x17 m18 => fn_Model_small_r0_L169 (fun x26 x27 x28 m29 => sd_gd (sd_ix (1 : Int32) 8) (sd_gd (sd_ix (2 : Int32) 10) (sd_gd (sd_ix (8 : Int32) 10) (sd_let ((((m29.1 7 (Int32.toNatClampNeg (1 : Int32))) + (m29.1 8 (Int32.toNatClampNeg (2 : Int32)))) + (m29.1 8 (Int32.toNatClampNeg (8 : Int32))))) (fun x30 => sd_gd (sd_ix (2 : Int32) 8) (sd_gd (sd_ix (3 : Int32) 10) (sd_gd (sd_ix (9 : Int32) 10) (sd_gd (sd_ix (1 : Int32) 8) (sd_let (sd_st m29 7 (Int32.toNatClampNeg (1 : Int32)) (((m29.1 7 (Int32.toNatClampNeg (2 : Int32))) + (m29.1 8 (Int32.toNatClampNeg (3 : Int32)))) + (m29.1 8 (Int32.toNatClampNeg (9 : Int32))))) (fun m31 => sd_gd (sd_ix (3 : Int32) 8) (sd_gd (sd_ix (4 : Int32) 10) (sd_gd (sd_ix (5 : Int32) 10) (sd_gd (sd_ix (2 : Int32) 8) (sd_let (sd_st m31 7 (Int32.toNatClampNeg (2 : Int32)) (((m31.1 7 (Int32.toNatClampNeg (3 : Int32))) + (m31.1 8 (Int32.toNatClampNeg (4 : Int32)))) + (m31.1 8 (Int32.toNatClampNeg (5 : Int32))))) (fun m32 => sd_gd (sd_ix (4 : Int32) 8) (sd_gd (sd_ix (0 : Int32) 10) (sd_gd (sd_ix (6 : Int32) 10) (sd_gd (sd_ix (3 : Int32) 8) (sd_let (sd_st m32 7 (Int32.toNatClampNeg (3 : Int32)) (((m32.1 7 (Int32.toNatClampNeg (4 : Int32))) + (m32.1 8 (Int32.toNatClampNeg (0 : Int32)))) + (m32.1 8 (Int32.toNatClampNeg (6 : Int32))))) (fun m33 => sd_gd (sd_ix (0 : Int32) 8) (sd_gd (sd_ix (1 : Int32) 10) (sd_gd (sd_ix (7 : Int32) 10) (sd_gd (sd_ix (4 : Int32) 8) (sd_let (sd_st m33 7 (Int32.toNatClampNeg (4 : Int32)) (((m33.1 7 (Int32.toNatClampNeg (0 : Int32))) + (m33.1 8 (Int32.toNatClampNeg (1 : Int32)))) + (m33.1 8 (Int32.toNatClampNeg (7 : Int32))))) (fun m34 => sd_gd (sd_ix (0 : Int32) 8) (sd_let (sd_st m34 7 (Int32.toNatClampNeg (0 : Int32)) x30) (fun m35 => fn_Model_small_r0_L49 k528 n (x26) (x27) ((x28 + (1 : Int32))) m35))))))))))))))))))))))))))) 10000 (x15) (x16) (x17) ((0 : Int32)) m18) 10000 (x10) (x11) (x12) ((0 : Int32)) m13) 10000 (v1) (v2) (v3) ((0 : Int32)) μ
def fn_Model_small_r0_L538 (k580 : sd_Me → Option (sd_Me)) : Nat → Int32 → Int32 → sd_Me → Option (sd_Me)
  | 0, _, _, _ => none
  | n + 1, v1, v3, μ =>
    if (20 : Int32) ≤ v3 then k580  μ else sd_gd (sd_ix (v3 / (4 : Int32)) 8) (sd_gd (sd_ix (((120 : Int32) * v1) + v3) 16800) (sd_let (sd_st μ 1 (Int32.toNatClampNeg (((120 : Int32) * v1) + v3)) ((sd_usr (μ.1 7 (Int32.toNatClampNeg (v3 / (4 : Int32)))) ((8 : Int32) * (v3 - v3 / (4 : Int32) * (4 : Int32)))) &&& (255 : Int32))) (fun m39 => fn_Model_small_r0_L538 k580 n (v1) ((v3 + (1 : Int32))) m39)))
def fn_Model_small_r0 (a1 : Int32) (μ : sd_Me) : Option (sd_Me) :=
  sd_bi (fn_Model_pad_r0 a1 (0 : Int32) μ) (fun x2 m1 => sd_gd (sd_ix (0 : Int32) 8) (sd_let (sd_st m1 7 (Int32.toNatClampNeg (0 : Int32)) (1732584193 : Int32)) (fun m3 => sd_gd (sd_ix (1 : Int32) 8) (sd_let (sd_st m3 7 (Int32.toNatClampNeg (1 : Int32)) (-271733879 : Int32)) (fun m4 => sd_gd (sd_ix (2 : Int32) 8) (sd_let (sd_st m4 7 (Int32.toNatClampNeg (2 : Int32)) (-1732584194 : Int32)) (fun m5 => sd_gd (sd_ix (3 : Int32) 8) (sd_let (sd_st m5 7 (Int32.toNatClampNeg (3 : Int32)) (271733878 : Int32)) (fun m6 => sd_gd (sd_ix (4 : Int32) 8) (sd_let (sd_st m6 7 (Int32.toNatClampNeg (4 : Int32)) (-1009589776 : Int32)) (fun m7 => fn_Model_small_r0_L49 (fun x36 m37 => sd_gd (sd_ix x36 140) (sd_let (sd_st m37 2 (Int32.toNatClampNeg x36) (20 : Int32)) (fun m38 => fn_Model_small_r0_L538 (fun m40 => some m40) 10000 (x36) ((0 : Int32)) m38))) 10000 (a1) (x2) ((0 : Int32)) m7)))))))))))
def fn_Model_wide_r0_L83 (k279 : Int32 → Int32 → Int32 → sd_Me → Option (sd_Me)) : Nat → Int32 → Int32 → Int32 → Int32 → sd_Me → Option (sd_Me)
  | 0, _, _, _, _, _ => none
  | n + 1, v1, v2, v3, v4, μ =>
    if (64 : Int32) ≤ v4 then k279 (v1) (v2) (v3) μ else sd_let ((((64 : Int32) * v3) + ((4 : Int32) * v4))) (fun x11 => if (16 : Int32) ≤ v4 then sd_gd (sd_ix (v4 - (2 : Int32)) 64) (sd_bi (fn_Model_right (μ.1 6 (Int32.toNatClampNeg (v4 - (2 : Int32)))) (17 : Int32) μ) (fun x13 m12 => sd_gd (sd_ix (v4 - (2 : Int32)) 64) (sd_bi (fn_Model_right (m12.1 6 (Int32.toNatClampNeg (v4 - (2 : Int32)))) (19 : Int32) m12) (fun x15 m14 => sd_gd (sd_ix (v4 - (2 : Int32)) 64) (sd_gd (sd_ix (v4 - (7 : Int32)) 64) (sd_gd (sd_ix (v4 - (15 : Int32)) 64) (sd_bi (fn_Model_right (m14.1 6 (Int32.toNatClampNeg (v4 - (15 : Int32)))) (7 : Int32) m14) (fun x17 m16 => sd_gd (sd_ix (v4 - (15 : Int32)) 64) (sd_bi (fn_Model_right (m16.1 6 (Int32.toNatClampNeg (v4 - (15 : Int32)))) (18 : Int32) m16) (fun x19 m18 => sd_gd (sd_ix (v4 - (15 : Int32)) 64) (sd_gd (sd_ix (v4 - (16 : Int32)) 64) (sd_gd (sd_ix v4 64) (sd_let (sd_st m18 6 (Int32.toNatClampNeg v4) (((((x13 ^^^ x15) ^^^ (sd_usr (m14.1 6 (Int32.toNatClampNeg (v4 - (2 : Int32)))) (10 : Int32))) + (m14.1 6 (Int32.toNatClampNeg (v4 - (7 : Int32))))) + ((x17 ^^^ x19) ^^^ (sd_usr (m18.1 6 (Int32.toNatClampNeg (v4 - (15 : Int32)))) (3 : Int32)))) + (m18.1 6 (Int32.toNatClampNeg (v4 - (16 : Int32)))))) (fun m20 => fn_Model_wide_r0_L83 k279 n (v1) (v2) (v3) ((v4 + (1 : Int32))) m20)))))))))))))) else sd_gd (sd_ix x11 192) (sd_gd (sd_ix (x11 + (1 : Int32)) 192) (sd_gd (sd_ix (x11 + (2 : Int32)) 192) (sd_gd (sd_ix (x11 + (3 : Int32)) 192) (sd_gd (sd_ix v4 64) (sd_let (sd_st μ 6 (Int32.toNatClampNeg v4) (((((μ.1 5 (Int32.toNatClampNeg x11)) <<< ((24 : Int32) &&& 31)) ||| ((μ.1 5 (Int32.toNatClampNeg (x11 + (1 : Int32)))) <<< ((16 : Int32) &&& 31))) ||| ((μ.1 5 (Int32.toNatClampNeg (x11 + (2 : Int32)))) <<< ((8 : Int32) &&& 31))) ||| (μ.1 5 (Int32.toNatClampNeg (x11 + (3 : Int32)))))) (fun m21 => fn_Model_wide_r0_L83 k279 n (v1) (v2) (v3) ((v4 + (1 : Int32))) m21)))))))
def fn_Model_wide_r0_L282 (k309 : Int32 → Int32 → Int32 → sd_Me → Option (sd_Me)) : Nat → Int32 → Int32 → Int32 → Int32 → sd_Me → Option (sd_Me)
  | 0, _, _, _, _, _ => none
  | n + 1, v1, v2, v3, v4, μ =>
    if (8 : Int32) ≤ v4 then k309 (v1) (v2) (v3) μ else sd_gd (sd_ix v4 8) (sd_gd (sd_ix v4 10) (sd_let (sd_st μ 8 (Int32.toNatClampNeg v4) (μ.1 7 (Int32.toNatClampNeg v4))) (fun m26 => fn_Model_wide_r0_L282 k309 n (v1) (v2) (v3) ((v4 + (1 : Int32))) m26)))
def fn_Model_wide_r0_L492 (k519 : Int32 → Int32 → Int32 → Int32 → Int32 → Int32 → sd_Me → Option (sd_Me)) : Nat → Int32 → Int32 → Int32 → Int32 → Int32 → Int32 → Int32 → sd_Me → Option (sd_Me)
  | 0, _, _, _, _, _, _, _, _ => none
  | n + 1, v1, v2, v3, v4, v5, v6, v7, μ =>
    if v7 ≤ (0 : Int32) then k519 (v1) (v2) (v3) (v4) (v5) (v6) μ else sd_gd (sd_ix (v7 - (1 : Int32)) 10) (sd_gd (sd_ix v7 10) (sd_let (sd_st μ 8 (Int32.toNatClampNeg v7) (μ.1 8 (Int32.toNatClampNeg (v7 - (1 : Int32))))) (fun m45 => fn_Model_wide_r0_L492 k519 n (v1) (v2) (v3) (v4) (v5) (v6) ((v7 + (-1 : Int32))) m45)))
def fn_Model_wide_r0_L312 (k551 : Int32 → Int32 → Int32 → sd_Me → Option (sd_Me)) : Nat → Int32 → Int32 → Int32 → Int32 → sd_Me → Option (sd_Me)
  | 0, _, _, _, _, _ => none
  | n + 1, v1, v2, v3, v4, μ =>
    if (64 : Int32) ≤ v4 then k551 (v1) (v2) (v3) μ else sd_gd (sd_ix (7 : Int32) 10) (sd_gd (sd_ix (4 : Int32) 10) (sd_bi (fn_Model_right (μ.1 8 (Int32.toNatClampNeg (4 : Int32))) (6 : Int32) μ) (fun x32 m31 => sd_gd (sd_ix (4 : Int32) 10) (sd_bi (fn_Model_right (m31.1 8 (Int32.toNatClampNeg (4 : Int32))) (11 : Int32) m31) (fun x34 m33 => sd_gd (sd_ix (4 : Int32) 10) (sd_bi (fn_Model_right (m33.1 8 (Int32.toNatClampNeg (4 : Int32))) (25 : Int32) m33) (fun x36 m35 => sd_gd (sd_ix (4 : Int32) 10) (sd_gd (sd_ix (5 : Int32) 10) (sd_gd (sd_ix (4 : Int32) 10) (sd_gd (sd_ix (6 : Int32) 10) (sd_gd (sd_ix v4 64) (sd_gd (sd_ix v4 64) (sd_let ((((((μ.1 8 (Int32.toNatClampNeg (7 : Int32))) + ((x32 ^^^ x34) ^^^ x36)) + (((m35.1 8 (Int32.toNatClampNeg (4 : Int32))) &&& (m35.1 8 (Int32.toNatClampNeg (5 : Int32)))) ^^^ (((m35.1 8 (Int32.toNatClampNeg (4 : Int32))) ^^^ (-1 : Int32)) &&& (m35.1 8 (Int32.toNatClampNeg (6 : Int32)))))) + (tabM0 (Int32.toNatClampNeg v4))) + (m35.1 6 (Int32.toNatClampNeg v4)))) (fun x37 => sd_gd (sd_ix (0 : Int32) 10) (sd_bi (fn_Model_right (m35.1 8 (Int32.toNatClampNeg (0 : Int32))) (2 : Int32) m35) (fun x39 m38 => sd_gd (sd_ix (0 : Int32) 10) (sd_bi (fn_Model_right (m38.1 8 (Int32.toNatClampNeg (0 : Int32))) (13 : Int32) m38) (fun x41 m40 => sd_gd (sd_ix (0 : Int32) 10) (sd_bi (fn_Model_right (m40.1 8 (Int32.toNatClampNeg (0 : Int32))) (22 : Int32) m40) (fun x43 m42 => sd_gd (sd_ix (0 : Int32) 10) (sd_gd (sd_ix (1 : Int32) 10) (sd_gd (sd_ix (0 : Int32) 10) (sd_gd (sd_ix (2 : Int32) 10) (sd_gd (sd_ix (1 : Int32) 10) (sd_gd (sd_ix (2 : Int32) 10) (sd_let ((((x39 ^^^ x41) ^^^ x43) + ((((m42.1 8 (Int32.toNatClampNeg (0 : Int32))) &&& (m42.1 8 (Int32.toNatClampNeg (1 : Int32)))) ^^^ ((m42.1 8 (Int32.toNatClampNeg (0 : Int32))) &&& (m42.1 8 (Int32.toNatClampNeg (2 : Int32))))) ^^^ ((m42.1 8 (Int32.toNatClampNeg (1 : Int32))) &&& (m42.1 8 (Int32.toNatClampNeg (2 : Int32))))))) (fun x44 => fn_Model_wide_r0_L492 (fun x46 x47 x48 x49 x50 x51 m52 => sd_gd (sd_ix (4 : Int32) 10) (sd_gd (sd_ix (4 : Int32) 10) (sd_let (sd_st m52 8 (Int32.toNatClampNeg (4 : Int32)) ((m52.1 8 (Int32.toNatClampNeg (4 : Int32))) + x50)) (fun m53 => sd_gd (sd_ix (0 : Int32) 10) (sd_let (sd_st m53 8 (Int32.toNatClampNeg (0 : Int32)) (x50 + x51)) (fun m54 => fn_Model_wide_r0_L312 k551 n (x46) (x47) (x48) ((x49 + (1 : Int32))) m54)))))) 10000 (v1) (v2) (v3) (v4) (x37) (x44) ((7 : Int32)) m42)))))))))))))))))))))))))))
def fn_Model_wide_r0_L554 (k589 : Int32 → Int32 → Int32 → sd_Me → Option (sd_Me)) : Nat → Int32 → Int32 → Int32 → Int32 → sd_Me → Option (sd_Me)
  | 0, _, _, _, _, _ => none
  | n + 1, v1, v2, v3, v4, μ =>
    if (8 : Int32) ≤ v4 then k589 (v1) (v2) (v3) μ else sd_gd (sd_ix v4 8) (sd_gd (sd_ix v4 10) (sd_gd (sd_ix v4 8) (sd_let (sd_st μ 7 (Int32.toNatClampNeg v4) ((μ.1 7 (Int32.toNatClampNeg v4)) + (μ.1 8 (Int32.toNatClampNeg v4)))) (fun m59 => fn_Model_wide_r0_L554 k589 n (v1) (v2) (v3) ((v4 + (1 : Int32))) m59))))
def fn_Model_wide_r0_L75 (k595 : Int32 → sd_Me → Option (sd_Me)) : Nat → Int32 → Int32 → Int32 → sd_Me → Option (sd_Me)
  | 0, _, _, _, _ => none
  | n + 1, v1, v2, v3, μ =>
    if v2 ≤ v3 then k595 (v1) μ else fn_Model_wide_r0_L83 (fun x22 x23 x24 m25 => fn_Model_wide_r0_L282 (fun x27 x28 x29 m30 => fn_Model_wide_r0_L312 (fun x55 x56 x57 m58 => fn_Model_wide_r0_L554 (fun x60 x61 x62 m63 => fn_Model_wide_r0_L75 k595 n (x60) (x61) ((x62 + (1 : Int32))) m63) 10000 (x55) (x56) (x57) ((0 : Int32)) m58) 10000 (x27) (x28) (x29) ((0 : Int32)) m30) 10000 (x22) (x23) (x24) ((0 : Int32)) m25) 10000 (v1) (v2) (v3) ((0 : Int32)) μ
def fn_Model_wide_r0_L605 (k650 : sd_Me → Option (sd_Me)) : Nat → Int32 → Int32 → sd_Me → Option (sd_Me)
  | 0, _, _, _ => none
  | n + 1, v1, v3, μ =>
    if (32 : Int32) ≤ v3 then k650  μ else sd_gd (sd_ix (v3 / (4 : Int32)) 8) (sd_gd (sd_ix (((120 : Int32) * v1) + v3) 16800) (sd_let (sd_st μ 1 (Int32.toNatClampNeg (((120 : Int32) * v1) + v3)) ((sd_usr (μ.1 7 (Int32.toNatClampNeg (v3 / (4 : Int32)))) ((24 : Int32) - ((8 : Int32) * (v3 - v3 / (4 : Int32) * (4 : Int32))))) &&& (255 : Int32))) (fun m67 => fn_Model_wide_r0_L605 k650 n (v1) ((v3 + (1 : Int32))) m67)))
def fn_Model_wide_r0 (a1 : Int32) (μ : sd_Me) : Option (sd_Me) :=
  sd_bi (fn_Model_pad_r0 a1 (1 : Int32) μ) (fun x2 m1 => sd_gd (sd_ix (0 : Int32) 8) (sd_let (sd_st m1 7 (Int32.toNatClampNeg (0 : Int32)) (1779033703 : Int32)) (fun m3 => sd_gd (sd_ix (1 : Int32) 8) (sd_let (sd_st m3 7 (Int32.toNatClampNeg (1 : Int32)) (-1150833019 : Int32)) (fun m4 => sd_gd (sd_ix (2 : Int32) 8) (sd_let (sd_st m4 7 (Int32.toNatClampNeg (2 : Int32)) (1013904242 : Int32)) (fun m5 => sd_gd (sd_ix (3 : Int32) 8) (sd_let (sd_st m5 7 (Int32.toNatClampNeg (3 : Int32)) (-1521486534 : Int32)) (fun m6 => sd_gd (sd_ix (4 : Int32) 8) (sd_let (sd_st m6 7 (Int32.toNatClampNeg (4 : Int32)) (1359893119 : Int32)) (fun m7 => sd_gd (sd_ix (5 : Int32) 8) (sd_let (sd_st m7 7 (Int32.toNatClampNeg (5 : Int32)) (-1694144372 : Int32)) (fun m8 => sd_gd (sd_ix (6 : Int32) 8) (sd_let (sd_st m8 7 (Int32.toNatClampNeg (6 : Int32)) (528734635 : Int32)) (fun m9 => sd_gd (sd_ix (7 : Int32) 8) (sd_let (sd_st m9 7 (Int32.toNatClampNeg (7 : Int32)) (1541459225 : Int32)) (fun m10 => fn_Model_wide_r0_L75 (fun x64 m65 => sd_gd (sd_ix x64 140) (sd_let (sd_st m65 2 (Int32.toNatClampNeg x64) (32 : Int32)) (fun m66 => fn_Model_wide_r0_L605 (fun m68 => some m68) 10000 (x64) ((0 : Int32)) m66))) 10000 (a1) (x2) ((0 : Int32)) m10)))))))))))))))))
def fn_Model_digest_r0_J48 (v1 : Int32) (μ : sd_Me) : Option (sd_Me) :=
  if v1 = (170 : Int32) then sd_bi (fn_Model_top_r0 (0 : Int32) μ) (fun x7 m6 => sd_bv (fn_Model_wide_r0 x7 m6) (fun m8 => some m8)) else some μ
def fn_Model_digest_r0_J39 (v1 : Int32) (μ : sd_Me) : Option (sd_Me) :=
  sd_bi (fn_Model_top_r0 (0 : Int32) μ) (fun x4 m3 => sd_bv (fn_Model_small_r0 x4 m3) (fun m5 => fn_Model_digest_r0_J48 (v1) m5))
def fn_Model_digest_r0_J25 (v1 : Int32) (μ : sd_Me) : Option (sd_Me) :=
  if v1 = (166 : Int32) then fn_Model_digest_r0_J39 (v1) μ else if v1 = (169 : Int32) then fn_Model_digest_r0_J39 (v1) μ else fn_Model_digest_r0_J48 (v1) μ
def fn_Model_digest_r0 (a1 : Int32) (μ : sd_Me) : Option (sd_Me) :=
  sd_bi (fn_Model_has_r0 (1 : Int32) μ) (fun x2 m1 => if x2 = (0 : Int32) then some m1 else if a1 = (166 : Int32) then fn_Model_digest_r0_J25 (a1) m1 else sd_bi (fn_Model_top_r0 (0 : Int32) m1) (fun x10 m9 => sd_bv (fn_Model_wide_r0 x10 m9) (fun m11 => fn_Model_digest_r0_J25 (a1) m11)))
def fn_Model_fit_r0 (a1 : Int32) (a2 : Int32) (μ : sd_Me) : Option (Int32 × sd_Me) :=
  sd_let (sd_st μ 0 10 ((μ.1 0 10) + (1 : Int32))) (fun m1 => sd_gd (sd_ix a1 140) (if (m1.1 2 (Int32.toNatClampNeg a1)) = (0 : Int32) then some ((0 : Int32), m1) else sd_gd (sd_ix a2 140) (if (m1.1 2 (Int32.toNatClampNeg a2)) = (0 : Int32) then some ((0 : Int32), m1) else sd_gd (sd_ix ((120 : Int32) * a1) 16800) (sd_gd (sd_ix a2 140) (sd_gd (sd_ix ((((120 : Int32) * a2) + (m1.1 2 (Int32.toNatClampNeg a2))) - (1 : Int32)) 16800) (sd_gd (sd_ix a1 140) (sd_gd (sd_ix ((((120 : Int32) * a1) + (m1.1 2 (Int32.toNatClampNeg a1))) - (1 : Int32)) 16800) (sd_let ((((m1.2 0) + (Int32.toInt64 ((m1.1 1 (Int32.toNatClampNeg ((120 : Int32) * a1))) * (m1.1 1 (Int32.toNatClampNeg ((((120 : Int32) * a2) + (m1.1 2 (Int32.toNatClampNeg a2))) - (1 : Int32))))))) + (Int32.toInt64 (m1.1 1 (Int32.toNatClampNeg ((((120 : Int32) * a1) + (m1.1 2 (Int32.toNatClampNeg a1))) - (1 : Int32))))))) (fun x2 => if (lg_cmp (x2 - x2 / (3 : Int64) * (3 : Int64)) (0 : Int64)) = (0 : Int32) then some ((1 : Int32), m1) else some ((0 : Int32), m1))))))))))
def fn_Model_one_r0 (a1 : Int32) (μ : sd_Me) : Option (sd_Me) :=
  sd_bi (fn_Model_has_r0 (2 : Int32) μ) (fun x2 m1 => if x2 = (0 : Int32) then some m1 else sd_bi (fn_Model_top_r0 (1 : Int32) m1) (fun x4 m3 => sd_bi (fn_Model_top_r0 (0 : Int32) m3) (fun x6 m5 => sd_bi (fn_Model_fit_r0 x4 x6 m5) (fun x8 m7 => sd_let (sd_st m7 0 2 ((m7.1 0 2) - (2 : Int32))) (fun m9 => sd_bv (fn_Model_pushTruth_r0 x8 m9) (fun m10 => if a1 = (0 : Int32) then some m10 else sd_bv (fn_Model_mustBeTrue_r0 m10) (fun m11 => some m11)))))))
def fn_Model_several_r0_L139 (k199 : Int32 → Int32 → Int32 → Int32 → sd_Me → Option (sd_Me)) : Nat → Int32 → Int32 → Int32 → Int32 → Int32 → sd_Me → Option (sd_Me)
  | 0, _, _, _, _, _, _ => none
  | n + 1, v1, v2, v3, v4, v5, μ =>
    if v5 ≤ (0 : Int32) then k199 (v1) (v2) (v3) (v5) μ else if v4 < v5 then k199 (v1) (v2) (v3) (v5) μ else sd_bi (fn_Model_top_r0 ((((v2 + (1 : Int32)) + v3) - v5) + (1 : Int32)) μ) (fun x15 m14 => sd_bi (fn_Model_top_r0 ((v2 - v4) + (1 : Int32)) m14) (fun x17 m16 => sd_bi (fn_Model_fit_r0 x15 x17 m16) (fun x19 m18 => if x19 = (0 : Int32) then fn_Model_several_r0_L139 k199 n (v1) (v2) (v3) ((v4 + (-1 : Int32))) (v5) m18 else sd_let ((v5 - (1 : Int32))) (fun x20 => fn_Model_several_r0_L139 k199 n (v1) (v2) (v3) ((v4 + (-1 : Int32))) (x20) m18))))
def fn_Model_several_r0_J199 (v1 : Int32) (v2 : Int32) (v3 : Int32) (v5 : Int32) (μ : sd_Me) : Option (sd_Me) :=
  sd_let (sd_st μ 0 2 ((μ.1 0 2) - ((v2 + v3) + (3 : Int32)))) (fun m26 => if v5 = (0 : Int32) then sd_bv (fn_Model_pushTruth_r0 (1 : Int32) m26) (fun m29 => if v1 = (0 : Int32) then some m29 else sd_bv (fn_Model_mustBeTrue_r0 m29) (fun m30 => some m30)) else sd_bv (fn_Model_pushTruth_r0 (0 : Int32) m26) (fun m27 => if v1 = (0 : Int32) then some m27 else sd_bv (fn_Model_mustBeTrue_r0 m27) (fun m28 => some m28)))
def fn_Model_several_r0 (a1 : Int32) (μ : sd_Me) : Option (sd_Me) :=
  sd_bi (fn_Model_reads_r0 (0 : Int32) μ) (fun x2 m1 => if x2 = (0 : Int32) then some m1 else if (lg_cmp (m1.2 1) (0 : Int64)) < (0 : Int32) then sd_bv (fn_Model_fails_r0 (7 : Int32) m1) (fun m3 => some m3) else if (lg_cmp (m1.2 1) (8 : Int64)) ≤ (0 : Int32) then sd_let ((Int64.toInt32 (m1.2 1))) (fun x4 => sd_let (sd_st m1 0 9 ((m1.1 0 9) + x4)) (fun m5 => if (m5.1 0 9) ≤ (100 : Int32) then sd_bi (fn_Model_has_r0 (x4 + (1 : Int32)) m5) (fun x7 m6 => if x7 = (0 : Int32) then some m6 else sd_bi (fn_Model_reads_r0 (x4 + (1 : Int32)) m6) (fun x9 m8 => if x9 = (0 : Int32) then some m8 else if (lg_cmp (m8.2 1) (0 : Int64)) < (0 : Int32) then sd_bv (fn_Model_fails_r0 (7 : Int32) m8) (fun m10 => some m10) else if (lg_cmp (m8.2 1) (Int32.toInt64 x4)) ≤ (0 : Int32) then sd_let ((Int64.toInt32 (m8.2 1))) (fun x11 => sd_bi (fn_Model_has_r0 ((x4 + x11) + (3 : Int32)) m8) (fun x13 m12 => if x13 = (0 : Int32) then some m12 else fn_Model_several_r0_L139 (fun x21 x22 x23 x24 m25 => fn_Model_several_r0_J199 (x21) (x22) (x23) (x24) m25) 10000 (a1) (x4) (x11) (x4) (x11) m12)) else sd_bv (fn_Model_fails_r0 (7 : Int32) m8) (fun m31 => some m31))) else sd_bv (fn_Model_fails_r0 (3 : Int32) m5) (fun m32 => some m32))) else sd_bv (fn_Model_fails_r0 (7 : Int32) m1) (fun m33 => some m33))
def fn_Model_copy_r0_L14 (k48 : sd_Me → Option (sd_Me)) : Nat → Int32 → Int32 → Int32 → sd_Me → Option (sd_Me)
  | 0, _, _, _, _ => none
  | n + 1, v1, v2, v3, μ =>
    if (120 : Int32) ≤ v3 then k48  μ else sd_gd (sd_ix (((120 : Int32) * v2) + v3) 16800) (sd_gd (sd_ix (((120 : Int32) * v1) + v3) 16800) (sd_let (sd_st μ 1 (Int32.toNatClampNeg (((120 : Int32) * v1) + v3)) (μ.1 1 (Int32.toNatClampNeg (((120 : Int32) * v2) + v3)))) (fun m2 => fn_Model_copy_r0_L14 k48 n (v1) (v2) ((v3 + (1 : Int32))) m2)))
def fn_Model_copy_r0 (a1 : Int32) (a2 : Int32) (μ : sd_Me) : Option (sd_Me) :=
  sd_gd (sd_ix a2 140) (sd_gd (sd_ix a1 140) (sd_let (sd_st μ 2 (Int32.toNatClampNeg a1) (μ.1 2 (Int32.toNatClampNeg a2))) (fun m1 => fn_Model_copy_r0_L14 (fun m3 => some m3) 10000 (a1) (a2) ((0 : Int32)) m1)))
def fn_Model_push_r0 (a1 : Int32) (μ : sd_Me) : Option (sd_Me) :=
  sd_bv (fn_Model_copy_r0 (μ.1 0 2) a1 μ) (fun m1 => sd_let (sd_st m1 0 2 ((m1.1 0 2) + (1 : Int32))) (fun m2 => some m2))
def fn_Model_again_r0_L22 (k43 : sd_Me → Option (sd_Me)) : Nat → Int32 → Int32 → Int32 → sd_Me → Option (sd_Me)
  | 0, _, _, _, _ => none
  | n + 1, v3, v4, v5, μ =>
    if v3 ≤ v5 then k43  μ else sd_bv (fn_Model_push_r0 (v4 + v5) μ) (fun m4 => fn_Model_again_r0_L22 k43 n (v3) (v4) ((v5 + (1 : Int32))) m4)
def fn_Model_again_r0 (a1 : Int32) (a2 : Int32) (a3 : Int32) (μ : sd_Me) : Option (sd_Me) :=
  sd_bi (fn_Model_has_r0 a1 μ) (fun x2 m1 => if x2 = (0 : Int32) then some m1 else sd_let ((((m1.1 0 2) - a2) - (1 : Int32))) (fun x3 => fn_Model_again_r0_L22 (fun m5 => some m5) 10000 (a3) (x3) ((0 : Int32)) m1))
def fn_Model_turn_r0_L37 (k64 : Int32 → Int32 → Int32 → sd_Me → Option (sd_Me)) : Nat → Int32 → Int32 → Int32 → Int32 → sd_Me → Option (sd_Me)
  | 0, _, _, _, _, _ => none
  | n + 1, v1, v2, v3, v4, μ =>
    if ((μ.1 0 2) - (1 : Int32)) ≤ v4 then k64 (v1) (v2) (v3) μ else sd_bv (fn_Model_copy_r0 v4 (v4 + (1 : Int32)) μ) (fun m5 => fn_Model_turn_r0_L37 k64 n (v1) (v2) (v3) ((v4 + (1 : Int32))) m5)
def fn_Model_turn_r0_L11 (k83 : sd_Me → Option (sd_Me)) : Nat → Int32 → Int32 → Int32 → sd_Me → Option (sd_Me)
  | 0, _, _, _, _ => none
  | n + 1, v1, v2, v3, μ =>
    if v2 ≤ v3 then k83  μ else sd_bv (fn_Model_copy_r0 (139 : Int32) ((μ.1 0 2) - v1) μ) (fun m3 => sd_let (((m3.1 0 2) - v1)) (fun x4 => fn_Model_turn_r0_L37 (fun x6 x7 x8 m9 => sd_bv (fn_Model_copy_r0 ((m9.1 0 2) - (1 : Int32)) (139 : Int32) m9) (fun m10 => fn_Model_turn_r0_L11 k83 n (x6) (x7) ((x8 + (1 : Int32))) m10)) 10000 (v1) (v2) (v3) (x4) m3))
def fn_Model_turn_r0 (a1 : Int32) (a2 : Int32) (μ : sd_Me) : Option (sd_Me) :=
  sd_bi (fn_Model_has_r0 a1 μ) (fun x2 m1 => if x2 = (0 : Int32) then some m1 else fn_Model_turn_r0_L11 (fun m11 => some m11) 10000 (a1) (a2) ((0 : Int32)) m1)
def fn_Model_takeOut_r0_L6 (k30 : sd_Me → Option (sd_Me)) : Nat → Int32 → sd_Me → Option (sd_Me)
  | 0, _, _ => none
  | n + 1, v2, μ =>
    if ((μ.1 0 2) - (1 : Int32)) ≤ v2 then k30  μ else sd_bv (fn_Model_copy_r0 v2 (v2 + (1 : Int32)) μ) (fun m3 => fn_Model_takeOut_r0_L6 k30 n ((v2 + (1 : Int32))) m3)
def fn_Model_takeOut_r0 (a1 : Int32) (μ : sd_Me) : Option (sd_Me) :=
  sd_bi (fn_Model_top_r0 a1 μ) (fun x2 m1 => fn_Model_takeOut_r0_L6 (fun m4 => sd_let (sd_st m4 0 2 ((m4.1 0 2) - (1 : Int32))) (fun m5 => some m5)) 10000 (x2) m1)
def fn_Model_pick_r0 (a1 : Int32) (μ : sd_Me) : Option (sd_Me) :=
  sd_bi (fn_Model_reads_r0 (0 : Int32) μ) (fun x2 m1 => if x2 = (0 : Int32) then some m1 else sd_let (sd_st m1 0 2 ((m1.1 0 2) - (1 : Int32))) (fun m3 => if (lg_cmp (m3.2 1) (0 : Int64)) < (0 : Int32) then sd_bv (fn_Model_fails_r0 (7 : Int32) m3) (fun m4 => some m4) else if (lg_cmp (m3.2 1) (Int32.toInt64 ((m3.1 0 2) - (1 : Int32)))) ≤ (0 : Int32) then sd_let ((Int64.toInt32 (m3.2 1))) (fun x5 => sd_bi (fn_Model_top_r0 x5 m3) (fun x7 m6 => sd_bv (fn_Model_copy_r0 (134 : Int32) x7 m6) (fun m8 => if a1 = (0 : Int32) then sd_bv (fn_Model_push_r0 (134 : Int32) m8) (fun m9 => some m9) else sd_bv (fn_Model_takeOut_r0 x5 m8) (fun m10 => sd_bv (fn_Model_push_r0 (134 : Int32) m10) (fun m11 => some m11))))) else sd_bv (fn_Model_fails_r0 (7 : Int32) m3) (fun m12 => some m12)))
def fn_Model_moves_r0 (a1 : Int32) (μ : sd_Me) : Option (sd_Me) :=
  if a1 = (107 : Int32) then sd_bi (fn_Model_has_r0 (1 : Int32) μ) (fun x2 m1 => if x2 = (0 : Int32) then some m1 else sd_let (sd_st m1 0 2 ((m1.1 0 2) - (1 : Int32))) (fun m3 => sd_bv (fn_Model_copy_r0 ((70 : Int32) + (m3.1 0 3)) (m3.1 0 2) m3) (fun m4 => sd_let (sd_st m4 0 3 ((m4.1 0 3) + (1 : Int32))) (fun m5 => some m5)))) else if a1 = (108 : Int32) then if (μ.1 0 3) = (0 : Int32) then sd_bv (fn_Model_fails_r0 (5 : Int32) μ) (fun m8 => some m8) else sd_let (sd_st μ 0 3 ((μ.1 0 3) - (1 : Int32))) (fun m6 => sd_bv (fn_Model_push_r0 ((70 : Int32) + (m6.1 0 3)) m6) (fun m7 => some m7)) else if a1 = (109 : Int32) then sd_bi (fn_Model_has_r0 (2 : Int32) μ) (fun x10 m9 => if x10 = (0 : Int32) then sd_let (sd_st m9 0 2 (m9.1 0 2)) (fun m11 => some m11) else sd_let (sd_st m9 0 2 ((m9.1 0 2) - (2 : Int32))) (fun m12 => some m12)) else if a1 = (110 : Int32) then sd_bv (fn_Model_again_r0 (2 : Int32) (1 : Int32) (2 : Int32) μ) (fun m13 => some m13) else if a1 = (111 : Int32) then sd_bv (fn_Model_again_r0 (3 : Int32) (2 : Int32) (3 : Int32) μ) (fun m14 => some m14) else if a1 = (112 : Int32) then sd_bv (fn_Model_again_r0 (4 : Int32) (3 : Int32) (2 : Int32) μ) (fun m15 => some m15) else if a1 = (113 : Int32) then sd_bv (fn_Model_turn_r0 (6 : Int32) (2 : Int32) μ) (fun m16 => some m16) else if a1 = (114 : Int32) then sd_bv (fn_Model_turn_r0 (4 : Int32) (2 : Int32) μ) (fun m17 => some m17) else if a1 = (115 : Int32) then sd_bi (fn_Model_has_r0 (1 : Int32) μ) (fun x19 m18 => if x19 = (0 : Int32) then some m18 else sd_bi (fn_Model_top_r0 (0 : Int32) m18) (fun x21 m20 => sd_bi (fn_Model_isTrueRow_r0 x21 m20) (fun x23 m22 => if x23 = (0 : Int32) then some m22 else sd_bi (fn_Model_top_r0 (0 : Int32) m22) (fun x25 m24 => sd_bv (fn_Model_push_r0 x25 m24) (fun m26 => some m26))))) else if a1 = (116 : Int32) then sd_bv (fn_Model_pushNumber_r0 (Int32.toInt64 (μ.1 0 2)) μ) (fun m27 => some m27) else if a1 = (117 : Int32) then sd_bi (fn_Model_has_r0 (1 : Int32) μ) (fun x29 m28 => if x29 = (0 : Int32) then sd_let (sd_st m28 0 2 (m28.1 0 2)) (fun m30 => some m30) else sd_let (sd_st m28 0 2 ((m28.1 0 2) - (1 : Int32))) (fun m31 => some m31)) else if a1 = (118 : Int32) then sd_bv (fn_Model_again_r0 (1 : Int32) (0 : Int32) (1 : Int32) μ) (fun m32 => some m32) else if a1 = (119 : Int32) then sd_bi (fn_Model_has_r0 (2 : Int32) μ) (fun x34 m33 => if x34 = (0 : Int32) then some m33 else sd_bv (fn_Model_takeOut_r0 (1 : Int32) m33) (fun m35 => some m35)) else if a1 = (120 : Int32) then sd_bv (fn_Model_again_r0 (2 : Int32) (1 : Int32) (1 : Int32) μ) (fun m36 => some m36) else if a1 = (121 : Int32) then sd_bv (fn_Model_pick_r0 (0 : Int32) μ) (fun m37 => some m37) else if a1 = (122 : Int32) then sd_bv (fn_Model_pick_r0 (1 : Int32) μ) (fun m38 => some m38) else if a1 = (123 : Int32) then sd_bv (fn_Model_turn_r0 (3 : Int32) (1 : Int32) μ) (fun m39 => some m39) else if a1 = (124 : Int32) then sd_bv (fn_Model_turn_r0 (2 : Int32) (1 : Int32) μ) (fun m40 => some m40) else if a1 = (125 : Int32) then sd_bv (fn_Model_turn_r0 (2 : Int32) (1 : Int32) μ) (fun m41 => if (m41.1 0 7) = (0 : Int32) then sd_bv (fn_Model_again_r0 (2 : Int32) (1 : Int32) (1 : Int32) m41) (fun m42 => some m42) else some m41) else sd_bi (fn_Model_has_r0 (1 : Int32) μ) (fun x44 m43 => if x44 = (0 : Int32) then some m43 else sd_bi (fn_Model_top_r0 (0 : Int32) m43) (fun x46 m45 => sd_gd (sd_ix x46 140) (sd_bv (fn_Model_pushNumber_r0 (Int32.toInt64 (m45.1 2 (Int32.toNatClampNeg x46))) m45) (fun m47 => some m47))))
def fn_Model_operation_r0_J41 (v1 : Int32) (μ : sd_Me) : Option (sd_Me) :=
  if v1 = (136 : Int32) then sd_bv (fn_Model_equal_r0 (1 : Int32) μ) (fun m2 => some m2) else sd_bv (fn_Model_equal_r0 (0 : Int32) μ) (fun m1 => some m1)
def fn_Model_operation_r0_J175 (v1 : Int32) (μ : sd_Me) : Option (sd_Me) :=
  if v1 = (173 : Int32) then sd_bv (fn_Model_one_r0 (1 : Int32) μ) (fun m9 => some m9) else sd_bv (fn_Model_one_r0 (0 : Int32) μ) (fun m8 => some m8)
def fn_Model_operation_r0_J208 (v1 : Int32) (μ : sd_Me) : Option (sd_Me) :=
  if v1 = (175 : Int32) then sd_bv (fn_Model_several_r0 (1 : Int32) μ) (fun m11 => some m11) else sd_bv (fn_Model_several_r0 (0 : Int32) μ) (fun m10 => some m10)
def fn_Model_operation_r0_J161 (v1 : Int32) (μ : sd_Me) : Option (sd_Me) :=
  if v1 = (172 : Int32) then fn_Model_operation_r0_J175 (v1) μ else if v1 = (173 : Int32) then fn_Model_operation_r0_J175 (v1) μ else if v1 = (174 : Int32) then fn_Model_operation_r0_J208 (v1) μ else if v1 = (175 : Int32) then fn_Model_operation_r0_J208 (v1) μ else if v1 = (105 : Int32) then sd_bv (fn_Model_mustBeTrue_r0 μ) (fun m14 => some m14) else if v1 = (106 : Int32) then sd_bv (fn_Model_fails_r0 (9 : Int32) μ) (fun m13 => some m13) else if v1 = (97 : Int32) then some μ else sd_bv (fn_Model_fails_r0 (4 : Int32) μ) (fun m12 => some m12)
def fn_Model_operation_r0_J132 (v1 : Int32) (μ : sd_Me) : Option (sd_Me) :=
  if v1 = (166 : Int32) then sd_bv (fn_Model_digest_r0 v1 μ) (fun m7 => some m7) else if v1 < (168 : Int32) then fn_Model_operation_r0_J161 (v1) μ else if (170 : Int32) < v1 then fn_Model_operation_r0_J161 (v1) μ else sd_bv (fn_Model_digest_r0 v1 μ) (fun m15 => some m15)
def fn_Model_operation_r0_J96 (v1 : Int32) (μ : sd_Me) : Option (sd_Me) :=
  if v1 = (147 : Int32) then sd_bv (fn_Model_numberOfTwo_r0 v1 μ) (fun m5 => some m5) else if v1 = (148 : Int32) then sd_bv (fn_Model_numberOfTwo_r0 v1 μ) (fun m6 => some m6) else if v1 < (154 : Int32) then fn_Model_operation_r0_J132 (v1) μ else if (165 : Int32) < v1 then fn_Model_operation_r0_J132 (v1) μ else sd_bv (fn_Model_numberOfTwo_r0 v1 μ) (fun m16 => some m16)
def fn_Model_operation_r0_J12 (v1 : Int32) (μ : sd_Me) : Option (sd_Me) :=
  if v1 = (130 : Int32) then sd_bv (fn_Model_moves_r0 v1 μ) (fun m18 => some m18) else if v1 = (135 : Int32) then fn_Model_operation_r0_J41 (v1) μ else if v1 = (136 : Int32) then fn_Model_operation_r0_J41 (v1) μ else if v1 = (139 : Int32) then sd_bv (fn_Model_numberOfOne_r0 v1 μ) (fun m3 => some m3) else if v1 = (140 : Int32) then sd_bv (fn_Model_numberOfOne_r0 v1 μ) (fun m4 => some m4) else if v1 < (143 : Int32) then fn_Model_operation_r0_J96 (v1) μ else if (146 : Int32) < v1 then fn_Model_operation_r0_J96 (v1) μ else sd_bv (fn_Model_numberOfOne_r0 v1 μ) (fun m17 => some m17)
def fn_Model_operation_r0 (a1 : Int32) (μ : sd_Me) : Option (sd_Me) :=
  if a1 < (107 : Int32) then fn_Model_operation_r0_J12 (a1) μ else if a1 ≤ (125 : Int32) then sd_bv (fn_Model_moves_r0 a1 μ) (fun m19 => some m19) else fn_Model_operation_r0_J12 (a1) μ
def fn_Model_pushes_r0_L51 (k87 : Int32 → Int32 → sd_Me → Option (Int32 × sd_Me)) : Nat → Int32 → Int32 → Int32 → sd_Me → Option (Int32 × sd_Me)
  | 0, _, _, _, _ => none
  | n + 1, v1, v2, v4, μ =>
    if v2 ≤ v4 then k87 (v1) (v2) μ else sd_gd (sd_ix (v1 + v4) 200) (sd_gd (sd_ix (((120 : Int32) * (μ.1 0 2)) + v4) 16800) (sd_let (sd_st μ 1 (Int32.toNatClampNeg (((120 : Int32) * (μ.1 0 2)) + v4)) (μ.1 3 (Int32.toNatClampNeg (v1 + v4)))) (fun m2 => fn_Model_pushes_r0_L51 k87 n (v1) (v2) ((v4 + (1 : Int32))) m2)))
def fn_Model_pushes_r0 (a1 : Int32) (a2 : Int32) (a3 : Int32) (μ : sd_Me) : Option (Int32 × sd_Me) :=
  if (a1 + a2) ≤ (μ.1 0 5) then if a2 ≤ (120 : Int32) then if a3 = (0 : Int32) then some ((a1 + a2), μ) else sd_gd (sd_ix (μ.1 0 2) 140) (sd_let (sd_st μ 2 (Int32.toNatClampNeg (μ.1 0 2)) a2) (fun m1 => fn_Model_pushes_r0_L51 (fun x3 x4 m5 => sd_let (sd_st m5 0 2 ((m5.1 0 2) + (1 : Int32))) (fun m6 => some ((x3 + x4), m6))) 10000 (a1) (a2) ((0 : Int32)) m1)) else sd_bv (fn_Model_fails_r0 (2 : Int32) μ) (fun m7 => some ((a1 + a2), m7)) else sd_bv (fn_Model_fails_r0 (1 : Int32) μ) (fun m8 => some ((m8.1 0 5), m8))
def fn_Model_next_r0_J252 (v1 : Int32) (v2 : Int32) (v3 : Int32) (μ : sd_Me) : Option (Int32 × sd_Me) :=
  if v3 = (0 : Int32) then some ((v1 + (1 : Int32)), μ) else sd_bv (fn_Model_operation_r0 v2 μ) (fun m8 => some ((v1 + (1 : Int32)), m8))
def fn_Model_next_r0_J234 (v1 : Int32) (v2 : Int32) (v3 : Int32) (μ : sd_Me) : Option (Int32 × sd_Me) :=
  if v3 = (0 : Int32) then fn_Model_next_r0_J252 (v1) (v2) (v3) μ else if (97 : Int32) ≤ v2 then fn_Model_next_r0_J252 (v1) (v2) (v3) μ else sd_bv (fn_Model_fails_r0 (4 : Int32) μ) (fun m9 => some ((v1 + (1 : Int32)), m9))
def fn_Model_next_r0_J206 (v1 : Int32) (v2 : Int32) (v3 : Int32) (μ : sd_Me) : Option (Int32 × sd_Me) :=
  if v3 = (0 : Int32) then fn_Model_next_r0_J234 (v1) (v2) (v3) μ else if v2 ≤ (80 : Int32) then fn_Model_next_r0_J234 (v1) (v2) (v3) μ else if (97 : Int32) ≤ v2 then fn_Model_next_r0_J234 (v1) (v2) (v3) μ else sd_bv (fn_Model_pushNumber_r0 (Int32.toInt64 (v2 - (80 : Int32))) μ) (fun m10 => some ((v1 + (1 : Int32)), m10))
def fn_Model_next_r0_J134 (v1 : Int32) (v2 : Int32) (v3 : Int32) (s1 : Int32) (μ : sd_Me) : Option (Int32 × sd_Me) :=
  sd_let (sd_st μ 0 9 s1) (fun m4 => if (m4.1 0 9) ≤ (100 : Int32) then if v2 = (99 : Int32) then sd_bv (fn_Model_flow_r0 v2 m4) (fun m5 => some ((v1 + (1 : Int32)), m5)) else if v2 = (100 : Int32) then sd_bv (fn_Model_flow_r0 v2 m4) (fun m6 => some ((v1 + (1 : Int32)), m6)) else if v2 = (103 : Int32) then sd_bv (fn_Model_flow_r0 v2 m4) (fun m7 => some ((v1 + (1 : Int32)), m7)) else if v2 = (104 : Int32) then sd_bv (fn_Model_flow_r0 v2 m4) (fun m12 => some ((v1 + (1 : Int32)), m12)) else if v3 = (0 : Int32) then fn_Model_next_r0_J206 (v1) (v2) (v3) m4 else if v2 = (79 : Int32) then sd_bv (fn_Model_pushNumber_r0 (-1 : Int64) m4) (fun m11 => some ((v1 + (1 : Int32)), m11)) else fn_Model_next_r0_J206 (v1) (v2) (v3) m4 else sd_bv (fn_Model_fails_r0 (3 : Int32) m4) (fun m13 => some ((v1 + (1 : Int32)), m13)))
def fn_Model_next_r0_J98 (v1 : Int32) (v3 : Int32) (v4 : Int32) (s0 : Int32) (μ : sd_Me) : Option (Int32 × sd_Me) :=
  sd_bi (fn_Model_pushes_r0 ((v1 + (1 : Int32)) + v4) s0 v3 μ) (fun x15 m14 => some (x15, m14))
def fn_Model_next_r0_J97 (v1 : Int32) (v3 : Int32) (v4 : Int32) (s0 : Int32) (s1 : Int32) (μ : sd_Me) : Option (Int32 × sd_Me) :=
  fn_Model_next_r0_J98 (v1) (v3) (v4) ((s0 + s1)) μ
def fn_Model_next_r0_J32 (v1 : Int32) (v2 : Int32) (v3 : Int32) (s0 : Int32) (μ : sd_Me) : Option (Int32 × sd_Me) :=
  if ((v1 + (1 : Int32)) + s0) ≤ (μ.1 0 5) then if (76 : Int32) ≤ v2 then sd_gd (sd_ix (v1 + (1 : Int32)) 200) (if s0 = (2 : Int32) then sd_gd (sd_ix (v1 + (2 : Int32)) 200) (fn_Model_next_r0_J97 (v1) (v3) (s0) ((μ.1 3 (Int32.toNatClampNeg (v1 + (1 : Int32))))) (((256 : Int32) * (μ.1 3 (Int32.toNatClampNeg (v1 + (2 : Int32)))))) μ) else fn_Model_next_r0_J97 (v1) (v3) (s0) ((μ.1 3 (Int32.toNatClampNeg (v1 + (1 : Int32))))) ((0 : Int32)) μ) else fn_Model_next_r0_J98 (v1) (v3) (s0) (v2) μ else sd_bv (fn_Model_fails_r0 (1 : Int32) μ) (fun m16 => some ((m16.1 0 5), m16))
def fn_Model_next_r0 (a1 : Int32) (μ : sd_Me) : Option (Int32 × sd_Me) :=
  sd_gd (sd_ix a1 200) (sd_let ((μ.1 3 (Int32.toNatClampNeg a1))) (fun x1 => sd_bi (fn_Model_isDone_r0 μ) (fun x3 m2 => if (78 : Int32) ≤ x1 then if x1 ≤ (96 : Int32) then fn_Model_next_r0_J134 (a1) (x1) (x3) ((m2.1 0 9)) m2 else fn_Model_next_r0_J134 (a1) (x1) (x3) (((m2.1 0 9) + (1 : Int32))) m2 else if (76 : Int32) ≤ x1 then fn_Model_next_r0_J32 (a1) (x1) (x3) ((x1 - (75 : Int32))) m2 else fn_Model_next_r0_J32 (a1) (x1) (x3) ((0 : Int32)) m2)))
def fn_Model_run_r0_J82 (rc : Int32 → sd_Me → Option (Int32 × sd_Me)) (v1 : Int32) (v2 : Int32) (μ : sd_Me) : Option (Int32 × sd_Me) :=
  if (μ.1 0 7) ≤ (0 : Int32) then sd_let (sd_st μ 0 8 (-1 : Int32)) (fun m9 => rc (v1) m9) else sd_let (sd_st μ 0 8 v2) (fun m10 => rc (v1) m10)
def fn_Model_run_r0_L32 (k101 : sd_Me → Option (Int32 × sd_Me)) : Nat → Int32 → sd_Me → Option (Int32 × sd_Me)
  | 0, _, _ => none
  | n + 1, v1, μ =>
    if (μ.1 0 5) ≤ v1 then k101  μ else if (μ.1 0 7) = (0 : Int32) then sd_bi (fn_Model_next_r0 v1 μ) (fun x8 m7 => if (m7.1 0 7) = (0 : Int32) then if ((m7.1 0 2) + (m7.1 0 3)) ≤ (60 : Int32) then fn_Model_run_r0_J82 (fn_Model_run_r0_L32 k101 n) (x8) (v1) m7 else sd_bv (fn_Model_fails_r0 (11 : Int32) m7) (fun m11 => fn_Model_run_r0_J82 (fn_Model_run_r0_L32 k101 n) (x8) (v1) m11) else fn_Model_run_r0_J82 (fn_Model_run_r0_L32 k101 n) (x8) (v1) m7) else k101  μ
def fn_Model_run_r0_J150 (s1 : Int32) (μ : sd_Me) : Option (Int32 × sd_Me) :=
  sd_let (sd_st μ 0 2 s1) (fun m14 => if (m14.1 0 7) ≤ (0 : Int32) then some ((1 : Int32), m14) else some (((-1 : Int32) - (m14.1 0 7)), m14))
def fn_Model_run_r0_J129 (μ : sd_Me) : Option (Int32 × sd_Me) :=
  sd_let (sd_st μ 0 5 (0 : Int32)) (fun m13 => if (m13.1 0 7) ≤ (0 : Int32) then fn_Model_run_r0_J150 ((m13.1 0 2)) m13 else fn_Model_run_r0_J150 ((0 : Int32)) m13)
def fn_Model_run_r0_J101 (μ : sd_Me) : Option (Int32 × sd_Me) :=
  if (μ.1 0 7) = (0 : Int32) then if (μ.1 0 11) ≤ (0 : Int32) then fn_Model_run_r0_J129 μ else sd_bv (fn_Model_fails_r0 (12 : Int32) μ) (fun m15 => sd_let (sd_st m15 0 8 (m15.1 0 5)) (fun m16 => fn_Model_run_r0_J129 m16)) else fn_Model_run_r0_J129 μ
def fn_Model_run_r0 (μ : sd_Me) : Option (Int32 × sd_Me) :=
  sd_let (sd_st μ 0 3 (0 : Int32)) (fun m1 => sd_let (sd_st m1 0 11 (0 : Int32)) (fun m2 => sd_let (sd_st m2 0 7 (0 : Int32)) (fun m3 => sd_let (sd_st m3 0 8 (-1 : Int32)) (fun m4 => sd_let (sd_st m4 0 9 (0 : Int32)) (fun m5 => sd_let (sd_st m5 0 10 (0 : Int32)) (fun m6 => fn_Model_run_r0_L32 (fun m12 => fn_Model_run_r0_J101 m12) 10000 ((0 : Int32)) m6))))))
def fn_Model_place_r0 (μ : sd_Me) : Option (Int32 × sd_Me) :=
  some ((μ.1 0 8), μ)
def fn_Model_clear_r0 (μ : sd_Me) : Option (Int32 × sd_Me) :=
  sd_let ((μ.1 0 2)) (fun x1 => sd_let (sd_st μ 0 2 (0 : Int32)) (fun m2 => some (x1, m2)))
def fn_Model_size_r0 (μ : sd_Me) : Option (Int32 × sd_Me) :=
  some ((μ.1 0 2), μ)
def fn_Model_isTrue_r0 (μ : sd_Me) : Option (Int32 × sd_Me) :=
  if (μ.1 0 2) ≤ (0 : Int32) then some ((0 : Int32), μ) else sd_bi (fn_Model_isTrueRow_r0 ((μ.1 0 2) - (1 : Int32)) μ) (fun x2 m1 => if x2 = (0 : Int32) then some ((0 : Int32), m1) else some ((1 : Int32), m1))
def fn_Model_bytes_r0 (a1 : Int32) (μ : sd_Me) : Option (Int32 × sd_Me) :=
  if a1 < (0 : Int32) then some ((-1 : Int32), μ) else if (μ.1 0 2) ≤ a1 then some ((-1 : Int32), μ) else sd_bi (fn_Model_top_r0 a1 μ) (fun x2 m1 => sd_gd (sd_ix x2 140) (some ((m1.1 2 (Int32.toNatClampNeg x2)), m1)))
def fn_Model_byteOf_r0 (a1 : Int32) (a2 : Int32) (μ : sd_Me) : Option (Int32 × sd_Me) :=
  if a1 < (0 : Int32) then some ((-1 : Int32), μ) else if (μ.1 0 2) ≤ a1 then some ((-1 : Int32), μ) else if a2 < (0 : Int32) then some ((-1 : Int32), μ) else sd_bi (fn_Model_top_r0 a1 μ) (fun x2 m1 => sd_gd (sd_ix x2 140) (if (m1.1 2 (Int32.toNatClampNeg x2)) ≤ a2 then some ((-1 : Int32), m1) else sd_bi (fn_Model_top_r0 a1 m1) (fun x4 m3 => sd_gd (sd_ix (((120 : Int32) * x4) + a2) 16800) (some ((m3.1 1 (Int32.toNatClampNeg (((120 : Int32) * x4) + a2))), m3)))))
def fn_Model_count_r0 (a1 : Int32) (μ : sd_Me) : Option (Int32 × sd_Me) :=
  if a1 = (0 : Int32) then some ((μ.1 0 9), μ) else if a1 = (1 : Int32) then some ((μ.1 0 10), μ) else some ((-1 : Int32), μ)
end
section
def fn_Desk_put_r0_L33 (k72 : sd_Me → Option (Int32 × sd_Me)) : Nat → Int64 → Int32 → sd_Me → Option (Int32 × sd_Me)
  | 0, _, _, _ => none
  | n + 1, v1, v4, μ =>
    if v4 < (0 : Int32) then k72  μ else sd_gd (sd_ix (μ.1 0 1) 200) (sd_let (sd_st μ 1 (Int32.toNatClampNeg (μ.1 0 1)) (Int64.toInt32 ((sd_lusr v1 v4) &&& (255 : Int64)))) (fun m2 => sd_let (sd_st m2 0 1 ((m2.1 0 1) + (1 : Int32))) (fun m3 => fn_Desk_put_r0_L33 k72 n (v1) ((v4 + (-8 : Int32))) m3)))
def fn_Desk_put_r0 (a1 : Int64) (a3 : Int32) (μ : sd_Me) : Option (Int32 × sd_Me) :=
  if a3 < (1 : Int32) then some ((0 : Int32), μ) else if (8 : Int32) < a3 then some ((0 : Int32), μ) else if ((μ.1 0 1) + a3) ≤ (200 : Int32) then sd_let (((8 : Int32) * (a3 - (1 : Int32)))) (fun x1 => fn_Desk_put_r0_L33 (fun m4 => some ((1 : Int32), m4)) 10000 (a1) (x1) μ) else some ((0 : Int32), μ)
def fn_Desk_secret_r0 (a1 : Int32) (μ : sd_Me) : Option (sd_Me) :=
  sd_let (sd_st μ 8 0 a1) (fun m1 => some m1)
def fn_Flow_restart_r7 (μ : sd_Me) : Option (sd_Me) :=
  sd_let (sd_st μ 7 0 (0 : Int32)) (fun m1 => sd_let (sd_st m1 7 1 (0 : Int32)) (fun m2 => some m2))
def fn_Desk_restart_r0 (μ : sd_Me) : Option (sd_Me) :=
  sd_let (sd_st μ 0 1 (0 : Int32)) (fun m1 => sd_let (sd_st m1 0 2 (0 : Int32)) (fun m2 => sd_let (sd_st m2 0 3 (-1 : Int32)) (fun m3 => sd_let (sd_st m3 6 0 (0 : Int32)) (fun m4 => sd_let (sd_st m4 8 1 (0 : Int32)) (fun m5 => sd_bv (fn_Flow_restart_r7 m5) (fun m6 => some m6))))))
def fn_Flow_isDone_r7 (μ : sd_Me) : Option (Int32 × sd_Me) :=
  if (μ.1 7 1) = (0 : Int32) then some ((1 : Int32), μ) else some ((0 : Int32), μ)
def fn_Elements_lengthAt_r2 (a1 : Int32) (μ : sd_Me) : Option (Int32 × sd_Me) :=
  if a1 < (0 : Int32) then some ((-1 : Int32), μ) else if a1 < (μ.1 2 4) then sd_gd (sd_ix (((μ.1 2 4) - (1 : Int32)) - a1) 64) (sd_gd (sd_ix (μ.1 5 (Int32.toNatClampNeg (((μ.1 2 4) - (1 : Int32)) - a1))) 64) (some ((μ.1 4 (Int32.toNatClampNeg (μ.1 5 (Int32.toNatClampNeg (((μ.1 2 4) - (1 : Int32)) - a1))))), μ))) else some ((-1 : Int32), μ)
def fn_Elements_octetAt_r2 (a1 : Int32) (a2 : Int32) (μ : sd_Me) : Option (Int32 × sd_Me) :=
  if a1 < (0 : Int32) then some ((-1 : Int32), μ) else if a1 < (μ.1 2 4) then sd_gd (sd_ix (((μ.1 2 4) - (1 : Int32)) - a1) 64) (sd_let ((μ.1 5 (Int32.toNatClampNeg (((μ.1 2 4) - (1 : Int32)) - a1)))) (fun x1 => if a2 < (0 : Int32) then some ((-1 : Int32), μ) else sd_gd (sd_ix x1 64) (if a2 < (μ.1 4 (Int32.toNatClampNeg x1)) then sd_gd (sd_ix ((x1 * (120 : Int32)) + a2) 7680) (some ((μ.1 3 (Int32.toNatClampNeg ((x1 * (120 : Int32)) + a2))), μ)) else some ((-1 : Int32), μ)))) else some ((-1 : Int32), μ)
def fn_Elements_topHolds_r2_L10 (k32 : Int32 → sd_Me → Option (Int32 × sd_Me)) : Nat → Int32 → Int32 → sd_Me → Option (Int32 × sd_Me)
  | 0, _, _, _ => none
  | n + 1, v1, v2, μ =>
    if v1 ≤ v2 then k32 (v1) μ else sd_bi (fn_Elements_octetAt_r2 (0 : Int32) v2 μ) (fun x5 m4 => if x5 = (0 : Int32) then fn_Elements_topHolds_r2_L10 k32 n (v1) ((v2 + (1 : Int32))) m4 else some ((1 : Int32), m4))
def fn_Elements_topHolds_r2 (μ : sd_Me) : Option (Int32 × sd_Me) :=
  sd_bi (fn_Elements_lengthAt_r2 (0 : Int32) μ) (fun x2 m1 => sd_let ((x2 - (1 : Int32))) (fun x3 => fn_Elements_topHolds_r2_L10 (fun x6 m7 => sd_bi (fn_Elements_octetAt_r2 (0 : Int32) x6 m7) (fun x9 m8 => if x9 ≤ (0 : Int32) then some ((0 : Int32), m8) else if x9 = (128 : Int32) then some ((0 : Int32), m8) else some ((1 : Int32), m8))) 10000 (x3) ((0 : Int32)) m1))
def fn_Elements_drop_r2 (a1 : Int32) (μ : sd_Me) : Option (sd_Me) :=
  sd_let (sd_st μ 2 4 (if (0 : Int32) < ((μ.1 2 4) - a1) then ((μ.1 2 4) - a1) else (0 : Int32))) (fun m1 => some m1)
def fn_Flow_enter_r7 (a1 : Int32) (μ : sd_Me) : Option (sd_Me) :=
  sd_let (sd_st μ 7 0 ((μ.1 7 0) + (1 : Int32))) (fun m1 => if a1 = (0 : Int32) then if (m1.1 7 1) = (0 : Int32) then sd_let (sd_st m1 7 1 (m1.1 7 0)) (fun m2 => some m2) else some m1 else some m1)
def fn_Desk_enterPart_r0 (a1 : Int32) (μ : sd_Me) : Option (Int32 × sd_Me) :=
  sd_bi (fn_Flow_isDone_r7 μ) (fun x2 m1 => if x2 = (0 : Int32) then sd_bv (fn_Flow_enter_r7 (0 : Int32) m1) (fun m8 => some ((0 : Int32), m8)) else if (1 : Int32) ≤ (m1.1 2 4) then sd_bi (fn_Elements_topHolds_r2 m1) (fun x4 m3 => sd_bv (fn_Elements_drop_r2 (1 : Int32) m3) (fun m5 => if x4 = a1 then sd_bv (fn_Flow_enter_r7 (1 : Int32) m5) (fun m7 => some ((0 : Int32), m7)) else sd_bv (fn_Flow_enter_r7 (0 : Int32) m5) (fun m6 => some ((0 : Int32), m6)))) else some ((5 : Int32), m1))
def fn_Flow_isInside_r7 (μ : sd_Me) : Option (Int32 × sd_Me) :=
  if (μ.1 7 0) ≤ (0 : Int32) then some ((0 : Int32), μ) else some ((1 : Int32), μ)
def fn_Flow_turn_r7 (μ : sd_Me) : Option (sd_Me) :=
  if (μ.1 7 1) = (0 : Int32) then sd_let (sd_st μ 7 1 (μ.1 7 0)) (fun m2 => some m2) else if (μ.1 7 1) = (μ.1 7 0) then sd_let (sd_st μ 7 1 (0 : Int32)) (fun m1 => some m1) else some μ
def fn_Flow_end_r7 (μ : sd_Me) : Option (sd_Me) :=
  if (μ.1 7 1) = (μ.1 7 0) then sd_let (sd_st μ 7 1 (0 : Int32)) (fun m2 => sd_let (sd_st m2 7 0 ((m2.1 7 0) - (1 : Int32))) (fun m3 => some m3)) else sd_let (sd_st μ 7 0 ((μ.1 7 0) - (1 : Int32))) (fun m1 => some m1)
def fn_Desk_leavePart_r0 (a1 : Int32) (μ : sd_Me) : Option (Int32 × sd_Me) :=
  sd_bi (fn_Flow_isInside_r7 μ) (fun x2 m1 => if x2 = (0 : Int32) then some ((10 : Int32), m1) else if a1 = (0 : Int32) then sd_bv (fn_Flow_turn_r7 m1) (fun m3 => some ((0 : Int32), m3)) else sd_bv (fn_Flow_end_r7 m1) (fun m4 => some ((0 : Int32), m4)))
def fn_Elements_faultOfNumber_r2 (a1 : Int32) (μ : sd_Me) : Option (Int32 × sd_Me) :=
  if a1 < (μ.1 2 4) then sd_bi (fn_Elements_lengthAt_r2 a1 μ) (fun x2 m1 => if x2 ≤ (4 : Int32) then some ((0 : Int32), m1) else some ((6 : Int32), m1)) else some ((5 : Int32), μ)
def fn_Elements_numberAt_r2_L35 (k61 : Int32 → Int32 → Int64 → sd_Me → Option (Int64 × sd_Me)) : Nat → Int32 → Int32 → Int64 → Int32 → sd_Me → Option (Int64 × sd_Me)
  | 0, _, _, _, _, _ => none
  | n + 1, v1, v2, v3, v5, μ =>
    if v5 < (0 : Int32) then k61 (v1) (v2) (v3) μ else sd_bi (fn_Elements_octetAt_r2 v1 v5 μ) (fun x9 m8 => sd_let (((v3 * (256 : Int64)) + (Int32.toInt64 x9))) (fun x10 => fn_Elements_numberAt_r2_L35 k61 n (v1) (v2) (x10) ((v5 + (-1 : Int32))) m8))
def fn_Elements_numberAt_r2 (a1 : Int32) (μ : sd_Me) : Option (Int64 × sd_Me) :=
  sd_bi (fn_Elements_lengthAt_r2 a1 μ) (fun x2 m1 => sd_let ((x2 - (1 : Int32))) (fun x3 => if x3 < (0 : Int32) then some ((0 : Int64), m1) else if x3 < (4 : Int32) then sd_bi (fn_Elements_octetAt_r2 a1 x3 m1) (fun x5 m4 => sd_let ((Int32.toInt64 (x5 &&& (127 : Int32)))) (fun x6 => sd_let ((x3 - (1 : Int32))) (fun x7 => fn_Elements_numberAt_r2_L35 (fun x11 x12 x13 m14 => sd_bi (fn_Elements_octetAt_r2 x11 x12 m14) (fun x16 m15 => if x16 < (128 : Int32) then some (x13, m15) else some ((-x13), m15))) 10000 (a1) (x3) (x6) (x7) m4))) else some ((0 : Int64), m1)))
def fn_Signatures_faultOfAmount_r2 (a1 : Int32) (a2 : Int32) (μ : sd_Me) : Option (Int32 × sd_Me) :=
  sd_bi (fn_Elements_faultOfNumber_r2 a1 μ) (fun x2 m1 => if x2 = (0 : Int32) then sd_bl (fn_Elements_numberAt_r2 a1 m1) (fun x4 m3 => if (lg_cmp x4 (0 : Int64)) < (0 : Int32) then some ((7 : Int32), m3) else if (lg_cmp x4 (Int32.toInt64 a2)) ≤ (0 : Int32) then some ((0 : Int32), m3) else some ((7 : Int32), m3)) else some (x2, m1))
def fn_Tally_passesLimit_r6 (a1 : Int32) (μ : sd_Me) : Option (Int32 × sd_Me) :=
  sd_let (sd_st μ 6 0 ((μ.1 6 0) + a1)) (fun m1 => if (m1.1 6 0) ≤ (100 : Int32) then some ((0 : Int32), m1) else some ((1 : Int32), m1))
def fn_Signatures_fits_r8_r2 (a2 : Int32) (a3 : Int32) (μ : sd_Me) : Option (Int32 × sd_Me) :=
  sd_let (sd_st μ 8 1 ((μ.1 8 1) + (1 : Int32))) (fun m1 => sd_bi (fn_Elements_lengthAt_r2 a2 m1) (fun x3 m2 => sd_bi (fn_Elements_lengthAt_r2 a3 m2) (fun x5 m4 => if x3 < (1 : Int32) then some ((0 : Int32), m4) else if (1 : Int32) ≤ x5 then sd_bi (fn_Elements_octetAt_r2 a2 (0 : Int32) m4) (fun x7 m6 => sd_let ((Int32.toInt64 x7)) (fun x8 => sd_bi (fn_Elements_octetAt_r2 a2 (x3 - (1 : Int32)) m6) (fun x10 m9 => sd_let ((Int32.toInt64 x10)) (fun x11 => sd_bi (fn_Elements_octetAt_r2 a3 (x5 - (1 : Int32)) m9) (fun x13 m12 => sd_let ((Int32.toInt64 x13)) (fun x14 => if (lg_cmp ((((Int32.toInt64 (m12.1 8 0)) + (x8 * x14)) + x11) - (((Int32.toInt64 (m12.1 8 0)) + (x8 * x14)) + x11) / (3 : Int64) * (3 : Int64)) (0 : Int64)) = (0 : Int32) then some ((1 : Int32), m12) else some ((0 : Int32), m12))))))) else some ((0 : Int32), m4))))
def fn_Signatures_allFit_r8_r2_L6 (k56 : Int32 → Int32 → sd_Me → Option (Int32 × sd_Me)) : Nat → Int32 → Int32 → Int32 → Int32 → sd_Me → Option (Int32 × sd_Me)
  | 0, _, _, _, _, _ => none
  | n + 1, v2, v3, v4, v5, μ =>
    if v2 ≤ v5 then k56 (v3) (v4) μ else if v3 ≤ v4 then k56 (v3) (v4) μ else if (v2 - v5) < (v3 - v4) then k56 (v3) (v4) μ else sd_bi (fn_Signatures_fits_r8_r2 ((v2 + (2 : Int32)) + v4) ((1 : Int32) + v5) μ) (fun x2 m1 => if x2 = (0 : Int32) then fn_Signatures_allFit_r8_r2_L6 k56 n (v2) (v3) (v4) ((v5 + (1 : Int32))) m1 else fn_Signatures_allFit_r8_r2_L6 k56 n (v2) (v3) ((v4 + (1 : Int32))) ((v5 + (1 : Int32))) m1)
def fn_Signatures_allFit_r8_r2 (a2 : Int32) (a3 : Int32) (μ : sd_Me) : Option (Int32 × sd_Me) :=
  fn_Signatures_allFit_r8_r2_L6 (fun x3 x4 m5 => if x4 = x3 then some ((1 : Int32), m5) else some ((0 : Int32), m5)) 10000 (a2) (a3) ((0 : Int32)) ((0 : Int32)) μ
def fn_Elements_pushNumber_r2_L48 (k92 : Int64 → Int32 → Int32 → Int32 → sd_Me → Option (sd_Me)) : Nat → Int64 → Int32 → Int32 → Int64 → Int32 → sd_Me → Option (sd_Me)
  | 0, _, _, _, _, _, _ => none
  | n + 1, v1, v3, v4, v5, v7, μ =>
    if (8 : Int32) ≤ v7 then k92 (v1) (v3) (v4) (v7) μ else if (lg_cmp v5 (0 : Int64)) ≤ (0 : Int32) then k92 (v1) (v3) (v4) (v7) μ else sd_gd (sd_ix (v4 + v7) 7680) (sd_let (sd_st μ 3 (Int32.toNatClampNeg (v4 + v7)) (Int64.toInt32 (v5 &&& (255 : Int64)))) (fun m3 => sd_let ((sd_lsr v5 (8 : Int32))) (fun x4 => fn_Elements_pushNumber_r2_L48 k92 n (v1) (v3) (v4) (x4) ((v7 + (1 : Int32))) m3)))
def fn_Elements_pushNumber_r2_J158 (v3 : Int32) (v7 : Int32) (μ : sd_Me) : Option (sd_Me) :=
  sd_gd (sd_ix v3 64) (sd_let (sd_st μ 4 (Int32.toNatClampNeg v3) v7) (fun m10 => sd_let (sd_st m10 2 4 ((m10.1 2 4) + (1 : Int32))) (fun m11 => some m11)))
def fn_Elements_pushNumber_r2_J129 (v1 : Int64) (v3 : Int32) (v4 : Int32) (v7 : Int32) (μ : sd_Me) : Option (sd_Me) :=
  if (0 : Int32) ≤ (lg_cmp v1 (0 : Int64)) then fn_Elements_pushNumber_r2_J158 (v3) (v7) μ else if v7 ≤ (0 : Int32) then fn_Elements_pushNumber_r2_J158 (v3) (v7) μ else sd_gd (sd_ix ((v4 + v7) - (1 : Int32)) 7680) (sd_gd (sd_ix ((v4 + v7) - (1 : Int32)) 7680) (sd_let (sd_st μ 3 (Int32.toNatClampNeg ((v4 + v7) - (1 : Int32))) ((μ.1 3 (Int32.toNatClampNeg ((v4 + v7) - (1 : Int32)))) ||| (128 : Int32))) (fun m12 => fn_Elements_pushNumber_r2_J158 (v3) (v7) m12)))
def fn_Elements_pushNumber_r2_J92 (v1 : Int64) (v3 : Int32) (v4 : Int32) (v7 : Int32) (μ : sd_Me) : Option (sd_Me) :=
  if v7 ≤ (0 : Int32) then fn_Elements_pushNumber_r2_J129 (v1) (v3) (v4) (v7) μ else sd_gd (sd_ix ((v4 + v7) - (1 : Int32)) 7680) (if (μ.1 3 (Int32.toNatClampNeg ((v4 + v7) - (1 : Int32)))) < (128 : Int32) then fn_Elements_pushNumber_r2_J129 (v1) (v3) (v4) (v7) μ else sd_gd (sd_ix (v4 + v7) 7680) (sd_let (sd_st μ 3 (Int32.toNatClampNeg (v4 + v7)) (0 : Int32)) (fun m13 => fn_Elements_pushNumber_r2_J129 (v1) (v3) (v4) ((v7 + (1 : Int32))) m13)))
def fn_Elements_pushNumber_r2_J43 (v1 : Int64) (v3 : Int32) (v4 : Int32) (s0 : Int64) (μ : sd_Me) : Option (sd_Me) :=
  fn_Elements_pushNumber_r2_L48 (fun x5 x6 x7 x8 m9 => fn_Elements_pushNumber_r2_J92 (x5) (x6) (x7) (x8) m9) 10000 (v1) (v3) (v4) (s0) ((0 : Int32)) μ
def fn_Elements_pushNumber_r2 (a1 : Int64) (μ : sd_Me) : Option (sd_Me) :=
  if ((μ.1 2 4) + (μ.1 2 3)) < (64 : Int32) then sd_gd (sd_ix (μ.1 2 4) 64) (sd_let ((μ.1 5 (Int32.toNatClampNeg (μ.1 2 4)))) (fun x1 => sd_let ((x1 * (120 : Int32))) (fun x2 => if (0 : Int32) ≤ (lg_cmp a1 (0 : Int64)) then fn_Elements_pushNumber_r2_J43 (a1) (x1) (x2) (a1) μ else fn_Elements_pushNumber_r2_J43 (a1) (x1) (x2) ((-a1)) μ))) else some μ
def fn_Elements_replaceByTruth_r2 (a1 : Int32) (a2 : Int32) (μ : sd_Me) : Option (sd_Me) :=
  sd_bv (fn_Elements_drop_r2 a1 μ) (fun m1 => if a2 = (0 : Int32) then sd_bv (fn_Elements_pushNumber_r2 (0 : Int64) m1) (fun m2 => some m2) else sd_bv (fn_Elements_pushNumber_r2 (1 : Int64) m1) (fun m3 => some m3))
def fn_Signatures_askMany_r8_r2_r6 (μ : sd_Me) : Option (Int32 × sd_Me) :=
  sd_bi (fn_Signatures_faultOfAmount_r2 (0 : Int32) (8 : Int32) μ) (fun x2 m1 => if x2 = (0 : Int32) then sd_bl (fn_Elements_numberAt_r2 (0 : Int32) m1) (fun x4 m3 => sd_let ((Int64.toInt32 x4)) (fun x5 => sd_bi (fn_Tally_passesLimit_r6 x5 m3) (fun x7 m6 => if x7 = (0 : Int32) then sd_bi (fn_Signatures_faultOfAmount_r2 (x5 + (1 : Int32)) x5 m6) (fun x9 m8 => if x9 = (0 : Int32) then sd_bl (fn_Elements_numberAt_r2 (x5 + (1 : Int32)) m8) (fun x11 m10 => sd_let ((Int64.toInt32 x11)) (fun x12 => sd_let (((x5 + x12) + (3 : Int32))) (fun x13 => if x13 ≤ (m10.1 2 4) then sd_bi (fn_Signatures_allFit_r8_r2 x5 x12 m10) (fun x15 m14 => sd_bv (fn_Elements_replaceByTruth_r2 x13 x15 m14) (fun m16 => some ((0 : Int32), m16))) else some ((5 : Int32), m10)))) else some (x9, m8)) else some ((3 : Int32), m6)))) else some (x2, m1))
def fn_Elements_takeTrue_r2 (μ : sd_Me) : Option (Int32 × sd_Me) :=
  if (1 : Int32) ≤ (μ.1 2 4) then sd_bi (fn_Elements_topHolds_r2 μ) (fun x2 m1 => if x2 = (0 : Int32) then some ((8 : Int32), m1) else sd_bv (fn_Elements_drop_r2 (1 : Int32) m1) (fun m3 => some ((0 : Int32), m3))) else some ((5 : Int32), μ)
def fn_Signatures_askOne_r8_r2 (μ : sd_Me) : Option (Int32 × sd_Me) :=
  if (2 : Int32) ≤ (μ.1 2 4) then sd_bi (fn_Signatures_fits_r8_r2 (1 : Int32) (0 : Int32) μ) (fun x2 m1 => sd_bv (fn_Elements_replaceByTruth_r2 (2 : Int32) x2 m1) (fun m3 => some ((0 : Int32), m3))) else some ((5 : Int32), μ)
def fn_Signatures_perform_r8_r2_r6_J58 (v4 : Int32) (s0 : Int32) (μ : sd_Me) : Option (Int32 × sd_Me) :=
  if v4 = (0 : Int32) then if s0 = (0 : Int32) then some (v4, μ) else sd_bi (fn_Elements_takeTrue_r2 μ) (fun x4 m3 => some (x4, m3)) else some (v4, μ)
def fn_Signatures_perform_r8_r2_r6_J53 (v4 : Int32) (μ : sd_Me) : Option (Int32 × sd_Me) :=
  fn_Signatures_perform_r8_r2_r6_J58 (v4) ((1 : Int32)) μ
def fn_Signatures_perform_r8_r2_r6_J37 (v3 : Int32) (s0 : Int32) (μ : sd_Me) : Option (Int32 × sd_Me) :=
  if v3 = (173 : Int32) then fn_Signatures_perform_r8_r2_r6_J53 (s0) μ else if v3 = (175 : Int32) then fn_Signatures_perform_r8_r2_r6_J53 (s0) μ else fn_Signatures_perform_r8_r2_r6_J58 (s0) ((0 : Int32)) μ
def fn_Signatures_perform_r8_r2_r6 (a3 : Int32) (μ : sd_Me) : Option (Int32 × sd_Me) :=
  if a3 < (172 : Int32) then some ((4 : Int32), μ) else if a3 ≤ (175 : Int32) then if (173 : Int32) < a3 then sd_bi (fn_Signatures_askMany_r8_r2_r6 μ) (fun x2 m1 => fn_Signatures_perform_r8_r2_r6_J37 (a3) (x2) m1) else sd_bi (fn_Signatures_askOne_r8_r2 μ) (fun x6 m5 => fn_Signatures_perform_r8_r2_r6_J37 (a3) (x6) m5) else some ((4 : Int32), μ)
def fn_Arrays_fill_r15_L5 (k20 : sd_Me → Option (sd_Me)) : Nat → Int32 → Int32 → Int32 → sd_Me → Option (sd_Me)
  | 0, _, _, _, _ => none
  | n + 1, v1, v2, v3, μ =>
    if v3 ≤ v2 then k20  μ else sd_gd (sd_ix v2 192) (sd_let (sd_st μ 15 (Int32.toNatClampNeg v2) v1) (fun m1 => fn_Arrays_fill_r15_L5 k20 n (v1) ((v2 + (1 : Int32))) (v3) m1))
def fn_Arrays_fill_r15 (a1 : Int32) (μ : sd_Me) : Option (sd_Me) :=
  fn_Arrays_fill_r15_L5 (fun m2 => some m2) 10000 (a1) ((0 : Int32)) ((192 : Int32)) μ
def fn_BlockDigest_shiftOf_r14 (a1 : Int32) (μ : sd_Me) : Option (Int32 × sd_Me) :=
  if (μ.1 14 2) = (0 : Int32) then some (((8 : Int32) * a1), μ) else some (((24 : Int32) - ((8 : Int32) * a1)), μ)
def fn_BlockDigest_write_r14_r15_L16 (k46 : sd_Me → Option (sd_Me)) : Nat → Int32 → Int32 → Int32 → sd_Me → Option (sd_Me)
  | 0, _, _, _, _ => none
  | n + 1, v1, v3, v4, μ =>
    if (4 : Int32) ≤ v4 then k46  μ else sd_bi (fn_BlockDigest_shiftOf_r14 v4 μ) (fun x2 m1 => sd_gd (sd_ix (v3 + v4) 192) (sd_let (sd_st m1 15 (Int32.toNatClampNeg (v3 + v4)) ((sd_usr v1 x2) &&& (255 : Int32))) (fun m3 => fn_BlockDigest_write_r14_r15_L16 k46 n (v1) (v3) ((v4 + (1 : Int32))) m3)))
def fn_BlockDigest_write_r14_r15 (a1 : Int32) (a3 : Int32) (μ : sd_Me) : Option (sd_Me) :=
  if a3 < (0 : Int32) then some μ else if a3 ≤ ((192 : Int32) - (4 : Int32)) then fn_BlockDigest_write_r14_r15_L16 (fun m4 => some m4) 10000 (a1) (a3) ((0 : Int32)) μ else some μ
def fn_BlockDigest_pad_r14_r2_L27 (k53 : Int32 → Int32 → sd_Me → Option (Int32 × sd_Me)) : Nat → Int32 → Int32 → Int32 → sd_Me → Option (Int32 × sd_Me)
  | 0, _, _, _, _ => none
  | n + 1, v2, v3, v4, μ =>
    if v2 ≤ v4 then k53 (v2) (v3) μ else sd_bi (fn_Elements_octetAt_r2 (0 : Int32) v4 μ) (fun x4 m3 => sd_gd (sd_ix v4 192) (sd_let (sd_st m3 15 (Int32.toNatClampNeg v4) x4) (fun m5 => fn_BlockDigest_pad_r14_r2_L27 k53 n (v2) (v3) ((v4 + (1 : Int32))) m5)))
def fn_BlockDigest_pad_r14_r2 (a2 : Int32) (μ : sd_Me) : Option (Int32 × sd_Me) :=
  sd_let ((((((a2 + (9 : Int32)) + (64 : Int32)) - (1 : Int32)) / (64 : Int32)) * (64 : Int32))) (fun x1 => sd_bv (fn_Arrays_fill_r15 (0 : Int32) μ) (fun m2 => fn_BlockDigest_pad_r14_r2_L27 (fun x6 x7 m8 => sd_gd (sd_ix x6 192) (sd_let (sd_st m8 15 (Int32.toNatClampNeg x6) (128 : Int32)) (fun m9 => if (m9.1 14 2) = (0 : Int32) then sd_bv (fn_BlockDigest_write_r14_r15 ((8 : Int32) * x6) (x7 - (8 : Int32)) m9) (fun m10 => some (x7, m10)) else sd_bv (fn_BlockDigest_write_r14_r15 ((8 : Int32) * x6) (x7 - (4 : Int32)) m9) (fun m11 => some (x7, m11))))) 10000 (a2) (x1) ((0 : Int32)) m2))
def fn_Ripemd160_begin_r14 (μ : sd_Me) : Option (sd_Me) :=
  sd_gd (sd_cpOk (0 : Int32) (0 : Int32) (5 : Int32) 5 5) (sd_let (sd_mrow μ 18 (va_cpy tabX0 (μ.1 18) (Int32.toNatClampNeg (0 : Int32)) (Int32.toNatClampNeg (0 : Int32)) (Int32.toNatClampNeg (5 : Int32)))) (fun m1 => some m1))
def fn_BlockDigest_readBlock_r14_L35 (k70 : Int32 → Int32 → Int32 → sd_Me → Option (sd_Me)) : Nat → Int32 → Int32 → Int32 → Int32 → sd_Me → Option (sd_Me)
  | 0, _, _, _, _, _ => none
  | n + 1, v1, v2, v3, v4, μ =>
    if (4 : Int32) ≤ v4 then k70 (v1) (v2) (v3) μ else sd_gd (sd_ix ((v1 + ((4 : Int32) * v2)) + v4) 192) (sd_bi (fn_BlockDigest_shiftOf_r14 v4 μ) (fun x2 m1 => sd_let ((v3 ||| ((μ.1 15 (Int32.toNatClampNeg ((v1 + ((4 : Int32) * v2)) + v4))) <<< (x2 &&& 31)))) (fun x3 => fn_BlockDigest_readBlock_r14_L35 k70 n (v1) (v2) (x3) ((v4 + (1 : Int32))) m1)))
def fn_BlockDigest_readBlock_r14_L24 (k83 : sd_Me → Option (sd_Me)) : Nat → Int32 → Int32 → sd_Me → Option (sd_Me)
  | 0, _, _, _ => none
  | n + 1, v1, v2, μ =>
    if (16 : Int32) ≤ v2 then k83  μ else fn_BlockDigest_readBlock_r14_L35 (fun x4 x5 x6 m7 => sd_gd (sd_ix x5 16) (sd_let (sd_st m7 17 (Int32.toNatClampNeg x5) x6) (fun m8 => fn_BlockDigest_readBlock_r14_L24 k83 n (x4) ((x5 + (1 : Int32))) m8))) 10000 (v1) (v2) ((0 : Int32)) ((0 : Int32)) μ
def fn_BlockDigest_readBlock_r14 (a1 : Int32) (μ : sd_Me) : Option (sd_Me) :=
  if a1 < (0 : Int32) then some μ else if (128 : Int32) < a1 then some μ else if (16 : Int32) ≤ (16 : Int32) then fn_BlockDigest_readBlock_r14_L24 (fun m9 => some m9) 10000 (a1) ((0 : Int32)) μ else some μ
def fn_Ripemd160_blend (a0 : Int32) (a1 : Int32) (a2 : Int32) (a3 : Int32) (μ : sd_Me) : Option (Int32 × sd_Me) :=
  if a0 = (0 : Int32) then some (((a1 ^^^ a2) ^^^ a3), μ) else if a0 = (1 : Int32) then some (((a1 &&& a2) ||| ((a1 ^^^ (-1 : Int32)) &&& a3)), μ) else if a0 = (2 : Int32) then some (((a1 ||| (a2 ^^^ (-1 : Int32))) ^^^ a3), μ) else if a0 = (3 : Int32) then some (((a1 &&& a3) ||| (a2 &&& (a3 ^^^ (-1 : Int32)))), μ) else some ((a1 ^^^ (a2 ||| (a3 ^^^ (-1 : Int32)))), μ)
def fn_Ripemd160_turned (a0 : Int32) (a1 : Int32) (μ : sd_Me) : Option (Int32 × sd_Me) :=
  some (((a0 <<< (a1 &&& 31)) ||| (sd_usr a0 ((32 : Int32) - a1))), μ)
def fn_Ripemd160_step_r19 (a1 : Int32) (a2 : Int32) (a3 : Int32) (μ : sd_Me) : Option (sd_Me) :=
  sd_gd (sd_ix (0 : Int32) 5) (sd_gd (sd_ix (1 : Int32) 5) (sd_gd (sd_ix (2 : Int32) 5) (sd_gd (sd_ix (3 : Int32) 5) (sd_bi (fn_Ripemd160_blend a1 (μ.1 19 (Int32.toNatClampNeg (1 : Int32))) (μ.1 19 (Int32.toNatClampNeg (2 : Int32))) (μ.1 19 (Int32.toNatClampNeg (3 : Int32))) μ) (fun x2 m1 => sd_let ((((μ.1 19 (Int32.toNatClampNeg (0 : Int32))) + x2) + a2)) (fun x3 => sd_bi (fn_Ripemd160_turned x3 a3 m1) (fun x5 m4 => sd_gd (sd_ix (4 : Int32) 5) (sd_let ((x5 + (m4.1 19 (Int32.toNatClampNeg (4 : Int32))))) (fun x6 => sd_gd (sd_ix (4 : Int32) 5) (sd_gd (sd_ix (0 : Int32) 5) (sd_let (sd_st m4 19 (Int32.toNatClampNeg (0 : Int32)) (m4.1 19 (Int32.toNatClampNeg (4 : Int32)))) (fun m7 => sd_gd (sd_ix (3 : Int32) 5) (sd_gd (sd_ix (4 : Int32) 5) (sd_let (sd_st m7 19 (Int32.toNatClampNeg (4 : Int32)) (m7.1 19 (Int32.toNatClampNeg (3 : Int32)))) (fun m8 => sd_gd (sd_ix (2 : Int32) 5) (sd_bi (fn_Ripemd160_turned (m8.1 19 (Int32.toNatClampNeg (2 : Int32))) (10 : Int32) m8) (fun x10 m9 => sd_gd (sd_ix (3 : Int32) 5) (sd_let (sd_st m9 19 (Int32.toNatClampNeg (3 : Int32)) x10) (fun m11 => sd_gd (sd_ix (1 : Int32) 5) (sd_gd (sd_ix (2 : Int32) 5) (sd_let (sd_st m11 19 (Int32.toNatClampNeg (2 : Int32)) (m11.1 19 (Int32.toNatClampNeg (1 : Int32)))) (fun m12 => sd_gd (sd_ix (1 : Int32) 5) (sd_let (sd_st m12 19 (Int32.toNatClampNeg (1 : Int32)) x6) (fun m13 => some m13))))))))))))))))))))))))
def fn_Ripemd160_step_r20 (a1 : Int32) (a2 : Int32) (a3 : Int32) (μ : sd_Me) : Option (sd_Me) :=
  sd_gd (sd_ix (0 : Int32) 5) (sd_gd (sd_ix (1 : Int32) 5) (sd_gd (sd_ix (2 : Int32) 5) (sd_gd (sd_ix (3 : Int32) 5) (sd_bi (fn_Ripemd160_blend a1 (μ.1 20 (Int32.toNatClampNeg (1 : Int32))) (μ.1 20 (Int32.toNatClampNeg (2 : Int32))) (μ.1 20 (Int32.toNatClampNeg (3 : Int32))) μ) (fun x2 m1 => sd_let ((((μ.1 20 (Int32.toNatClampNeg (0 : Int32))) + x2) + a2)) (fun x3 => sd_bi (fn_Ripemd160_turned x3 a3 m1) (fun x5 m4 => sd_gd (sd_ix (4 : Int32) 5) (sd_let ((x5 + (m4.1 20 (Int32.toNatClampNeg (4 : Int32))))) (fun x6 => sd_gd (sd_ix (4 : Int32) 5) (sd_gd (sd_ix (0 : Int32) 5) (sd_let (sd_st m4 20 (Int32.toNatClampNeg (0 : Int32)) (m4.1 20 (Int32.toNatClampNeg (4 : Int32)))) (fun m7 => sd_gd (sd_ix (3 : Int32) 5) (sd_gd (sd_ix (4 : Int32) 5) (sd_let (sd_st m7 20 (Int32.toNatClampNeg (4 : Int32)) (m7.1 20 (Int32.toNatClampNeg (3 : Int32)))) (fun m8 => sd_gd (sd_ix (2 : Int32) 5) (sd_bi (fn_Ripemd160_turned (m8.1 20 (Int32.toNatClampNeg (2 : Int32))) (10 : Int32) m8) (fun x10 m9 => sd_gd (sd_ix (3 : Int32) 5) (sd_let (sd_st m9 20 (Int32.toNatClampNeg (3 : Int32)) x10) (fun m11 => sd_gd (sd_ix (1 : Int32) 5) (sd_gd (sd_ix (2 : Int32) 5) (sd_let (sd_st m11 20 (Int32.toNatClampNeg (2 : Int32)) (m11.1 20 (Int32.toNatClampNeg (1 : Int32)))) (fun m12 => sd_gd (sd_ix (1 : Int32) 5) (sd_let (sd_st m12 20 (Int32.toNatClampNeg (1 : Int32)) x6) (fun m13 => some m13))))))))))))))))))))))))
def fn_Ripemd160_mix_r14_L30 (k107 : sd_Me → Option (sd_Me)) : Nat → Int32 → sd_Me → Option (sd_Me)
  | 0, _, _ => none
  | n + 1, v1, μ =>
    if (80 : Int32) ≤ v1 then k107  μ else sd_let ((v1 / (16 : Int32))) (fun x3 => sd_gd (sd_ix v1 80) (sd_gd (sd_ix (tabX2 (Int32.toNatClampNeg v1)) 16) (sd_gd (sd_ix x3 5) (sd_gd (sd_ix v1 80) (sd_bv (fn_Ripemd160_step_r19 x3 ((μ.1 17 (Int32.toNatClampNeg (tabX2 (Int32.toNatClampNeg v1)))) + (tabX3 (Int32.toNatClampNeg x3))) (tabX4 (Int32.toNatClampNeg v1)) μ) (fun m4 => sd_gd (sd_ix v1 80) (sd_gd (sd_ix (tabX5 (Int32.toNatClampNeg v1)) 16) (sd_gd (sd_ix x3 5) (sd_gd (sd_ix v1 80) (sd_bv (fn_Ripemd160_step_r20 ((4 : Int32) - x3) ((m4.1 17 (Int32.toNatClampNeg (tabX5 (Int32.toNatClampNeg v1)))) + (tabX6 (Int32.toNatClampNeg x3))) (tabX7 (Int32.toNatClampNeg v1)) m4) (fun m5 => fn_Ripemd160_mix_r14_L30 k107 n ((v1 + (1 : Int32))) m5)))))))))))
def fn_Ripemd160_mix_r14 (μ : sd_Me) : Option (sd_Me) :=
  sd_gd (sd_cpOk (0 : Int32) (0 : Int32) (5 : Int32) 5 5) (sd_let (sd_mrow μ 19 (va_cpy (μ.1 18) (μ.1 19) (Int32.toNatClampNeg (0 : Int32)) (Int32.toNatClampNeg (0 : Int32)) (Int32.toNatClampNeg (5 : Int32)))) (fun m1 => sd_gd (sd_cpOk (0 : Int32) (0 : Int32) (5 : Int32) 5 5) (sd_let (sd_mrow m1 20 (va_cpy (m1.1 18) (m1.1 20) (Int32.toNatClampNeg (0 : Int32)) (Int32.toNatClampNeg (0 : Int32)) (Int32.toNatClampNeg (5 : Int32)))) (fun m2 => fn_Ripemd160_mix_r14_L30 (fun m6 => sd_gd (sd_ix (1 : Int32) 5) (sd_gd (sd_ix (2 : Int32) 5) (sd_gd (sd_ix (3 : Int32) 5) (sd_let ((((m6.1 18 (Int32.toNatClampNeg (1 : Int32))) + (m6.1 19 (Int32.toNatClampNeg (2 : Int32)))) + (m6.1 20 (Int32.toNatClampNeg (3 : Int32))))) (fun x7 => sd_gd (sd_ix (2 : Int32) 5) (sd_gd (sd_ix (3 : Int32) 5) (sd_gd (sd_ix (4 : Int32) 5) (sd_gd (sd_ix (1 : Int32) 5) (sd_let (sd_st m6 18 (Int32.toNatClampNeg (1 : Int32)) (((m6.1 18 (Int32.toNatClampNeg (2 : Int32))) + (m6.1 19 (Int32.toNatClampNeg (3 : Int32)))) + (m6.1 20 (Int32.toNatClampNeg (4 : Int32))))) (fun m8 => sd_gd (sd_ix (3 : Int32) 5) (sd_gd (sd_ix (4 : Int32) 5) (sd_gd (sd_ix (0 : Int32) 5) (sd_gd (sd_ix (2 : Int32) 5) (sd_let (sd_st m8 18 (Int32.toNatClampNeg (2 : Int32)) (((m8.1 18 (Int32.toNatClampNeg (3 : Int32))) + (m8.1 19 (Int32.toNatClampNeg (4 : Int32)))) + (m8.1 20 (Int32.toNatClampNeg (0 : Int32))))) (fun m9 => sd_gd (sd_ix (4 : Int32) 5) (sd_gd (sd_ix (0 : Int32) 5) (sd_gd (sd_ix (1 : Int32) 5) (sd_gd (sd_ix (3 : Int32) 5) (sd_let (sd_st m9 18 (Int32.toNatClampNeg (3 : Int32)) (((m9.1 18 (Int32.toNatClampNeg (4 : Int32))) + (m9.1 19 (Int32.toNatClampNeg (0 : Int32)))) + (m9.1 20 (Int32.toNatClampNeg (1 : Int32))))) (fun m10 => sd_gd (sd_ix (0 : Int32) 5) (sd_gd (sd_ix (1 : Int32) 5) (sd_gd (sd_ix (2 : Int32) 5) (sd_gd (sd_ix (4 : Int32) 5) (sd_let (sd_st m10 18 (Int32.toNatClampNeg (4 : Int32)) (((m10.1 18 (Int32.toNatClampNeg (0 : Int32))) + (m10.1 19 (Int32.toNatClampNeg (1 : Int32)))) + (m10.1 20 (Int32.toNatClampNeg (2 : Int32))))) (fun m11 => sd_gd (sd_ix (0 : Int32) 5) (sd_let (sd_st m11 18 (Int32.toNatClampNeg (0 : Int32)) x7) (fun m12 => some m12))))))))))))))))))))))))))) 10000 ((0 : Int32)) m2))))
def fn_BlockDigest_write_r14_r16_L16 (k46 : sd_Me → Option (sd_Me)) : Nat → Int32 → Int32 → Int32 → sd_Me → Option (sd_Me)
  | 0, _, _, _, _ => none
  | n + 1, v1, v3, v4, μ =>
    if (4 : Int32) ≤ v4 then k46  μ else sd_bi (fn_BlockDigest_shiftOf_r14 v4 μ) (fun x2 m1 => sd_gd (sd_ix (v3 + v4) 20) (sd_let (sd_st m1 16 (Int32.toNatClampNeg (v3 + v4)) ((sd_usr v1 x2) &&& (255 : Int32))) (fun m3 => fn_BlockDigest_write_r14_r16_L16 k46 n (v1) (v3) ((v4 + (1 : Int32))) m3)))
def fn_BlockDigest_write_r14_r16 (a1 : Int32) (a3 : Int32) (μ : sd_Me) : Option (sd_Me) :=
  if a3 < (0 : Int32) then some μ else if a3 ≤ ((20 : Int32) - (4 : Int32)) then fn_BlockDigest_write_r14_r16_L16 (fun m4 => some m4) 10000 (a1) (a3) ((0 : Int32)) μ else some μ
def fn_Elements_push_r2_r16 (a2 : Int32) (a3 : Int32) (μ : sd_Me) : Option (sd_Me) :=
  if a2 < (0 : Int32) then some μ else if a3 < (0 : Int32) then some μ else if (120 : Int32) < a3 then some μ else if ((20 : Int32) - a2) < a3 then some μ else if ((μ.1 2 4) + (μ.1 2 3)) < (64 : Int32) then sd_gd (sd_ix (μ.1 2 4) 64) (sd_let ((μ.1 5 (Int32.toNatClampNeg (μ.1 2 4)))) (fun x1 => sd_gd (sd_cpOk a2 (x1 * (120 : Int32)) a3 20 7680) (sd_let (sd_mrow μ 3 (va_cpy (μ.1 16) (μ.1 3) (Int32.toNatClampNeg a2) (Int32.toNatClampNeg (x1 * (120 : Int32))) (Int32.toNatClampNeg a3))) (fun m2 => sd_gd (sd_ix x1 64) (sd_let (sd_st m2 4 (Int32.toNatClampNeg x1) a3) (fun m3 => sd_let (sd_st m3 2 4 ((m3.1 2 4) + (1 : Int32))) (fun m4 => some m4))))))) else some μ
def fn_BlockDigest_replaceTop_r14_r2_L31 (k53 : sd_Me → Option (sd_Me)) : Nat → Int32 → Int32 → sd_Me → Option (sd_Me)
  | 0, _, _, _ => none
  | n + 1, v3, v4, μ =>
    if v3 ≤ v4 then k53  μ else sd_bv (fn_BlockDigest_readBlock_r14 v4 μ) (fun m6 => sd_bv (fn_Ripemd160_mix_r14 m6) (fun m7 => fn_BlockDigest_replaceTop_r14_r2_L31 k53 n (v3) ((v4 + (64 : Int32))) m7))
def fn_BlockDigest_replaceTop_r14_r2_L56 (k91 : sd_Me → Option (sd_Me)) : Nat → Int32 → sd_Me → Option (sd_Me)
  | 0, _, _ => none
  | n + 1, v4, μ =>
    if (5 : Int32) ≤ v4 then k91  μ else sd_gd (sd_ix v4 5) (sd_bv (fn_BlockDigest_write_r14_r16 (μ.1 18 (Int32.toNatClampNeg v4)) ((4 : Int32) * v4) μ) (fun m9 => fn_BlockDigest_replaceTop_r14_r2_L56 k91 n ((v4 + (1 : Int32))) m9))
def fn_BlockDigest_replaceTop_r14_r2 (μ : sd_Me) : Option (sd_Me) :=
  sd_bi (fn_Elements_lengthAt_r2 (0 : Int32) μ) (fun x2 m1 => if x2 < (0 : Int32) then some m1 else if x2 ≤ (120 : Int32) then sd_bi (fn_BlockDigest_pad_r14_r2 x2 m1) (fun x4 m3 => sd_bv (fn_Ripemd160_begin_r14 m3) (fun m5 => fn_BlockDigest_replaceTop_r14_r2_L31 (fun m8 => fn_BlockDigest_replaceTop_r14_r2_L56 (fun m10 => sd_bv (fn_Elements_drop_r2 (1 : Int32) m10) (fun m11 => sd_bv (fn_Elements_push_r2_r16 (0 : Int32) (20 : Int32) m11) (fun m12 => some m12))) 10000 ((0 : Int32)) m8) 10000 (x4) ((0 : Int32)) m5)) else some m1)
def fn_Arrays_fill_r10_L5 (k20 : sd_Me → Option (sd_Me)) : Nat → Int32 → Int32 → Int32 → sd_Me → Option (sd_Me)
  | 0, _, _, _, _ => none
  | n + 1, v1, v2, v3, μ =>
    if v3 ≤ v2 then k20  μ else sd_gd (sd_ix v2 192) (sd_let (sd_st μ 10 (Int32.toNatClampNeg v2) v1) (fun m1 => fn_Arrays_fill_r10_L5 k20 n (v1) ((v2 + (1 : Int32))) (v3) m1))
def fn_Arrays_fill_r10 (a1 : Int32) (μ : sd_Me) : Option (sd_Me) :=
  fn_Arrays_fill_r10_L5 (fun m2 => some m2) 10000 (a1) ((0 : Int32)) ((192 : Int32)) μ
def fn_BlockDigest_shiftOf_r9 (a1 : Int32) (μ : sd_Me) : Option (Int32 × sd_Me) :=
  if (μ.1 9 2) = (0 : Int32) then some (((8 : Int32) * a1), μ) else some (((24 : Int32) - ((8 : Int32) * a1)), μ)
def fn_BlockDigest_write_r9_r10_L16 (k46 : sd_Me → Option (sd_Me)) : Nat → Int32 → Int32 → Int32 → sd_Me → Option (sd_Me)
  | 0, _, _, _, _ => none
  | n + 1, v1, v3, v4, μ =>
    if (4 : Int32) ≤ v4 then k46  μ else sd_bi (fn_BlockDigest_shiftOf_r9 v4 μ) (fun x2 m1 => sd_gd (sd_ix (v3 + v4) 192) (sd_let (sd_st m1 10 (Int32.toNatClampNeg (v3 + v4)) ((sd_usr v1 x2) &&& (255 : Int32))) (fun m3 => fn_BlockDigest_write_r9_r10_L16 k46 n (v1) (v3) ((v4 + (1 : Int32))) m3)))
def fn_BlockDigest_write_r9_r10 (a1 : Int32) (a3 : Int32) (μ : sd_Me) : Option (sd_Me) :=
  if a3 < (0 : Int32) then some μ else if a3 ≤ ((192 : Int32) - (4 : Int32)) then fn_BlockDigest_write_r9_r10_L16 (fun m4 => some m4) 10000 (a1) (a3) ((0 : Int32)) μ else some μ
def fn_BlockDigest_pad_r9_r2_L27 (k53 : Int32 → Int32 → sd_Me → Option (Int32 × sd_Me)) : Nat → Int32 → Int32 → Int32 → sd_Me → Option (Int32 × sd_Me)
  | 0, _, _, _, _ => none
  | n + 1, v2, v3, v4, μ =>
    if v2 ≤ v4 then k53 (v2) (v3) μ else sd_bi (fn_Elements_octetAt_r2 (0 : Int32) v4 μ) (fun x4 m3 => sd_gd (sd_ix v4 192) (sd_let (sd_st m3 10 (Int32.toNatClampNeg v4) x4) (fun m5 => fn_BlockDigest_pad_r9_r2_L27 k53 n (v2) (v3) ((v4 + (1 : Int32))) m5)))
def fn_BlockDigest_pad_r9_r2 (a2 : Int32) (μ : sd_Me) : Option (Int32 × sd_Me) :=
  sd_let ((((((a2 + (9 : Int32)) + (64 : Int32)) - (1 : Int32)) / (64 : Int32)) * (64 : Int32))) (fun x1 => sd_bv (fn_Arrays_fill_r10 (0 : Int32) μ) (fun m2 => fn_BlockDigest_pad_r9_r2_L27 (fun x6 x7 m8 => sd_gd (sd_ix x6 192) (sd_let (sd_st m8 10 (Int32.toNatClampNeg x6) (128 : Int32)) (fun m9 => if (m9.1 9 2) = (0 : Int32) then sd_bv (fn_BlockDigest_write_r9_r10 ((8 : Int32) * x6) (x7 - (8 : Int32)) m9) (fun m10 => some (x7, m10)) else sd_bv (fn_BlockDigest_write_r9_r10 ((8 : Int32) * x6) (x7 - (4 : Int32)) m9) (fun m11 => some (x7, m11))))) 10000 (a2) (x1) ((0 : Int32)) m2))
def fn_Sha256_begin_r9 (μ : sd_Me) : Option (sd_Me) :=
  sd_gd (sd_cpOk (0 : Int32) (0 : Int32) (8 : Int32) 8 8) (sd_let (sd_mrow μ 13 (va_cpy tabX1 (μ.1 13) (Int32.toNatClampNeg (0 : Int32)) (Int32.toNatClampNeg (0 : Int32)) (Int32.toNatClampNeg (8 : Int32)))) (fun m1 => some m1))
def fn_BlockDigest_readBlock_r9_L35 (k70 : Int32 → Int32 → Int32 → sd_Me → Option (sd_Me)) : Nat → Int32 → Int32 → Int32 → Int32 → sd_Me → Option (sd_Me)
  | 0, _, _, _, _, _ => none
  | n + 1, v1, v2, v3, v4, μ =>
    if (4 : Int32) ≤ v4 then k70 (v1) (v2) (v3) μ else sd_gd (sd_ix ((v1 + ((4 : Int32) * v2)) + v4) 192) (sd_bi (fn_BlockDigest_shiftOf_r9 v4 μ) (fun x2 m1 => sd_let ((v3 ||| ((μ.1 10 (Int32.toNatClampNeg ((v1 + ((4 : Int32) * v2)) + v4))) <<< (x2 &&& 31)))) (fun x3 => fn_BlockDigest_readBlock_r9_L35 k70 n (v1) (v2) (x3) ((v4 + (1 : Int32))) m1)))
def fn_BlockDigest_readBlock_r9_L24 (k83 : sd_Me → Option (sd_Me)) : Nat → Int32 → Int32 → sd_Me → Option (sd_Me)
  | 0, _, _, _ => none
  | n + 1, v1, v2, μ =>
    if (16 : Int32) ≤ v2 then k83  μ else fn_BlockDigest_readBlock_r9_L35 (fun x4 x5 x6 m7 => sd_gd (sd_ix x5 64) (sd_let (sd_st m7 12 (Int32.toNatClampNeg x5) x6) (fun m8 => fn_BlockDigest_readBlock_r9_L24 k83 n (x4) ((x5 + (1 : Int32))) m8))) 10000 (v1) (v2) ((0 : Int32)) ((0 : Int32)) μ
def fn_BlockDigest_readBlock_r9 (a1 : Int32) (μ : sd_Me) : Option (sd_Me) :=
  if a1 < (0 : Int32) then some μ else if (128 : Int32) < a1 then some μ else if (16 : Int32) ≤ (64 : Int32) then fn_BlockDigest_readBlock_r9_L24 (fun m9 => some m9) 10000 (a1) ((0 : Int32)) μ else some μ
def fn_Sha256_turned (a0 : Int32) (a1 : Int32) (μ : sd_Me) : Option (Int32 × sd_Me) :=
  some (((sd_usr a0 a1) ||| (a0 <<< (((32 : Int32) - a1) &&& 31))), μ)
def fn_Sha256_spreadWords_r9_L3 (k104 : sd_Me → Option (sd_Me)) : Nat → Int32 → sd_Me → Option (sd_Me)
  | 0, _, _ => none
  | n + 1, v1, μ =>
    if (64 : Int32) ≤ v1 then k104  μ else sd_gd (sd_ix (v1 - (15 : Int32)) 64) (sd_let ((μ.1 12 (Int32.toNatClampNeg (v1 - (15 : Int32))))) (fun x1 => sd_gd (sd_ix (v1 - (2 : Int32)) 64) (sd_let ((μ.1 12 (Int32.toNatClampNeg (v1 - (2 : Int32))))) (fun x2 => sd_bi (fn_Sha256_turned x1 (7 : Int32) μ) (fun x4 m3 => sd_bi (fn_Sha256_turned x1 (18 : Int32) m3) (fun x6 m5 => sd_let (((x4 ^^^ x6) ^^^ (sd_usr x1 (3 : Int32)))) (fun x7 => sd_bi (fn_Sha256_turned x2 (17 : Int32) m5) (fun x9 m8 => sd_bi (fn_Sha256_turned x2 (19 : Int32) m8) (fun x11 m10 => sd_let (((x9 ^^^ x11) ^^^ (sd_usr x2 (10 : Int32)))) (fun x12 => sd_gd (sd_ix (v1 - (7 : Int32)) 64) (sd_gd (sd_ix (v1 - (16 : Int32)) 64) (sd_gd (sd_ix v1 64) (sd_let (sd_st m10 12 (Int32.toNatClampNeg v1) (((x12 + (m10.1 12 (Int32.toNatClampNeg (v1 - (7 : Int32))))) + x7) + (m10.1 12 (Int32.toNatClampNeg (v1 - (16 : Int32)))))) (fun m13 => fn_Sha256_spreadWords_r9_L3 k104 n ((v1 + (1 : Int32))) m13))))))))))))))
def fn_Sha256_spreadWords_r9 (μ : sd_Me) : Option (sd_Me) :=
  fn_Sha256_spreadWords_r9_L3 (fun m14 => some m14) 10000 ((16 : Int32)) μ
def fn_Sha256_mix_r9_L70 (k213 : Int32 → Int32 → Int32 → Int32 → Int32 → Int32 → Int32 → Int32 → sd_Me → Option (sd_Me)) : Nat → Int32 → Int32 → Int32 → Int32 → Int32 → Int32 → Int32 → Int32 → Int32 → sd_Me → Option (sd_Me)
  | 0, _, _, _, _, _, _, _, _, _, _ => none
  | n + 1, v1, v2, v3, v4, v5, v6, v7, v8, v9, μ =>
    if (64 : Int32) ≤ v9 then k213 (v1) (v2) (v3) (v4) (v5) (v6) (v7) (v8) μ else sd_bi (fn_Sha256_turned v5 (6 : Int32) μ) (fun x11 m10 => sd_bi (fn_Sha256_turned v5 (11 : Int32) m10) (fun x13 m12 => sd_bi (fn_Sha256_turned v5 (25 : Int32) m12) (fun x15 m14 => sd_let (((x11 ^^^ x13) ^^^ x15)) (fun x16 => sd_gd (sd_ix v9 64) (sd_gd (sd_ix v9 64) (sd_let (((((v8 + x16) + ((v5 &&& v6) ^^^ ((v5 ^^^ (-1 : Int32)) &&& v7))) + (tabX8 (Int32.toNatClampNeg v9))) + (m14.1 12 (Int32.toNatClampNeg v9)))) (fun x17 => sd_bi (fn_Sha256_turned v1 (2 : Int32) m14) (fun x19 m18 => sd_bi (fn_Sha256_turned v1 (13 : Int32) m18) (fun x21 m20 => sd_bi (fn_Sha256_turned v1 (22 : Int32) m20) (fun x23 m22 => sd_let (((x19 ^^^ x21) ^^^ x23)) (fun x24 => sd_let ((x24 + (((v1 &&& v2) ^^^ (v1 &&& v3)) ^^^ (v2 &&& v3)))) (fun x25 => sd_let ((v4 + x17)) (fun x26 => sd_let ((x17 + x25)) (fun x27 => fn_Sha256_mix_r9_L70 k213 n (x27) (v1) (v2) (v3) (x26) (v5) (v6) (v7) ((v9 + (1 : Int32))) m22))))))))))))))
def fn_Sha256_mix_r9 (μ : sd_Me) : Option (sd_Me) :=
  sd_bv (fn_Sha256_spreadWords_r9 μ) (fun m1 => sd_gd (sd_ix (0 : Int32) 8) (sd_let ((m1.1 13 (Int32.toNatClampNeg (0 : Int32)))) (fun x2 => sd_gd (sd_ix (1 : Int32) 8) (sd_let ((m1.1 13 (Int32.toNatClampNeg (1 : Int32)))) (fun x3 => sd_gd (sd_ix (2 : Int32) 8) (sd_let ((m1.1 13 (Int32.toNatClampNeg (2 : Int32)))) (fun x4 => sd_gd (sd_ix (3 : Int32) 8) (sd_let ((m1.1 13 (Int32.toNatClampNeg (3 : Int32)))) (fun x5 => sd_gd (sd_ix (4 : Int32) 8) (sd_let ((m1.1 13 (Int32.toNatClampNeg (4 : Int32)))) (fun x6 => sd_gd (sd_ix (5 : Int32) 8) (sd_let ((m1.1 13 (Int32.toNatClampNeg (5 : Int32)))) (fun x7 => sd_gd (sd_ix (6 : Int32) 8) (sd_let ((m1.1 13 (Int32.toNatClampNeg (6 : Int32)))) (fun x8 => sd_gd (sd_ix (7 : Int32) 8) (sd_let ((m1.1 13 (Int32.toNatClampNeg (7 : Int32)))) (fun x9 => fn_Sha256_mix_r9_L70 (fun x28 x29 x30 x31 x32 x33 x34 x35 m36 => sd_gd (sd_ix (0 : Int32) 8) (sd_gd (sd_ix (0 : Int32) 8) (sd_let (sd_st m36 13 (Int32.toNatClampNeg (0 : Int32)) ((m36.1 13 (Int32.toNatClampNeg (0 : Int32))) + x28)) (fun m37 => sd_gd (sd_ix (1 : Int32) 8) (sd_gd (sd_ix (1 : Int32) 8) (sd_let (sd_st m37 13 (Int32.toNatClampNeg (1 : Int32)) ((m37.1 13 (Int32.toNatClampNeg (1 : Int32))) + x29)) (fun m38 => sd_gd (sd_ix (2 : Int32) 8) (sd_gd (sd_ix (2 : Int32) 8) (sd_let (sd_st m38 13 (Int32.toNatClampNeg (2 : Int32)) ((m38.1 13 (Int32.toNatClampNeg (2 : Int32))) + x30)) (fun m39 => sd_gd (sd_ix (3 : Int32) 8) (sd_gd (sd_ix (3 : Int32) 8) (sd_let (sd_st m39 13 (Int32.toNatClampNeg (3 : Int32)) ((m39.1 13 (Int32.toNatClampNeg (3 : Int32))) + x31)) (fun m40 => sd_gd (sd_ix (4 : Int32) 8) (sd_gd (sd_ix (4 : Int32) 8) (sd_let (sd_st m40 13 (Int32.toNatClampNeg (4 : Int32)) ((m40.1 13 (Int32.toNatClampNeg (4 : Int32))) + x32)) (fun m41 => sd_gd (sd_ix (5 : Int32) 8) (sd_gd (sd_ix (5 : Int32) 8) (sd_let (sd_st m41 13 (Int32.toNatClampNeg (5 : Int32)) ((m41.1 13 (Int32.toNatClampNeg (5 : Int32))) + x33)) (fun m42 => sd_gd (sd_ix (6 : Int32) 8) (sd_gd (sd_ix (6 : Int32) 8) (sd_let (sd_st m42 13 (Int32.toNatClampNeg (6 : Int32)) ((m42.1 13 (Int32.toNatClampNeg (6 : Int32))) + x34)) (fun m43 => sd_gd (sd_ix (7 : Int32) 8) (sd_gd (sd_ix (7 : Int32) 8) (sd_let (sd_st m43 13 (Int32.toNatClampNeg (7 : Int32)) ((m43.1 13 (Int32.toNatClampNeg (7 : Int32))) + x35)) (fun m44 => some m44))))))))))))))))))))))))) 10000 (x2) (x3) (x4) (x5) (x6) (x7) (x8) (x9) ((0 : Int32)) m1)))))))))))))))))
def fn_BlockDigest_write_r9_r11_L16 (k46 : sd_Me → Option (sd_Me)) : Nat → Int32 → Int32 → Int32 → sd_Me → Option (sd_Me)
  | 0, _, _, _, _ => none
  | n + 1, v1, v3, v4, μ =>
    if (4 : Int32) ≤ v4 then k46  μ else sd_bi (fn_BlockDigest_shiftOf_r9 v4 μ) (fun x2 m1 => sd_gd (sd_ix (v3 + v4) 32) (sd_let (sd_st m1 11 (Int32.toNatClampNeg (v3 + v4)) ((sd_usr v1 x2) &&& (255 : Int32))) (fun m3 => fn_BlockDigest_write_r9_r11_L16 k46 n (v1) (v3) ((v4 + (1 : Int32))) m3)))
def fn_BlockDigest_write_r9_r11 (a1 : Int32) (a3 : Int32) (μ : sd_Me) : Option (sd_Me) :=
  if a3 < (0 : Int32) then some μ else if a3 ≤ ((32 : Int32) - (4 : Int32)) then fn_BlockDigest_write_r9_r11_L16 (fun m4 => some m4) 10000 (a1) (a3) ((0 : Int32)) μ else some μ
def fn_Elements_push_r2_r11 (a2 : Int32) (a3 : Int32) (μ : sd_Me) : Option (sd_Me) :=
  if a2 < (0 : Int32) then some μ else if a3 < (0 : Int32) then some μ else if (120 : Int32) < a3 then some μ else if ((32 : Int32) - a2) < a3 then some μ else if ((μ.1 2 4) + (μ.1 2 3)) < (64 : Int32) then sd_gd (sd_ix (μ.1 2 4) 64) (sd_let ((μ.1 5 (Int32.toNatClampNeg (μ.1 2 4)))) (fun x1 => sd_gd (sd_cpOk a2 (x1 * (120 : Int32)) a3 32 7680) (sd_let (sd_mrow μ 3 (va_cpy (μ.1 11) (μ.1 3) (Int32.toNatClampNeg a2) (Int32.toNatClampNeg (x1 * (120 : Int32))) (Int32.toNatClampNeg a3))) (fun m2 => sd_gd (sd_ix x1 64) (sd_let (sd_st m2 4 (Int32.toNatClampNeg x1) a3) (fun m3 => sd_let (sd_st m3 2 4 ((m3.1 2 4) + (1 : Int32))) (fun m4 => some m4))))))) else some μ
def fn_BlockDigest_replaceTop_r9_r2_L31 (k53 : sd_Me → Option (sd_Me)) : Nat → Int32 → Int32 → sd_Me → Option (sd_Me)
  | 0, _, _, _ => none
  | n + 1, v3, v4, μ =>
    if v3 ≤ v4 then k53  μ else sd_bv (fn_BlockDigest_readBlock_r9 v4 μ) (fun m6 => sd_bv (fn_Sha256_mix_r9 m6) (fun m7 => fn_BlockDigest_replaceTop_r9_r2_L31 k53 n (v3) ((v4 + (64 : Int32))) m7))
def fn_BlockDigest_replaceTop_r9_r2_L56 (k91 : sd_Me → Option (sd_Me)) : Nat → Int32 → sd_Me → Option (sd_Me)
  | 0, _, _ => none
  | n + 1, v4, μ =>
    if (8 : Int32) ≤ v4 then k91  μ else sd_gd (sd_ix v4 8) (sd_bv (fn_BlockDigest_write_r9_r11 (μ.1 13 (Int32.toNatClampNeg v4)) ((4 : Int32) * v4) μ) (fun m9 => fn_BlockDigest_replaceTop_r9_r2_L56 k91 n ((v4 + (1 : Int32))) m9))
def fn_BlockDigest_replaceTop_r9_r2 (μ : sd_Me) : Option (sd_Me) :=
  sd_bi (fn_Elements_lengthAt_r2 (0 : Int32) μ) (fun x2 m1 => if x2 < (0 : Int32) then some m1 else if x2 ≤ (120 : Int32) then sd_bi (fn_BlockDigest_pad_r9_r2 x2 m1) (fun x4 m3 => sd_bv (fn_Sha256_begin_r9 m3) (fun m5 => fn_BlockDigest_replaceTop_r9_r2_L31 (fun m8 => fn_BlockDigest_replaceTop_r9_r2_L56 (fun m10 => sd_bv (fn_Elements_drop_r2 (1 : Int32) m10) (fun m11 => sd_bv (fn_Elements_push_r2_r11 (0 : Int32) (32 : Int32) m11) (fun m12 => some m12))) 10000 ((0 : Int32)) m8) 10000 (x4) ((0 : Int32)) m5)) else some m1)
def fn_Desk_performDigest_r0_J58 (v1 : Int32) (μ : sd_Me) : Option (Int32 × sd_Me) :=
  if v1 = (166 : Int32) then sd_bv (fn_BlockDigest_replaceTop_r14_r2 μ) (fun m1 => some ((0 : Int32), m1)) else if v1 = (169 : Int32) then sd_bv (fn_BlockDigest_replaceTop_r14_r2 μ) (fun m2 => some ((0 : Int32), m2)) else some ((0 : Int32), μ)
def fn_Desk_performDigest_r0_J40 (v1 : Int32) (μ : sd_Me) : Option (Int32 × sd_Me) :=
  if v1 = (170 : Int32) then sd_bv (fn_BlockDigest_replaceTop_r9_r2 μ) (fun m3 => fn_Desk_performDigest_r0_J58 (v1) m3) else fn_Desk_performDigest_r0_J58 (v1) μ
def fn_Desk_performDigest_r0 (a1 : Int32) (μ : sd_Me) : Option (Int32 × sd_Me) :=
  if a1 = (167 : Int32) then some ((4 : Int32), μ) else if (1 : Int32) ≤ (μ.1 2 4) then if a1 = (166 : Int32) then fn_Desk_performDigest_r0_J40 (a1) μ else sd_bv (fn_BlockDigest_replaceTop_r9_r2 μ) (fun m4 => fn_Desk_performDigest_r0_J40 (a1) m4) else some ((5 : Int32), μ)
def fn_Numbers_operandsOf_J30 (v0 : Int32) (μ : sd_Me) : Option (Int32 × sd_Me) :=
  if v0 = (147 : Int32) then some ((2 : Int32), μ) else if v0 = (148 : Int32) then some ((2 : Int32), μ) else if v0 < (154 : Int32) then if v0 = (165 : Int32) then some ((3 : Int32), μ) else some ((0 : Int32), μ) else if (164 : Int32) < v0 then if v0 = (165 : Int32) then some ((3 : Int32), μ) else some ((0 : Int32), μ) else some ((2 : Int32), μ)
def fn_Numbers_operandsOf (a0 : Int32) (μ : sd_Me) : Option (Int32 × sd_Me) :=
  if a0 = (139 : Int32) then some ((1 : Int32), μ) else if a0 = (140 : Int32) then some ((1 : Int32), μ) else if a0 < (143 : Int32) then fn_Numbers_operandsOf_J30 (a0) μ else if (146 : Int32) < a0 then fn_Numbers_operandsOf_J30 (a0) μ else some ((1 : Int32), μ)
def fn_Numbers_compare (a0 : Int32) (a1 : Int64) (a3 : Int64) (μ : sd_Me) : Option (Int32 × sd_Me) :=
  if a0 = (154 : Int32) then if (lg_cmp a1 (0 : Int64)) = (0 : Int32) then some ((0 : Int32), μ) else if (lg_cmp a3 (0 : Int64)) = (0 : Int32) then some ((0 : Int32), μ) else some ((1 : Int32), μ) else if a0 = (155 : Int32) then if (lg_cmp a1 (0 : Int64)) = (0 : Int32) then if (lg_cmp a3 (0 : Int64)) = (0 : Int32) then some ((0 : Int32), μ) else some ((1 : Int32), μ) else some ((1 : Int32), μ) else if a0 = (156 : Int32) then if (lg_cmp a1 a3) = (0 : Int32) then some ((1 : Int32), μ) else some ((0 : Int32), μ) else if a0 = (157 : Int32) then if (lg_cmp a1 a3) = (0 : Int32) then some ((1 : Int32), μ) else some ((0 : Int32), μ) else if a0 = (158 : Int32) then if (lg_cmp a1 a3) = (0 : Int32) then some ((0 : Int32), μ) else some ((1 : Int32), μ) else if a0 = (159 : Int32) then if (0 : Int32) ≤ (lg_cmp a1 a3) then some ((0 : Int32), μ) else some ((1 : Int32), μ) else if a0 = (160 : Int32) then if (lg_cmp a1 a3) ≤ (0 : Int32) then some ((0 : Int32), μ) else some ((1 : Int32), μ) else if a0 = (161 : Int32) then if (0 : Int32) < (lg_cmp a1 a3) then some ((0 : Int32), μ) else some ((1 : Int32), μ) else if (lg_cmp a1 a3) < (0 : Int32) then some ((0 : Int32), μ) else some ((1 : Int32), μ)
def fn_Numbers_ofOne (a0 : Int32) (a1 : Int64) (μ : sd_Me) : Option (Int64 × sd_Me) :=
  if a0 = (139 : Int32) then some ((a1 + (1 : Int64)), μ) else if a0 = (140 : Int32) then some ((a1 - (1 : Int64)), μ) else if a0 = (143 : Int32) then some ((-a1), μ) else if a0 = (144 : Int32) then if (0 : Int32) ≤ (lg_cmp a1 (0 : Int64)) then some (a1, μ) else some ((-a1), μ) else if a0 = (145 : Int32) then if (lg_cmp a1 (0 : Int64)) = (0 : Int32) then some ((1 : Int64), μ) else some ((0 : Int64), μ) else if (lg_cmp a1 (0 : Int64)) = (0 : Int32) then some ((0 : Int64), μ) else some ((1 : Int64), μ)
def fn_Numbers_resultOf_r2_J71 (v1 : Int32) (v3 : Int64) (v5 : Int64) (μ : sd_Me) : Option (Int64 × sd_Me) :=
  if v1 = (147 : Int32) then some ((v5 + v3), μ) else some ((v5 - v3), μ)
def fn_Numbers_resultOf_r2_J104 (v1 : Int32) (v3 : Int64) (v5 : Int64) (μ : sd_Me) : Option (Int64 × sd_Me) :=
  if v1 = (163 : Int32) then some ((if v3 < v5 then v3 else v5), μ) else some ((if v3 < v5 then v5 else v3), μ)
def fn_Numbers_resultOf_r2 (a1 : Int32) (a2 : Int32) (μ : sd_Me) : Option (Int64 × sd_Me) :=
  sd_bl (fn_Elements_numberAt_r2 (0 : Int32) μ) (fun x2 m1 => if a2 = (1 : Int32) then sd_bl (fn_Numbers_ofOne a1 x2 m1) (fun x10 m9 => some (x10, m9)) else sd_bl (fn_Elements_numberAt_r2 (1 : Int32) m1) (fun x4 m3 => if a2 = (3 : Int32) then sd_bl (fn_Elements_numberAt_r2 (2 : Int32) m3) (fun x8 m7 => if (0 : Int32) < (lg_cmp x4 x8) then some ((0 : Int64), m7) else if (0 : Int32) ≤ (lg_cmp x8 x2) then some ((0 : Int64), m7) else some ((1 : Int64), m7)) else if a1 = (147 : Int32) then fn_Numbers_resultOf_r2_J71 (a1) (x2) (x4) m3 else if a1 = (148 : Int32) then fn_Numbers_resultOf_r2_J71 (a1) (x2) (x4) m3 else if a1 = (163 : Int32) then fn_Numbers_resultOf_r2_J104 (a1) (x2) (x4) m3 else if a1 = (164 : Int32) then fn_Numbers_resultOf_r2_J104 (a1) (x2) (x4) m3 else sd_bi (fn_Numbers_compare a1 x4 x2 m3) (fun x6 m5 => if x6 = (0 : Int32) then some ((0 : Int64), m5) else some ((1 : Int64), m5))))
def fn_Numbers_perform_r2_L13 (k39 : Int32 → Int32 → sd_Me → Option (Int32 × sd_Me)) : Nat → Int32 → Int32 → Int32 → sd_Me → Option (Int32 × sd_Me)
  | 0, _, _, _, _ => none
  | n + 1, v1, v2, v3, μ =>
    if v2 ≤ v3 then k39 (v1) (v2) μ else sd_bi (fn_Elements_faultOfNumber_r2 v3 μ) (fun x4 m3 => if x4 = (0 : Int32) then fn_Numbers_perform_r2_L13 k39 n (v1) (v2) ((v3 + (1 : Int32))) m3 else some (x4, m3))
def fn_Numbers_perform_r2 (a1 : Int32) (μ : sd_Me) : Option (Int32 × sd_Me) :=
  sd_bi (fn_Numbers_operandsOf a1 μ) (fun x2 m1 => if x2 = (0 : Int32) then some ((4 : Int32), m1) else fn_Numbers_perform_r2_L13 (fun x5 x6 m7 => sd_bl (fn_Numbers_resultOf_r2 x5 x6 m7) (fun x9 m8 => sd_bv (fn_Elements_drop_r2 x6 m8) (fun m10 => sd_bv (fn_Elements_pushNumber_r2 x9 m10) (fun m11 => if x5 = (157 : Int32) then sd_bi (fn_Elements_takeTrue_r2 m11) (fun x13 m12 => some (x13, m12)) else some ((0 : Int32), m11))))) 10000 (a1) (x2) ((0 : Int32)) m1)
def fn_Elements_push_r2_r3 (a2 : Int32) (a3 : Int32) (μ : sd_Me) : Option (sd_Me) :=
  if a2 < (0 : Int32) then some μ else if a3 < (0 : Int32) then some μ else if (120 : Int32) < a3 then some μ else if ((7680 : Int32) - a2) < a3 then some μ else if ((μ.1 2 4) + (μ.1 2 3)) < (64 : Int32) then sd_gd (sd_ix (μ.1 2 4) 64) (sd_let ((μ.1 5 (Int32.toNatClampNeg (μ.1 2 4)))) (fun x1 => sd_gd (sd_cpOk a2 (x1 * (120 : Int32)) a3 7680 7680) (sd_let (sd_mrow μ 3 (va_cpy (μ.1 3) (μ.1 3) (Int32.toNatClampNeg a2) (Int32.toNatClampNeg (x1 * (120 : Int32))) (Int32.toNatClampNeg a3))) (fun m2 => sd_gd (sd_ix x1 64) (sd_let (sd_st m2 4 (Int32.toNatClampNeg x1) a3) (fun m3 => sd_let (sd_st m3 2 4 ((m3.1 2 4) + (1 : Int32))) (fun m4 => some m4))))))) else some μ
def fn_Elements_pushCopy_r2 (a1 : Int32) (μ : sd_Me) : Option (sd_Me) :=
  sd_bi (fn_Elements_lengthAt_r2 a1 μ) (fun x2 m1 => if x2 < (0 : Int32) then some m1 else sd_gd (sd_ix (((m1.1 2 4) - (1 : Int32)) - a1) 64) (sd_bv (fn_Elements_push_r2_r3 ((m1.1 5 (Int32.toNatClampNeg (((m1.1 2 4) - (1 : Int32)) - a1))) * (120 : Int32)) x2 m1) (fun m3 => some m3)))
def fn_Elements_lift_r2_L34 (k62 : Int32 → Int32 → sd_Me → Option (sd_Me)) : Nat → Int32 → Int32 → Int32 → sd_Me → Option (sd_Me)
  | 0, _, _, _, _ => none
  | n + 1, v2, v3, v4, μ =>
    if v2 ≤ v4 then k62 (v2) (v3) μ else sd_gd (sd_ix (v4 + (1 : Int32)) 64) (sd_gd (sd_ix v4 64) (sd_let (sd_st μ 5 (Int32.toNatClampNeg v4) (μ.1 5 (Int32.toNatClampNeg (v4 + (1 : Int32))))) (fun m4 => fn_Elements_lift_r2_L34 k62 n (v2) (v3) ((v4 + (1 : Int32))) m4)))
def fn_Elements_lift_r2 (a1 : Int32) (μ : sd_Me) : Option (sd_Me) :=
  if a1 < (0 : Int32) then some μ else if a1 < (μ.1 2 4) then sd_let (((μ.1 2 4) - (1 : Int32))) (fun x1 => sd_gd (sd_ix (x1 - a1) 64) (sd_let ((μ.1 5 (Int32.toNatClampNeg (x1 - a1)))) (fun x2 => sd_let ((x1 - a1)) (fun x3 => fn_Elements_lift_r2_L34 (fun x5 x6 m7 => sd_gd (sd_ix x5 64) (sd_let (sd_st m7 5 (Int32.toNatClampNeg x5) x6) (fun m8 => some m8))) 10000 (x1) (x2) (x3) μ)))) else some μ
def fn_Moves_pick_r2 (a1 : Int32) (μ : sd_Me) : Option (Int32 × sd_Me) :=
  sd_bi (fn_Elements_faultOfNumber_r2 (0 : Int32) μ) (fun x2 m1 => if x2 = (0 : Int32) then sd_bl (fn_Elements_numberAt_r2 (0 : Int32) m1) (fun x4 m3 => if (lg_cmp x4 (0 : Int64)) < (0 : Int32) then some ((7 : Int32), m3) else if (lg_cmp x4 (Int32.toInt64 ((m3.1 2 4) - (1 : Int32)))) < (0 : Int32) then sd_bv (fn_Elements_drop_r2 (1 : Int32) m3) (fun m5 => if a1 = (0 : Int32) then sd_bv (fn_Elements_pushCopy_r2 (Int64.toInt32 x4) m5) (fun m6 => some ((0 : Int32), m6)) else sd_bv (fn_Elements_lift_r2 (Int64.toInt32 x4) m5) (fun m7 => some ((0 : Int32), m7))) else some ((7 : Int32), m3)) else some (x2, m1))
def fn_Moves_operandsOf (a0 : Int32) (μ : sd_Me) : Option (Int32 × sd_Me) :=
  if a0 = (109 : Int32) then some ((2 : Int32), μ) else if a0 = (110 : Int32) then some ((2 : Int32), μ) else if a0 = (111 : Int32) then some ((3 : Int32), μ) else if a0 = (112 : Int32) then some ((4 : Int32), μ) else if a0 = (113 : Int32) then some ((6 : Int32), μ) else if a0 = (114 : Int32) then some ((4 : Int32), μ) else if a0 = (115 : Int32) then some ((1 : Int32), μ) else if a0 = (116 : Int32) then some ((0 : Int32), μ) else if a0 = (117 : Int32) then some ((1 : Int32), μ) else if a0 = (118 : Int32) then some ((1 : Int32), μ) else if a0 = (119 : Int32) then some ((2 : Int32), μ) else if a0 = (120 : Int32) then some ((2 : Int32), μ) else if a0 = (123 : Int32) then some ((3 : Int32), μ) else if a0 = (124 : Int32) then some ((2 : Int32), μ) else if a0 = (125 : Int32) then some ((2 : Int32), μ) else if a0 = (130 : Int32) then some ((1 : Int32), μ) else if a0 = (135 : Int32) then some ((2 : Int32), μ) else if a0 = (136 : Int32) then some ((2 : Int32), μ) else some ((-1 : Int32), μ)
def fn_Elements_pushCopies_r2_L2 (k18 : sd_Me → Option (sd_Me)) : Nat → Int32 → Int32 → Int32 → sd_Me → Option (sd_Me)
  | 0, _, _, _, _ => none
  | n + 1, v1, v2, v3, μ =>
    if v2 ≤ v3 then k18  μ else sd_bv (fn_Elements_pushCopy_r2 v1 μ) (fun m1 => fn_Elements_pushCopies_r2_L2 k18 n (v1) (v2) ((v3 + (1 : Int32))) m1)
def fn_Elements_pushCopies_r2 (a1 : Int32) (a2 : Int32) (μ : sd_Me) : Option (sd_Me) :=
  fn_Elements_pushCopies_r2_L2 (fun m2 => some m2) 10000 (a1) (a2) ((0 : Int32)) μ
def fn_Moves_moveSingles_r2 (a1 : Int32) (μ : sd_Me) : Option (sd_Me) :=
  if a1 = (115 : Int32) then sd_bi (fn_Elements_topHolds_r2 μ) (fun x2 m1 => if x2 = (0 : Int32) then sd_bv (fn_Elements_pushCopies_r2 (0 : Int32) (0 : Int32) m1) (fun m3 => some m3) else sd_bv (fn_Elements_pushCopies_r2 (0 : Int32) (1 : Int32) m1) (fun m4 => some m4)) else if a1 = (116 : Int32) then sd_bv (fn_Elements_pushNumber_r2 (Int32.toInt64 (μ.1 2 4)) μ) (fun m5 => some m5) else if a1 = (117 : Int32) then sd_bv (fn_Elements_drop_r2 (1 : Int32) μ) (fun m6 => some m6) else if a1 = (118 : Int32) then sd_bv (fn_Elements_pushCopy_r2 (0 : Int32) μ) (fun m7 => some m7) else if a1 = (119 : Int32) then sd_bv (fn_Elements_lift_r2 (1 : Int32) μ) (fun m8 => sd_bv (fn_Elements_drop_r2 (1 : Int32) m8) (fun m9 => some m9)) else if a1 = (120 : Int32) then sd_bv (fn_Elements_pushCopy_r2 (1 : Int32) μ) (fun m10 => some m10) else if a1 = (123 : Int32) then sd_bv (fn_Elements_lift_r2 (2 : Int32) μ) (fun m11 => some m11) else if a1 = (124 : Int32) then sd_bv (fn_Elements_lift_r2 (1 : Int32) μ) (fun m12 => some m12) else sd_bv (fn_Elements_lift_r2 (1 : Int32) μ) (fun m13 => sd_bv (fn_Elements_pushCopy_r2 (1 : Int32) m13) (fun m14 => some m14))
def fn_Moves_moveGroups_r2 (a1 : Int32) (μ : sd_Me) : Option (sd_Me) :=
  if a1 = (109 : Int32) then sd_bv (fn_Elements_drop_r2 (2 : Int32) μ) (fun m1 => some m1) else if a1 = (110 : Int32) then sd_bv (fn_Elements_pushCopies_r2 (1 : Int32) (2 : Int32) μ) (fun m2 => some m2) else if a1 = (111 : Int32) then sd_bv (fn_Elements_pushCopies_r2 (2 : Int32) (3 : Int32) μ) (fun m3 => some m3) else if a1 = (112 : Int32) then sd_bv (fn_Elements_pushCopies_r2 (3 : Int32) (2 : Int32) μ) (fun m4 => some m4) else if a1 = (113 : Int32) then sd_bv (fn_Elements_lift_r2 (5 : Int32) μ) (fun m5 => sd_bv (fn_Elements_lift_r2 (5 : Int32) m5) (fun m6 => some m6)) else sd_bv (fn_Elements_lift_r2 (3 : Int32) μ) (fun m7 => sd_bv (fn_Elements_lift_r2 (3 : Int32) m7) (fun m8 => some m8))
def fn_Elements_areSame_r2_L20 (k51 : sd_Me → Option (Int32 × sd_Me)) : Nat → Int32 → Int32 → Int32 → Int32 → sd_Me → Option (Int32 × sd_Me)
  | 0, _, _, _, _, _ => none
  | n + 1, v1, v2, v3, v4, μ =>
    if v3 ≤ v4 then k51  μ else sd_bi (fn_Elements_octetAt_r2 v1 v4 μ) (fun x6 m5 => sd_bi (fn_Elements_octetAt_r2 v2 v4 m5) (fun x8 m7 => if x6 = x8 then fn_Elements_areSame_r2_L20 k51 n (v1) (v2) (v3) ((v4 + (1 : Int32))) m7 else some ((0 : Int32), m7)))
def fn_Elements_areSame_r2 (a1 : Int32) (a2 : Int32) (μ : sd_Me) : Option (Int32 × sd_Me) :=
  sd_bi (fn_Elements_lengthAt_r2 a1 μ) (fun x2 m1 => sd_bi (fn_Elements_lengthAt_r2 a2 m1) (fun x4 m3 => if x2 = x4 then fn_Elements_areSame_r2_L20 (fun m9 => some ((1 : Int32), m9)) 10000 (a1) (a2) (x2) ((0 : Int32)) m3 else some ((0 : Int32), m3)))
def fn_Moves_look_r2 (a1 : Int32) (μ : sd_Me) : Option (Int32 × sd_Me) :=
  if a1 = (130 : Int32) then sd_bi (fn_Elements_lengthAt_r2 (0 : Int32) μ) (fun x7 m6 => sd_bv (fn_Elements_pushNumber_r2 (Int32.toInt64 x7) m6) (fun m8 => some ((0 : Int32), m8))) else sd_bi (fn_Elements_areSame_r2 (0 : Int32) (1 : Int32) μ) (fun x2 m1 => sd_bv (fn_Elements_replaceByTruth_r2 (2 : Int32) x2 m1) (fun m3 => if a1 = (136 : Int32) then sd_bi (fn_Elements_takeTrue_r2 m3) (fun x5 m4 => some (x5, m4)) else some ((0 : Int32), m3)))
def fn_Moves_perform_r2_J12 (v1 : Int32) (μ : sd_Me) : Option (Int32 × sd_Me) :=
  if v1 = (122 : Int32) then sd_bi (fn_Moves_pick_r2 (1 : Int32) μ) (fun x4 m3 => some (x4, m3)) else sd_bi (fn_Moves_pick_r2 (0 : Int32) μ) (fun x2 m1 => some (x2, m1))
def fn_Moves_perform_r2 (a1 : Int32) (μ : sd_Me) : Option (Int32 × sd_Me) :=
  if a1 = (121 : Int32) then fn_Moves_perform_r2_J12 (a1) μ else if a1 = (122 : Int32) then fn_Moves_perform_r2_J12 (a1) μ else sd_bi (fn_Moves_operandsOf a1 μ) (fun x6 m5 => if (0 : Int32) ≤ x6 then if x6 ≤ (m5.1 2 4) then if a1 < (130 : Int32) then if (114 : Int32) < a1 then sd_bv (fn_Moves_moveSingles_r2 a1 m5) (fun m7 => some ((0 : Int32), m7)) else sd_bv (fn_Moves_moveGroups_r2 a1 m5) (fun m8 => some ((0 : Int32), m8)) else sd_bi (fn_Moves_look_r2 a1 m5) (fun x10 m9 => some (x10, m9)) else some ((5 : Int32), m5) else some ((4 : Int32), m5))
def fn_Elements_swapSlots_r2 (a1 : Int32) (a2 : Int32) (μ : sd_Me) : Option (sd_Me) :=
  sd_gd (sd_ix a1 64) (sd_let ((μ.1 5 (Int32.toNatClampNeg a1))) (fun x1 => sd_gd (sd_ix a2 64) (sd_gd (sd_ix a1 64) (sd_let (sd_st μ 5 (Int32.toNatClampNeg a1) (μ.1 5 (Int32.toNatClampNeg a2))) (fun m2 => sd_gd (sd_ix a2 64) (sd_let (sd_st m2 5 (Int32.toNatClampNeg a2) x1) (fun m3 => some m3)))))))
def fn_Elements_toSide_r2 (μ : sd_Me) : Option (Int32 × sd_Me) :=
  if (μ.1 2 4) < (1 : Int32) then some ((5 : Int32), μ) else if (μ.1 2 3) < (64 : Int32) then sd_bv (fn_Elements_swapSlots_r2 ((μ.1 2 4) - (1 : Int32)) ((63 : Int32) - (μ.1 2 3)) μ) (fun m1 => sd_let (sd_st m1 2 4 ((m1.1 2 4) - (1 : Int32))) (fun m2 => sd_let (sd_st m2 2 3 ((m2.1 2 3) + (1 : Int32))) (fun m3 => some ((0 : Int32), m3)))) else some ((5 : Int32), μ)
def fn_Elements_fromSide_r2 (μ : sd_Me) : Option (Int32 × sd_Me) :=
  if (μ.1 2 3) < (1 : Int32) then some ((5 : Int32), μ) else if (μ.1 2 4) < (64 : Int32) then sd_bv (fn_Elements_swapSlots_r2 (μ.1 2 4) ((64 : Int32) - (μ.1 2 3)) μ) (fun m1 => sd_let (sd_st m1 2 3 ((m1.1 2 3) - (1 : Int32))) (fun m2 => sd_let (sd_st m2 2 4 ((m2.1 2 4) + (1 : Int32))) (fun m3 => some ((0 : Int32), m3)))) else some ((5 : Int32), μ)
def fn_Desk_performPlain_r0 (a1 : Int32) (μ : sd_Me) : Option (Int32 × sd_Me) :=
  if a1 = (97 : Int32) then some ((0 : Int32), μ) else if a1 = (105 : Int32) then sd_bi (fn_Elements_takeTrue_r2 μ) (fun x2 m1 => some (x2, m1)) else if a1 = (106 : Int32) then some ((9 : Int32), μ) else if a1 = (107 : Int32) then sd_bi (fn_Elements_toSide_r2 μ) (fun x4 m3 => some (x4, m3)) else if a1 = (108 : Int32) then sd_bi (fn_Elements_fromSide_r2 μ) (fun x6 m5 => some (x6, m5)) else some ((4 : Int32), μ)
def fn_Desk_pushSmallNumber_r0_J14 (v1 : Int32) (μ : sd_Me) : Option (Int32 × sd_Me) :=
  sd_bv (fn_Elements_pushNumber_r2 (Int32.toInt64 (v1 - (80 : Int32))) μ) (fun m1 => some ((0 : Int32), m1))
def fn_Desk_pushSmallNumber_r0 (a1 : Int32) (μ : sd_Me) : Option (Int32 × sd_Me) :=
  if a1 = (79 : Int32) then fn_Desk_pushSmallNumber_r0_J14 (a1) μ else if (81 : Int32) ≤ a1 then fn_Desk_pushSmallNumber_r0_J14 (a1) μ else some ((4 : Int32), μ)
def fn_Desk_perform_r0_J31 (v1 : Int32) (μ : sd_Me) : Option (Int32 × sd_Me) :=
  if v1 = (99 : Int32) then sd_bi (fn_Desk_enterPart_r0 (1 : Int32) μ) (fun x4 m3 => some (x4, m3)) else sd_bi (fn_Desk_enterPart_r0 (0 : Int32) μ) (fun x2 m1 => some (x2, m1))
def fn_Desk_perform_r0_J59 (v1 : Int32) (μ : sd_Me) : Option (Int32 × sd_Me) :=
  if v1 = (104 : Int32) then sd_bi (fn_Desk_leavePart_r0 (1 : Int32) μ) (fun x8 m7 => some (x8, m7)) else sd_bi (fn_Desk_leavePart_r0 (0 : Int32) μ) (fun x6 m5 => some (x6, m5))
def fn_Desk_perform_r0_J19 (v1 : Int32) (μ : sd_Me) : Option (Int32 × sd_Me) :=
  if v1 = (99 : Int32) then fn_Desk_perform_r0_J31 (v1) μ else if v1 = (100 : Int32) then fn_Desk_perform_r0_J31 (v1) μ else if v1 = (103 : Int32) then fn_Desk_perform_r0_J59 (v1) μ else if v1 = (104 : Int32) then fn_Desk_perform_r0_J59 (v1) μ else sd_bi (fn_Flow_isDone_r7 μ) (fun x10 m9 => if x10 = (0 : Int32) then some ((0 : Int32), m9) else if (96 : Int32) < v1 then if (108 : Int32) < v1 then if (136 : Int32) < v1 then if (165 : Int32) < v1 then if (170 : Int32) < v1 then sd_bi (fn_Signatures_perform_r8_r2_r6 v1 m9) (fun x12 m11 => some (x12, m11)) else sd_bi (fn_Desk_performDigest_r0 v1 m9) (fun x14 m13 => some (x14, m13)) else sd_bi (fn_Numbers_perform_r2 v1 m9) (fun x16 m15 => some (x16, m15)) else sd_bi (fn_Moves_perform_r2 v1 m9) (fun x18 m17 => some (x18, m17)) else sd_bi (fn_Desk_performPlain_r0 v1 m9) (fun x20 m19 => some (x20, m19)) else sd_bi (fn_Desk_pushSmallNumber_r0 v1 m9) (fun x22 m21 => some (x22, m21)))
def fn_Desk_perform_r0 (a1 : Int32) (μ : sd_Me) : Option (Int32 × sd_Me) :=
  if a1 ≤ (96 : Int32) then fn_Desk_perform_r0_J19 (a1) μ else sd_bi (fn_Tally_passesLimit_r6 (1 : Int32) μ) (fun x24 m23 => if x24 = (0 : Int32) then fn_Desk_perform_r0_J19 (a1) m23 else some ((3 : Int32), m23))
def fn_Elements_areTooMany_r2 (μ : sd_Me) : Option (Int32 × sd_Me) :=
  if ((μ.1 2 4) + (μ.1 2 3)) ≤ (60 : Int32) then some ((0 : Int32), μ) else some ((1 : Int32), μ)
def fn_Elements_push_r2_r1 (a2 : Int32) (a3 : Int32) (μ : sd_Me) : Option (sd_Me) :=
  if a2 < (0 : Int32) then some μ else if a3 < (0 : Int32) then some μ else if (120 : Int32) < a3 then some μ else if ((200 : Int32) - a2) < a3 then some μ else if ((μ.1 2 4) + (μ.1 2 3)) < (64 : Int32) then sd_gd (sd_ix (μ.1 2 4) 64) (sd_let ((μ.1 5 (Int32.toNatClampNeg (μ.1 2 4)))) (fun x1 => sd_gd (sd_cpOk a2 (x1 * (120 : Int32)) a3 200 7680) (sd_let (sd_mrow μ 3 (va_cpy (μ.1 1) (μ.1 3) (Int32.toNatClampNeg a2) (Int32.toNatClampNeg (x1 * (120 : Int32))) (Int32.toNatClampNeg a3))) (fun m2 => sd_gd (sd_ix x1 64) (sd_let (sd_st m2 4 (Int32.toNatClampNeg x1) a3) (fun m3 => sd_let (sd_st m3 2 4 ((m3.1 2 4) + (1 : Int32))) (fun m4 => some m4))))))) else some μ
def fn_Desk_pushFromScript_r0_J73 (v3 : Int32) (v5 : Int32) (v6 : Int32) (μ : sd_Me) : Option (Int32 × sd_Me) :=
  if v6 ≤ (v3 - v5) then if v6 ≤ (120 : Int32) then sd_let (sd_st μ 0 2 (v5 + v6)) (fun m2 => sd_bi (fn_Flow_isDone_r7 m2) (fun x4 m3 => if x4 = (0 : Int32) then some ((0 : Int32), m3) else sd_bv (fn_Elements_push_r2_r1 v5 v6 m3) (fun m5 => some ((0 : Int32), m5)))) else some ((2 : Int32), μ) else some ((1 : Int32), μ)
def fn_Desk_pushFromScript_r0_J70 (v3 : Int32) (v5 : Int32) (s0 : Int32) (s1 : Int32) (μ : sd_Me) : Option (Int32 × sd_Me) :=
  sd_let ((s0 + s1)) (fun x6 => fn_Desk_pushFromScript_r0_J73 (v3) (v5) (x6) μ)
def fn_Desk_pushFromScript_r0_J14 (v1 : Int32) (v2 : Int32) (v3 : Int32) (s0 : Int32) (μ : sd_Me) : Option (Int32 × sd_Me) :=
  sd_let (((v2 + (1 : Int32)) + s0)) (fun x1 => if x1 ≤ v3 then if s0 ≤ (0 : Int32) then fn_Desk_pushFromScript_r0_J73 (v3) (x1) (v1) μ else sd_gd (sd_ix (v2 + (1 : Int32)) 200) (if s0 = (2 : Int32) then sd_gd (sd_ix (v2 + (2 : Int32)) 200) (fn_Desk_pushFromScript_r0_J70 (v3) (x1) ((μ.1 1 (Int32.toNatClampNeg (v2 + (1 : Int32))))) (((256 : Int32) * (μ.1 1 (Int32.toNatClampNeg (v2 + (2 : Int32)))))) μ) else fn_Desk_pushFromScript_r0_J70 (v3) (x1) ((μ.1 1 (Int32.toNatClampNeg (v2 + (1 : Int32))))) ((0 : Int32)) μ) else some ((1 : Int32), μ))
def fn_Desk_pushFromScript_r0 (a1 : Int32) (a2 : Int32) (a3 : Int32) (μ : sd_Me) : Option (Int32 × sd_Me) :=
  if (75 : Int32) < a1 then fn_Desk_pushFromScript_r0_J14 (a1) (a2) (a3) ((a1 - (75 : Int32))) μ else fn_Desk_pushFromScript_r0_J14 (a1) (a2) (a3) ((0 : Int32)) μ
def fn_Elements_dropSide_r2 (μ : sd_Me) : Option (sd_Me) :=
  sd_let (sd_st μ 2 3 (0 : Int32)) (fun m1 => some m1)
def fn_Desk_run_r0_J80 (rc : Int32 → Int32 → Int32 → Int32 → sd_Me → Option (Int32 × sd_Me)) (v1 : Int32) (v2 : Int32) (v4 : Int32) (s0 : Int32) (μ : sd_Me) : Option (Int32 × sd_Me) :=
  if s0 = (0 : Int32) then sd_bi (fn_Elements_areTooMany_r2 μ) (fun x9 m8 => if x9 = (0 : Int32) then rc (v1) (v2) (s0) ((v4 + (1 : Int32))) m8 else rc (v1) (v2) ((11 : Int32)) ((v4 + (1 : Int32))) m8) else rc (v1) (v2) (s0) ((v4 + (1 : Int32))) μ
def fn_Desk_run_r0_L16 (k104 : Int32 → Int32 → Int32 → sd_Me → Option (Int32 × sd_Me)) : Nat → Int32 → Int32 → Int32 → Int32 → sd_Me → Option (Int32 × sd_Me)
  | 0, _, _, _, _, _ => none
  | n + 1, v1, v2, v3, v4, μ =>
    if (200 : Int32) ≤ v4 then k104 (v1) (v2) (v3) μ else if v1 ≤ (μ.1 0 2) then k104 (v1) (v2) (v3) μ else if v3 = (0 : Int32) then sd_let ((μ.1 0 2)) (fun x3 => sd_let (sd_st μ 0 2 (x3 + (1 : Int32))) (fun m4 => sd_gd (sd_ix x3 200) (sd_let ((m4.1 1 (Int32.toNatClampNeg x3))) (fun x5 => if (77 : Int32) < x5 then sd_bi (fn_Desk_perform_r0 x5 m4) (fun x7 m6 => fn_Desk_run_r0_J80 (fn_Desk_run_r0_L16 k104 n) (v1) (x3) (v4) (x7) m6) else sd_bi (fn_Desk_pushFromScript_r0 x5 x3 v1 m4) (fun x11 m10 => fn_Desk_run_r0_J80 (fn_Desk_run_r0_L16 k104 n) (v1) (x3) (v4) (x11) m10))))) else k104 (v1) (v2) (v3) μ
def fn_Desk_run_r0_J123 (v2 : Int32) (v3 : Int32) (μ : sd_Me) : Option (Int32 × sd_Me) :=
  sd_bv (fn_Elements_dropSide_r2 μ) (fun m16 => if v3 = (0 : Int32) then some ((1 : Int32), m16) else sd_bv (fn_Elements_drop_r2 (m16.1 2 4) m16) (fun m17 => sd_let (sd_st m17 0 3 v2) (fun m18 => some (((-1 : Int32) - v3), m18))))
def fn_Desk_run_r0_J104 (v1 : Int32) (v2 : Int32) (v3 : Int32) (μ : sd_Me) : Option (Int32 × sd_Me) :=
  if v3 = (0 : Int32) then sd_bi (fn_Flow_isInside_r7 μ) (fun x20 m19 => if x20 = (0 : Int32) then fn_Desk_run_r0_J123 (v2) (v3) m19 else fn_Desk_run_r0_J123 (v1) ((12 : Int32)) m19) else fn_Desk_run_r0_J123 (v2) (v3) μ
def fn_Desk_run_r0 (μ : sd_Me) : Option (Int32 × sd_Me) :=
  sd_let ((μ.1 0 1)) (fun x1 => sd_bv (fn_Desk_restart_r0 μ) (fun m2 => fn_Desk_run_r0_L16 (fun x12 x13 x14 m15 => fn_Desk_run_r0_J104 (x12) (x13) (x14) m15) 10000 (x1) ((0 : Int32)) ((0 : Int32)) ((0 : Int32)) m2))
def fn_Desk_place_r0 (μ : sd_Me) : Option (Int32 × sd_Me) :=
  some ((μ.1 0 3), μ)
def fn_Desk_clear_r0 (μ : sd_Me) : Option (Int32 × sd_Me) :=
  sd_let ((μ.1 2 4)) (fun x1 => sd_bv (fn_Elements_drop_r2 x1 μ) (fun m2 => some (x1, m2)))
def fn_Desk_size_r0 (μ : sd_Me) : Option (Int32 × sd_Me) :=
  some ((μ.1 2 4), μ)
def fn_Desk_isTrue_r0 (μ : sd_Me) : Option (Int32 × sd_Me) :=
  sd_bi (fn_Elements_topHolds_r2 μ) (fun x2 m1 => some (x2, m1))
def fn_Desk_bytes_r0 (a1 : Int32) (μ : sd_Me) : Option (Int32 × sd_Me) :=
  sd_bi (fn_Elements_lengthAt_r2 a1 μ) (fun x2 m1 => some (x2, m1))
def fn_Desk_byteOf_r0 (a1 : Int32) (a2 : Int32) (μ : sd_Me) : Option (Int32 × sd_Me) :=
  sd_bi (fn_Elements_octetAt_r2 a1 a2 μ) (fun x2 m1 => some (x2, m1))
def fn_Desk_count_r0 (a1 : Int32) (μ : sd_Me) : Option (Int32 × sd_Me) :=
  if a1 = (0 : Int32) then some ((μ.1 6 0), μ) else if a1 = (1 : Int32) then some ((μ.1 8 1), μ) else some ((-1 : Int32), μ)
end
