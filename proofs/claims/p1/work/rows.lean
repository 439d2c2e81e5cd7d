section
-- ===== PART A: goes FIRST, ahead of the names: the tables' words, and 'selects' of the private methods out of them =====
/-- a private method of a class that the tables say can be made, by its rows of tables_1 -/
def lw_okq (q : MethodName × Nat) : Prop := (q.1.cls ≠ "java/lang/invoke/MethodHandle" ∧ q.1.cls ≠ "java/lang/invoke/VarHandle") ∧ Cond.instantiable q.1.cls q.2 ∈ tables_1 ∧ Cond.privateMethod q.1 ∈ tables_1 ∧ Cond.instanceMethod q.1 ∈ tables_1
theorem lw_p0 : lw_okq (⟨"GleanDusk", "refuseBad", "()I"⟩, 12) := ⟨⟨by decide +kernel, by decide +kernel⟩, List.mem_of_getElem? (i := 21) (by decide +kernel), List.mem_of_getElem? (i := 277) (by decide +kernel), List.mem_of_getElem? (i := 278) (by decide +kernel)⟩
theorem lw_p1 : lw_okq (⟨"GleanDusk", "refuseFull", "()I"⟩, 12) := ⟨⟨by decide +kernel, by decide +kernel⟩, List.mem_of_getElem? (i := 21) (by decide +kernel), List.mem_of_getElem? (i := 295) (by decide +kernel), List.mem_of_getElem? (i := 296) (by decide +kernel)⟩
theorem lw_p2 : lw_okq (⟨"GleanDusk$Text", "advance", "()V"⟩, 12) := ⟨⟨by decide +kernel, by decide +kernel⟩, List.mem_of_getElem? (i := 163) (by decide +kernel), List.mem_of_getElem? (i := 336) (by decide +kernel), List.mem_of_getElem? (i := 337) (by decide +kernel)⟩
theorem lw_p3 : lw_okq (⟨"GleanDusk$Text", "passWord", "()V"⟩, 12) := ⟨⟨by decide +kernel, by decide +kernel⟩, List.mem_of_getElem? (i := 163) (by decide +kernel), List.mem_of_getElem? (i := 343) (by decide +kernel), List.mem_of_getElem? (i := 344) (by decide +kernel)⟩
theorem lw_p4 : lw_okq (⟨"GleanDusk$Text", "passNumber", "()V"⟩, 12) := ⟨⟨by decide +kernel, by decide +kernel⟩, List.mem_of_getElem? (i := 163) (by decide +kernel), List.mem_of_getElem? (i := 350) (by decide +kernel), List.mem_of_getElem? (i := 351) (by decide +kernel)⟩
theorem lw_p5 : lw_okq (⟨"GleanDusk$Text", "passSign", "()V"⟩, 12) := ⟨⟨by decide +kernel, by decide +kernel⟩, List.mem_of_getElem? (i := 163) (by decide +kernel), List.mem_of_getElem? (i := 354) (by decide +kernel), List.mem_of_getElem? (i := 355) (by decide +kernel)⟩
theorem lw_p6 : lw_okq (⟨"GleanDusk$Text", "isItem", "(I)Z"⟩, 12) := ⟨⟨by decide +kernel, by decide +kernel⟩, List.mem_of_getElem? (i := 163) (by decide +kernel), List.mem_of_getElem? (i := 358) (by decide +kernel), List.mem_of_getElem? (i := 359) (by decide +kernel)⟩
theorem lw_p7 : lw_okq (⟨"GleanDusk$Text", "wordHere", "()I"⟩, 12) := ⟨⟨by decide +kernel, by decide +kernel⟩, List.mem_of_getElem? (i := 163) (by decide +kernel), List.mem_of_getElem? (i := 362) (by decide +kernel), List.mem_of_getElem? (i := 363) (by decide +kernel)⟩
theorem lw_p8 : lw_okq (⟨"GleanDusk$Text", "isWord", "(Ljava/lang/String;)Z"⟩, 12) := ⟨⟨by decide +kernel, by decide +kernel⟩, List.mem_of_getElem? (i := 163) (by decide +kernel), List.mem_of_getElem? (i := 367) (by decide +kernel), List.mem_of_getElem? (i := 368) (by decide +kernel)⟩
theorem lw_p9 : lw_okq (⟨"GleanDusk$Text", "takes", "([IIII)Z"⟩, 12) := ⟨⟨by decide +kernel, by decide +kernel⟩, List.mem_of_getElem? (i := 163) (by decide +kernel), List.mem_of_getElem? (i := 422) (by decide +kernel), List.mem_of_getElem? (i := 423) (by decide +kernel)⟩
theorem lw_p10 : lw_okq (⟨"GleanDusk$Parish", "crowd", "(LGleanDusk$Dusk;I)I"⟩, 11) := ⟨⟨by decide +kernel, by decide +kernel⟩, List.mem_of_getElem? (i := 72) (by decide +kernel), List.mem_of_getElem? (i := 435) (by decide +kernel), List.mem_of_getElem? (i := 436) (by decide +kernel)⟩
theorem lw_p11 : lw_okq (⟨"GleanDusk$Parish", "give", "(LGleanDusk$Dusk;II)I"⟩, 11) := ⟨⟨by decide +kernel, by decide +kernel⟩, List.mem_of_getElem? (i := 72) (by decide +kernel), List.mem_of_getElem? (i := 475) (by decide +kernel), List.mem_of_getElem? (i := 476) (by decide +kernel)⟩
theorem lw_p12 : lw_okq (⟨"GleanDusk", "refuseNo", "()I"⟩, 12) := ⟨⟨by decide +kernel, by decide +kernel⟩, List.mem_of_getElem? (i := 21) (by decide +kernel), List.mem_of_getElem? (i := 485) (by decide +kernel), List.mem_of_getElem? (i := 486) (by decide +kernel)⟩
theorem lw_p13 : lw_okq (⟨"GleanDusk$Parish", "dropOldest", "()V"⟩, 11) := ⟨⟨by decide +kernel, by decide +kernel⟩, List.mem_of_getElem? (i := 72) (by decide +kernel), List.mem_of_getElem? (i := 493) (by decide +kernel), List.mem_of_getElem? (i := 494) (by decide +kernel)⟩
theorem lw_p14 : lw_okq (⟨"GleanDusk", "refuseTen", "()I"⟩, 12) := ⟨⟨by decide +kernel, by decide +kernel⟩, List.mem_of_getElem? (i := 21) (by decide +kernel), List.mem_of_getElem? (i := 563) (by decide +kernel), List.mem_of_getElem? (i := 564) (by decide +kernel)⟩
theorem lw_p15 : lw_okq (⟨"GleanDusk", "roam", "(IIII)V"⟩, 12) := ⟨⟨by decide +kernel, by decide +kernel⟩, List.mem_of_getElem? (i := 21) (by decide +kernel), List.mem_of_getElem? (i := 571) (by decide +kernel), List.mem_of_getElem? (i := 572) (by decide +kernel)⟩
def lw_privs_1 : List (MethodName × Nat) := [(⟨"GleanDusk", "refuseBad", "()I"⟩, 12), (⟨"GleanDusk", "refuseFull", "()I"⟩, 12), (⟨"GleanDusk$Text", "advance", "()V"⟩, 12), (⟨"GleanDusk$Text", "passWord", "()V"⟩, 12), (⟨"GleanDusk$Text", "passNumber", "()V"⟩, 12), (⟨"GleanDusk$Text", "passSign", "()V"⟩, 12), (⟨"GleanDusk$Text", "isItem", "(I)Z"⟩, 12), (⟨"GleanDusk$Text", "wordHere", "()I"⟩, 12), (⟨"GleanDusk$Text", "isWord", "(Ljava/lang/String;)Z"⟩, 12), (⟨"GleanDusk$Text", "takes", "([IIII)Z"⟩, 12), (⟨"GleanDusk$Parish", "crowd", "(LGleanDusk$Dusk;I)I"⟩, 11), (⟨"GleanDusk$Parish", "give", "(LGleanDusk$Dusk;II)I"⟩, 11), (⟨"GleanDusk", "refuseNo", "()I"⟩, 12), (⟨"GleanDusk$Parish", "dropOldest", "()V"⟩, 11), (⟨"GleanDusk", "refuseTen", "()I"⟩, 12), (⟨"GleanDusk", "roam", "(IIII)V"⟩, 12)]
theorem lw_r1 : ∀ q ∈ lw_privs_1, lw_okq q := List.forall_mem_cons.mpr ⟨lw_p0, List.forall_mem_cons.mpr ⟨lw_p1, List.forall_mem_cons.mpr ⟨lw_p2, List.forall_mem_cons.mpr ⟨lw_p3, List.forall_mem_cons.mpr ⟨lw_p4, List.forall_mem_cons.mpr ⟨lw_p5, List.forall_mem_cons.mpr ⟨lw_p6, List.forall_mem_cons.mpr ⟨lw_p7, List.forall_mem_cons.mpr ⟨lw_p8, List.forall_mem_cons.mpr ⟨lw_p9, List.forall_mem_cons.mpr ⟨lw_p10, List.forall_mem_cons.mpr ⟨lw_p11, List.forall_mem_cons.mpr ⟨lw_p12, List.forall_mem_cons.mpr ⟨lw_p13, List.forall_mem_cons.mpr ⟨lw_p14, List.forall_mem_cons.mpr ⟨lw_p15, fun _ h => absurd h List.not_mem_nil⟩⟩⟩⟩⟩⟩⟩⟩⟩⟩⟩⟩⟩⟩⟩⟩
theorem lw_p16 : lw_okq (⟨"GleanDusk", "stay", "(IIII)V"⟩, 12) := ⟨⟨by decide +kernel, by decide +kernel⟩, List.mem_of_getElem? (i := 21) (by decide +kernel), List.mem_of_getElem? (i := 581) (by decide +kernel), List.mem_of_getElem? (i := 582) (by decide +kernel)⟩
theorem lw_p17 : lw_okq (⟨"GleanDusk", "showAll", "(I)V"⟩, 12) := ⟨⟨by decide +kernel, by decide +kernel⟩, List.mem_of_getElem? (i := 21) (by decide +kernel), List.mem_of_getElem? (i := 590) (by decide +kernel), List.mem_of_getElem? (i := 591) (by decide +kernel)⟩
theorem lw_p18 : lw_okq (⟨"GleanDusk", "settle", "(III)V"⟩, 12) := ⟨⟨by decide +kernel, by decide +kernel⟩, List.mem_of_getElem? (i := 21) (by decide +kernel), List.mem_of_getElem? (i := 594) (by decide +kernel), List.mem_of_getElem? (i := 595) (by decide +kernel)⟩
theorem lw_p19 : lw_okq (⟨"GleanDusk", "allGet", "()I"⟩, 12) := ⟨⟨by decide +kernel, by decide +kernel⟩, List.mem_of_getElem? (i := 21) (by decide +kernel), List.mem_of_getElem? (i := 598) (by decide +kernel), List.mem_of_getElem? (i := 599) (by decide +kernel)⟩
theorem lw_p20 : lw_okq (⟨"GleanDusk", "poorestGets", "()I"⟩, 12) := ⟨⟨by decide +kernel, by decide +kernel⟩, List.mem_of_getElem? (i := 21) (by decide +kernel), List.mem_of_getElem? (i := 602) (by decide +kernel), List.mem_of_getElem? (i := 603) (by decide +kernel)⟩
theorem lw_p21 : lw_okq (⟨"GleanDusk$Parish", "notesFit", "(ILGleanDusk$Plain;)Z"⟩, 11) := ⟨⟨by decide +kernel, by decide +kernel⟩, List.mem_of_getElem? (i := 72) (by decide +kernel), List.mem_of_getElem? (i := 666) (by decide +kernel), List.mem_of_getElem? (i := 667) (by decide +kernel)⟩
theorem lw_p22 : lw_okq (⟨"GleanDusk", "mostAlike", "(IIII)I"⟩, 12) := ⟨⟨by decide +kernel, by decide +kernel⟩, List.mem_of_getElem? (i := 21) (by decide +kernel), List.mem_of_getElem? (i := 674) (by decide +kernel), List.mem_of_getElem? (i := 675) (by decide +kernel)⟩
theorem lw_p23 : lw_okq (⟨"GleanDusk", "staysPut", "(III)Z"⟩, 12) := ⟨⟨by decide +kernel, by decide +kernel⟩, List.mem_of_getElem? (i := 21) (by decide +kernel), List.mem_of_getElem? (i := 683) (by decide +kernel), List.mem_of_getElem? (i := 684) (by decide +kernel)⟩
theorem lw_p24 : lw_okq (⟨"GleanDusk", "worth", "(III)I"⟩, 12) := ⟨⟨by decide +kernel, by decide +kernel⟩, List.mem_of_getElem? (i := 21) (by decide +kernel), List.mem_of_getElem? (i := 687) (by decide +kernel), List.mem_of_getElem? (i := 688) (by decide +kernel)⟩
theorem lw_p25 : lw_okq (⟨"GleanDusk", "howMany", "(I)I"⟩, 12) := ⟨⟨by decide +kernel, by decide +kernel⟩, List.mem_of_getElem? (i := 21) (by decide +kernel), List.mem_of_getElem? (i := 736) (by decide +kernel), List.mem_of_getElem? (i := 737) (by decide +kernel)⟩
theorem lw_p26 : lw_okq (⟨"GleanDuskModel", "bad", "(I)I"⟩, 18) := ⟨⟨by decide +kernel, by decide +kernel⟩, List.mem_of_getElem? (i := 752) (by decide +kernel), List.mem_of_getElem? (i := 827) (by decide +kernel), List.mem_of_getElem? (i := 828) (by decide +kernel)⟩
theorem lw_p27 : lw_okq (⟨"GleanDuskModel", "many", "()I"⟩, 18) := ⟨⟨by decide +kernel, by decide +kernel⟩, List.mem_of_getElem? (i := 752) (by decide +kernel), List.mem_of_getElem? (i := 831) (by decide +kernel), List.mem_of_getElem? (i := 832) (by decide +kernel)⟩
theorem lw_p28 : lw_okq (⟨"GleanDuskModel", "full", "()I"⟩, 18) := ⟨⟨by decide +kernel, by decide +kernel⟩, List.mem_of_getElem? (i := 752) (by decide +kernel), List.mem_of_getElem? (i := 844) (by decide +kernel), List.mem_of_getElem? (i := 845) (by decide +kernel)⟩
theorem lw_p29 : lw_okq (⟨"GleanDuskModel", "isField", "(I)Z"⟩, 18) := ⟨⟨by decide +kernel, by decide +kernel⟩, List.mem_of_getElem? (i := 752) (by decide +kernel), List.mem_of_getElem? (i := 855) (by decide +kernel), List.mem_of_getElem? (i := 856) (by decide +kernel)⟩
theorem lw_p30 : lw_okq (⟨"GleanDuskModel", "manyGleaners", "()I"⟩, 18) := ⟨⟨by decide +kernel, by decide +kernel⟩, List.mem_of_getElem? (i := 752) (by decide +kernel), List.mem_of_getElem? (i := 859) (by decide +kernel), List.mem_of_getElem? (i := 860) (by decide +kernel)⟩
theorem lw_p31 : lw_okq (⟨"GleanDuskModel", "no", "()I"⟩, 18) := ⟨⟨by decide +kernel, by decide +kernel⟩, List.mem_of_getElem? (i := 752) (by decide +kernel), List.mem_of_getElem? (i := 871) (by decide +kernel), List.mem_of_getElem? (i := 872) (by decide +kernel)⟩
def lw_privs_2 : List (MethodName × Nat) := [(⟨"GleanDusk", "stay", "(IIII)V"⟩, 12), (⟨"GleanDusk", "showAll", "(I)V"⟩, 12), (⟨"GleanDusk", "settle", "(III)V"⟩, 12), (⟨"GleanDusk", "allGet", "()I"⟩, 12), (⟨"GleanDusk", "poorestGets", "()I"⟩, 12), (⟨"GleanDusk$Parish", "notesFit", "(ILGleanDusk$Plain;)Z"⟩, 11), (⟨"GleanDusk", "mostAlike", "(IIII)I"⟩, 12), (⟨"GleanDusk", "staysPut", "(III)Z"⟩, 12), (⟨"GleanDusk", "worth", "(III)I"⟩, 12), (⟨"GleanDusk", "howMany", "(I)I"⟩, 12), (⟨"GleanDuskModel", "bad", "(I)I"⟩, 18), (⟨"GleanDuskModel", "many", "()I"⟩, 18), (⟨"GleanDuskModel", "full", "()I"⟩, 18), (⟨"GleanDuskModel", "isField", "(I)Z"⟩, 18), (⟨"GleanDuskModel", "manyGleaners", "()I"⟩, 18), (⟨"GleanDuskModel", "no", "()I"⟩, 18)]
theorem lw_r2 : ∀ q ∈ lw_privs_2, lw_okq q := List.forall_mem_cons.mpr ⟨lw_p16, List.forall_mem_cons.mpr ⟨lw_p17, List.forall_mem_cons.mpr ⟨lw_p18, List.forall_mem_cons.mpr ⟨lw_p19, List.forall_mem_cons.mpr ⟨lw_p20, List.forall_mem_cons.mpr ⟨lw_p21, List.forall_mem_cons.mpr ⟨lw_p22, List.forall_mem_cons.mpr ⟨lw_p23, List.forall_mem_cons.mpr ⟨lw_p24, List.forall_mem_cons.mpr ⟨lw_p25, List.forall_mem_cons.mpr ⟨lw_p26, List.forall_mem_cons.mpr ⟨lw_p27, List.forall_mem_cons.mpr ⟨lw_p28, List.forall_mem_cons.mpr ⟨lw_p29, List.forall_mem_cons.mpr ⟨lw_p30, List.forall_mem_cons.mpr ⟨lw_p31, fun _ h => absurd h List.not_mem_nil⟩⟩⟩⟩⟩⟩⟩⟩⟩⟩⟩⟩⟩⟩⟩⟩
theorem lw_p32 : lw_okq (⟨"GleanDuskModel", "keep", "()V"⟩, 18) := ⟨⟨by decide +kernel, by decide +kernel⟩, List.mem_of_getElem? (i := 752) (by decide +kernel), List.mem_of_getElem? (i := 875) (by decide +kernel), List.mem_of_getElem? (i := 876) (by decide +kernel)⟩
theorem lw_p33 : lw_okq (⟨"GleanDuskModel", "isGleaner", "(I)Z"⟩, 18) := ⟨⟨by decide +kernel, by decide +kernel⟩, List.mem_of_getElem? (i := 752) (by decide +kernel), List.mem_of_getElem? (i := 911) (by decide +kernel), List.mem_of_getElem? (i := 912) (by decide +kernel)⟩
theorem lw_p34 : lw_okq (⟨"GleanDuskModel", "whoIsOn", "(I)I"⟩, 18) := ⟨⟨by decide +kernel, by decide +kernel⟩, List.mem_of_getElem? (i := 752) (by decide +kernel), List.mem_of_getElem? (i := 928) (by decide +kernel), List.mem_of_getElem? (i := 929) (by decide +kernel)⟩
theorem lw_p35 : lw_okq (⟨"GleanDuskModel", "layHand", "()V"⟩, 18) := ⟨⟨by decide +kernel, by decide +kernel⟩, List.mem_of_getElem? (i := 752) (by decide +kernel), List.mem_of_getElem? (i := 951) (by decide +kernel), List.mem_of_getElem? (i := 952) (by decide +kernel)⟩
theorem lw_p36 : lw_okq (⟨"GleanDuskModel", "roundBy", "(III)I"⟩, 18) := ⟨⟨by decide +kernel, by decide +kernel⟩, List.mem_of_getElem? (i := 752) (by decide +kernel), List.mem_of_getElem? (i := 963) (by decide +kernel), List.mem_of_getElem? (i := 964) (by decide +kernel)⟩
theorem lw_p37 : lw_okq (⟨"GleanDuskModel", "placesBy", "(II)I"⟩, 18) := ⟨⟨by decide +kernel, by decide +kernel⟩, List.mem_of_getElem? (i := 752) (by decide +kernel), List.mem_of_getElem? (i := 972) (by decide +kernel), List.mem_of_getElem? (i := 973) (by decide +kernel)⟩
theorem lw_p38 : lw_okq (⟨"GleanDuskModel", "kindsOf", "(I)I"⟩, 18) := ⟨⟨by decide +kernel, by decide +kernel⟩, List.mem_of_getElem? (i := 752) (by decide +kernel), List.mem_of_getElem? (i := 1017) (by decide +kernel), List.mem_of_getElem? (i := 1018) (by decide +kernel)⟩
theorem lw_p39 : lw_okq (⟨"GleanDuskModel", "rests", "(IIII)Z"⟩, 18) := ⟨⟨by decide +kernel, by decide +kernel⟩, List.mem_of_getElem? (i := 752) (by decide +kernel), List.mem_of_getElem? (i := 1029) (by decide +kernel), List.mem_of_getElem? (i := 1030) (by decide +kernel)⟩
theorem lw_p40 : lw_okq (⟨"GleanDuskModel", "hasBy", "(III)I"⟩, 18) := ⟨⟨by decide +kernel, by decide +kernel⟩, List.mem_of_getElem? (i := 752) (by decide +kernel), List.mem_of_getElem? (i := 1033) (by decide +kernel), List.mem_of_getElem? (i := 1034) (by decide +kernel)⟩
theorem lw_p41 : lw_okq (⟨"GleanDuskModel", "fraction", "(JJ)V"⟩, 18) := ⟨⟨by decide +kernel, by decide +kernel⟩, List.mem_of_getElem? (i := 752) (by decide +kernel), List.mem_of_getElem? (i := 1045) (by decide +kernel), List.mem_of_getElem? (i := 1046) (by decide +kernel)⟩
theorem lw_p42 : lw_okq (⟨"GleanDuskModel", "lookAt", "(I)V"⟩, 18) := ⟨⟨by decide +kernel, by decide +kernel⟩, List.mem_of_getElem? (i := 752) (by decide +kernel), List.mem_of_getElem? (i := 1071) (by decide +kernel), List.mem_of_getElem? (i := 1072) (by decide +kernel)⟩
theorem lw_p43 : lw_okq (⟨"GleanDuskModel", "takesParish", "()Z"⟩, 18) := ⟨⟨by decide +kernel, by decide +kernel⟩, List.mem_of_getElem? (i := 752) (by decide +kernel), List.mem_of_getElem? (i := 1085) (by decide +kernel), List.mem_of_getElem? (i := 1086) (by decide +kernel)⟩
theorem lw_p44 : lw_okq (⟨"GleanDuskModel", "spells", "(IIIIIII)Z"⟩, 18) := ⟨⟨by decide +kernel, by decide +kernel⟩, List.mem_of_getElem? (i := 752) (by decide +kernel), List.mem_of_getElem? (i := 1089) (by decide +kernel), List.mem_of_getElem? (i := 1090) (by decide +kernel)⟩
theorem lw_p45 : lw_okq (⟨"GleanDuskModel", "goBehind", "()V"⟩, 18) := ⟨⟨by decide +kernel, by decide +kernel⟩, List.mem_of_getElem? (i := 752) (by decide +kernel), List.mem_of_getElem? (i := 1093) (by decide +kernel), List.mem_of_getElem? (i := 1094) (by decide +kernel)⟩
theorem lw_p46 : lw_okq (⟨"GleanDuskModel", "takes", "(III)Z"⟩, 18) := ⟨⟨by decide +kernel, by decide +kernel⟩, List.mem_of_getElem? (i := 752) (by decide +kernel), List.mem_of_getElem? (i := 1097) (by decide +kernel), List.mem_of_getElem? (i := 1098) (by decide +kernel)⟩
theorem lw_p47 : lw_okq (⟨"GleanDuskModel", "takesItem", "()Z"⟩, 18) := ⟨⟨by decide +kernel, by decide +kernel⟩, List.mem_of_getElem? (i := 752) (by decide +kernel), List.mem_of_getElem? (i := 1101) (by decide +kernel), List.mem_of_getElem? (i := 1102) (by decide +kernel)⟩
def lw_privs_3 : List (MethodName × Nat) := [(⟨"GleanDuskModel", "keep", "()V"⟩, 18), (⟨"GleanDuskModel", "isGleaner", "(I)Z"⟩, 18), (⟨"GleanDuskModel", "whoIsOn", "(I)I"⟩, 18), (⟨"GleanDuskModel", "layHand", "()V"⟩, 18), (⟨"GleanDuskModel", "roundBy", "(III)I"⟩, 18), (⟨"GleanDuskModel", "placesBy", "(II)I"⟩, 18), (⟨"GleanDuskModel", "kindsOf", "(I)I"⟩, 18), (⟨"GleanDuskModel", "rests", "(IIII)Z"⟩, 18), (⟨"GleanDuskModel", "hasBy", "(III)I"⟩, 18), (⟨"GleanDuskModel", "fraction", "(JJ)V"⟩, 18), (⟨"GleanDuskModel", "lookAt", "(I)V"⟩, 18), (⟨"GleanDuskModel", "takesParish", "()Z"⟩, 18), (⟨"GleanDuskModel", "spells", "(IIIIIII)Z"⟩, 18), (⟨"GleanDuskModel", "goBehind", "()V"⟩, 18), (⟨"GleanDuskModel", "takes", "(III)Z"⟩, 18), (⟨"GleanDuskModel", "takesItem", "()Z"⟩, 18)]
theorem lw_r3 : ∀ q ∈ lw_privs_3, lw_okq q := List.forall_mem_cons.mpr ⟨lw_p32, List.forall_mem_cons.mpr ⟨lw_p33, List.forall_mem_cons.mpr ⟨lw_p34, List.forall_mem_cons.mpr ⟨lw_p35, List.forall_mem_cons.mpr ⟨lw_p36, List.forall_mem_cons.mpr ⟨lw_p37, List.forall_mem_cons.mpr ⟨lw_p38, List.forall_mem_cons.mpr ⟨lw_p39, List.forall_mem_cons.mpr ⟨lw_p40, List.forall_mem_cons.mpr ⟨lw_p41, List.forall_mem_cons.mpr ⟨lw_p42, List.forall_mem_cons.mpr ⟨lw_p43, List.forall_mem_cons.mpr ⟨lw_p44, List.forall_mem_cons.mpr ⟨lw_p45, List.forall_mem_cons.mpr ⟨lw_p46, List.forall_mem_cons.mpr ⟨lw_p47, fun _ h => absurd h List.not_mem_nil⟩⟩⟩⟩⟩⟩⟩⟩⟩⟩⟩⟩⟩⟩⟩⟩
theorem lw_p48 : lw_okq (⟨"GleanDuskModel", "takesField", "()Z"⟩, 18) := ⟨⟨by decide +kernel, by decide +kernel⟩, List.mem_of_getElem? (i := 752) (by decide +kernel), List.mem_of_getElem? (i := 1105) (by decide +kernel), List.mem_of_getElem? (i := 1106) (by decide +kernel)⟩
theorem lw_p49 : lw_okq (⟨"GleanDuskModel", "takesGlean", "()Z"⟩, 18) := ⟨⟨by decide +kernel, by decide +kernel⟩, List.mem_of_getElem? (i := 752) (by decide +kernel), List.mem_of_getElem? (i := 1109) (by decide +kernel), List.mem_of_getElem? (i := 1110) (by decide +kernel)⟩
theorem lw_p50 : lw_okq (⟨"GleanDuskModel", "isGleanerWord", "()Z"⟩, 18) := ⟨⟨by decide +kernel, by decide +kernel⟩, List.mem_of_getElem? (i := 752) (by decide +kernel), List.mem_of_getElem? (i := 1113) (by decide +kernel), List.mem_of_getElem? (i := 1114) (by decide +kernel)⟩
theorem lw_p51 : lw_okq (⟨"GleanDuskModel", "takesGleaner", "()Z"⟩, 18) := ⟨⟨by decide +kernel, by decide +kernel⟩, List.mem_of_getElem? (i := 752) (by decide +kernel), List.mem_of_getElem? (i := 1117) (by decide +kernel), List.mem_of_getElem? (i := 1118) (by decide +kernel)⟩
theorem lw_p52 : lw_okq (⟨"GleanDuskModel", "counted", "(I)I"⟩, 18) := ⟨⟨by decide +kernel, by decide +kernel⟩, List.mem_of_getElem? (i := 752) (by decide +kernel), List.mem_of_getElem? (i := 1142) (by decide +kernel), List.mem_of_getElem? (i := 1143) (by decide +kernel)⟩
theorem lw_p53 : lw_okq (⟨"GleanDuskModel", "sums", "(JII)J"⟩, 18) := ⟨⟨by decide +kernel, by decide +kernel⟩, List.mem_of_getElem? (i := 752) (by decide +kernel), List.mem_of_getElem? (i := 1152) (by decide +kernel), List.mem_of_getElem? (i := 1153) (by decide +kernel)⟩
def lw_privs_4 : List (MethodName × Nat) := [(⟨"GleanDuskModel", "takesField", "()Z"⟩, 18), (⟨"GleanDuskModel", "takesGlean", "()Z"⟩, 18), (⟨"GleanDuskModel", "isGleanerWord", "()Z"⟩, 18), (⟨"GleanDuskModel", "takesGleaner", "()Z"⟩, 18), (⟨"GleanDuskModel", "counted", "(I)I"⟩, 18), (⟨"GleanDuskModel", "sums", "(JII)J"⟩, 18)]
theorem lw_r4 : ∀ q ∈ lw_privs_4, lw_okq q := List.forall_mem_cons.mpr ⟨lw_p48, List.forall_mem_cons.mpr ⟨lw_p49, List.forall_mem_cons.mpr ⟨lw_p50, List.forall_mem_cons.mpr ⟨lw_p51, List.forall_mem_cons.mpr ⟨lw_p52, List.forall_mem_cons.mpr ⟨lw_p53, fun _ h => absurd h List.not_mem_nil⟩⟩⟩⟩⟩⟩
def lw_privs : List (MethodName × Nat) := lw_privs_1 ++ (lw_privs_2 ++ (lw_privs_3 ++ (lw_privs_4)))
def lw_tbl : List Cond := k2_sels lw_privs ++ tables_1
theorem lw_privs_ok : ∀ q ∈ lw_privs, lw_okq q := by
  show ∀ q ∈ lw_privs_1 ++ (lw_privs_2 ++ (lw_privs_3 ++ (lw_privs_4))), lw_okq q
  exact List.forall_mem_append.mpr ⟨lw_r1, List.forall_mem_append.mpr ⟨lw_r2, List.forall_mem_append.mpr ⟨lw_r3, lw_r4⟩⟩⟩
end
section
theorem goodIn_r {big : List Cond} (ws : List Cond) (ps : List Nat) (hp : ws = ps.filterMap (fun i => big[i]?)) (h : ws.all goodWord = true) : GoodIn big ws := by
  intro w hw
  have h1 := List.all_eq_true.mp h w hw
  rw [hp] at hw
  obtain ⟨i, -, hi⟩ := List.mem_filterMap.mp hw
  have hm : w ∈ big := by first | exact List.mem_of_getElem? hi | exact List.getElem?_mem hi
  exact ⟨hm, good_of_word h1⟩
theorem goodIn_app {big a b : List Cond} (ha : GoodIn big a) (hb : GoodIn big b) : GoodIn big (a ++ b) := fun w h => (List.mem_append.mp h).elim (ha w) (hb w)
theorem goodIn_ca {big a b : List Cond} {c : Cond} (ha : GoodIn big (c :: a)) (hb : GoodIn big b) : GoodIn big (c :: (a ++ b)) := fun w h => (List.mem_cons.mp h).elim (fun e => ha w (List.mem_cons.mpr (Or.inl e))) (fun h => (List.mem_append.mp h).elim (fun h => ha w (List.mem_cons.mpr (Or.inr h))) (hb w))
theorem goodIn_sub {big ws : List Cond} (hm : ∀ w ∈ ws, w ∈ big) (h : ws.all goodWord = true) : GoodIn big ws := fun w hw => ⟨hm w hw, good_of_word (List.all_eq_true.mp h w hw)⟩
def RX0 : String := "GleanDusk$Best"
def TX0 : u_T := fun k => match k with
  | 0 => ("GleanDusk$Best", "row", "[I", true)
  | 1 => ("GleanDusk$Best", "first", "[I", true)
  | _ => ("GleanDusk$Best", "most", "I", false)
def tyX0 : Nat → FieldType := fun k => match k with
  | 0 => .array .int
  | 1 => .array .int
  | _ => .int
abbrev wsX00 : List Cond := u_ws RX0 TX0 3
theorem nmX0 : ∀ a, a < 3 → ∀ b, b < 3 → a ≠ b → (TX0 a).2.1 ≠ (TX0 b).2.1 := by decide +kernel
theorem tyX0_ok : ∀ k, k < 3 → parseFieldDescriptor (TX0 k).2.2.1 = some (tyX0 k) := by decide +kernel
abbrev cX0_init : ByteArray := prog_2_method_1_code
def yX0_init : MethodName := ⟨RX0, "<init>", "()V"⟩
abbrev cX0_begin : ByteArray := prog_2_method_2_code
def yX0_begin : MethodName := ⟨RX0, "begin", "()V"⟩
abbrev cX0_offer : ByteArray := prog_2_method_3_code
def yX0_offer : MethodName := ⟨RX0, "offer", "(II)V"⟩
def RX1 : String := "GleanDusk$Dusk"
def TX1 : u_T := fun k => match k with
  | 0 => ("GleanDusk$Dusk", "light", "[I", true)
  | 1 => ("GleanDusk$Dusk", "at", "[I", true)
  | 2 => ("GleanDusk$Dusk", "store", "[I", true)
  | 3 => ("GleanDusk$Dusk", "step", "I", false)
  | 4 => ("GleanDusk$Dusk", "cloud", "I", false)
  | _ => ("GleanDusk$Dusk", "number", "I", false)
def tyX1 : Nat → FieldType := fun k => match k with
  | 0 => .array .int
  | 1 => .array .int
  | 2 => .array .int
  | 3 => .int
  | 4 => .int
  | _ => .int
abbrev wsX10 : List Cond := u_ws RX1 TX1 6
theorem nmX1 : ∀ a, a < 6 → ∀ b, b < 6 → a ≠ b → (TX1 a).2.1 ≠ (TX1 b).2.1 := by decide +kernel
theorem tyX1_ok : ∀ k, k < 6 → parseFieldDescriptor (TX1 k).2.2.1 = some (tyX1 k) := by decide +kernel
abbrev cX1_init : ByteArray := prog_3_method_1_code
def yX1_init : MethodName := ⟨RX1, "<init>", "()V"⟩
abbrev cX1_become : ByteArray := prog_3_method_2_code
def yX1_become : MethodName := ⟨RX1, "become", "(LGleanDusk$Dusk;)V"⟩
def RX2 : String := "GleanDusk$Hill"
def TX2 : u_T := fun k => match k with
  | _ => ("", "", "", false)
def tyX2 : Nat → FieldType := fun k => match k with
  | _ => .int
abbrev wsX20 : List Cond := u_ws RX2 TX2 0
theorem tyX2_ok : ∀ k, k < 0 → parseFieldDescriptor (TX2 k).2.2.1 = some (tyX2 k) := by decide +kernel
abbrev cX2_init : ByteArray := prog_4_method_1_code
def yX2_init : MethodName := ⟨RX2, "<init>", "()V"⟩
abbrev cX2_sight : ByteArray := prog_4_method_2_code
def yX2_sight : MethodName := ⟨RX2, "sight", "(III)I"⟩
def RX3 : String := "GleanDusk$Lane"
def TX3 : u_T := fun k => match k with
  | _ => ("", "", "", false)
def tyX3 : Nat → FieldType := fun k => match k with
  | _ => .int
abbrev wsX30 : List Cond := u_ws RX3 TX3 0
theorem tyX3_ok : ∀ k, k < 0 → parseFieldDescriptor (TX3 k).2.2.1 = some (tyX3 k) := by decide +kernel
abbrev cX3_init : ByteArray := prog_5_method_1_code
def yX3_init : MethodName := ⟨RX3, "<init>", "()V"⟩
abbrev cX3_sight : ByteArray := prog_5_method_2_code
def yX3_sight : MethodName := ⟨RX3, "sight", "(III)I"⟩
def RX4 : String := "GleanDusk$Parish"
def TX4 : u_T := fun k => match k with
  | 0 => ("GleanDusk$Parish", "kinds", "[LGleanDusk$Plain;", true)
  | 1 => ("GleanDusk$Parish", "kind", "[I", true)
  | 2 => ("GleanDusk$Parish", "dusk", "LGleanDusk$Dusk;", true)
  | 3 => ("GleanDusk$Parish", "earlier", "[LGleanDusk$Dusk;", true)
  | 4 => ("GleanDusk$Parish", "missed", "[[I", true)
  | 5 => ("GleanDusk$Parish", "notes", "[[I", true)
  | 6 => ("GleanDusk$Parish", "fields", "I", false)
  | 7 => ("GleanDusk$Parish", "gleaners", "I", false)
  | 8 => ("GleanDusk$Parish", "undoable", "I", false)
  | 9 => ("GleanDusk$Parish", "missedCount", "I", false)
  | _ => ("GleanDusk$Parish", "noteCount", "I", false)
def tyX4 : Nat → FieldType := fun k => match k with
  | 0 => .array (.object "GleanDusk$Plain")
  | 1 => .array .int
  | 2 => .object "GleanDusk$Dusk"
  | 3 => .array (.object "GleanDusk$Dusk")
  | 4 => .array (.array .int)
  | 5 => .array (.array .int)
  | 6 => .int
  | 7 => .int
  | 8 => .int
  | 9 => .int
  | _ => .int
abbrev wsX40 : List Cond := u_ws RX4 TX4 11
theorem nmX4 : ∀ a, a < 11 → ∀ b, b < 11 → a ≠ b → (TX4 a).2.1 ≠ (TX4 b).2.1 := by decide +kernel
theorem tyX4_ok : ∀ k, k < 11 → parseFieldDescriptor (TX4 k).2.2.1 = some (tyX4 k) := by decide +kernel
abbrev cX4_init : ByteArray := prog_6_method_1_code
def yX4_init : MethodName := ⟨RX4, "<init>", "([LGleanDusk$Plain;)V"⟩
abbrev cX4_begin : ByteArray := prog_6_method_2_code
def yX4_begin : MethodName := ⟨RX4, "begin", "(I)V"⟩
abbrev cX4_become : ByteArray := prog_6_method_3_code
def yX4_become : MethodName := ⟨RX4, "become", "(LGleanDusk$Parish;)V"⟩
abbrev cX4_hasField : ByteArray := prog_6_method_4_code
def yX4_hasField : MethodName := ⟨RX4, "hasField", "(I)Z"⟩
abbrev cX4_hasGleaner : ByteArray := prog_6_method_5_code
def yX4_hasGleaner : MethodName := ⟨RX4, "hasGleaner", "(I)Z"⟩
abbrev cX4_addField : ByteArray := prog_6_method_6_code
def yX4_addField : MethodName := ⟨RX4, "addField", "(II)I"⟩
abbrev cX4_addGleaner : ByteArray := prog_6_method_7_code
def yX4_addGleaner : MethodName := ⟨RX4, "addGleaner", "(I)I"⟩
abbrev cX4_addMissed : ByteArray := prog_6_method_8_code
def yX4_addMissed : MethodName := ⟨RX4, "addMissed", "(IIII)I"⟩
abbrev cX4_addNote : ByteArray := prog_6_method_9_code
def yX4_addNote : MethodName := ⟨RX4, "addNote", "(IIIII)I"⟩
abbrev cX4_remember : ByteArray := prog_6_method_10_code
def yX4_remember : MethodName := ⟨RX4, "remember", "()V"⟩
abbrev cX4_dropOldest : ByteArray := prog_6_method_11_code
def yX4_dropOldest : MethodName := ⟨RX4, "dropOldest", "()V"⟩
abbrev cX4_goBack : ByteArray := prog_6_method_12_code
def yX4_goBack : MethodName := ⟨RX4, "goBack", "()V"⟩
abbrev cX4_shows : ByteArray := prog_6_method_13_code
def yX4_shows : MethodName := ⟨RX4, "shows", "(LGleanDusk$Dusk;II)I"⟩
abbrev cX4_crowd : ByteArray := prog_6_method_14_code
def yX4_crowd : MethodName := ⟨RX4, "crowd", "(LGleanDusk$Dusk;I)I"⟩
abbrev cX4_share : ByteArray := prog_6_method_15_code
def yX4_share : MethodName := ⟨RX4, "share", "(LGleanDusk$Dusk;I)I"⟩
abbrev cX4_gather : ByteArray := prog_6_method_16_code
def yX4_gather : MethodName := ⟨RX4, "gather", "(LGleanDusk$Dusk;I)I"⟩
abbrev cX4_give : ByteArray := prog_6_method_17_code
def yX4_give : MethodName := ⟨RX4, "give", "(LGleanDusk$Dusk;II)I"⟩
abbrev cX4_fade : ByteArray := prog_6_method_18_code
def yX4_fade : MethodName := ⟨RX4, "fade", "(LGleanDusk$Dusk;)V"⟩
abbrev cX4_whoIsOn : ByteArray := prog_6_method_19_code
def yX4_whoIsOn : MethodName := ⟨RX4, "whoIsOn", "(I)I"⟩
abbrev cX4_storesOf : ByteArray := prog_6_method_20_code
def yX4_storesOf : MethodName := ⟨RX4, "storesOf", "(I)I"⟩
abbrev cX4_missedFit : ByteArray := prog_6_method_21_code
def yX4_missedFit : MethodName := ⟨RX4, "missedFit", "(I)Z"⟩
abbrev cX4_kindsThatFit : ByteArray := prog_6_method_22_code
def yX4_kindsThatFit : MethodName := ⟨RX4, "kindsThatFit", "(I)I"⟩
abbrev cX4_notesFit : ByteArray := prog_6_method_23_code
def yX4_notesFit : MethodName := ⟨RX4, "notesFit", "(ILGleanDusk$Plain;)Z"⟩
def RX5 : String := "GleanDusk$Plain"
def TX5 : u_T := fun k => match k with
  | _ => ("", "", "", false)
def tyX5 : Nat → FieldType := fun k => match k with
  | _ => .int
abbrev wsX50 : List Cond := u_ws RX5 TX5 0
theorem tyX5_ok : ∀ k, k < 0 → parseFieldDescriptor (TX5 k).2.2.1 = some (tyX5 k) := by decide +kernel
abbrev cX5_init : ByteArray := prog_7_method_1_code
def yX5_init : MethodName := ⟨RX5, "<init>", "()V"⟩
abbrev cX5_sight : ByteArray := prog_7_method_2_code
def yX5_sight : MethodName := ⟨RX5, "sight", "(III)I"⟩
def RX6 : String := "GleanDusk$Puddle"
def TX6 : u_T := fun k => match k with
  | _ => ("", "", "", false)
def tyX6 : Nat → FieldType := fun k => match k with
  | _ => .int
abbrev wsX60 : List Cond := u_ws RX6 TX6 0
theorem tyX6_ok : ∀ k, k < 0 → parseFieldDescriptor (TX6 k).2.2.1 = some (tyX6 k) := by decide +kernel
abbrev cX6_init : ByteArray := prog_8_method_1_code
def yX6_init : MethodName := ⟨RX6, "<init>", "()V"⟩
abbrev cX6_sight : ByteArray := prog_8_method_2_code
def yX6_sight : MethodName := ⟨RX6, "sight", "(III)I"⟩
def RX7 : String := "GleanDusk$Text"
def TX7 : u_T := fun k => match k with
  | 0 => ("GleanDusk$Text", "bytes", "[B", true)
  | 1 => ("GleanDusk$Text", "length", "I", false)
  | 2 => ("GleanDusk$Text", "token", "I", false)
  | 3 => ("GleanDusk$Text", "start", "I", false)
  | 4 => ("GleanDusk$Text", "end", "I", false)
  | 5 => ("GleanDusk$Text", "number", "I", false)
  | 6 => ("GleanDusk$Text", "words", "[I", true)
  | 7 => ("GleanDusk$Text", "first", "[I", true)
  | 8 => ("GleanDusk$Text", "second", "[I", true)
  | 9 => ("GleanDusk$Text", "fields", "I", false)
  | 10 => ("GleanDusk$Text", "gleaners", "I", false)
  | _ => ("GleanDusk$Text", "steps", "I", false)
def tyX7 : Nat → FieldType := fun k => match k with
  | 0 => .array .byte
  | 1 => .int
  | 2 => .int
  | 3 => .int
  | 4 => .int
  | 5 => .int
  | 6 => .array .int
  | 7 => .array .int
  | 8 => .array .int
  | 9 => .int
  | 10 => .int
  | _ => .int
abbrev wsX70 : List Cond := u_ws RX7 TX7 12
theorem nmX7 : ∀ a, a < 12 → ∀ b, b < 12 → a ≠ b → (TX7 a).2.1 ≠ (TX7 b).2.1 := by decide +kernel
theorem tyX7_ok : ∀ k, k < 12 → parseFieldDescriptor (TX7 k).2.2.1 = some (tyX7 k) := by decide +kernel
abbrev cX7_init : ByteArray := prog_9_method_1_code
def yX7_init : MethodName := ⟨RX7, "<init>", "()V"⟩
abbrev cX7_append : ByteArray := prog_9_method_2_code
def yX7_append : MethodName := ⟨RX7, "append", "(I)I"⟩
abbrev cX7_parse : ByteArray := prog_9_method_3_code
def yX7_parse : MethodName := ⟨RX7, "parse", "()I"⟩
abbrev cX7_isItem : ByteArray := prog_9_method_4_code
def yX7_isItem : MethodName := ⟨RX7, "isItem", "(I)Z"⟩
abbrev cX7_wordHere : ByteArray := prog_9_method_5_code
def yX7_wordHere : MethodName := ⟨RX7, "wordHere", "()I"⟩
abbrev cX7_isWord : ByteArray := prog_9_method_6_code
def yX7_isWord : MethodName := ⟨RX7, "isWord", "(Ljava/lang/String;)Z"⟩
abbrev cX7_takes : ByteArray := prog_9_method_7_code
def yX7_takes : MethodName := ⟨RX7, "takes", "([IIII)Z"⟩
abbrev cX7_advance : ByteArray := prog_9_method_8_code
def yX7_advance : MethodName := ⟨RX7, "advance", "()V"⟩
abbrev cX7_passWord : ByteArray := prog_9_method_9_code
def yX7_passWord : MethodName := ⟨RX7, "passWord", "()V"⟩
abbrev cX7_passNumber : ByteArray := prog_9_method_10_code
def yX7_passNumber : MethodName := ⟨RX7, "passNumber", "()V"⟩
abbrev cX7_passSign : ByteArray := prog_9_method_11_code
def yX7_passSign : MethodName := ⟨RX7, "passSign", "()V"⟩
abbrev cX7_isLetter : ByteArray := prog_9_method_12_code
def yX7_isLetter : MethodName := ⟨RX7, "isLetter", "(I)Z"⟩
abbrev cX7_isFigure : ByteArray := prog_9_method_13_code
def yX7_isFigure : MethodName := ⟨RX7, "isFigure", "(I)Z"⟩
def RX8 : String := "GleanDusk$West"
def TX8 : u_T := fun k => match k with
  | _ => ("", "", "", false)
def tyX8 : Nat → FieldType := fun k => match k with
  | _ => .int
abbrev wsX80 : List Cond := u_ws RX8 TX8 0
theorem tyX8_ok : ∀ k, k < 0 → parseFieldDescriptor (TX8 k).2.2.1 = some (tyX8 k) := by decide +kernel
abbrev cX8_init : ByteArray := prog_10_method_1_code
def yX8_init : MethodName := ⟨RX8, "<init>", "()V"⟩
abbrev cX8_sight : ByteArray := prog_10_method_2_code
def yX8_sight : MethodName := ⟨RX8, "sight", "(III)I"⟩
def RX9 : String := "GleanDusk$Wood"
def TX9 : u_T := fun k => match k with
  | _ => ("", "", "", false)
def tyX9 : Nat → FieldType := fun k => match k with
  | _ => .int
abbrev wsX90 : List Cond := u_ws RX9 TX9 0
theorem tyX9_ok : ∀ k, k < 0 → parseFieldDescriptor (TX9 k).2.2.1 = some (tyX9 k) := by decide +kernel
abbrev cX9_init : ByteArray := prog_11_method_1_code
def yX9_init : MethodName := ⟨RX9, "<init>", "()V"⟩
abbrev cX9_sight : ByteArray := prog_11_method_2_code
def yX9_sight : MethodName := ⟨RX9, "sight", "(III)I"⟩
def RX10 : String := "GleanDusk"
def TX10 : u_T := fun k => match k with
  | 0 => ("GleanDusk", "kinds", "[LGleanDusk$Plain;", true)
  | 1 => ("GleanDusk", "now", "LGleanDusk$Parish;", true)
  | 2 => ("GleanDusk", "images", "[LGleanDusk$Parish;", true)
  | 3 => ("GleanDusk", "kept", "[Z", true)
  | 4 => ("GleanDusk", "text", "LGleanDusk$Text;", true)
  | 5 => ("GleanDusk", "trial", "LGleanDusk$Dusk;", true)
  | 6 => ("GleanDusk", "best", "LGleanDusk$Best;", true)
  | 7 => ("GleanDusk", "shown", "[I", true)
  | 8 => ("GleanDusk", "standing", "[I", true)
  | 9 => ("GleanDusk", "refused", "[I", true)
  | 10 => ("GleanDusk", "above", "I", false)
  | _ => ("GleanDusk", "below", "I", false)
def tyX10 : Nat → FieldType := fun k => match k with
  | 0 => .array (.object "GleanDusk$Plain")
  | 1 => .object "GleanDusk$Parish"
  | 2 => .array (.object "GleanDusk$Parish")
  | 3 => .array .boolean
  | 4 => .object "GleanDusk$Text"
  | 5 => .object "GleanDusk$Dusk"
  | 6 => .object "GleanDusk$Best"
  | 7 => .array .int
  | 8 => .array .int
  | 9 => .array .int
  | 10 => .int
  | _ => .int
abbrev wsX100 : List Cond := u_ws RX10 TX10 12
theorem nmX10 : ∀ a, a < 12 → ∀ b, b < 12 → a ≠ b → (TX10 a).2.1 ≠ (TX10 b).2.1 := by decide +kernel
theorem tyX10_ok : ∀ k, k < 12 → parseFieldDescriptor (TX10 k).2.2.1 = some (tyX10 k) := by decide +kernel
abbrev cX10_init : ByteArray := prog_1_method_1_code
def yX10_init : MethodName := ⟨RX10, "<init>", "()V"⟩
abbrev cX10_parish : ByteArray := prog_1_method_2_code
def yX10_parish : MethodName := ⟨RX10, "parish", "(I)I"⟩
abbrev cX10_field : ByteArray := prog_1_method_3_code
def yX10_field : MethodName := ⟨RX10, "field", "(II)I"⟩
abbrev cX10_gleaner : ByteArray := prog_1_method_4_code
def yX10_gleaner : MethodName := ⟨RX10, "gleaner", "(I)I"⟩
abbrev cX10_type : ByteArray := prog_1_method_5_code
def yX10_type : MethodName := ⟨RX10, "type", "(I)I"⟩
abbrev cX10_clear : ByteArray := prog_1_method_6_code
def yX10_clear : MethodName := ⟨RX10, "clear", "()I"⟩
abbrev cX10_read : ByteArray := prog_1_method_7_code
def yX10_read : MethodName := ⟨RX10, "read", "()I"⟩
abbrev cX10_glean : ByteArray := prog_1_method_8_code
def yX10_glean : MethodName := ⟨RX10, "glean", "(I)I"⟩
abbrev cX10_night : ByteArray := prog_1_method_9_code
def yX10_night : MethodName := ⟨RX10, "night", "()I"⟩
abbrev cX10_goes : ByteArray := prog_1_method_10_code
def yX10_goes : MethodName := ⟨RX10, "goes", "(II)I"⟩
abbrev cX10_cloud : ByteArray := prog_1_method_11_code
def yX10_cloud : MethodName := ⟨RX10, "cloud", "(I)I"⟩
abbrev cX10_undo : ByteArray := prog_1_method_12_code
def yX10_undo : MethodName := ⟨RX10, "undo", "()I"⟩
abbrev cX10_of : ByteArray := prog_1_method_13_code
def yX10_of : MethodName := ⟨RX10, "of", "(II)I"⟩
abbrev cX10_about : ByteArray := prog_1_method_14_code
def yX10_about : MethodName := ⟨RX10, "about", "(II)I"⟩
abbrev cX10_seen : ByteArray := prog_1_method_15_code
def yX10_seen : MethodName := ⟨RX10, "seen", "(II)I"⟩
abbrev cX10_then : ByteArray := prog_1_method_16_code
def yX10_then : MethodName := ⟨RX10, "then", "(II)I"⟩
abbrev cX10_round : ByteArray := prog_1_method_17_code
def yX10_round : MethodName := ⟨RX10, "round", "(III)I"⟩
abbrev cX10_places : ByteArray := prog_1_method_18_code
def yX10_places : MethodName := ⟨RX10, "places", "(II)I"⟩
abbrev cX10_which : ByteArray := prog_1_method_19_code
def yX10_which : MethodName := ⟨RX10, "which", "(I)I"⟩
abbrev cX10_lasts : ByteArray := prog_1_method_20_code
def yX10_lasts : MethodName := ⟨RX10, "lasts", "(II)I"⟩
abbrev cX10_enough : ByteArray := prog_1_method_21_code
def yX10_enough : MethodName := ⟨RX10, "enough", "(I)I"⟩
abbrev cX10_missed : ByteArray := prog_1_method_22_code
def yX10_missed : MethodName := ⟨RX10, "missed", "(IIII)I"⟩
abbrev cX10_clouds : ByteArray := prog_1_method_23_code
def yX10_clouds : MethodName := ⟨RX10, "clouds", "()I"⟩
abbrev cX10_note : ByteArray := prog_1_method_24_code
def yX10_note : MethodName := ⟨RX10, "note", "(IIIII)I"⟩
abbrev cX10_forget : ByteArray := prog_1_method_25_code
def yX10_forget : MethodName := ⟨RX10, "forget", "(I)I"⟩
abbrev cX10_is : ByteArray := prog_1_method_26_code
def yX10_is : MethodName := ⟨RX10, "is", "(I)I"⟩
abbrev cX10_look : ByteArray := prog_1_method_27_code
def yX10_look : MethodName := ⟨RX10, "look", "(I)I"⟩
abbrev cX10_two : ByteArray := prog_1_method_28_code
def yX10_two : MethodName := ⟨RX10, "two", "(III)I"⟩
abbrev cX10_rains : ByteArray := prog_1_method_29_code
def yX10_rains : MethodName := ⟨RX10, "rains", "(II)I"⟩
abbrev cX10_summers : ByteArray := prog_1_method_30_code
def yX10_summers : MethodName := ⟨RX10, "summers", "(II)I"⟩
abbrev cX10_part : ByteArray := prog_1_method_31_code
def yX10_part : MethodName := ⟨RX10, "part", "(I)J"⟩
abbrev cX10_image : ByteArray := prog_1_method_32_code
def yX10_image : MethodName := ⟨RX10, "image", "(I)I"⟩
abbrev cX10_from : ByteArray := prog_1_method_33_code
def yX10_from : MethodName := ⟨RX10, "from", "(I)I"⟩
abbrev cX10_status : ByteArray := prog_1_method_34_code
def yX10_status : MethodName := ⟨RX10, "status", "(I)I"⟩
abbrev cX10_count : ByteArray := prog_1_method_35_code
def yX10_count : MethodName := ⟨RX10, "count", "(I)I"⟩
abbrev cX10_digest : ByteArray := prog_1_method_36_code
def yX10_digest : MethodName := ⟨RX10, "digest", "()J"⟩
abbrev cX10_refuseBad : ByteArray := prog_1_method_37_code
def yX10_refuseBad : MethodName := ⟨RX10, "refuseBad", "()I"⟩
abbrev cX10_refuseNo : ByteArray := prog_1_method_38_code
def yX10_refuseNo : MethodName := ⟨RX10, "refuseNo", "()I"⟩
abbrev cX10_refuseFull : ByteArray := prog_1_method_39_code
def yX10_refuseFull : MethodName := ⟨RX10, "refuseFull", "()I"⟩
abbrev cX10_refuseTen : ByteArray := prog_1_method_40_code
def yX10_refuseTen : MethodName := ⟨RX10, "refuseTen", "()I"⟩
abbrev cX10_isIn : ByteArray := prog_1_method_41_code
def yX10_isIn : MethodName := ⟨RX10, "isIn", "(III)Z"⟩
abbrev cX10_isBelow : ByteArray := prog_1_method_42_code
def yX10_isBelow : MethodName := ⟨RX10, "isBelow", "(II)Z"⟩
abbrev cX10_isLight : ByteArray := prog_1_method_43_code
def yX10_isLight : MethodName := ⟨RX10, "isLight", "(I)Z"⟩
abbrev cX10_howMany : ByteArray := prog_1_method_44_code
def yX10_howMany : MethodName := ⟨RX10, "howMany", "(I)I"⟩
abbrev cX10_mix : ByteArray := prog_1_method_45_code
def yX10_mix : MethodName := ⟨RX10, "mix", "(JJ)J"⟩
abbrev cX10_mixRow : ByteArray := prog_1_method_46_code
def yX10_mixRow : MethodName := ⟨RX10, "mixRow", "(J[I)J"⟩
abbrev cX10_faded : ByteArray := prog_1_method_47_code
def yX10_faded : MethodName := ⟨RX10, "faded", "(I)I"⟩
abbrev cX10_commonDivisor : ByteArray := prog_1_method_48_code
def yX10_commonDivisor : MethodName := ⟨RX10, "commonDivisor", "(II)I"⟩
abbrev cX10_showAll : ByteArray := prog_1_method_49_code
def yX10_showAll : MethodName := ⟨RX10, "showAll", "(I)V"⟩
abbrev cX10_roam : ByteArray := prog_1_method_50_code
def yX10_roam : MethodName := ⟨RX10, "roam", "(IIII)V"⟩
abbrev cX10_stay : ByteArray := prog_1_method_51_code
def yX10_stay : MethodName := ⟨RX10, "stay", "(IIII)V"⟩
abbrev cX10_settle : ByteArray := prog_1_method_52_code
def yX10_settle : MethodName := ⟨RX10, "settle", "(III)V"⟩
abbrev cX10_allGet : ByteArray := prog_1_method_53_code
def yX10_allGet : MethodName := ⟨RX10, "allGet", "()I"⟩
abbrev cX10_poorestGets : ByteArray := prog_1_method_54_code
def yX10_poorestGets : MethodName := ⟨RX10, "poorestGets", "()I"⟩
abbrev cX10_mostAlike : ByteArray := prog_1_method_55_code
def yX10_mostAlike : MethodName := ⟨RX10, "mostAlike", "(IIII)I"⟩
abbrev cX10_staysPut : ByteArray := prog_1_method_56_code
def yX10_staysPut : MethodName := ⟨RX10, "staysPut", "(III)Z"⟩
abbrev cX10_worth : ByteArray := prog_1_method_57_code
def yX10_worth : MethodName := ⟨RX10, "worth", "(III)I"⟩
def RX11 : String := "GleanDuskModel"
def TX11 : u_T := fun k => match k with
  | 0 => ("GleanDuskModel", "told", "[I", true)
  | 1 => ("GleanDuskModel", "kept", "[I", true)
  | 2 => ("GleanDuskModel", "isKept", "[Z", true)
  | 3 => ("GleanDuskModel", "refused", "[I", true)
  | 4 => ("GleanDuskModel", "above", "J", false)
  | 5 => ("GleanDuskModel", "below", "J", false)
  | 6 => ("GleanDuskModel", "hand", "[I", true)
  | 7 => ("GleanDuskModel", "round0", "[I", true)
  | 8 => ("GleanDuskModel", "bestRound", "[I", true)
  | 9 => ("GleanDuskModel", "bestPlaces", "[I", true)
  | 10 => ("GleanDuskModel", "bytes", "[I", true)
  | 11 => ("GleanDuskModel", "bytesLong", "I", false)
  | 12 => ("GleanDuskModel", "tokenAt", "I", false)
  | 13 => ("GleanDuskModel", "tokenLong", "I", false)
  | 14 => ("GleanDuskModel", "token", "I", false)
  | 15 => ("GleanDuskModel", "value", "I", false)
  | 16 => ("GleanDuskModel", "anew", "[I", true)
  | _ => ("GleanDuskModel", "values", "[I", true)
def tyX11 : Nat → FieldType := fun k => match k with
  | 0 => .array .int
  | 1 => .array .int
  | 2 => .array .boolean
  | 3 => .array .int
  | 4 => .long
  | 5 => .long
  | 6 => .array .int
  | 7 => .array .int
  | 8 => .array .int
  | 9 => .array .int
  | 10 => .array .int
  | 11 => .int
  | 12 => .int
  | 13 => .int
  | 14 => .int
  | 15 => .int
  | 16 => .array .int
  | _ => .array .int
abbrev wsX110 : List Cond := u_ws RX11 TX11 18
theorem nmX11 : ∀ a, a < 18 → ∀ b, b < 18 → a ≠ b → (TX11 a).2.1 ≠ (TX11 b).2.1 := by decide +kernel
theorem tyX11_ok : ∀ k, k < 18 → parseFieldDescriptor (TX11 k).2.2.1 = some (tyX11 k) := by decide +kernel
abbrev cX11_init : ByteArray := prog_13_method_1_code
def yX11_init : MethodName := ⟨RX11, "<init>", "()V"⟩
abbrev cX11_in : ByteArray := prog_13_method_3_code
def yX11_in : MethodName := ⟨RX11, "in", "(JJJ)Z"⟩
abbrev cX11_bad : ByteArray := prog_13_method_4_code
def yX11_bad : MethodName := ⟨RX11, "bad", "(I)I"⟩
abbrev cX11_no : ByteArray := prog_13_method_5_code
def yX11_no : MethodName := ⟨RX11, "no", "()I"⟩
abbrev cX11_full : ByteArray := prog_13_method_6_code
def yX11_full : MethodName := ⟨RX11, "full", "()I"⟩
abbrev cX11_bits : ByteArray := prog_13_method_7_code
def yX11_bits : MethodName := ⟨RX11, "bits", "(I)I"⟩
abbrev cX11_has : ByteArray := prog_13_method_8_code
def yX11_has : MethodName := ⟨RX11, "has", "(II)Z"⟩
abbrev cX11_begin : ByteArray := prog_13_method_9_code
def yX11_begin : MethodName := ⟨RX11, "begin", "([II)V"⟩
abbrev cX11_many : ByteArray := prog_13_method_10_code
def yX11_many : MethodName := ⟨RX11, "many", "()I"⟩
abbrev cX11_manyGleaners : ByteArray := prog_13_method_11_code
def yX11_manyGleaners : MethodName := ⟨RX11, "manyGleaners", "()I"⟩
abbrev cX11_isField : ByteArray := prog_13_method_12_code
def yX11_isField : MethodName := ⟨RX11, "isField", "(I)Z"⟩
abbrev cX11_isGleaner : ByteArray := prog_13_method_13_code
def yX11_isGleaner : MethodName := ⟨RX11, "isGleaner", "(I)Z"⟩
abbrev cX11_isStep : ByteArray := prog_13_method_14_code
def yX11_isStep : MethodName := ⟨RX11, "isStep", "(I)Z"⟩
abbrev cX11_isCloud : ByteArray := prog_13_method_15_code
def yX11_isCloud : MethodName := ⟨RX11, "isCloud", "(I)Z"⟩
abbrev cX11_isLight : ByteArray := prog_13_method_16_code
def yX11_isLight : MethodName := ⟨RX11, "isLight", "(I)Z"⟩
abbrev cX11_parish : ByteArray := prog_13_method_17_code
def yX11_parish : MethodName := ⟨RX11, "parish", "(I)I"⟩
abbrev cX11_layField : ByteArray := prog_13_method_18_code
def yX11_layField : MethodName := ⟨RX11, "layField", "([III)V"⟩
abbrev cX11_field : ByteArray := prog_13_method_19_code
def yX11_field : MethodName := ⟨RX11, "field", "(II)I"⟩
abbrev cX11_layGleaner : ByteArray := prog_13_method_20_code
def yX11_layGleaner : MethodName := ⟨RX11, "layGleaner", "([II)V"⟩
abbrev cX11_gleaner : ByteArray := prog_13_method_21_code
def yX11_gleaner : MethodName := ⟨RX11, "gleaner", "(I)I"⟩
abbrev cX11_plainly : ByteArray := prog_13_method_22_code
def yX11_plainly : MethodName := ⟨RX11, "plainly", "(III)I"⟩
abbrev cX11_westerly : ByteArray := prog_13_method_23_code
def yX11_westerly : MethodName := ⟨RX11, "westerly", "(III)I"⟩
abbrev cX11_seenAs : ByteArray := prog_13_method_24_code
def yX11_seenAs : MethodName := ⟨RX11, "seenAs", "(IIII)I"⟩
abbrev cX11_layHand : ByteArray := prog_13_method_25_code
def yX11_layHand : MethodName := ⟨RX11, "layHand", "()V"⟩
abbrev cX11_seenOn : ByteArray := prog_13_method_26_code
def yX11_seenOn : MethodName := ⟨RX11, "seenOn", "([III)I"⟩
abbrev cX11_manyOn : ByteArray := prog_13_method_27_code
def yX11_manyOn : MethodName := ⟨RX11, "manyOn", "([II)I"⟩
abbrev cX11_getsOne : ByteArray := prog_13_method_28_code
def yX11_getsOne : MethodName := ⟨RX11, "getsOne", "([II)I"⟩
abbrev cX11_goStep : ByteArray := prog_13_method_29_code
def yX11_goStep : MethodName := ⟨RX11, "goStep", "([I)I"⟩
abbrev cX11_fadedBy : ByteArray := prog_13_method_30_code
def yX11_fadedBy : MethodName := ⟨RX11, "fadedBy", "(I)I"⟩
abbrev cX11_goNight : ByteArray := prog_13_method_31_code
def yX11_goNight : MethodName := ⟨RX11, "goNight", "([I)V"⟩
abbrev cX11_keep : ByteArray := prog_13_method_32_code
def yX11_keep : MethodName := ⟨RX11, "keep", "()V"⟩
abbrev cX11_glean : ByteArray := prog_13_method_33_code
def yX11_glean : MethodName := ⟨RX11, "glean", "(I)I"⟩
abbrev cX11_night : ByteArray := prog_13_method_34_code
def yX11_night : MethodName := ⟨RX11, "night", "()I"⟩
abbrev cX11_goes : ByteArray := prog_13_method_35_code
def yX11_goes : MethodName := ⟨RX11, "goes", "(II)I"⟩
abbrev cX11_cloud : ByteArray := prog_13_method_36_code
def yX11_cloud : MethodName := ⟨RX11, "cloud", "(I)I"⟩
abbrev cX11_undo : ByteArray := prog_13_method_37_code
def yX11_undo : MethodName := ⟨RX11, "undo", "()I"⟩
abbrev cX11_whoIsOn : ByteArray := prog_13_method_38_code
def yX11_whoIsOn : MethodName := ⟨RX11, "whoIsOn", "(I)I"⟩
abbrev cX11_of : ByteArray := prog_13_method_39_code
def yX11_of : MethodName := ⟨RX11, "of", "(II)I"⟩
abbrev cX11_about : ByteArray := prog_13_method_40_code
def yX11_about : MethodName := ⟨RX11, "about", "(II)I"⟩
abbrev cX11_seen : ByteArray := prog_13_method_41_code
def yX11_seen : MethodName := ⟨RX11, "seen", "(II)I"⟩
abbrev cX11_then : ByteArray := prog_13_method_42_code
def yX11_then : MethodName := ⟨RX11, "then", "(II)I"⟩
abbrev cX11_powerOfThree : ByteArray := prog_13_method_43_code
def yX11_powerOfThree : MethodName := ⟨RX11, "powerOfThree", "(I)I"⟩
abbrev cX11_roundBy : ByteArray := prog_13_method_44_code
def yX11_roundBy : MethodName := ⟨RX11, "roundBy", "(III)I"⟩
abbrev cX11_round : ByteArray := prog_13_method_45_code
def yX11_round : MethodName := ⟨RX11, "round", "(III)I"⟩
abbrev cX11_placesBy : ByteArray := prog_13_method_46_code
def yX11_placesBy : MethodName := ⟨RX11, "placesBy", "(II)I"⟩
abbrev cX11_places : ByteArray := prog_13_method_47_code
def yX11_places : MethodName := ⟨RX11, "places", "(II)I"⟩
abbrev cX11_which : ByteArray := prog_13_method_48_code
def yX11_which : MethodName := ⟨RX11, "which", "(I)I"⟩
abbrev cX11_lasts : ByteArray := prog_13_method_49_code
def yX11_lasts : MethodName := ⟨RX11, "lasts", "(II)I"⟩
abbrev cX11_enough : ByteArray := prog_13_method_50_code
def yX11_enough : MethodName := ⟨RX11, "enough", "(I)I"⟩
abbrev cX11_missed : ByteArray := prog_13_method_51_code
def yX11_missed : MethodName := ⟨RX11, "missed", "(IIII)I"⟩
abbrev cX11_clouds : ByteArray := prog_13_method_52_code
def yX11_clouds : MethodName := ⟨RX11, "clouds", "()I"⟩
abbrev cX11_note : ByteArray := prog_13_method_53_code
def yX11_note : MethodName := ⟨RX11, "note", "(IIIII)I"⟩
abbrev cX11_forget : ByteArray := prog_13_method_54_code
def yX11_forget : MethodName := ⟨RX11, "forget", "(I)I"⟩
abbrev cX11_kindsOf : ByteArray := prog_13_method_55_code
def yX11_kindsOf : MethodName := ⟨RX11, "kindsOf", "(I)I"⟩
abbrev cX11_is : ByteArray := prog_13_method_56_code
def yX11_is : MethodName := ⟨RX11, "is", "(I)I"⟩
abbrev cX11_look : ByteArray := prog_13_method_57_code
def yX11_look : MethodName := ⟨RX11, "look", "(I)I"⟩
abbrev cX11_distance : ByteArray := prog_13_method_58_code
def yX11_distance : MethodName := ⟨RX11, "distance", "(II)I"⟩
abbrev cX11_hasBy : ByteArray := prog_13_method_59_code
def yX11_hasBy : MethodName := ⟨RX11, "hasBy", "(III)I"⟩
abbrev cX11_rests : ByteArray := prog_13_method_60_code
def yX11_rests : MethodName := ⟨RX11, "rests", "(IIII)Z"⟩
abbrev cX11_two : ByteArray := prog_13_method_61_code
def yX11_two : MethodName := ⟨RX11, "two", "(III)I"⟩
abbrev cX11_fraction : ByteArray := prog_13_method_62_code
def yX11_fraction : MethodName := ⟨RX11, "fraction", "(JJ)V"⟩
abbrev cX11_rains : ByteArray := prog_13_method_63_code
def yX11_rains : MethodName := ⟨RX11, "rains", "(II)I"⟩
abbrev cX11_summers : ByteArray := prog_13_method_64_code
def yX11_summers : MethodName := ⟨RX11, "summers", "(II)I"⟩
abbrev cX11_type : ByteArray := prog_13_method_65_code
def yX11_type : MethodName := ⟨RX11, "type", "(I)I"⟩
abbrev cX11_clear : ByteArray := prog_13_method_66_code
def yX11_clear : MethodName := ⟨RX11, "clear", "()I"⟩
abbrev cX11_isSmall : ByteArray := prog_13_method_67_code
def yX11_isSmall : MethodName := ⟨RX11, "isSmall", "(I)Z"⟩
abbrev cX11_isFigure : ByteArray := prog_13_method_68_code
def yX11_isFigure : MethodName := ⟨RX11, "isFigure", "(I)Z"⟩
abbrev cX11_lookAt : ByteArray := prog_13_method_69_code
def yX11_lookAt : MethodName := ⟨RX11, "lookAt", "(I)V"⟩
abbrev cX11_goBehind : ByteArray := prog_13_method_70_code
def yX11_goBehind : MethodName := ⟨RX11, "goBehind", "()V"⟩
abbrev cX11_spells : ByteArray := prog_13_method_71_code
def yX11_spells : MethodName := ⟨RX11, "spells", "(IIIIIII)Z"⟩
abbrev cX11_takes : ByteArray := prog_13_method_72_code
def yX11_takes : MethodName := ⟨RX11, "takes", "(III)Z"⟩
abbrev cX11_takesParish : ByteArray := prog_13_method_73_code
def yX11_takesParish : MethodName := ⟨RX11, "takesParish", "()Z"⟩
abbrev cX11_takesField : ByteArray := prog_13_method_74_code
def yX11_takesField : MethodName := ⟨RX11, "takesField", "()Z"⟩
abbrev cX11_takesGleaner : ByteArray := prog_13_method_75_code
def yX11_takesGleaner : MethodName := ⟨RX11, "takesGleaner", "()Z"⟩
abbrev cX11_takesGlean : ByteArray := prog_13_method_76_code
def yX11_takesGlean : MethodName := ⟨RX11, "takesGlean", "()Z"⟩
abbrev cX11_isGleanerWord : ByteArray := prog_13_method_77_code
def yX11_isGleanerWord : MethodName := ⟨RX11, "isGleanerWord", "()Z"⟩
abbrev cX11_takesItem : ByteArray := prog_13_method_78_code
def yX11_takesItem : MethodName := ⟨RX11, "takesItem", "()Z"⟩
abbrev cX11_read : ByteArray := prog_13_method_79_code
def yX11_read : MethodName := ⟨RX11, "read", "()I"⟩
abbrev cX11_part : ByteArray := prog_13_method_80_code
def yX11_part : MethodName := ⟨RX11, "part", "(I)J"⟩
abbrev cX11_image : ByteArray := prog_13_method_81_code
def yX11_image : MethodName := ⟨RX11, "image", "(I)I"⟩
abbrev cX11_from : ByteArray := prog_13_method_82_code
def yX11_from : MethodName := ⟨RX11, "from", "(I)I"⟩
abbrev cX11_status : ByteArray := prog_13_method_83_code
def yX11_status : MethodName := ⟨RX11, "status", "(I)I"⟩
abbrev cX11_counted : ByteArray := prog_13_method_84_code
def yX11_counted : MethodName := ⟨RX11, "counted", "(I)I"⟩
abbrev cX11_count : ByteArray := prog_13_method_85_code
def yX11_count : MethodName := ⟨RX11, "count", "(I)I"⟩
abbrev cX11_sums : ByteArray := prog_13_method_86_code
def yX11_sums : MethodName := ⟨RX11, "sums", "(JII)J"⟩
abbrev cX11_digest : ByteArray := prog_13_method_87_code
def yX11_digest : MethodName := ⟨RX11, "digest", "()J"⟩
def RJ6 : String := "java/lang/Integer"
def TJ6 : u_T := fun k => match k with
  | _ => ("", "", "", false)
def tyJ6 : Nat → FieldType := fun k => match k with
  | _ => .int
abbrev wsJ60 : List Cond := u_ws RJ6 TJ6 0
abbrev cJ6_bitCount_0f7a4 : ByteArray := prog_14_method_49_code
def yJ6_bitCount_0f7a4 : MethodName := ⟨RJ6, "bitCount", "(I)I"⟩
def RJ9 : String := "java/lang/Math"
def TJ9 : u_T := fun k => match k with
  | _ => ("", "", "", false)
def tyJ9 : Nat → FieldType := fun k => match k with
  | _ => .int
abbrev wsJ90 : List Cond := u_ws RJ9 TJ9 0
abbrev cJ9_abs_0f7a4 : ByteArray := prog_15_method_59_code
def yJ9_abs_0f7a4 : MethodName := ⟨RJ9, "abs", "(I)I"⟩
abbrev cJ9_max_7cf53 : ByteArray := prog_15_method_65_code
def yJ9_max_7cf53 : MethodName := ⟨RJ9, "max", "(II)I"⟩
abbrev cJ9_min_7cf53 : ByteArray := prog_15_method_69_code
def yJ9_min_7cf53 : MethodName := ⟨RJ9, "min", "(II)I"⟩
def RJ0 : String := "java/lang/String"
def TJ0 : u_T := fun k => match k with
  | _ => ("", "", "", false)
def tyJ0 : Nat → FieldType := fun k => match k with
  | _ => .int
abbrev wsJ00 : List Cond := u_ws RJ0 TJ0 0
abbrev cJ0_length_8abf5 : ByteArray := prog_16_method_54_code
def yJ0_length_8abf5 : MethodName := ⟨RJ0, "length", "()I"⟩
abbrev cJ0_charAt_5068e : ByteArray := prog_16_method_56_code
def yJ0_charAt_5068e : MethodName := ⟨RJ0, "charAt", "(I)C"⟩
abbrev cJ0_coder_7d493 : ByteArray := prog_16_method_152_code
def yJ0_coder_7d493 : MethodName := ⟨RJ0, "coder", "()B"⟩
abbrev cJ0_isLatin1_aae02 : ByteArray := prog_16_method_154_code
def yJ0_isLatin1_aae02 : MethodName := ⟨RJ0, "isLatin1", "()Z"⟩
abbrev cJ0_checkIndex_df160 : ByteArray := prog_16_method_155_code
def yJ0_checkIndex_df160 : MethodName := ⟨RJ0, "checkIndex", "(II)V"⟩
def RJ1 : String := "java/lang/StringLatin1"
def TJ1 : u_T := fun k => match k with
  | _ => ("", "", "", false)
def tyJ1 : Nat → FieldType := fun k => match k with
  | _ => .int
abbrev wsJ10 : List Cond := u_ws RJ1 TJ1 0
abbrev cJ1_charAt_3b067 : ByteArray := prog_17_method_2_code
def yJ1_charAt_3b067 : MethodName := ⟨RJ1, "charAt", "([BI)C"⟩
def RJ2 : String := "java/lang/StringUTF16"
def TJ2 : u_T := fun k => match k with
  | _ => ("", "", "", false)
def tyJ2 : Nat → FieldType := fun k => match k with
  | _ => .int
abbrev wsJ20 : List Cond := u_ws RJ2 TJ2 0
abbrev cJ2_getChar_3b067 : ByteArray := prog_18_method_5_code
def yJ2_getChar_3b067 : MethodName := ⟨RJ2, "getChar", "([BI)C"⟩
abbrev cJ2_length_9d52b : ByteArray := prog_18_method_6_code
def yJ2_length_9d52b : MethodName := ⟨RJ2, "length", "([B)I"⟩
abbrev cJ2_charAt_3b067 : ByteArray := prog_18_method_83_code
def yJ2_charAt_3b067 : MethodName := ⟨RJ2, "charAt", "([BI)C"⟩
abbrev cJ2_checkIndex_2214a : ByteArray := prog_18_method_91_code
def yJ2_checkIndex_2214a : MethodName := ⟨RJ2, "checkIndex", "(I[B)V"⟩
def RJ10 : String := "java/lang/System"
def TJ10 : u_T := fun k => match k with
  | _ => ("", "", "", false)
def tyJ10 : Nat → FieldType := fun k => match k with
  | _ => .int
abbrev wsJ100 : List Cond := u_ws RJ10 TJ10 0
def RJ3 : String := "jdk/internal/util/Preconditions"
def TJ3 : u_T := fun k => match k with
  | _ => ("", "", "", false)
def tyJ3 : Nat → FieldType := fun k => match k with
  | _ => .int
abbrev wsJ30 : List Cond := u_ws RJ3 TJ3 0
abbrev cJ3_checkIndex_8e157 : ByteArray := prog_20_method_11_code
def yJ3_checkIndex_8e157 : MethodName := ⟨RJ3, "checkIndex", "(IILjava/util/function/BiFunction;)I"⟩
def RL : String := "GleanDuskLaw"
abbrev cL_law : ByteArray := code
def yL_law : MethodName := ⟨RL, "law", "([I)Z"⟩
def wsX0_init : List Cond := .code yX0_init cX0_init 1 none :: ([.methodLink RX0 3 objectInit, .instanceMethod objectInit, .code objectInit ⟨#[0xb1]⟩ 1 none, .arrayClass .int, .fieldLink RX0 9 "GleanDusk$Best" "row" "[I", .fieldLink RX0 15 "GleanDusk$Best" "first" "[I"] ++ wsX00)
def wsX0_begin : List Cond := .code yX0_begin cX0_begin 1 none :: ([.fieldLink RX0 18 "GleanDusk$Best" "most" "I"] ++ wsX00)
def wsX0_offer : List Cond := .code yX0_offer cX0_offer 3 none :: ([.fieldLink RX0 18 "GleanDusk$Best" "most" "I", .fieldLink RX0 9 "GleanDusk$Best" "row" "[I", .fieldLink RX0 15 "GleanDusk$Best" "first" "[I", .methodLink RX0 22 Lib.Math.min.name, .static Lib.Math.min.name, .initialized "java/lang/Math", .code Lib.Math.min.name Lib.Math.min.code 2 (some .int), .methodLink RX0 28 arraycopyName, .native arraycopyName, .static arraycopyName, .initialized "java/lang/System"] ++ wsX00)
def wsX1_init : List Cond := .code yX1_init cX1_init 1 none :: ([.methodLink RX1 3 objectInit, .instanceMethod objectInit, .code objectInit ⟨#[0xb1]⟩ 1 none, .arrayClass .int, .fieldLink RX1 9 "GleanDusk$Dusk" "light" "[I", .fieldLink RX1 15 "GleanDusk$Dusk" "at" "[I", .fieldLink RX1 18 "GleanDusk$Dusk" "store" "[I"] ++ wsX10)
def wsX1_become : List Cond := .code yX1_become cX1_become 2 none :: ([.fieldLink RX1 9 "GleanDusk$Dusk" "light" "[I", .methodLink RX1 21 arraycopyName, .native arraycopyName, .static arraycopyName, .initialized "java/lang/System", .fieldLink RX1 15 "GleanDusk$Dusk" "at" "[I", .fieldLink RX1 18 "GleanDusk$Dusk" "store" "[I", .fieldLink RX1 27 "GleanDusk$Dusk" "step" "I", .fieldLink RX1 31 "GleanDusk$Dusk" "cloud" "I", .fieldLink RX1 34 "GleanDusk$Dusk" "number" "I"] ++ wsX10)
def wsX5_init : List Cond := .code yX5_init cX5_init 1 none :: ([.methodLink RX5 1 objectInit, .instanceMethod objectInit, .code objectInit ⟨#[0xb1]⟩ 1 none])
def wsX8_init : List Cond := .code yX8_init cX8_init 1 none :: ([.instanceMethod yX5_init, .initialized RX5, .code yX5_init cX5_init 1 none, .methodLink RX5 1 objectInit, .instanceMethod objectInit, .code objectInit ⟨#[0xb1]⟩ 1 none])
def wsX2_init : List Cond := .code yX2_init cX2_init 1 none :: ([.instanceMethod yX8_init, .initialized RX8, .code yX8_init cX8_init 1 none, .instanceMethod yX5_init, .initialized RX5, .code yX5_init cX5_init 1 none, .methodLink RX5 1 objectInit, .instanceMethod objectInit, .code objectInit ⟨#[0xb1]⟩ 1 none])
def wsX5_sight : List Cond := .code yX5_sight cX5_sight 4 (some .int) :: ([.methodLink RX5 7 Lib.Math.max.name, .static Lib.Math.max.name, .initialized "java/lang/Math", .code Lib.Math.max.name Lib.Math.max.code 2 (some .int)])
def wsX8_sight : List Cond := .code yX8_sight cX8_sight 5 (some .int) :: ([.methodLink RX8 7 yX5_sight, .sameMethod "GleanDusk$Plain" "GleanDusk$Plain" "sight" "(III)I", .superclass RX8 RX5, .instanceMethod yX5_sight, .initialized RX5, .code yX5_sight cX5_sight 4 (some .int), .methodLink RX5 7 Lib.Math.max.name, .static Lib.Math.max.name, .initialized "java/lang/Math", .code Lib.Math.max.name Lib.Math.max.code 2 (some .int)])
def wsX2_sight : List Cond := .code yX2_sight cX2_sight 4 (some .int) :: ([.methodLink RX2 7 Lib.Math.max.name, .static Lib.Math.max.name, .initialized "java/lang/Math", .code Lib.Math.max.name Lib.Math.max.code 2 (some .int), .methodLink RX2 13 yX8_sight, .sameMethod "GleanDusk$West" "GleanDusk$West" "sight" "(III)I", .superclass RX2 RX8, .instanceMethod yX8_sight, .initialized RX8, .code yX8_sight cX8_sight 5 (some .int), .methodLink RX8 7 yX5_sight, .sameMethod "GleanDusk$Plain" "GleanDusk$Plain" "sight" "(III)I", .superclass RX8 RX5, .instanceMethod yX5_sight, .initialized RX5, .code yX5_sight cX5_sight 4 (some .int), .methodLink RX5 7 Lib.Math.max.name])
def wsX9_init : List Cond := .code yX9_init cX9_init 1 none :: ([.instanceMethod yX5_init, .initialized RX5, .code yX5_init cX5_init 1 none, .methodLink RX5 1 objectInit, .instanceMethod objectInit, .code objectInit ⟨#[0xb1]⟩ 1 none])
def wsX3_init : List Cond := .code yX3_init cX3_init 1 none :: ([.instanceMethod yX9_init, .initialized RX9, .code yX9_init cX9_init 1 none, .instanceMethod yX5_init, .initialized RX5, .code yX5_init cX5_init 1 none, .methodLink RX5 1 objectInit, .instanceMethod objectInit, .code objectInit ⟨#[0xb1]⟩ 1 none])
def wsX9_sight : List Cond := .code yX9_sight cX9_sight 4 (some .int) :: ([.methodLink RX9 7 yX5_sight, .sameMethod "GleanDusk$Plain" "GleanDusk$Plain" "sight" "(III)I", .superclass RX9 RX5, .instanceMethod yX5_sight, .initialized RX5, .code yX5_sight cX5_sight 4 (some .int), .methodLink RX5 7 Lib.Math.max.name, .static Lib.Math.max.name, .initialized "java/lang/Math", .code Lib.Math.max.name Lib.Math.max.code 2 (some .int)])
def wsX3_sight : List Cond := .code yX3_sight cX3_sight 4 (some .int) :: ([.methodLink RX3 7 yX9_sight, .sameMethod "GleanDusk$Wood" "GleanDusk$Wood" "sight" "(III)I", .superclass RX3 RX9, .instanceMethod yX9_sight, .initialized RX9, .code yX9_sight cX9_sight 4 (some .int), .methodLink RX9 7 yX5_sight, .sameMethod "GleanDusk$Plain" "GleanDusk$Plain" "sight" "(III)I", .superclass RX9 RX5, .instanceMethod yX5_sight, .initialized RX5, .code yX5_sight cX5_sight 4 (some .int), .methodLink RX5 7 Lib.Math.max.name, .static Lib.Math.max.name, .initialized "java/lang/Math", .code Lib.Math.max.name Lib.Math.max.code 2 (some .int)])
def wsX4_init : List Cond := .code yX4_init cX4_init 3 none :: ([.methodLink RX4 3 objectInit, .instanceMethod objectInit, .code objectInit ⟨#[0xb1]⟩ 1 none, .arrayClass .int, .fieldLink RX4 9 "GleanDusk$Parish" "kind" "[I", .classLink RX4 15 RX1, .instantiable RX1 6, .initialized RX1, .fieldLink RX4 18 "GleanDusk$Parish" "dusk" "LGleanDusk$Dusk;", .fieldLink RX4 22 "GleanDusk$Parish" "earlier" "[LGleanDusk$Dusk;", .classLink RX4 26 "[[I", .fieldLink RX4 28 "GleanDusk$Parish" "missed" "[[I", .fieldLink RX4 31 "GleanDusk$Parish" "notes" "[[I", .fieldLink RX4 34 "GleanDusk$Parish" "kinds" "[LGleanDusk$Plain;", .instanceMethod yX1_init, .code yX1_init cX1_init 1 none, .methodLink RX1 3 objectInit, .fieldLink RX1 9 "GleanDusk$Dusk" "light" "[I", .fieldLink RX1 15 "GleanDusk$Dusk" "at" "[I", .fieldLink RX1 18 "GleanDusk$Dusk" "store" "[I"] ++ wsX40 ++ wsX10)
def wsX4_begin : List Cond := .code yX4_begin cX4_begin 2 none :: ([.fieldLink RX4 38 "GleanDusk$Parish" "fields" "I", .fieldLink RX4 42 "GleanDusk$Parish" "gleaners" "I", .fieldLink RX4 45 "GleanDusk$Parish" "undoable" "I", .fieldLink RX4 48 "GleanDusk$Parish" "missedCount" "I", .fieldLink RX4 51 "GleanDusk$Parish" "noteCount" "I", .fieldLink RX4 18 "GleanDusk$Parish" "dusk" "LGleanDusk$Dusk;", .fieldLink RX4 54 "GleanDusk$Dusk" "step" "I", .fieldLink RX4 57 "GleanDusk$Dusk" "cloud" "I", .fieldLink RX4 60 "GleanDusk$Dusk" "number" "I"] ++ wsX40 ++ wsX10)
def wsX4_become_r1 : List Cond := [Cond.fieldLink RX4 9 "GleanDusk$Parish" "kind" "[I", Cond.methodLink RX4 63 arraycopyName, Cond.native arraycopyName, Cond.static arraycopyName, Cond.initialized "java/lang/System", Cond.fieldLink RX4 18 "GleanDusk$Parish" "dusk" "LGleanDusk$Dusk;", Cond.fieldLink RX4 45 "GleanDusk$Parish" "undoable" "I", Cond.fieldLink RX4 22 "GleanDusk$Parish" "earlier" "[LGleanDusk$Dusk;", Cond.fieldLink RX4 48 "GleanDusk$Parish" "missedCount" "I", Cond.fieldLink RX4 28 "GleanDusk$Parish" "missed" "[[I", Cond.fieldLink RX4 51 "GleanDusk$Parish" "noteCount" "I", Cond.fieldLink RX4 31 "GleanDusk$Parish" "notes" "[[I", Cond.fieldLink RX4 38 "GleanDusk$Parish" "fields" "I", Cond.fieldLink RX4 42 "GleanDusk$Parish" "gleaners" "I", Cond.methodLink RX4 69 yX1_become, Cond.instanceMethod yX1_become, Cond.selects RX1 yX1_become yX1_become, Cond.initialized RX1, Cond.code yX1_become cX1_become 2 none, Cond.fieldLink RX1 9 "GleanDusk$Dusk" "light" "[I", Cond.methodLink RX1 21 arraycopyName, Cond.fieldLink RX1 15 "GleanDusk$Dusk" "at" "[I", Cond.fieldLink RX1 18 "GleanDusk$Dusk" "store" "[I", Cond.fieldLink RX1 27 "GleanDusk$Dusk" "step" "I"]
def wsX4_become_r2 : List Cond := [Cond.fieldLink RX1 31 "GleanDusk$Dusk" "cloud" "I", Cond.fieldLink RX1 34 "GleanDusk$Dusk" "number" "I"]
def wsX4_become : List Cond := .code yX4_become cX4_become 3 none :: ((wsX4_become_r1 ++ wsX4_become_r2) ++ wsX40 ++ wsX10)
def wsX10_isBelow : List Cond := .code yX10_isBelow cX10_isBelow 2 (some .boolean) :: ([])
def wsX4_hasField : List Cond := .code yX4_hasField cX4_hasField 2 (some .boolean) :: ([.fieldLink RX4 38 "GleanDusk$Parish" "fields" "I", .static yX10_isBelow, .initialized RX10, .code yX10_isBelow cX10_isBelow 2 (some .boolean)] ++ wsX40)
def wsX4_hasGleaner : List Cond := .code yX4_hasGleaner cX4_hasGleaner 2 (some .boolean) :: ([.fieldLink RX4 42 "GleanDusk$Parish" "gleaners" "I", .static yX10_isBelow, .initialized RX10, .code yX10_isBelow cX10_isBelow 2 (some .boolean)] ++ wsX40)
def wsX4_addField : List Cond := .code yX4_addField cX4_addField 3 (some .int) :: ([.fieldLink RX4 9 "GleanDusk$Parish" "kind" "[I", .fieldLink RX4 38 "GleanDusk$Parish" "fields" "I", .fieldLink RX4 18 "GleanDusk$Parish" "dusk" "LGleanDusk$Dusk;", .fieldLink RX4 77 "GleanDusk$Dusk" "light" "[I", .fieldLink RX4 45 "GleanDusk$Parish" "undoable" "I"] ++ wsX40 ++ wsX10)
def wsX4_addGleaner : List Cond := .code yX4_addGleaner cX4_addGleaner 2 (some .int) :: ([.fieldLink RX4 18 "GleanDusk$Parish" "dusk" "LGleanDusk$Dusk;", .fieldLink RX4 80 "GleanDusk$Dusk" "at" "[I", .fieldLink RX4 42 "GleanDusk$Parish" "gleaners" "I", .fieldLink RX4 83 "GleanDusk$Dusk" "store" "[I", .fieldLink RX4 45 "GleanDusk$Parish" "undoable" "I"] ++ wsX40 ++ wsX10)
def wsX4_addMissed : List Cond := .code yX4_addMissed cX4_addMissed 6 (some .int) :: ([.fieldLink RX4 28 "GleanDusk$Parish" "missed" "[[I", .fieldLink RX4 48 "GleanDusk$Parish" "missedCount" "I"] ++ wsX40)
def wsX4_addNote : List Cond := .code yX4_addNote cX4_addNote 7 (some .int) :: ([.fieldLink RX4 31 "GleanDusk$Parish" "notes" "[[I", .fieldLink RX4 51 "GleanDusk$Parish" "noteCount" "I"] ++ wsX40)
def wsX4_dropOldest : List Cond := .code yX4_dropOldest cX4_dropOldest 3 none :: ([.fieldLink RX4 22 "GleanDusk$Parish" "earlier" "[LGleanDusk$Dusk;", .fieldLink RX4 45 "GleanDusk$Parish" "undoable" "I"] ++ wsX40)
def wsX4_remember : List Cond := .code yX4_remember cX4_remember 1 none :: ([.fieldLink RX4 45 "GleanDusk$Parish" "undoable" "I", .fieldLink RX4 22 "GleanDusk$Parish" "earlier" "[LGleanDusk$Dusk;", .fieldLink RX4 18 "GleanDusk$Parish" "dusk" "LGleanDusk$Dusk;", .methodLink RX4 86 yX4_dropOldest, .instanceMethod yX4_dropOldest, .selects RX4 yX4_dropOldest yX4_dropOldest, .initialized RX4, .code yX4_dropOldest cX4_dropOldest 3 none, .methodLink RX4 69 yX1_become, .instanceMethod yX1_become, .selects RX1 yX1_become yX1_become, .initialized RX1, .code yX1_become cX1_become 2 none, .fieldLink RX1 9 "GleanDusk$Dusk" "light" "[I", .methodLink RX1 21 arraycopyName, .native arraycopyName, .static arraycopyName, .initialized "java/lang/System", .fieldLink RX1 15 "GleanDusk$Dusk" "at" "[I", .fieldLink RX1 18 "GleanDusk$Dusk" "store" "[I", .fieldLink RX1 27 "GleanDusk$Dusk" "step" "I", .fieldLink RX1 31 "GleanDusk$Dusk" "cloud" "I", .fieldLink RX1 34 "GleanDusk$Dusk" "number" "I"] ++ wsX40 ++ wsX10)
def wsX4_goBack : List Cond := .code yX4_goBack cX4_goBack 1 none :: ([.fieldLink RX4 45 "GleanDusk$Parish" "undoable" "I", .fieldLink RX4 18 "GleanDusk$Parish" "dusk" "LGleanDusk$Dusk;", .fieldLink RX4 22 "GleanDusk$Parish" "earlier" "[LGleanDusk$Dusk;", .methodLink RX4 69 yX1_become, .instanceMethod yX1_become, .selects RX1 yX1_become yX1_become, .initialized RX1, .code yX1_become cX1_become 2 none, .fieldLink RX1 9 "GleanDusk$Dusk" "light" "[I", .methodLink RX1 21 arraycopyName, .native arraycopyName, .static arraycopyName, .initialized "java/lang/System", .fieldLink RX1 15 "GleanDusk$Dusk" "at" "[I", .fieldLink RX1 18 "GleanDusk$Dusk" "store" "[I", .fieldLink RX1 27 "GleanDusk$Dusk" "step" "I", .fieldLink RX1 31 "GleanDusk$Dusk" "cloud" "I", .fieldLink RX1 34 "GleanDusk$Dusk" "number" "I"] ++ wsX40 ++ wsX10)
def wsX6_sight : List Cond := .code yX6_sight cX6_sight 4 (some .int) :: ([.methodLink RX6 11 Lib.Math.min.name, .static Lib.Math.min.name, .initialized "java/lang/Math", .code Lib.Math.min.name Lib.Math.min.code 2 (some .int), .methodLink RX6 7 yX5_sight, .sameMethod "GleanDusk$Plain" "GleanDusk$Plain" "sight" "(III)I", .superclass RX6 RX5, .instanceMethod yX5_sight, .initialized RX5, .code yX5_sight cX5_sight 4 (some .int), .methodLink RX5 7 Lib.Math.max.name, .static Lib.Math.max.name, .code Lib.Math.max.name Lib.Math.max.code 2 (some .int)])
def wsX4_shows_r1 : List Cond := [Cond.fieldLink RX4 34 "GleanDusk$Parish" "kinds" "[LGleanDusk$Plain;", Cond.fieldLink RX4 9 "GleanDusk$Parish" "kind" "[I", Cond.fieldLink RX4 77 "GleanDusk$Dusk" "light" "[I", Cond.fieldLink RX4 57 "GleanDusk$Dusk" "cloud" "I", Cond.methodLink RX4 89 ⟨"GleanDusk$Plain", "sight", "(III)I"⟩, Cond.sameMethod "GleanDusk$Plain" "GleanDusk$Plain" "sight" "(III)I", Cond.instanceMethod ⟨"GleanDusk$Plain", "sight", "(III)I"⟩, Cond.selects RX2 ⟨"GleanDusk$Plain", "sight", "(III)I"⟩ yX2_sight, Cond.instanceMethod yX2_sight, Cond.initialized RX2, Cond.code yX2_sight cX2_sight 4 (some .int), Cond.methodLink RX2 7 Lib.Math.max.name, Cond.static Lib.Math.max.name, Cond.initialized "java/lang/Math", Cond.code Lib.Math.max.name Lib.Math.max.code 2 (some .int), Cond.methodLink RX2 13 yX8_sight, Cond.sameMethod "GleanDusk$West" "GleanDusk$West" "sight" "(III)I", Cond.superclass RX2 RX8, Cond.instanceMethod yX8_sight, Cond.initialized RX8, Cond.code yX8_sight cX8_sight 5 (some .int), Cond.methodLink RX8 7 yX5_sight, Cond.superclass RX8 RX5, Cond.instanceMethod yX5_sight]
def wsX4_shows_r2 : List Cond := [Cond.initialized RX5, Cond.code yX5_sight cX5_sight 4 (some .int), Cond.methodLink RX5 7 Lib.Math.max.name, Cond.selects RX3 ⟨"GleanDusk$Plain", "sight", "(III)I"⟩ yX3_sight, Cond.instanceMethod yX3_sight, Cond.initialized RX3, Cond.code yX3_sight cX3_sight 4 (some .int), Cond.methodLink RX3 7 yX9_sight, Cond.sameMethod "GleanDusk$Wood" "GleanDusk$Wood" "sight" "(III)I", Cond.superclass RX3 RX9, Cond.instanceMethod yX9_sight, Cond.initialized RX9, Cond.code yX9_sight cX9_sight 4 (some .int), Cond.methodLink RX9 7 yX5_sight, Cond.superclass RX9 RX5, Cond.methodLink RX4 89 yX5_sight, Cond.selects RX5 yX5_sight yX5_sight, Cond.selects RX6 ⟨"GleanDusk$Plain", "sight", "(III)I"⟩ yX6_sight, Cond.instanceMethod yX6_sight, Cond.initialized RX6, Cond.code yX6_sight cX6_sight 4 (some .int), Cond.methodLink RX6 11 Lib.Math.min.name, Cond.static Lib.Math.min.name, Cond.code Lib.Math.min.name Lib.Math.min.code 2 (some .int)]
def wsX4_shows_r3 : List Cond := [Cond.methodLink RX6 7 yX5_sight, Cond.superclass RX6 RX5, Cond.selects RX8 ⟨"GleanDusk$Plain", "sight", "(III)I"⟩ yX8_sight, Cond.selects RX9 ⟨"GleanDusk$Plain", "sight", "(III)I"⟩ yX9_sight]
def wsX4_shows : List Cond := .code yX4_shows cX4_shows 4 (some .int) :: ((wsX4_shows_r1 ++ (wsX4_shows_r2 ++ wsX4_shows_r3)) ++ wsX40 ++ wsX10)
def wsX4_crowd : List Cond := .code yX4_crowd cX4_crowd 5 (some .int) :: ([.fieldLink RX4 42 "GleanDusk$Parish" "gleaners" "I", .fieldLink RX4 80 "GleanDusk$Dusk" "at" "[I"] ++ wsX40 ++ wsX10)
def wsX4_share_r1 : List Cond := [Cond.fieldLink RX4 54 "GleanDusk$Dusk" "step" "I", Cond.methodLink RX4 95 yX4_crowd, Cond.instanceMethod yX4_crowd, Cond.selects RX4 yX4_crowd yX4_crowd, Cond.initialized RX4, Cond.code yX4_crowd cX4_crowd 5 (some .int), Cond.fieldLink RX4 42 "GleanDusk$Parish" "gleaners" "I", Cond.fieldLink RX4 80 "GleanDusk$Dusk" "at" "[I", Cond.methodLink RX4 99 yX4_shows, Cond.instanceMethod yX4_shows, Cond.selects RX4 yX4_shows yX4_shows, Cond.code yX4_shows cX4_shows 4 (some .int), Cond.fieldLink RX4 34 "GleanDusk$Parish" "kinds" "[LGleanDusk$Plain;", Cond.fieldLink RX4 9 "GleanDusk$Parish" "kind" "[I", Cond.fieldLink RX4 77 "GleanDusk$Dusk" "light" "[I", Cond.fieldLink RX4 57 "GleanDusk$Dusk" "cloud" "I", Cond.methodLink RX4 89 ⟨"GleanDusk$Plain", "sight", "(III)I"⟩, Cond.sameMethod "GleanDusk$Plain" "GleanDusk$Plain" "sight" "(III)I", Cond.instanceMethod ⟨"GleanDusk$Plain", "sight", "(III)I"⟩, Cond.selects RX2 ⟨"GleanDusk$Plain", "sight", "(III)I"⟩ yX2_sight, Cond.instanceMethod yX2_sight, Cond.initialized RX2, Cond.code yX2_sight cX2_sight 4 (some .int), Cond.methodLink RX2 7 Lib.Math.max.name]
def wsX4_share_r2 : List Cond := [Cond.static Lib.Math.max.name, Cond.initialized "java/lang/Math", Cond.code Lib.Math.max.name Lib.Math.max.code 2 (some .int), Cond.methodLink RX2 13 yX8_sight, Cond.sameMethod "GleanDusk$West" "GleanDusk$West" "sight" "(III)I", Cond.superclass RX2 RX8, Cond.instanceMethod yX8_sight, Cond.initialized RX8, Cond.code yX8_sight cX8_sight 5 (some .int), Cond.methodLink RX8 7 yX5_sight, Cond.superclass RX8 RX5, Cond.instanceMethod yX5_sight, Cond.initialized RX5, Cond.code yX5_sight cX5_sight 4 (some .int), Cond.methodLink RX5 7 Lib.Math.max.name, Cond.selects RX3 ⟨"GleanDusk$Plain", "sight", "(III)I"⟩ yX3_sight, Cond.instanceMethod yX3_sight, Cond.initialized RX3, Cond.code yX3_sight cX3_sight 4 (some .int), Cond.methodLink RX3 7 yX9_sight, Cond.sameMethod "GleanDusk$Wood" "GleanDusk$Wood" "sight" "(III)I", Cond.superclass RX3 RX9, Cond.instanceMethod yX9_sight, Cond.initialized RX9]
def wsX4_share_r3 : List Cond := [Cond.code yX9_sight cX9_sight 4 (some .int), Cond.methodLink RX9 7 yX5_sight, Cond.superclass RX9 RX5, Cond.methodLink RX4 89 yX5_sight, Cond.selects RX5 yX5_sight yX5_sight, Cond.selects RX6 ⟨"GleanDusk$Plain", "sight", "(III)I"⟩ yX6_sight, Cond.instanceMethod yX6_sight, Cond.initialized RX6, Cond.code yX6_sight cX6_sight 4 (some .int), Cond.methodLink RX6 11 Lib.Math.min.name, Cond.static Lib.Math.min.name, Cond.code Lib.Math.min.name Lib.Math.min.code 2 (some .int), Cond.methodLink RX6 7 yX5_sight, Cond.superclass RX6 RX5, Cond.selects RX8 ⟨"GleanDusk$Plain", "sight", "(III)I"⟩ yX8_sight, Cond.selects RX9 ⟨"GleanDusk$Plain", "sight", "(III)I"⟩ yX9_sight]
def wsX4_share : List Cond := .code yX4_share cX4_share 4 (some .int) :: ((wsX4_share_r1 ++ (wsX4_share_r2 ++ wsX4_share_r3)) ++ wsX10 ++ wsX40)
def wsX4_give : List Cond := .code yX4_give cX4_give 6 (some .int) :: ([.fieldLink RX4 42 "GleanDusk$Parish" "gleaners" "I", .fieldLink RX4 80 "GleanDusk$Dusk" "at" "[I", .fieldLink RX4 83 "GleanDusk$Dusk" "store" "[I", .methodLink RX4 109 Lib.Math.min.name, .static Lib.Math.min.name, .initialized "java/lang/Math", .code Lib.Math.min.name Lib.Math.min.code 2 (some .int), .fieldLink RX4 77 "GleanDusk$Dusk" "light" "[I", .methodLink RX4 115 Lib.Math.max.name, .static Lib.Math.max.name, .code Lib.Math.max.name Lib.Math.max.code 2 (some .int)] ++ wsX40 ++ wsX10)
def wsX4_gather_r1 : List Cond := [Cond.fieldLink RX4 38 "GleanDusk$Parish" "fields" "I", Cond.fieldLink RX4 54 "GleanDusk$Dusk" "step" "I", Cond.methodLink RX4 103 yX4_share, Cond.instanceMethod yX4_share, Cond.selects RX4 yX4_share yX4_share, Cond.initialized RX4, Cond.code yX4_share cX4_share 4 (some .int), Cond.methodLink RX4 95 yX4_crowd, Cond.instanceMethod yX4_crowd, Cond.selects RX4 yX4_crowd yX4_crowd, Cond.code yX4_crowd cX4_crowd 5 (some .int), Cond.fieldLink RX4 42 "GleanDusk$Parish" "gleaners" "I", Cond.fieldLink RX4 80 "GleanDusk$Dusk" "at" "[I", Cond.methodLink RX4 99 yX4_shows, Cond.instanceMethod yX4_shows, Cond.selects RX4 yX4_shows yX4_shows, Cond.code yX4_shows cX4_shows 4 (some .int), Cond.fieldLink RX4 34 "GleanDusk$Parish" "kinds" "[LGleanDusk$Plain;", Cond.fieldLink RX4 9 "GleanDusk$Parish" "kind" "[I", Cond.fieldLink RX4 77 "GleanDusk$Dusk" "light" "[I", Cond.fieldLink RX4 57 "GleanDusk$Dusk" "cloud" "I", Cond.methodLink RX4 89 ⟨"GleanDusk$Plain", "sight", "(III)I"⟩, Cond.sameMethod "GleanDusk$Plain" "GleanDusk$Plain" "sight" "(III)I", Cond.instanceMethod ⟨"GleanDusk$Plain", "sight", "(III)I"⟩]
def wsX4_gather_r2 : List Cond := [Cond.selects RX2 ⟨"GleanDusk$Plain", "sight", "(III)I"⟩ yX2_sight, Cond.instanceMethod yX2_sight, Cond.initialized RX2, Cond.code yX2_sight cX2_sight 4 (some .int), Cond.methodLink RX2 7 Lib.Math.max.name, Cond.static Lib.Math.max.name, Cond.initialized "java/lang/Math", Cond.code Lib.Math.max.name Lib.Math.max.code 2 (some .int), Cond.methodLink RX2 13 yX8_sight, Cond.sameMethod "GleanDusk$West" "GleanDusk$West" "sight" "(III)I", Cond.superclass RX2 RX8, Cond.instanceMethod yX8_sight, Cond.initialized RX8, Cond.code yX8_sight cX8_sight 5 (some .int), Cond.methodLink RX8 7 yX5_sight, Cond.superclass RX8 RX5, Cond.instanceMethod yX5_sight, Cond.initialized RX5, Cond.code yX5_sight cX5_sight 4 (some .int), Cond.methodLink RX5 7 Lib.Math.max.name, Cond.selects RX3 ⟨"GleanDusk$Plain", "sight", "(III)I"⟩ yX3_sight, Cond.instanceMethod yX3_sight, Cond.initialized RX3, Cond.code yX3_sight cX3_sight 4 (some .int)]
def wsX4_gather_r3 : List Cond := [Cond.methodLink RX3 7 yX9_sight, Cond.sameMethod "GleanDusk$Wood" "GleanDusk$Wood" "sight" "(III)I", Cond.superclass RX3 RX9, Cond.instanceMethod yX9_sight, Cond.initialized RX9, Cond.code yX9_sight cX9_sight 4 (some .int), Cond.methodLink RX9 7 yX5_sight, Cond.superclass RX9 RX5, Cond.methodLink RX4 89 yX5_sight, Cond.selects RX5 yX5_sight yX5_sight, Cond.selects RX6 ⟨"GleanDusk$Plain", "sight", "(III)I"⟩ yX6_sight, Cond.instanceMethod yX6_sight, Cond.initialized RX6, Cond.code yX6_sight cX6_sight 4 (some .int), Cond.methodLink RX6 11 Lib.Math.min.name, Cond.static Lib.Math.min.name, Cond.code Lib.Math.min.name Lib.Math.min.code 2 (some .int), Cond.methodLink RX6 7 yX5_sight, Cond.superclass RX6 RX5, Cond.selects RX8 ⟨"GleanDusk$Plain", "sight", "(III)I"⟩ yX8_sight, Cond.selects RX9 ⟨"GleanDusk$Plain", "sight", "(III)I"⟩ yX9_sight, Cond.methodLink RX4 106 yX4_give, Cond.instanceMethod yX4_give, Cond.selects RX4 yX4_give yX4_give]
def wsX4_gather_r4 : List Cond := [Cond.code yX4_give cX4_give 6 (some .int), Cond.fieldLink RX4 83 "GleanDusk$Dusk" "store" "[I", Cond.methodLink RX4 109 Lib.Math.min.name, Cond.methodLink RX4 115 Lib.Math.max.name]
def wsX4_gather : List Cond := .code yX4_gather cX4_gather 6 (some .int) :: ((wsX4_gather_r1 ++ (wsX4_gather_r2 ++ (wsX4_gather_r3 ++ wsX4_gather_r4))) ++ wsX40 ++ wsX10)
def wsX10_faded : List Cond := .code yX10_faded cX10_faded 1 (some .int) :: ([])
def wsX4_fade : List Cond := .code yX4_fade cX4_fade 3 none :: ([.fieldLink RX4 42 "GleanDusk$Parish" "gleaners" "I", .fieldLink RX4 83 "GleanDusk$Dusk" "store" "[I", .fieldLink RX4 38 "GleanDusk$Parish" "fields" "I", .fieldLink RX4 77 "GleanDusk$Dusk" "light" "[I", .methodLink RX4 109 Lib.Math.min.name, .static Lib.Math.min.name, .initialized "java/lang/Math", .code Lib.Math.min.name Lib.Math.min.code 2 (some .int), .fieldLink RX4 60 "GleanDusk$Dusk" "number" "I", .fieldLink RX4 54 "GleanDusk$Dusk" "step" "I", .static yX10_faded, .initialized RX10, .code yX10_faded cX10_faded 1 (some .int)] ++ wsX40 ++ wsX10)
def wsX4_whoIsOn : List Cond := .code yX4_whoIsOn cX4_whoIsOn 4 (some .int) :: ([.fieldLink RX4 42 "GleanDusk$Parish" "gleaners" "I", .fieldLink RX4 18 "GleanDusk$Parish" "dusk" "LGleanDusk$Dusk;", .fieldLink RX4 80 "GleanDusk$Dusk" "at" "[I"] ++ wsX40 ++ wsX10)
def wsX4_storesOf : List Cond := .code yX4_storesOf cX4_storesOf 4 (some .int) :: ([.fieldLink RX4 42 "GleanDusk$Parish" "gleaners" "I", .fieldLink RX4 18 "GleanDusk$Parish" "dusk" "LGleanDusk$Dusk;", .fieldLink RX4 83 "GleanDusk$Dusk" "store" "[I"] ++ wsX40 ++ wsX10)
def wsX4_missedFit_r1 : List Cond := [Cond.fieldLink RX4 48 "GleanDusk$Parish" "missedCount" "I", Cond.fieldLink RX4 28 "GleanDusk$Parish" "missed" "[[I", Cond.fieldLink RX4 34 "GleanDusk$Parish" "kinds" "[LGleanDusk$Plain;", Cond.fieldLink RX4 9 "GleanDusk$Parish" "kind" "[I", Cond.methodLink RX4 89 ⟨"GleanDusk$Plain", "sight", "(III)I"⟩, Cond.sameMethod "GleanDusk$Plain" "GleanDusk$Plain" "sight" "(III)I", Cond.instanceMethod ⟨"GleanDusk$Plain", "sight", "(III)I"⟩, Cond.selects RX2 ⟨"GleanDusk$Plain", "sight", "(III)I"⟩ yX2_sight, Cond.instanceMethod yX2_sight, Cond.initialized RX2, Cond.code yX2_sight cX2_sight 4 (some .int), Cond.methodLink RX2 7 Lib.Math.max.name, Cond.static Lib.Math.max.name, Cond.initialized "java/lang/Math", Cond.code Lib.Math.max.name Lib.Math.max.code 2 (some .int), Cond.methodLink RX2 13 yX8_sight, Cond.sameMethod "GleanDusk$West" "GleanDusk$West" "sight" "(III)I", Cond.superclass RX2 RX8, Cond.instanceMethod yX8_sight, Cond.initialized RX8, Cond.code yX8_sight cX8_sight 5 (some .int), Cond.methodLink RX8 7 yX5_sight, Cond.superclass RX8 RX5, Cond.instanceMethod yX5_sight]
def wsX4_missedFit_r2 : List Cond := [Cond.initialized RX5, Cond.code yX5_sight cX5_sight 4 (some .int), Cond.methodLink RX5 7 Lib.Math.max.name, Cond.selects RX3 ⟨"GleanDusk$Plain", "sight", "(III)I"⟩ yX3_sight, Cond.instanceMethod yX3_sight, Cond.initialized RX3, Cond.code yX3_sight cX3_sight 4 (some .int), Cond.methodLink RX3 7 yX9_sight, Cond.sameMethod "GleanDusk$Wood" "GleanDusk$Wood" "sight" "(III)I", Cond.superclass RX3 RX9, Cond.instanceMethod yX9_sight, Cond.initialized RX9, Cond.code yX9_sight cX9_sight 4 (some .int), Cond.methodLink RX9 7 yX5_sight, Cond.superclass RX9 RX5, Cond.methodLink RX4 89 yX5_sight, Cond.selects RX5 yX5_sight yX5_sight, Cond.selects RX6 ⟨"GleanDusk$Plain", "sight", "(III)I"⟩ yX6_sight, Cond.instanceMethod yX6_sight, Cond.initialized RX6, Cond.code yX6_sight cX6_sight 4 (some .int), Cond.methodLink RX6 11 Lib.Math.min.name, Cond.static Lib.Math.min.name, Cond.code Lib.Math.min.name Lib.Math.min.code 2 (some .int)]
def wsX4_missedFit_r3 : List Cond := [Cond.methodLink RX6 7 yX5_sight, Cond.superclass RX6 RX5, Cond.selects RX8 ⟨"GleanDusk$Plain", "sight", "(III)I"⟩ yX8_sight, Cond.selects RX9 ⟨"GleanDusk$Plain", "sight", "(III)I"⟩ yX9_sight]
def wsX4_missedFit : List Cond := .code yX4_missedFit cX4_missedFit 4 (some .boolean) :: ((wsX4_missedFit_r1 ++ (wsX4_missedFit_r2 ++ wsX4_missedFit_r3)) ++ wsX40)
def wsX4_notesFit_r1 : List Cond := [Cond.fieldLink RX4 51 "GleanDusk$Parish" "noteCount" "I", Cond.fieldLink RX4 31 "GleanDusk$Parish" "notes" "[[I", Cond.methodLink RX4 89 ⟨"GleanDusk$Plain", "sight", "(III)I"⟩, Cond.sameMethod "GleanDusk$Plain" "GleanDusk$Plain" "sight" "(III)I", Cond.instanceMethod ⟨"GleanDusk$Plain", "sight", "(III)I"⟩, Cond.selects RX2 ⟨"GleanDusk$Plain", "sight", "(III)I"⟩ yX2_sight, Cond.instanceMethod yX2_sight, Cond.initialized RX2, Cond.code yX2_sight cX2_sight 4 (some .int), Cond.methodLink RX2 7 Lib.Math.max.name, Cond.static Lib.Math.max.name, Cond.initialized "java/lang/Math", Cond.code Lib.Math.max.name Lib.Math.max.code 2 (some .int), Cond.methodLink RX2 13 yX8_sight, Cond.sameMethod "GleanDusk$West" "GleanDusk$West" "sight" "(III)I", Cond.superclass RX2 RX8, Cond.instanceMethod yX8_sight, Cond.initialized RX8, Cond.code yX8_sight cX8_sight 5 (some .int), Cond.methodLink RX8 7 yX5_sight, Cond.superclass RX8 RX5, Cond.instanceMethod yX5_sight, Cond.initialized RX5, Cond.code yX5_sight cX5_sight 4 (some .int)]
def wsX4_notesFit_r2 : List Cond := [Cond.methodLink RX5 7 Lib.Math.max.name, Cond.selects RX3 ⟨"GleanDusk$Plain", "sight", "(III)I"⟩ yX3_sight, Cond.instanceMethod yX3_sight, Cond.initialized RX3, Cond.code yX3_sight cX3_sight 4 (some .int), Cond.methodLink RX3 7 yX9_sight, Cond.sameMethod "GleanDusk$Wood" "GleanDusk$Wood" "sight" "(III)I", Cond.superclass RX3 RX9, Cond.instanceMethod yX9_sight, Cond.initialized RX9, Cond.code yX9_sight cX9_sight 4 (some .int), Cond.methodLink RX9 7 yX5_sight, Cond.superclass RX9 RX5, Cond.methodLink RX4 89 yX5_sight, Cond.selects RX5 yX5_sight yX5_sight, Cond.selects RX6 ⟨"GleanDusk$Plain", "sight", "(III)I"⟩ yX6_sight, Cond.instanceMethod yX6_sight, Cond.initialized RX6, Cond.code yX6_sight cX6_sight 4 (some .int), Cond.methodLink RX6 11 Lib.Math.min.name, Cond.static Lib.Math.min.name, Cond.code Lib.Math.min.name Lib.Math.min.code 2 (some .int), Cond.methodLink RX6 7 yX5_sight, Cond.superclass RX6 RX5]
def wsX4_notesFit_r3 : List Cond := [Cond.selects RX8 ⟨"GleanDusk$Plain", "sight", "(III)I"⟩ yX8_sight, Cond.selects RX9 ⟨"GleanDusk$Plain", "sight", "(III)I"⟩ yX9_sight]
def wsX4_notesFit : List Cond := .code yX4_notesFit cX4_notesFit 5 (some .boolean) :: ((wsX4_notesFit_r1 ++ (wsX4_notesFit_r2 ++ wsX4_notesFit_r3)) ++ wsX40)
def wsX4_kindsThatFit_r1 : List Cond := [Cond.fieldLink RX4 34 "GleanDusk$Parish" "kinds" "[LGleanDusk$Plain;", Cond.methodLink RX4 122 yX4_notesFit, Cond.instanceMethod yX4_notesFit, Cond.selects RX4 yX4_notesFit yX4_notesFit, Cond.initialized RX4, Cond.code yX4_notesFit cX4_notesFit 5 (some .boolean), Cond.fieldLink RX4 51 "GleanDusk$Parish" "noteCount" "I", Cond.fieldLink RX4 31 "GleanDusk$Parish" "notes" "[[I", Cond.methodLink RX4 89 ⟨"GleanDusk$Plain", "sight", "(III)I"⟩, Cond.sameMethod "GleanDusk$Plain" "GleanDusk$Plain" "sight" "(III)I", Cond.instanceMethod ⟨"GleanDusk$Plain", "sight", "(III)I"⟩, Cond.selects RX2 ⟨"GleanDusk$Plain", "sight", "(III)I"⟩ yX2_sight, Cond.instanceMethod yX2_sight, Cond.initialized RX2, Cond.code yX2_sight cX2_sight 4 (some .int), Cond.methodLink RX2 7 Lib.Math.max.name, Cond.static Lib.Math.max.name, Cond.initialized "java/lang/Math", Cond.code Lib.Math.max.name Lib.Math.max.code 2 (some .int), Cond.methodLink RX2 13 yX8_sight, Cond.sameMethod "GleanDusk$West" "GleanDusk$West" "sight" "(III)I", Cond.superclass RX2 RX8, Cond.instanceMethod yX8_sight, Cond.initialized RX8]
def wsX4_kindsThatFit_r2 : List Cond := [Cond.code yX8_sight cX8_sight 5 (some .int), Cond.methodLink RX8 7 yX5_sight, Cond.superclass RX8 RX5, Cond.instanceMethod yX5_sight, Cond.initialized RX5, Cond.code yX5_sight cX5_sight 4 (some .int), Cond.methodLink RX5 7 Lib.Math.max.name, Cond.selects RX3 ⟨"GleanDusk$Plain", "sight", "(III)I"⟩ yX3_sight, Cond.instanceMethod yX3_sight, Cond.initialized RX3, Cond.code yX3_sight cX3_sight 4 (some .int), Cond.methodLink RX3 7 yX9_sight, Cond.sameMethod "GleanDusk$Wood" "GleanDusk$Wood" "sight" "(III)I", Cond.superclass RX3 RX9, Cond.instanceMethod yX9_sight, Cond.initialized RX9, Cond.code yX9_sight cX9_sight 4 (some .int), Cond.methodLink RX9 7 yX5_sight, Cond.superclass RX9 RX5, Cond.methodLink RX4 89 yX5_sight, Cond.selects RX5 yX5_sight yX5_sight, Cond.selects RX6 ⟨"GleanDusk$Plain", "sight", "(III)I"⟩ yX6_sight, Cond.instanceMethod yX6_sight, Cond.initialized RX6]
def wsX4_kindsThatFit_r3 : List Cond := [Cond.code yX6_sight cX6_sight 4 (some .int), Cond.methodLink RX6 11 Lib.Math.min.name, Cond.static Lib.Math.min.name, Cond.code Lib.Math.min.name Lib.Math.min.code 2 (some .int), Cond.methodLink RX6 7 yX5_sight, Cond.superclass RX6 RX5, Cond.selects RX8 ⟨"GleanDusk$Plain", "sight", "(III)I"⟩ yX8_sight, Cond.selects RX9 ⟨"GleanDusk$Plain", "sight", "(III)I"⟩ yX9_sight]
def wsX4_kindsThatFit : List Cond := .code yX4_kindsThatFit cX4_kindsThatFit 4 (some .int) :: ((wsX4_kindsThatFit_r1 ++ (wsX4_kindsThatFit_r2 ++ wsX4_kindsThatFit_r3)) ++ wsX40)
def wsX6_init : List Cond := .code yX6_init cX6_init 1 none :: ([.instanceMethod yX5_init, .initialized RX5, .code yX5_init cX5_init 1 none, .methodLink RX5 1 objectInit, .instanceMethod objectInit, .code objectInit ⟨#[0xb1]⟩ 1 none])
def wsX7_init : List Cond := .code yX7_init cX7_init 1 none :: ([.methodLink RX7 3 objectInit, .instanceMethod objectInit, .code objectInit ⟨#[0xb1]⟩ 1 none, .arrayClass .byte, .fieldLink RX7 9 "GleanDusk$Text" "bytes" "[B", .arrayClass .int, .fieldLink RX7 15 "GleanDusk$Text" "words" "[I", .fieldLink RX7 19 "GleanDusk$Text" "first" "[I", .fieldLink RX7 22 "GleanDusk$Text" "second" "[I"] ++ wsX70)
def wsX7_append : List Cond := .code yX7_append cX7_append 2 (some .int) :: ([.fieldLink RX7 9 "GleanDusk$Text" "bytes" "[B", .fieldLink RX7 25 "GleanDusk$Text" "length" "I"] ++ wsX70)
def wsX7_isLetter : List Cond := .code yX7_isLetter cX7_isLetter 1 (some .boolean) :: ([])
def wsX7_passWord : List Cond := .code yX7_passWord cX7_passWord 1 none :: ([.fieldLink RX7 44 "GleanDusk$Text" "token" "I", .fieldLink RX7 29 "GleanDusk$Text" "end" "I", .fieldLink RX7 25 "GleanDusk$Text" "length" "I", .fieldLink RX7 9 "GleanDusk$Text" "bytes" "[B", .methodLink RX7 89 yX7_isLetter, .static yX7_isLetter, .initialized RX7, .code yX7_isLetter cX7_isLetter 1 (some .boolean)] ++ wsX70)
def wsX7_isFigure : List Cond := .code yX7_isFigure cX7_isFigure 1 (some .boolean) :: ([])
def wsX7_passNumber : List Cond := .code yX7_passNumber cX7_passNumber 1 none :: ([.fieldLink RX7 62 "GleanDusk$Text" "number" "I", .fieldLink RX7 29 "GleanDusk$Text" "end" "I", .fieldLink RX7 25 "GleanDusk$Text" "length" "I", .fieldLink RX7 9 "GleanDusk$Text" "bytes" "[B", .fieldLink RX7 51 "GleanDusk$Text" "start" "I", .fieldLink RX7 44 "GleanDusk$Text" "token" "I", .methodLink RX7 95 yX7_isFigure, .static yX7_isFigure, .initialized RX7, .code yX7_isFigure cX7_isFigure 1 (some .boolean)] ++ wsX70)
def wsX7_passSign : List Cond := .code yX7_passSign cX7_passSign 1 none :: ([.fieldLink RX7 9 "GleanDusk$Text" "bytes" "[B", .fieldLink RX7 51 "GleanDusk$Text" "start" "I", .fieldLink RX7 44 "GleanDusk$Text" "token" "I", .fieldLink RX7 29 "GleanDusk$Text" "end" "I"] ++ wsX70)
def wsX7_advance_r1 : List Cond := [Cond.fieldLink RX7 29 "GleanDusk$Text" "end" "I", Cond.fieldLink RX7 51 "GleanDusk$Text" "start" "I", Cond.fieldLink RX7 25 "GleanDusk$Text" "length" "I", Cond.fieldLink RX7 9 "GleanDusk$Text" "bytes" "[B", Cond.fieldLink RX7 44 "GleanDusk$Text" "token" "I", Cond.methodLink RX7 89 yX7_isLetter, Cond.static yX7_isLetter, Cond.initialized RX7, Cond.code yX7_isLetter cX7_isLetter 1 (some .boolean), Cond.methodLink RX7 92 yX7_passWord, Cond.instanceMethod yX7_passWord, Cond.selects RX7 yX7_passWord yX7_passWord, Cond.code yX7_passWord cX7_passWord 1 none, Cond.methodLink RX7 95 yX7_isFigure, Cond.static yX7_isFigure, Cond.code yX7_isFigure cX7_isFigure 1 (some .boolean), Cond.methodLink RX7 98 yX7_passNumber, Cond.instanceMethod yX7_passNumber, Cond.selects RX7 yX7_passNumber yX7_passNumber, Cond.code yX7_passNumber cX7_passNumber 1 none, Cond.fieldLink RX7 62 "GleanDusk$Text" "number" "I", Cond.methodLink RX7 101 yX7_passSign, Cond.instanceMethod yX7_passSign, Cond.selects RX7 yX7_passSign yX7_passSign]
def wsX7_advance_r2 : List Cond := [Cond.code yX7_passSign cX7_passSign 1 none]
def wsX7_advance : List Cond := .code yX7_advance cX7_advance 1 none :: ((wsX7_advance_r1 ++ wsX7_advance_r2) ++ wsX70)
def wsJ0_coder_7d493 : List Cond := .code yJ0_coder_7d493 cJ0_coder_7d493 1 (some .byte) :: ([.fieldLink RJ0 38 "java/lang/String" "COMPACT_STRINGS" "Z", .fieldLink RJ0 15 "java/lang/String" "coder" "B"])
def wsJ0_length_8abf5 : List Cond := .code yJ0_length_8abf5 cJ0_length_8abf5 1 (some .int) :: ([.fieldLink RJ0 9 "java/lang/String" "value" "[B", .methodLink RJ0 335 yJ0_coder_7d493, .instanceMethod yJ0_coder_7d493, .selects RJ0 yJ0_coder_7d493 yJ0_coder_7d493, .initialized RJ0, .code yJ0_coder_7d493 cJ0_coder_7d493 1 (some .byte), .fieldLink RJ0 38 "java/lang/String" "COMPACT_STRINGS" "Z", .fieldLink RJ0 15 "java/lang/String" "coder" "B"])
def wsJ0_isLatin1_aae02 : List Cond := .code yJ0_isLatin1_aae02 cJ0_isLatin1_aae02 1 (some .boolean) :: ([.fieldLink RJ0 38 "java/lang/String" "COMPACT_STRINGS" "Z", .fieldLink RJ0 15 "java/lang/String" "coder" "B"])
def wsJ3_checkIndex_8e157 : List Cond := .code yJ3_checkIndex_8e157 cJ3_checkIndex_8e157 3 (some .int) :: ([])
def wsJ0_checkIndex_df160 : List Cond := .code yJ0_checkIndex_df160 cJ0_checkIndex_df160 2 none :: ([.fieldLink RJ0 1053 "jdk/internal/util/Preconditions" "SIOOBE_FORMATTER" "Ljava/util/function/BiFunction;", .methodLink RJ0 1059 yJ3_checkIndex_8e157, .static yJ3_checkIndex_8e157, .initialized RJ3, .code yJ3_checkIndex_8e157 cJ3_checkIndex_8e157 3 (some .int)])
def wsJ1_charAt_3b067 : List Cond := .code yJ1_charAt_3b067 cJ1_charAt_3b067 2 (some .char) :: ([.methodLink RJ1 9 yJ0_checkIndex_df160, .static yJ0_checkIndex_df160, .initialized RJ0, .code yJ0_checkIndex_df160 cJ0_checkIndex_df160 2 none, .fieldLink RJ0 1053 "jdk/internal/util/Preconditions" "SIOOBE_FORMATTER" "Ljava/util/function/BiFunction;", .methodLink RJ0 1059 yJ3_checkIndex_8e157, .static yJ3_checkIndex_8e157, .initialized RJ3, .code yJ3_checkIndex_8e157 cJ3_checkIndex_8e157 3 (some .int)])
def wsJ2_length_9d52b : List Cond := .code yJ2_length_9d52b cJ2_length_9d52b 1 (some .int) :: ([])
def wsJ2_checkIndex_2214a : List Cond := .code yJ2_checkIndex_2214a cJ2_checkIndex_2214a 2 none :: ([.methodLink RJ2 48 yJ2_length_9d52b, .static yJ2_length_9d52b, .initialized RJ2, .code yJ2_length_9d52b cJ2_length_9d52b 1 (some .int), .methodLink RJ2 414 yJ0_checkIndex_df160, .static yJ0_checkIndex_df160, .initialized RJ0, .code yJ0_checkIndex_df160 cJ0_checkIndex_df160 2 none, .fieldLink RJ0 1053 "jdk/internal/util/Preconditions" "SIOOBE_FORMATTER" "Ljava/util/function/BiFunction;", .methodLink RJ0 1059 yJ3_checkIndex_8e157, .static yJ3_checkIndex_8e157, .initialized RJ3, .code yJ3_checkIndex_8e157 cJ3_checkIndex_8e157 3 (some .int)])
def wsJ2_getChar_3b067 : List Cond := .code yJ2_getChar_3b067 cJ2_getChar_3b067 2 (some .char) :: ([.fieldLink RJ2 44 "java/lang/StringUTF16" "$assertionsDisabled" "Z", .fieldLink RJ2 59 "java/lang/StringUTF16" "HI_BYTE_SHIFT" "I", .fieldLink RJ2 63 "java/lang/StringUTF16" "LO_BYTE_SHIFT" "I", .methodLink RJ2 48 yJ2_length_9d52b, .static yJ2_length_9d52b, .initialized RJ2, .code yJ2_length_9d52b cJ2_length_9d52b 1 (some .int)])
def wsJ2_charAt_3b067 : List Cond := .code yJ2_charAt_3b067 cJ2_charAt_3b067 2 (some .char) :: ([.methodLink RJ2 67 yJ2_checkIndex_2214a, .static yJ2_checkIndex_2214a, .initialized RJ2, .code yJ2_checkIndex_2214a cJ2_checkIndex_2214a 2 none, .methodLink RJ2 48 yJ2_length_9d52b, .static yJ2_length_9d52b, .code yJ2_length_9d52b cJ2_length_9d52b 1 (some .int), .methodLink RJ2 414 yJ0_checkIndex_df160, .static yJ0_checkIndex_df160, .initialized RJ0, .code yJ0_checkIndex_df160 cJ0_checkIndex_df160 2 none, .fieldLink RJ0 1053 "jdk/internal/util/Preconditions" "SIOOBE_FORMATTER" "Ljava/util/function/BiFunction;", .methodLink RJ0 1059 yJ3_checkIndex_8e157, .static yJ3_checkIndex_8e157, .initialized RJ3, .code yJ3_checkIndex_8e157 cJ3_checkIndex_8e157 3 (some .int), .methodLink RJ2 71 yJ2_getChar_3b067, .static yJ2_getChar_3b067, .code yJ2_getChar_3b067 cJ2_getChar_3b067 2 (some .char), .fieldLink RJ2 44 "java/lang/StringUTF16" "$assertionsDisabled" "Z", .fieldLink RJ2 59 "java/lang/StringUTF16" "HI_BYTE_SHIFT" "I", .fieldLink RJ2 63 "java/lang/StringUTF16" "LO_BYTE_SHIFT" "I"])
def wsJ0_charAt_5068e_r1 : List Cond := [Cond.fieldLink RJ0 9 "java/lang/String" "value" "[B", Cond.methodLink RJ0 492 yJ0_isLatin1_aae02, Cond.instanceMethod yJ0_isLatin1_aae02, Cond.selects RJ0 yJ0_isLatin1_aae02 yJ0_isLatin1_aae02, Cond.initialized RJ0, Cond.code yJ0_isLatin1_aae02 cJ0_isLatin1_aae02 1 (some .boolean), Cond.fieldLink RJ0 38 "java/lang/String" "COMPACT_STRINGS" "Z", Cond.fieldLink RJ0 15 "java/lang/String" "coder" "B", Cond.methodLink RJ0 495 yJ1_charAt_3b067, Cond.static yJ1_charAt_3b067, Cond.initialized RJ1, Cond.code yJ1_charAt_3b067 cJ1_charAt_3b067 2 (some .char), Cond.methodLink RJ1 9 yJ0_checkIndex_df160, Cond.static yJ0_checkIndex_df160, Cond.code yJ0_checkIndex_df160 cJ0_checkIndex_df160 2 none, Cond.fieldLink RJ0 1053 "jdk/internal/util/Preconditions" "SIOOBE_FORMATTER" "Ljava/util/function/BiFunction;", Cond.methodLink RJ0 1059 yJ3_checkIndex_8e157, Cond.static yJ3_checkIndex_8e157, Cond.initialized RJ3, Cond.code yJ3_checkIndex_8e157 cJ3_checkIndex_8e157 3 (some .int), Cond.methodLink RJ0 498 yJ2_charAt_3b067, Cond.static yJ2_charAt_3b067, Cond.initialized RJ2, Cond.code yJ2_charAt_3b067 cJ2_charAt_3b067 2 (some .char)]
def wsJ0_charAt_5068e_r2 : List Cond := [Cond.methodLink RJ2 67 yJ2_checkIndex_2214a, Cond.static yJ2_checkIndex_2214a, Cond.code yJ2_checkIndex_2214a cJ2_checkIndex_2214a 2 none, Cond.methodLink RJ2 48 yJ2_length_9d52b, Cond.static yJ2_length_9d52b, Cond.code yJ2_length_9d52b cJ2_length_9d52b 1 (some .int), Cond.methodLink RJ2 414 yJ0_checkIndex_df160, Cond.methodLink RJ2 71 yJ2_getChar_3b067, Cond.static yJ2_getChar_3b067, Cond.code yJ2_getChar_3b067 cJ2_getChar_3b067 2 (some .char), Cond.fieldLink RJ2 44 "java/lang/StringUTF16" "$assertionsDisabled" "Z", Cond.fieldLink RJ2 59 "java/lang/StringUTF16" "HI_BYTE_SHIFT" "I", Cond.fieldLink RJ2 63 "java/lang/StringUTF16" "LO_BYTE_SHIFT" "I"]
def wsJ0_charAt_5068e : List Cond := .code yJ0_charAt_5068e cJ0_charAt_5068e 2 (some .char) :: ((wsJ0_charAt_5068e_r1 ++ wsJ0_charAt_5068e_r2))
def wsX7_isWord_r1 : List Cond := [Cond.fieldLink RX7 29 "GleanDusk$Text" "end" "I", Cond.fieldLink RX7 51 "GleanDusk$Text" "start" "I", Cond.fieldLink RX7 9 "GleanDusk$Text" "bytes" "[B", Cond.methodLink RX7 77 yJ0_length_8abf5, Cond.instanceMethod yJ0_length_8abf5, Cond.selects RJ0 yJ0_length_8abf5 yJ0_length_8abf5, Cond.initialized RJ0, Cond.code yJ0_length_8abf5 cJ0_length_8abf5 1 (some .int), Cond.fieldLink RJ0 9 "java/lang/String" "value" "[B", Cond.methodLink RJ0 335 yJ0_coder_7d493, Cond.instanceMethod yJ0_coder_7d493, Cond.selects RJ0 yJ0_coder_7d493 yJ0_coder_7d493, Cond.code yJ0_coder_7d493 cJ0_coder_7d493 1 (some .byte), Cond.fieldLink RJ0 38 "java/lang/String" "COMPACT_STRINGS" "Z", Cond.fieldLink RJ0 15 "java/lang/String" "coder" "B", Cond.methodLink RX7 81 yJ0_charAt_5068e, Cond.instanceMethod yJ0_charAt_5068e, Cond.selects RJ0 yJ0_charAt_5068e yJ0_charAt_5068e, Cond.code yJ0_charAt_5068e cJ0_charAt_5068e 2 (some .char), Cond.methodLink RJ0 492 yJ0_isLatin1_aae02, Cond.instanceMethod yJ0_isLatin1_aae02, Cond.selects RJ0 yJ0_isLatin1_aae02 yJ0_isLatin1_aae02, Cond.code yJ0_isLatin1_aae02 cJ0_isLatin1_aae02 1 (some .boolean), Cond.methodLink RJ0 495 yJ1_charAt_3b067]
def wsX7_isWord_r2 : List Cond := [Cond.static yJ1_charAt_3b067, Cond.initialized RJ1, Cond.code yJ1_charAt_3b067 cJ1_charAt_3b067 2 (some .char), Cond.methodLink RJ1 9 yJ0_checkIndex_df160, Cond.static yJ0_checkIndex_df160, Cond.code yJ0_checkIndex_df160 cJ0_checkIndex_df160 2 none, Cond.fieldLink RJ0 1053 "jdk/internal/util/Preconditions" "SIOOBE_FORMATTER" "Ljava/util/function/BiFunction;", Cond.methodLink RJ0 1059 yJ3_checkIndex_8e157, Cond.static yJ3_checkIndex_8e157, Cond.initialized RJ3, Cond.code yJ3_checkIndex_8e157 cJ3_checkIndex_8e157 3 (some .int), Cond.methodLink RJ0 498 yJ2_charAt_3b067, Cond.static yJ2_charAt_3b067, Cond.initialized RJ2, Cond.code yJ2_charAt_3b067 cJ2_charAt_3b067 2 (some .char), Cond.methodLink RJ2 67 yJ2_checkIndex_2214a, Cond.static yJ2_checkIndex_2214a, Cond.code yJ2_checkIndex_2214a cJ2_checkIndex_2214a 2 none, Cond.methodLink RJ2 48 yJ2_length_9d52b, Cond.static yJ2_length_9d52b, Cond.code yJ2_length_9d52b cJ2_length_9d52b 1 (some .int), Cond.methodLink RJ2 414 yJ0_checkIndex_df160, Cond.methodLink RJ2 71 yJ2_getChar_3b067, Cond.static yJ2_getChar_3b067]
def wsX7_isWord_r3 : List Cond := [Cond.code yJ2_getChar_3b067 cJ2_getChar_3b067 2 (some .char), Cond.fieldLink RJ2 44 "java/lang/StringUTF16" "$assertionsDisabled" "Z", Cond.fieldLink RJ2 59 "java/lang/StringUTF16" "HI_BYTE_SHIFT" "I", Cond.fieldLink RJ2 63 "java/lang/StringUTF16" "LO_BYTE_SHIFT" "I"]
def wsX7_isWord : List Cond := .code yX7_isWord cX7_isWord 3 (some .boolean) :: ((wsX7_isWord_r1 ++ (wsX7_isWord_r2 ++ wsX7_isWord_r3)) ++ wsX70)
def wsX7_wordHere_r1 : List Cond := [Cond.fieldLink RX7 44 "GleanDusk$Text" "token" "I", Cond.methodLink RX7 67 yX7_isWord, Cond.instanceMethod yX7_isWord, Cond.selects RX7 yX7_isWord yX7_isWord, Cond.initialized RX7, Cond.code yX7_isWord cX7_isWord 3 (some .boolean), Cond.fieldLink RX7 29 "GleanDusk$Text" "end" "I", Cond.fieldLink RX7 51 "GleanDusk$Text" "start" "I", Cond.fieldLink RX7 9 "GleanDusk$Text" "bytes" "[B", Cond.methodLink RX7 77 yJ0_length_8abf5, Cond.instanceMethod yJ0_length_8abf5, Cond.selects RJ0 yJ0_length_8abf5 yJ0_length_8abf5, Cond.initialized RJ0, Cond.code yJ0_length_8abf5 cJ0_length_8abf5 1 (some .int), Cond.fieldLink RJ0 9 "java/lang/String" "value" "[B", Cond.methodLink RJ0 335 yJ0_coder_7d493, Cond.instanceMethod yJ0_coder_7d493, Cond.selects RJ0 yJ0_coder_7d493 yJ0_coder_7d493, Cond.code yJ0_coder_7d493 cJ0_coder_7d493 1 (some .byte), Cond.fieldLink RJ0 38 "java/lang/String" "COMPACT_STRINGS" "Z", Cond.fieldLink RJ0 15 "java/lang/String" "coder" "B", Cond.methodLink RX7 81 yJ0_charAt_5068e, Cond.instanceMethod yJ0_charAt_5068e, Cond.selects RJ0 yJ0_charAt_5068e yJ0_charAt_5068e]
def wsX7_wordHere_r2 : List Cond := [Cond.code yJ0_charAt_5068e cJ0_charAt_5068e 2 (some .char), Cond.methodLink RJ0 492 yJ0_isLatin1_aae02, Cond.instanceMethod yJ0_isLatin1_aae02, Cond.selects RJ0 yJ0_isLatin1_aae02 yJ0_isLatin1_aae02, Cond.code yJ0_isLatin1_aae02 cJ0_isLatin1_aae02 1 (some .boolean), Cond.methodLink RJ0 495 yJ1_charAt_3b067, Cond.static yJ1_charAt_3b067, Cond.initialized RJ1, Cond.code yJ1_charAt_3b067 cJ1_charAt_3b067 2 (some .char), Cond.methodLink RJ1 9 yJ0_checkIndex_df160, Cond.static yJ0_checkIndex_df160, Cond.code yJ0_checkIndex_df160 cJ0_checkIndex_df160 2 none, Cond.fieldLink RJ0 1053 "jdk/internal/util/Preconditions" "SIOOBE_FORMATTER" "Ljava/util/function/BiFunction;", Cond.methodLink RJ0 1059 yJ3_checkIndex_8e157, Cond.static yJ3_checkIndex_8e157, Cond.initialized RJ3, Cond.code yJ3_checkIndex_8e157 cJ3_checkIndex_8e157 3 (some .int), Cond.methodLink RJ0 498 yJ2_charAt_3b067, Cond.static yJ2_charAt_3b067, Cond.initialized RJ2, Cond.code yJ2_charAt_3b067 cJ2_charAt_3b067 2 (some .char), Cond.methodLink RJ2 67 yJ2_checkIndex_2214a, Cond.static yJ2_checkIndex_2214a, Cond.code yJ2_checkIndex_2214a cJ2_checkIndex_2214a 2 none]
def wsX7_wordHere_r3 : List Cond := [Cond.methodLink RJ2 48 yJ2_length_9d52b, Cond.static yJ2_length_9d52b, Cond.code yJ2_length_9d52b cJ2_length_9d52b 1 (some .int), Cond.methodLink RJ2 414 yJ0_checkIndex_df160, Cond.methodLink RJ2 71 yJ2_getChar_3b067, Cond.static yJ2_getChar_3b067, Cond.code yJ2_getChar_3b067 cJ2_getChar_3b067 2 (some .char), Cond.fieldLink RJ2 44 "java/lang/StringUTF16" "$assertionsDisabled" "Z", Cond.fieldLink RJ2 59 "java/lang/StringUTF16" "HI_BYTE_SHIFT" "I", Cond.fieldLink RJ2 63 "java/lang/StringUTF16" "LO_BYTE_SHIFT" "I"]
def wsX7_wordHere : List Cond := .code yX7_wordHere cX7_wordHere 1 (some .int) :: ((wsX7_wordHere_r1 ++ (wsX7_wordHere_r2 ++ wsX7_wordHere_r3)) ++ wsX70)
def wsX10_isIn : List Cond := .code yX10_isIn cX10_isIn 3 (some .boolean) :: ([])
def wsX7_takes_r1 : List Cond := [Cond.fieldLink RX7 44 "GleanDusk$Text" "token" "I", Cond.fieldLink RX7 62 "GleanDusk$Text" "number" "I", Cond.methodLink RX7 41 yX7_advance, Cond.instanceMethod yX7_advance, Cond.selects RX7 yX7_advance yX7_advance, Cond.initialized RX7, Cond.code yX7_advance cX7_advance 1 none, Cond.fieldLink RX7 29 "GleanDusk$Text" "end" "I", Cond.fieldLink RX7 51 "GleanDusk$Text" "start" "I", Cond.fieldLink RX7 25 "GleanDusk$Text" "length" "I", Cond.fieldLink RX7 9 "GleanDusk$Text" "bytes" "[B", Cond.methodLink RX7 89 yX7_isLetter, Cond.static yX7_isLetter, Cond.code yX7_isLetter cX7_isLetter 1 (some .boolean), Cond.methodLink RX7 92 yX7_passWord, Cond.instanceMethod yX7_passWord, Cond.selects RX7 yX7_passWord yX7_passWord, Cond.code yX7_passWord cX7_passWord 1 none, Cond.methodLink RX7 95 yX7_isFigure, Cond.static yX7_isFigure, Cond.code yX7_isFigure cX7_isFigure 1 (some .boolean), Cond.methodLink RX7 98 yX7_passNumber, Cond.instanceMethod yX7_passNumber, Cond.selects RX7 yX7_passNumber yX7_passNumber]
def wsX7_takes_r2 : List Cond := [Cond.code yX7_passNumber cX7_passNumber 1 none, Cond.methodLink RX7 101 yX7_passSign, Cond.instanceMethod yX7_passSign, Cond.selects RX7 yX7_passSign yX7_passSign, Cond.code yX7_passSign cX7_passSign 1 none, Cond.static yX10_isIn, Cond.initialized RX10, Cond.code yX10_isIn cX10_isIn 3 (some .boolean)]
def wsX7_takes : List Cond := .code yX7_takes cX7_takes 5 (some .boolean) :: ((wsX7_takes_r1 ++ wsX7_takes_r2) ++ wsX70)
def wsX7_isItem_r1 : List Cond := [Cond.fieldLink RX7 15 "GleanDusk$Text" "words" "[I", Cond.fieldLink RX7 19 "GleanDusk$Text" "first" "[I", Cond.fieldLink RX7 32 "GleanDusk$Text" "fields" "I", Cond.fieldLink RX7 22 "GleanDusk$Text" "second" "[I", Cond.fieldLink RX7 35 "GleanDusk$Text" "gleaners" "I", Cond.fieldLink RX7 38 "GleanDusk$Text" "steps" "I", Cond.fieldLink RX7 62 "GleanDusk$Text" "number" "I", Cond.methodLink RX7 54 yX7_wordHere, Cond.instanceMethod yX7_wordHere, Cond.selects RX7 yX7_wordHere yX7_wordHere, Cond.initialized RX7, Cond.code yX7_wordHere cX7_wordHere 1 (some .int), Cond.fieldLink RX7 44 "GleanDusk$Text" "token" "I", Cond.methodLink RX7 67 yX7_isWord, Cond.instanceMethod yX7_isWord, Cond.selects RX7 yX7_isWord yX7_isWord, Cond.code yX7_isWord cX7_isWord 3 (some .boolean), Cond.fieldLink RX7 29 "GleanDusk$Text" "end" "I", Cond.fieldLink RX7 51 "GleanDusk$Text" "start" "I", Cond.fieldLink RX7 9 "GleanDusk$Text" "bytes" "[B", Cond.methodLink RX7 77 yJ0_length_8abf5, Cond.instanceMethod yJ0_length_8abf5, Cond.selects RJ0 yJ0_length_8abf5 yJ0_length_8abf5, Cond.initialized RJ0]
def wsX7_isItem_r2 : List Cond := [Cond.code yJ0_length_8abf5 cJ0_length_8abf5 1 (some .int), Cond.fieldLink RJ0 9 "java/lang/String" "value" "[B", Cond.methodLink RJ0 335 yJ0_coder_7d493, Cond.instanceMethod yJ0_coder_7d493, Cond.selects RJ0 yJ0_coder_7d493 yJ0_coder_7d493, Cond.code yJ0_coder_7d493 cJ0_coder_7d493 1 (some .byte), Cond.fieldLink RJ0 38 "java/lang/String" "COMPACT_STRINGS" "Z", Cond.fieldLink RJ0 15 "java/lang/String" "coder" "B", Cond.methodLink RX7 81 yJ0_charAt_5068e, Cond.instanceMethod yJ0_charAt_5068e, Cond.selects RJ0 yJ0_charAt_5068e yJ0_charAt_5068e, Cond.code yJ0_charAt_5068e cJ0_charAt_5068e 2 (some .char), Cond.methodLink RJ0 492 yJ0_isLatin1_aae02, Cond.instanceMethod yJ0_isLatin1_aae02, Cond.selects RJ0 yJ0_isLatin1_aae02 yJ0_isLatin1_aae02, Cond.code yJ0_isLatin1_aae02 cJ0_isLatin1_aae02 1 (some .boolean), Cond.methodLink RJ0 495 yJ1_charAt_3b067, Cond.static yJ1_charAt_3b067, Cond.initialized RJ1, Cond.code yJ1_charAt_3b067 cJ1_charAt_3b067 2 (some .char), Cond.methodLink RJ1 9 yJ0_checkIndex_df160, Cond.static yJ0_checkIndex_df160, Cond.code yJ0_checkIndex_df160 cJ0_checkIndex_df160 2 none, Cond.fieldLink RJ0 1053 "jdk/internal/util/Preconditions" "SIOOBE_FORMATTER" "Ljava/util/function/BiFunction;"]
def wsX7_isItem_r3 : List Cond := [Cond.methodLink RJ0 1059 yJ3_checkIndex_8e157, Cond.static yJ3_checkIndex_8e157, Cond.initialized RJ3, Cond.code yJ3_checkIndex_8e157 cJ3_checkIndex_8e157 3 (some .int), Cond.methodLink RJ0 498 yJ2_charAt_3b067, Cond.static yJ2_charAt_3b067, Cond.initialized RJ2, Cond.code yJ2_charAt_3b067 cJ2_charAt_3b067 2 (some .char), Cond.methodLink RJ2 67 yJ2_checkIndex_2214a, Cond.static yJ2_checkIndex_2214a, Cond.code yJ2_checkIndex_2214a cJ2_checkIndex_2214a 2 none, Cond.methodLink RJ2 48 yJ2_length_9d52b, Cond.static yJ2_length_9d52b, Cond.code yJ2_length_9d52b cJ2_length_9d52b 1 (some .int), Cond.methodLink RJ2 414 yJ0_checkIndex_df160, Cond.methodLink RJ2 71 yJ2_getChar_3b067, Cond.static yJ2_getChar_3b067, Cond.code yJ2_getChar_3b067 cJ2_getChar_3b067 2 (some .char), Cond.fieldLink RJ2 44 "java/lang/StringUTF16" "$assertionsDisabled" "Z", Cond.fieldLink RJ2 59 "java/lang/StringUTF16" "HI_BYTE_SHIFT" "I", Cond.fieldLink RJ2 63 "java/lang/StringUTF16" "LO_BYTE_SHIFT" "I", Cond.methodLink RX7 58 yX7_takes, Cond.instanceMethod yX7_takes, Cond.selects RX7 yX7_takes yX7_takes]
def wsX7_isItem_r4 : List Cond := [Cond.code yX7_takes cX7_takes 5 (some .boolean), Cond.methodLink RX7 41 yX7_advance, Cond.instanceMethod yX7_advance, Cond.selects RX7 yX7_advance yX7_advance, Cond.code yX7_advance cX7_advance 1 none, Cond.fieldLink RX7 25 "GleanDusk$Text" "length" "I", Cond.methodLink RX7 89 yX7_isLetter, Cond.static yX7_isLetter, Cond.code yX7_isLetter cX7_isLetter 1 (some .boolean), Cond.methodLink RX7 92 yX7_passWord, Cond.instanceMethod yX7_passWord, Cond.selects RX7 yX7_passWord yX7_passWord, Cond.code yX7_passWord cX7_passWord 1 none, Cond.methodLink RX7 95 yX7_isFigure, Cond.static yX7_isFigure, Cond.code yX7_isFigure cX7_isFigure 1 (some .boolean), Cond.methodLink RX7 98 yX7_passNumber, Cond.instanceMethod yX7_passNumber, Cond.selects RX7 yX7_passNumber yX7_passNumber, Cond.code yX7_passNumber cX7_passNumber 1 none, Cond.methodLink RX7 101 yX7_passSign, Cond.instanceMethod yX7_passSign, Cond.selects RX7 yX7_passSign yX7_passSign, Cond.code yX7_passSign cX7_passSign 1 none]
def wsX7_isItem_r5 : List Cond := [Cond.static yX10_isIn, Cond.initialized RX10, Cond.code yX10_isIn cX10_isIn 3 (some .boolean)]
def wsX7_isItem : List Cond := .code yX7_isItem cX7_isItem 4 (some .boolean) :: ((wsX7_isItem_r1 ++ (wsX7_isItem_r2 ++ (wsX7_isItem_r3 ++ (wsX7_isItem_r4 ++ wsX7_isItem_r5)))) ++ wsX70)
def wsX7_parse_r1 : List Cond := [Cond.fieldLink RX7 29 "GleanDusk$Text" "end" "I", Cond.fieldLink RX7 32 "GleanDusk$Text" "fields" "I", Cond.fieldLink RX7 35 "GleanDusk$Text" "gleaners" "I", Cond.fieldLink RX7 38 "GleanDusk$Text" "steps" "I", Cond.fieldLink RX7 44 "GleanDusk$Text" "token" "I", Cond.fieldLink RX7 51 "GleanDusk$Text" "start" "I", Cond.methodLink RX7 41 yX7_advance, Cond.instanceMethod yX7_advance, Cond.selects RX7 yX7_advance yX7_advance, Cond.initialized RX7, Cond.code yX7_advance cX7_advance 1 none, Cond.fieldLink RX7 25 "GleanDusk$Text" "length" "I", Cond.fieldLink RX7 9 "GleanDusk$Text" "bytes" "[B", Cond.methodLink RX7 89 yX7_isLetter, Cond.static yX7_isLetter, Cond.code yX7_isLetter cX7_isLetter 1 (some .boolean), Cond.methodLink RX7 92 yX7_passWord, Cond.instanceMethod yX7_passWord, Cond.selects RX7 yX7_passWord yX7_passWord, Cond.code yX7_passWord cX7_passWord 1 none, Cond.methodLink RX7 95 yX7_isFigure, Cond.static yX7_isFigure, Cond.code yX7_isFigure cX7_isFigure 1 (some .boolean), Cond.methodLink RX7 98 yX7_passNumber]
def wsX7_parse_r2 : List Cond := [Cond.instanceMethod yX7_passNumber, Cond.selects RX7 yX7_passNumber yX7_passNumber, Cond.code yX7_passNumber cX7_passNumber 1 none, Cond.fieldLink RX7 62 "GleanDusk$Text" "number" "I", Cond.methodLink RX7 101 yX7_passSign, Cond.instanceMethod yX7_passSign, Cond.selects RX7 yX7_passSign yX7_passSign, Cond.code yX7_passSign cX7_passSign 1 none, Cond.methodLink RX7 47 yX7_isItem, Cond.instanceMethod yX7_isItem, Cond.selects RX7 yX7_isItem yX7_isItem, Cond.code yX7_isItem cX7_isItem 4 (some .boolean), Cond.fieldLink RX7 15 "GleanDusk$Text" "words" "[I", Cond.fieldLink RX7 19 "GleanDusk$Text" "first" "[I", Cond.fieldLink RX7 22 "GleanDusk$Text" "second" "[I", Cond.methodLink RX7 54 yX7_wordHere, Cond.instanceMethod yX7_wordHere, Cond.selects RX7 yX7_wordHere yX7_wordHere, Cond.code yX7_wordHere cX7_wordHere 1 (some .int), Cond.methodLink RX7 67 yX7_isWord, Cond.instanceMethod yX7_isWord, Cond.selects RX7 yX7_isWord yX7_isWord, Cond.code yX7_isWord cX7_isWord 3 (some .boolean), Cond.methodLink RX7 77 yJ0_length_8abf5]
def wsX7_parse_r3 : List Cond := [Cond.instanceMethod yJ0_length_8abf5, Cond.selects RJ0 yJ0_length_8abf5 yJ0_length_8abf5, Cond.initialized RJ0, Cond.code yJ0_length_8abf5 cJ0_length_8abf5 1 (some .int), Cond.fieldLink RJ0 9 "java/lang/String" "value" "[B", Cond.methodLink RJ0 335 yJ0_coder_7d493, Cond.instanceMethod yJ0_coder_7d493, Cond.selects RJ0 yJ0_coder_7d493 yJ0_coder_7d493, Cond.code yJ0_coder_7d493 cJ0_coder_7d493 1 (some .byte), Cond.fieldLink RJ0 38 "java/lang/String" "COMPACT_STRINGS" "Z", Cond.fieldLink RJ0 15 "java/lang/String" "coder" "B", Cond.methodLink RX7 81 yJ0_charAt_5068e, Cond.instanceMethod yJ0_charAt_5068e, Cond.selects RJ0 yJ0_charAt_5068e yJ0_charAt_5068e, Cond.code yJ0_charAt_5068e cJ0_charAt_5068e 2 (some .char), Cond.methodLink RJ0 492 yJ0_isLatin1_aae02, Cond.instanceMethod yJ0_isLatin1_aae02, Cond.selects RJ0 yJ0_isLatin1_aae02 yJ0_isLatin1_aae02, Cond.code yJ0_isLatin1_aae02 cJ0_isLatin1_aae02 1 (some .boolean), Cond.methodLink RJ0 495 yJ1_charAt_3b067, Cond.static yJ1_charAt_3b067, Cond.initialized RJ1, Cond.code yJ1_charAt_3b067 cJ1_charAt_3b067 2 (some .char), Cond.methodLink RJ1 9 yJ0_checkIndex_df160]
def wsX7_parse_r4 : List Cond := [Cond.static yJ0_checkIndex_df160, Cond.code yJ0_checkIndex_df160 cJ0_checkIndex_df160 2 none, Cond.fieldLink RJ0 1053 "jdk/internal/util/Preconditions" "SIOOBE_FORMATTER" "Ljava/util/function/BiFunction;", Cond.methodLink RJ0 1059 yJ3_checkIndex_8e157, Cond.static yJ3_checkIndex_8e157, Cond.initialized RJ3, Cond.code yJ3_checkIndex_8e157 cJ3_checkIndex_8e157 3 (some .int), Cond.methodLink RJ0 498 yJ2_charAt_3b067, Cond.static yJ2_charAt_3b067, Cond.initialized RJ2, Cond.code yJ2_charAt_3b067 cJ2_charAt_3b067 2 (some .char), Cond.methodLink RJ2 67 yJ2_checkIndex_2214a, Cond.static yJ2_checkIndex_2214a, Cond.code yJ2_checkIndex_2214a cJ2_checkIndex_2214a 2 none, Cond.methodLink RJ2 48 yJ2_length_9d52b, Cond.static yJ2_length_9d52b, Cond.code yJ2_length_9d52b cJ2_length_9d52b 1 (some .int), Cond.methodLink RJ2 414 yJ0_checkIndex_df160, Cond.methodLink RJ2 71 yJ2_getChar_3b067, Cond.static yJ2_getChar_3b067, Cond.code yJ2_getChar_3b067 cJ2_getChar_3b067 2 (some .char), Cond.fieldLink RJ2 44 "java/lang/StringUTF16" "$assertionsDisabled" "Z", Cond.fieldLink RJ2 59 "java/lang/StringUTF16" "HI_BYTE_SHIFT" "I", Cond.fieldLink RJ2 63 "java/lang/StringUTF16" "LO_BYTE_SHIFT" "I"]
def wsX7_parse_r5 : List Cond := [Cond.methodLink RX7 58 yX7_takes, Cond.instanceMethod yX7_takes, Cond.selects RX7 yX7_takes yX7_takes, Cond.code yX7_takes cX7_takes 5 (some .boolean), Cond.static yX10_isIn, Cond.initialized RX10, Cond.code yX10_isIn cX10_isIn 3 (some .boolean)]
def wsX7_parse : List Cond := .code yX7_parse cX7_parse 2 (some .int) :: ((wsX7_parse_r1 ++ (wsX7_parse_r2 ++ (wsX7_parse_r3 ++ (wsX7_parse_r4 ++ wsX7_parse_r5)))) ++ wsX70)
def wsX10_init_r1 : List Cond := [Cond.methodLink RX10 1 objectInit, Cond.instanceMethod objectInit, Cond.code objectInit ⟨#[0xb1]⟩ 1 none, Cond.classLink RX10 7 RX5, Cond.instantiable RX5 0, Cond.initialized RX5, Cond.classLink RX10 10 RX8, Cond.instantiable RX8 0, Cond.initialized RX8, Cond.classLink RX10 13 RX9, Cond.instantiable RX9 0, Cond.initialized RX9, Cond.classLink RX10 16 RX6, Cond.instantiable RX6 0, Cond.initialized RX6, Cond.classLink RX10 19 RX2, Cond.instantiable RX2 0, Cond.initialized RX2, Cond.classLink RX10 22 RX3, Cond.instantiable RX3 0, Cond.initialized RX3, Cond.fieldLink RX10 25 "GleanDusk" "kinds" "[LGleanDusk$Plain;", Cond.classLink RX10 31 RX4, Cond.instantiable RX4 11]
def wsX10_init_r2 : List Cond := [Cond.initialized RX4, Cond.fieldLink RX10 36 "GleanDusk" "now" "LGleanDusk$Parish;", Cond.fieldLink RX10 40 "GleanDusk" "images" "[LGleanDusk$Parish;", Cond.arrayClass .boolean, Cond.fieldLink RX10 44 "GleanDusk" "kept" "[Z", Cond.classLink RX10 48 RX7, Cond.instantiable RX7 12, Cond.initialized RX7, Cond.fieldLink RX10 51 "GleanDusk" "text" "LGleanDusk$Text;", Cond.classLink RX10 55 RX1, Cond.instantiable RX1 6, Cond.initialized RX1, Cond.fieldLink RX10 58 "GleanDusk" "trial" "LGleanDusk$Dusk;", Cond.classLink RX10 62 RX0, Cond.instantiable RX0 3, Cond.initialized RX0, Cond.fieldLink RX10 65 "GleanDusk" "best" "LGleanDusk$Best;", Cond.arrayClass .int, Cond.fieldLink RX10 69 "GleanDusk" "shown" "[I", Cond.fieldLink RX10 73 "GleanDusk" "standing" "[I", Cond.fieldLink RX10 76 "GleanDusk" "refused" "[I", Cond.fieldLink RX10 79 "GleanDusk" "above" "I", Cond.fieldLink RX10 83 "GleanDusk" "below" "I", Cond.instanceMethod yX5_init]
def wsX10_init_r3 : List Cond := [Cond.code yX5_init cX5_init 1 none, Cond.methodLink RX5 1 objectInit, Cond.instanceMethod yX8_init, Cond.code yX8_init cX8_init 1 none, Cond.instanceMethod yX9_init, Cond.code yX9_init cX9_init 1 none, Cond.instanceMethod yX6_init, Cond.code yX6_init cX6_init 1 none, Cond.instanceMethod yX2_init, Cond.code yX2_init cX2_init 1 none, Cond.instanceMethod yX3_init, Cond.code yX3_init cX3_init 1 none, Cond.methodLink RX10 33 yX4_init, Cond.instanceMethod yX4_init, Cond.code yX4_init cX4_init 3 none, Cond.methodLink RX4 3 objectInit, Cond.fieldLink RX4 9 "GleanDusk$Parish" "kind" "[I", Cond.classLink RX4 15 RX1, Cond.fieldLink RX4 18 "GleanDusk$Parish" "dusk" "LGleanDusk$Dusk;", Cond.fieldLink RX4 22 "GleanDusk$Parish" "earlier" "[LGleanDusk$Dusk;", Cond.classLink RX4 26 "[[I", Cond.fieldLink RX4 28 "GleanDusk$Parish" "missed" "[[I", Cond.fieldLink RX4 31 "GleanDusk$Parish" "notes" "[[I", Cond.fieldLink RX4 34 "GleanDusk$Parish" "kinds" "[LGleanDusk$Plain;"]
def wsX10_init_r4 : List Cond := [Cond.instanceMethod yX1_init, Cond.code yX1_init cX1_init 1 none, Cond.methodLink RX1 3 objectInit, Cond.fieldLink RX1 9 "GleanDusk$Dusk" "light" "[I", Cond.fieldLink RX1 15 "GleanDusk$Dusk" "at" "[I", Cond.fieldLink RX1 18 "GleanDusk$Dusk" "store" "[I", Cond.instanceMethod yX7_init, Cond.code yX7_init cX7_init 1 none, Cond.methodLink RX7 3 objectInit, Cond.arrayClass .byte, Cond.fieldLink RX7 9 "GleanDusk$Text" "bytes" "[B", Cond.fieldLink RX7 15 "GleanDusk$Text" "words" "[I", Cond.fieldLink RX7 19 "GleanDusk$Text" "first" "[I", Cond.fieldLink RX7 22 "GleanDusk$Text" "second" "[I", Cond.instanceMethod yX0_init, Cond.code yX0_init cX0_init 1 none, Cond.methodLink RX0 3 objectInit, Cond.fieldLink RX0 9 "GleanDusk$Best" "row" "[I", Cond.fieldLink RX0 15 "GleanDusk$Best" "first" "[I"]
def wsX10_init : List Cond := .code yX10_init cX10_init 1 none :: ((wsX10_init_r1 ++ (wsX10_init_r2 ++ (wsX10_init_r3 ++ wsX10_init_r4))) ++ wsX50 ++ wsX80 ++ wsX90 ++ wsX60 ++ wsX20 ++ wsX30 ++ wsX100 ++ wsX40 ++ wsX70 ++ wsX10 ++ wsX00)
def wsX10_refuseBad : List Cond := .code yX10_refuseBad cX10_refuseBad 1 (some .int) :: ([.fieldLink RX10 76 "GleanDusk" "refused" "[I"] ++ wsX100)
def wsX10_parish_r1 : List Cond := [Cond.fieldLink RX10 36 "GleanDusk" "now" "LGleanDusk$Parish;", Cond.fieldLink RX10 94 "GleanDusk$Parish" "fields" "I", Cond.methodLink RX10 86 yX10_isBelow, Cond.static yX10_isBelow, Cond.initialized RX10, Cond.code yX10_isBelow cX10_isBelow 2 (some .boolean), Cond.methodLink RX10 90 yX10_refuseBad, Cond.instanceMethod yX10_refuseBad, Cond.selects RX10 yX10_refuseBad yX10_refuseBad, Cond.code yX10_refuseBad cX10_refuseBad 1 (some .int), Cond.fieldLink RX10 76 "GleanDusk" "refused" "[I", Cond.methodLink RX10 97 yX4_begin, Cond.instanceMethod yX4_begin, Cond.selects RX4 yX4_begin yX4_begin, Cond.initialized RX4, Cond.code yX4_begin cX4_begin 2 none, Cond.fieldLink RX4 38 "GleanDusk$Parish" "fields" "I", Cond.fieldLink RX4 42 "GleanDusk$Parish" "gleaners" "I", Cond.fieldLink RX4 45 "GleanDusk$Parish" "undoable" "I", Cond.fieldLink RX4 48 "GleanDusk$Parish" "missedCount" "I", Cond.fieldLink RX4 51 "GleanDusk$Parish" "noteCount" "I", Cond.fieldLink RX4 18 "GleanDusk$Parish" "dusk" "LGleanDusk$Dusk;", Cond.fieldLink RX4 54 "GleanDusk$Dusk" "step" "I", Cond.fieldLink RX4 57 "GleanDusk$Dusk" "cloud" "I"]
def wsX10_parish_r2 : List Cond := [Cond.fieldLink RX4 60 "GleanDusk$Dusk" "number" "I"]
def wsX10_parish : List Cond := .code yX10_parish cX10_parish 3 (some .int) :: ((wsX10_parish_r1 ++ wsX10_parish_r2) ++ wsX100 ++ wsX40 ++ wsX10)
def wsX10_isLight : List Cond := .code yX10_isLight cX10_isLight 1 (some .boolean) :: ([.methodLink RX10 147 yX10_isIn, .static yX10_isIn, .initialized RX10, .code yX10_isIn cX10_isIn 3 (some .boolean)])
def wsX10_refuseFull : List Cond := .code yX10_refuseFull cX10_refuseFull 1 (some .int) :: ([.fieldLink RX10 76 "GleanDusk" "refused" "[I"] ++ wsX100)
def wsX10_field_r1 : List Cond := [Cond.fieldLink RX10 36 "GleanDusk" "now" "LGleanDusk$Parish;", Cond.fieldLink RX10 94 "GleanDusk$Parish" "fields" "I", Cond.methodLink RX10 86 yX10_isBelow, Cond.static yX10_isBelow, Cond.initialized RX10, Cond.code yX10_isBelow cX10_isBelow 2 (some .boolean), Cond.methodLink RX10 101 yX10_isLight, Cond.static yX10_isLight, Cond.code yX10_isLight cX10_isLight 1 (some .boolean), Cond.methodLink RX10 147 yX10_isIn, Cond.static yX10_isIn, Cond.code yX10_isIn cX10_isIn 3 (some .boolean), Cond.methodLink RX10 90 yX10_refuseBad, Cond.instanceMethod yX10_refuseBad, Cond.selects RX10 yX10_refuseBad yX10_refuseBad, Cond.code yX10_refuseBad cX10_refuseBad 1 (some .int), Cond.fieldLink RX10 76 "GleanDusk" "refused" "[I", Cond.methodLink RX10 105 yX10_refuseFull, Cond.instanceMethod yX10_refuseFull, Cond.selects RX10 yX10_refuseFull yX10_refuseFull, Cond.code yX10_refuseFull cX10_refuseFull 1 (some .int), Cond.methodLink RX10 108 yX4_addField, Cond.instanceMethod yX4_addField, Cond.selects RX4 yX4_addField yX4_addField]
def wsX10_field_r2 : List Cond := [Cond.initialized RX4, Cond.code yX4_addField cX4_addField 3 (some .int), Cond.fieldLink RX4 9 "GleanDusk$Parish" "kind" "[I", Cond.fieldLink RX4 38 "GleanDusk$Parish" "fields" "I", Cond.fieldLink RX4 18 "GleanDusk$Parish" "dusk" "LGleanDusk$Dusk;", Cond.fieldLink RX4 77 "GleanDusk$Dusk" "light" "[I", Cond.fieldLink RX4 45 "GleanDusk$Parish" "undoable" "I"]
def wsX10_field : List Cond := .code yX10_field cX10_field 3 (some .int) :: ((wsX10_field_r1 ++ wsX10_field_r2) ++ wsX100 ++ wsX40 ++ wsX10)
def wsX10_gleaner_r1 : List Cond := [Cond.fieldLink RX10 36 "GleanDusk" "now" "LGleanDusk$Parish;", Cond.fieldLink RX10 115 "GleanDusk$Parish" "gleaners" "I", Cond.methodLink RX10 112 yX4_hasField, Cond.instanceMethod yX4_hasField, Cond.selects RX4 yX4_hasField yX4_hasField, Cond.initialized RX4, Cond.code yX4_hasField cX4_hasField 2 (some .boolean), Cond.fieldLink RX4 38 "GleanDusk$Parish" "fields" "I", Cond.static yX10_isBelow, Cond.initialized RX10, Cond.code yX10_isBelow cX10_isBelow 2 (some .boolean), Cond.methodLink RX10 90 yX10_refuseBad, Cond.instanceMethod yX10_refuseBad, Cond.selects RX10 yX10_refuseBad yX10_refuseBad, Cond.code yX10_refuseBad cX10_refuseBad 1 (some .int), Cond.fieldLink RX10 76 "GleanDusk" "refused" "[I", Cond.methodLink RX10 105 yX10_refuseFull, Cond.instanceMethod yX10_refuseFull, Cond.selects RX10 yX10_refuseFull yX10_refuseFull, Cond.code yX10_refuseFull cX10_refuseFull 1 (some .int), Cond.methodLink RX10 118 yX4_addGleaner, Cond.instanceMethod yX4_addGleaner, Cond.selects RX4 yX4_addGleaner yX4_addGleaner, Cond.code yX4_addGleaner cX4_addGleaner 2 (some .int)]
def wsX10_gleaner_r2 : List Cond := [Cond.fieldLink RX4 18 "GleanDusk$Parish" "dusk" "LGleanDusk$Dusk;", Cond.fieldLink RX4 80 "GleanDusk$Dusk" "at" "[I", Cond.fieldLink RX4 42 "GleanDusk$Parish" "gleaners" "I", Cond.fieldLink RX4 83 "GleanDusk$Dusk" "store" "[I", Cond.fieldLink RX4 45 "GleanDusk$Parish" "undoable" "I"]
def wsX10_gleaner : List Cond := .code yX10_gleaner cX10_gleaner 2 (some .int) :: ((wsX10_gleaner_r1 ++ wsX10_gleaner_r2) ++ wsX100 ++ wsX40 ++ wsX10)
def wsX10_type : List Cond := .code yX10_type cX10_type 2 (some .int) :: ([.fieldLink RX10 51 "GleanDusk" "text" "LGleanDusk$Text;", .fieldLink RX10 122 "GleanDusk$Text" "length" "I", .methodLink RX10 86 yX10_isBelow, .static yX10_isBelow, .initialized RX10, .code yX10_isBelow cX10_isBelow 2 (some .boolean), .methodLink RX10 90 yX10_refuseBad, .instanceMethod yX10_refuseBad, .selects RX10 yX10_refuseBad yX10_refuseBad, .code yX10_refuseBad cX10_refuseBad 1 (some .int), .fieldLink RX10 76 "GleanDusk" "refused" "[I", .methodLink RX10 105 yX10_refuseFull, .instanceMethod yX10_refuseFull, .selects RX10 yX10_refuseFull yX10_refuseFull, .code yX10_refuseFull cX10_refuseFull 1 (some .int), .methodLink RX10 125 yX7_append, .instanceMethod yX7_append, .selects RX7 yX7_append yX7_append, .initialized RX7, .code yX7_append cX7_append 2 (some .int), .fieldLink RX7 9 "GleanDusk$Text" "bytes" "[B", .fieldLink RX7 25 "GleanDusk$Text" "length" "I"] ++ wsX100 ++ wsX70)
def wsX10_clear : List Cond := .code yX10_clear cX10_clear 2 (some .int) :: ([.fieldLink RX10 51 "GleanDusk" "text" "LGleanDusk$Text;", .fieldLink RX10 122 "GleanDusk$Text" "length" "I"] ++ wsX100 ++ wsX70)
def wsX10_read_r1 : List Cond := [Cond.fieldLink RX10 51 "GleanDusk" "text" "LGleanDusk$Text;", Cond.fieldLink RX10 36 "GleanDusk" "now" "LGleanDusk$Parish;", Cond.fieldLink RX10 131 "GleanDusk$Text" "first" "[I", Cond.fieldLink RX10 134 "GleanDusk$Text" "words" "[I", Cond.fieldLink RX10 137 "GleanDusk$Text" "second" "[I", Cond.fieldLink RX10 140 "GleanDusk$Parish" "dusk" "LGleanDusk$Dusk;", Cond.methodLink RX10 128 yX7_parse, Cond.instanceMethod yX7_parse, Cond.selects RX7 yX7_parse yX7_parse, Cond.initialized RX7, Cond.code yX7_parse cX7_parse 2 (some .int), Cond.fieldLink RX7 29 "GleanDusk$Text" "end" "I", Cond.fieldLink RX7 32 "GleanDusk$Text" "fields" "I", Cond.fieldLink RX7 35 "GleanDusk$Text" "gleaners" "I", Cond.fieldLink RX7 38 "GleanDusk$Text" "steps" "I", Cond.fieldLink RX7 44 "GleanDusk$Text" "token" "I", Cond.fieldLink RX7 51 "GleanDusk$Text" "start" "I", Cond.methodLink RX7 41 yX7_advance, Cond.instanceMethod yX7_advance, Cond.selects RX7 yX7_advance yX7_advance, Cond.code yX7_advance cX7_advance 1 none, Cond.fieldLink RX7 25 "GleanDusk$Text" "length" "I", Cond.fieldLink RX7 9 "GleanDusk$Text" "bytes" "[B", Cond.methodLink RX7 89 yX7_isLetter]
def wsX10_read_r2 : List Cond := [Cond.static yX7_isLetter, Cond.code yX7_isLetter cX7_isLetter 1 (some .boolean), Cond.methodLink RX7 92 yX7_passWord, Cond.instanceMethod yX7_passWord, Cond.selects RX7 yX7_passWord yX7_passWord, Cond.code yX7_passWord cX7_passWord 1 none, Cond.methodLink RX7 95 yX7_isFigure, Cond.static yX7_isFigure, Cond.code yX7_isFigure cX7_isFigure 1 (some .boolean), Cond.methodLink RX7 98 yX7_passNumber, Cond.instanceMethod yX7_passNumber, Cond.selects RX7 yX7_passNumber yX7_passNumber, Cond.code yX7_passNumber cX7_passNumber 1 none, Cond.fieldLink RX7 62 "GleanDusk$Text" "number" "I", Cond.methodLink RX7 101 yX7_passSign, Cond.instanceMethod yX7_passSign, Cond.selects RX7 yX7_passSign yX7_passSign, Cond.code yX7_passSign cX7_passSign 1 none, Cond.methodLink RX7 47 yX7_isItem, Cond.instanceMethod yX7_isItem, Cond.selects RX7 yX7_isItem yX7_isItem, Cond.code yX7_isItem cX7_isItem 4 (some .boolean), Cond.fieldLink RX7 15 "GleanDusk$Text" "words" "[I", Cond.fieldLink RX7 19 "GleanDusk$Text" "first" "[I"]
def wsX10_read_r3 : List Cond := [Cond.fieldLink RX7 22 "GleanDusk$Text" "second" "[I", Cond.methodLink RX7 54 yX7_wordHere, Cond.instanceMethod yX7_wordHere, Cond.selects RX7 yX7_wordHere yX7_wordHere, Cond.code yX7_wordHere cX7_wordHere 1 (some .int), Cond.methodLink RX7 67 yX7_isWord, Cond.instanceMethod yX7_isWord, Cond.selects RX7 yX7_isWord yX7_isWord, Cond.code yX7_isWord cX7_isWord 3 (some .boolean), Cond.methodLink RX7 77 yJ0_length_8abf5, Cond.instanceMethod yJ0_length_8abf5, Cond.selects RJ0 yJ0_length_8abf5 yJ0_length_8abf5, Cond.initialized RJ0, Cond.code yJ0_length_8abf5 cJ0_length_8abf5 1 (some .int), Cond.fieldLink RJ0 9 "java/lang/String" "value" "[B", Cond.methodLink RJ0 335 yJ0_coder_7d493, Cond.instanceMethod yJ0_coder_7d493, Cond.selects RJ0 yJ0_coder_7d493 yJ0_coder_7d493, Cond.code yJ0_coder_7d493 cJ0_coder_7d493 1 (some .byte), Cond.fieldLink RJ0 38 "java/lang/String" "COMPACT_STRINGS" "Z", Cond.fieldLink RJ0 15 "java/lang/String" "coder" "B", Cond.methodLink RX7 81 yJ0_charAt_5068e, Cond.instanceMethod yJ0_charAt_5068e, Cond.selects RJ0 yJ0_charAt_5068e yJ0_charAt_5068e]
def wsX10_read_r4 : List Cond := [Cond.code yJ0_charAt_5068e cJ0_charAt_5068e 2 (some .char), Cond.methodLink RJ0 492 yJ0_isLatin1_aae02, Cond.instanceMethod yJ0_isLatin1_aae02, Cond.selects RJ0 yJ0_isLatin1_aae02 yJ0_isLatin1_aae02, Cond.code yJ0_isLatin1_aae02 cJ0_isLatin1_aae02 1 (some .boolean), Cond.methodLink RJ0 495 yJ1_charAt_3b067, Cond.static yJ1_charAt_3b067, Cond.initialized RJ1, Cond.code yJ1_charAt_3b067 cJ1_charAt_3b067 2 (some .char), Cond.methodLink RJ1 9 yJ0_checkIndex_df160, Cond.static yJ0_checkIndex_df160, Cond.code yJ0_checkIndex_df160 cJ0_checkIndex_df160 2 none, Cond.fieldLink RJ0 1053 "jdk/internal/util/Preconditions" "SIOOBE_FORMATTER" "Ljava/util/function/BiFunction;", Cond.methodLink RJ0 1059 yJ3_checkIndex_8e157, Cond.static yJ3_checkIndex_8e157, Cond.initialized RJ3, Cond.code yJ3_checkIndex_8e157 cJ3_checkIndex_8e157 3 (some .int), Cond.methodLink RJ0 498 yJ2_charAt_3b067, Cond.static yJ2_charAt_3b067, Cond.initialized RJ2, Cond.code yJ2_charAt_3b067 cJ2_charAt_3b067 2 (some .char), Cond.methodLink RJ2 67 yJ2_checkIndex_2214a, Cond.static yJ2_checkIndex_2214a, Cond.code yJ2_checkIndex_2214a cJ2_checkIndex_2214a 2 none]
def wsX10_read_r5 : List Cond := [Cond.methodLink RJ2 48 yJ2_length_9d52b, Cond.static yJ2_length_9d52b, Cond.code yJ2_length_9d52b cJ2_length_9d52b 1 (some .int), Cond.methodLink RJ2 414 yJ0_checkIndex_df160, Cond.methodLink RJ2 71 yJ2_getChar_3b067, Cond.static yJ2_getChar_3b067, Cond.code yJ2_getChar_3b067 cJ2_getChar_3b067 2 (some .char), Cond.fieldLink RJ2 44 "java/lang/StringUTF16" "$assertionsDisabled" "Z", Cond.fieldLink RJ2 59 "java/lang/StringUTF16" "HI_BYTE_SHIFT" "I", Cond.fieldLink RJ2 63 "java/lang/StringUTF16" "LO_BYTE_SHIFT" "I", Cond.methodLink RX7 58 yX7_takes, Cond.instanceMethod yX7_takes, Cond.selects RX7 yX7_takes yX7_takes, Cond.code yX7_takes cX7_takes 5 (some .boolean), Cond.static yX10_isIn, Cond.initialized RX10, Cond.code yX10_isIn cX10_isIn 3 (some .boolean), Cond.methodLink RX10 97 yX4_begin, Cond.instanceMethod yX4_begin, Cond.selects RX4 yX4_begin yX4_begin, Cond.initialized RX4, Cond.code yX4_begin cX4_begin 2 none, Cond.fieldLink RX4 38 "GleanDusk$Parish" "fields" "I", Cond.fieldLink RX4 42 "GleanDusk$Parish" "gleaners" "I"]
def wsX10_read_r6 : List Cond := [Cond.fieldLink RX4 45 "GleanDusk$Parish" "undoable" "I", Cond.fieldLink RX4 48 "GleanDusk$Parish" "missedCount" "I", Cond.fieldLink RX4 51 "GleanDusk$Parish" "noteCount" "I", Cond.fieldLink RX4 18 "GleanDusk$Parish" "dusk" "LGleanDusk$Dusk;", Cond.fieldLink RX4 54 "GleanDusk$Dusk" "step" "I", Cond.fieldLink RX4 57 "GleanDusk$Dusk" "cloud" "I", Cond.fieldLink RX4 60 "GleanDusk$Dusk" "number" "I", Cond.methodLink RX10 108 yX4_addField, Cond.instanceMethod yX4_addField, Cond.selects RX4 yX4_addField yX4_addField, Cond.code yX4_addField cX4_addField 3 (some .int), Cond.fieldLink RX4 9 "GleanDusk$Parish" "kind" "[I", Cond.fieldLink RX4 77 "GleanDusk$Dusk" "light" "[I", Cond.methodLink RX10 118 yX4_addGleaner, Cond.instanceMethod yX4_addGleaner, Cond.selects RX4 yX4_addGleaner yX4_addGleaner, Cond.code yX4_addGleaner cX4_addGleaner 2 (some .int), Cond.fieldLink RX4 80 "GleanDusk$Dusk" "at" "[I", Cond.fieldLink RX4 83 "GleanDusk$Dusk" "store" "[I", Cond.methodLink RX10 143 yX4_gather, Cond.instanceMethod yX4_gather, Cond.selects RX4 yX4_gather yX4_gather, Cond.code yX4_gather cX4_gather 6 (some .int), Cond.methodLink RX4 103 yX4_share]
end
section
def wsX10_read_r7 : List Cond := [Cond.instanceMethod yX4_share, Cond.selects RX4 yX4_share yX4_share, Cond.code yX4_share cX4_share 4 (some .int), Cond.methodLink RX4 95 yX4_crowd, Cond.instanceMethod yX4_crowd, Cond.selects RX4 yX4_crowd yX4_crowd, Cond.code yX4_crowd cX4_crowd 5 (some .int), Cond.methodLink RX4 99 yX4_shows, Cond.instanceMethod yX4_shows, Cond.selects RX4 yX4_shows yX4_shows, Cond.code yX4_shows cX4_shows 4 (some .int), Cond.fieldLink RX4 34 "GleanDusk$Parish" "kinds" "[LGleanDusk$Plain;", Cond.methodLink RX4 89 ⟨"GleanDusk$Plain", "sight", "(III)I"⟩, Cond.sameMethod "GleanDusk$Plain" "GleanDusk$Plain" "sight" "(III)I", Cond.instanceMethod ⟨"GleanDusk$Plain", "sight", "(III)I"⟩, Cond.selects RX2 ⟨"GleanDusk$Plain", "sight", "(III)I"⟩ yX2_sight, Cond.instanceMethod yX2_sight, Cond.initialized RX2, Cond.code yX2_sight cX2_sight 4 (some .int), Cond.methodLink RX2 7 Lib.Math.max.name, Cond.static Lib.Math.max.name, Cond.initialized "java/lang/Math", Cond.code Lib.Math.max.name Lib.Math.max.code 2 (some .int), Cond.methodLink RX2 13 yX8_sight]
def wsX10_read_r8 : List Cond := [Cond.sameMethod "GleanDusk$West" "GleanDusk$West" "sight" "(III)I", Cond.superclass RX2 RX8, Cond.instanceMethod yX8_sight, Cond.initialized RX8, Cond.code yX8_sight cX8_sight 5 (some .int), Cond.methodLink RX8 7 yX5_sight, Cond.superclass RX8 RX5, Cond.instanceMethod yX5_sight, Cond.initialized RX5, Cond.code yX5_sight cX5_sight 4 (some .int), Cond.methodLink RX5 7 Lib.Math.max.name, Cond.selects RX3 ⟨"GleanDusk$Plain", "sight", "(III)I"⟩ yX3_sight, Cond.instanceMethod yX3_sight, Cond.initialized RX3, Cond.code yX3_sight cX3_sight 4 (some .int), Cond.methodLink RX3 7 yX9_sight, Cond.sameMethod "GleanDusk$Wood" "GleanDusk$Wood" "sight" "(III)I", Cond.superclass RX3 RX9, Cond.instanceMethod yX9_sight, Cond.initialized RX9, Cond.code yX9_sight cX9_sight 4 (some .int), Cond.methodLink RX9 7 yX5_sight, Cond.superclass RX9 RX5, Cond.methodLink RX4 89 yX5_sight]
def wsX10_read_r9 : List Cond := [Cond.selects RX5 yX5_sight yX5_sight, Cond.selects RX6 ⟨"GleanDusk$Plain", "sight", "(III)I"⟩ yX6_sight, Cond.instanceMethod yX6_sight, Cond.initialized RX6, Cond.code yX6_sight cX6_sight 4 (some .int), Cond.methodLink RX6 11 Lib.Math.min.name, Cond.static Lib.Math.min.name, Cond.code Lib.Math.min.name Lib.Math.min.code 2 (some .int), Cond.methodLink RX6 7 yX5_sight, Cond.superclass RX6 RX5, Cond.selects RX8 ⟨"GleanDusk$Plain", "sight", "(III)I"⟩ yX8_sight, Cond.selects RX9 ⟨"GleanDusk$Plain", "sight", "(III)I"⟩ yX9_sight, Cond.methodLink RX4 106 yX4_give, Cond.instanceMethod yX4_give, Cond.selects RX4 yX4_give yX4_give, Cond.code yX4_give cX4_give 6 (some .int), Cond.methodLink RX4 109 Lib.Math.min.name, Cond.methodLink RX4 115 Lib.Math.max.name]
def wsX10_read : List Cond := .code yX10_read cX10_read 3 (some .int) :: ((wsX10_read_r1 ++ (wsX10_read_r2 ++ (wsX10_read_r3 ++ (wsX10_read_r4 ++ (wsX10_read_r5 ++ (wsX10_read_r6 ++ (wsX10_read_r7 ++ (wsX10_read_r8 ++ wsX10_read_r9)))))))) ++ wsX100 ++ wsX70 ++ wsX40 ++ wsX10)
def wsX10_refuseNo : List Cond := .code yX10_refuseNo cX10_refuseNo 1 (some .int) :: ([.fieldLink RX10 76 "GleanDusk" "refused" "[I"] ++ wsX100)
def wsX10_glean_r1 : List Cond := [Cond.fieldLink RX10 36 "GleanDusk" "now" "LGleanDusk$Parish;", Cond.fieldLink RX10 140 "GleanDusk$Parish" "dusk" "LGleanDusk$Dusk;", Cond.fieldLink RX10 151 "GleanDusk$Dusk" "step" "I", Cond.methodLink RX10 147 yX10_isIn, Cond.static yX10_isIn, Cond.initialized RX10, Cond.code yX10_isIn cX10_isIn 3 (some .boolean), Cond.methodLink RX10 90 yX10_refuseBad, Cond.instanceMethod yX10_refuseBad, Cond.selects RX10 yX10_refuseBad yX10_refuseBad, Cond.code yX10_refuseBad cX10_refuseBad 1 (some .int), Cond.fieldLink RX10 76 "GleanDusk" "refused" "[I", Cond.methodLink RX10 154 yX10_refuseNo, Cond.instanceMethod yX10_refuseNo, Cond.selects RX10 yX10_refuseNo yX10_refuseNo, Cond.code yX10_refuseNo cX10_refuseNo 1 (some .int), Cond.methodLink RX10 157 yX4_remember, Cond.instanceMethod yX4_remember, Cond.selects RX4 yX4_remember yX4_remember, Cond.initialized RX4, Cond.code yX4_remember cX4_remember 1 none, Cond.fieldLink RX4 45 "GleanDusk$Parish" "undoable" "I", Cond.fieldLink RX4 22 "GleanDusk$Parish" "earlier" "[LGleanDusk$Dusk;", Cond.fieldLink RX4 18 "GleanDusk$Parish" "dusk" "LGleanDusk$Dusk;"]
def wsX10_glean_r2 : List Cond := [Cond.methodLink RX4 86 yX4_dropOldest, Cond.instanceMethod yX4_dropOldest, Cond.selects RX4 yX4_dropOldest yX4_dropOldest, Cond.code yX4_dropOldest cX4_dropOldest 3 none, Cond.methodLink RX4 69 yX1_become, Cond.instanceMethod yX1_become, Cond.selects RX1 yX1_become yX1_become, Cond.initialized RX1, Cond.code yX1_become cX1_become 2 none, Cond.fieldLink RX1 9 "GleanDusk$Dusk" "light" "[I", Cond.methodLink RX1 21 arraycopyName, Cond.native arraycopyName, Cond.static arraycopyName, Cond.initialized "java/lang/System", Cond.fieldLink RX1 15 "GleanDusk$Dusk" "at" "[I", Cond.fieldLink RX1 18 "GleanDusk$Dusk" "store" "[I", Cond.fieldLink RX1 27 "GleanDusk$Dusk" "step" "I", Cond.fieldLink RX1 31 "GleanDusk$Dusk" "cloud" "I", Cond.fieldLink RX1 34 "GleanDusk$Dusk" "number" "I", Cond.methodLink RX10 143 yX4_gather, Cond.instanceMethod yX4_gather, Cond.selects RX4 yX4_gather yX4_gather, Cond.code yX4_gather cX4_gather 6 (some .int), Cond.fieldLink RX4 38 "GleanDusk$Parish" "fields" "I"]
def wsX10_glean_r3 : List Cond := [Cond.fieldLink RX4 54 "GleanDusk$Dusk" "step" "I", Cond.methodLink RX4 103 yX4_share, Cond.instanceMethod yX4_share, Cond.selects RX4 yX4_share yX4_share, Cond.code yX4_share cX4_share 4 (some .int), Cond.methodLink RX4 95 yX4_crowd, Cond.instanceMethod yX4_crowd, Cond.selects RX4 yX4_crowd yX4_crowd, Cond.code yX4_crowd cX4_crowd 5 (some .int), Cond.fieldLink RX4 42 "GleanDusk$Parish" "gleaners" "I", Cond.fieldLink RX4 80 "GleanDusk$Dusk" "at" "[I", Cond.methodLink RX4 99 yX4_shows, Cond.instanceMethod yX4_shows, Cond.selects RX4 yX4_shows yX4_shows, Cond.code yX4_shows cX4_shows 4 (some .int), Cond.fieldLink RX4 34 "GleanDusk$Parish" "kinds" "[LGleanDusk$Plain;", Cond.fieldLink RX4 9 "GleanDusk$Parish" "kind" "[I", Cond.fieldLink RX4 77 "GleanDusk$Dusk" "light" "[I", Cond.fieldLink RX4 57 "GleanDusk$Dusk" "cloud" "I", Cond.methodLink RX4 89 ⟨"GleanDusk$Plain", "sight", "(III)I"⟩, Cond.sameMethod "GleanDusk$Plain" "GleanDusk$Plain" "sight" "(III)I", Cond.instanceMethod ⟨"GleanDusk$Plain", "sight", "(III)I"⟩, Cond.selects RX2 ⟨"GleanDusk$Plain", "sight", "(III)I"⟩ yX2_sight, Cond.instanceMethod yX2_sight]
def wsX10_glean_r4 : List Cond := [Cond.initialized RX2, Cond.code yX2_sight cX2_sight 4 (some .int), Cond.methodLink RX2 7 Lib.Math.max.name, Cond.static Lib.Math.max.name, Cond.initialized "java/lang/Math", Cond.code Lib.Math.max.name Lib.Math.max.code 2 (some .int), Cond.methodLink RX2 13 yX8_sight, Cond.sameMethod "GleanDusk$West" "GleanDusk$West" "sight" "(III)I", Cond.superclass RX2 RX8, Cond.instanceMethod yX8_sight, Cond.initialized RX8, Cond.code yX8_sight cX8_sight 5 (some .int), Cond.methodLink RX8 7 yX5_sight, Cond.superclass RX8 RX5, Cond.instanceMethod yX5_sight, Cond.initialized RX5, Cond.code yX5_sight cX5_sight 4 (some .int), Cond.methodLink RX5 7 Lib.Math.max.name, Cond.selects RX3 ⟨"GleanDusk$Plain", "sight", "(III)I"⟩ yX3_sight, Cond.instanceMethod yX3_sight, Cond.initialized RX3, Cond.code yX3_sight cX3_sight 4 (some .int), Cond.methodLink RX3 7 yX9_sight, Cond.sameMethod "GleanDusk$Wood" "GleanDusk$Wood" "sight" "(III)I"]
def wsX10_glean_r5 : List Cond := [Cond.superclass RX3 RX9, Cond.instanceMethod yX9_sight, Cond.initialized RX9, Cond.code yX9_sight cX9_sight 4 (some .int), Cond.methodLink RX9 7 yX5_sight, Cond.superclass RX9 RX5, Cond.methodLink RX4 89 yX5_sight, Cond.selects RX5 yX5_sight yX5_sight, Cond.selects RX6 ⟨"GleanDusk$Plain", "sight", "(III)I"⟩ yX6_sight, Cond.instanceMethod yX6_sight, Cond.initialized RX6, Cond.code yX6_sight cX6_sight 4 (some .int), Cond.methodLink RX6 11 Lib.Math.min.name, Cond.static Lib.Math.min.name, Cond.code Lib.Math.min.name Lib.Math.min.code 2 (some .int), Cond.methodLink RX6 7 yX5_sight, Cond.superclass RX6 RX5, Cond.selects RX8 ⟨"GleanDusk$Plain", "sight", "(III)I"⟩ yX8_sight, Cond.selects RX9 ⟨"GleanDusk$Plain", "sight", "(III)I"⟩ yX9_sight, Cond.methodLink RX4 106 yX4_give, Cond.instanceMethod yX4_give, Cond.selects RX4 yX4_give yX4_give, Cond.code yX4_give cX4_give 6 (some .int), Cond.fieldLink RX4 83 "GleanDusk$Dusk" "store" "[I"]
def wsX10_glean_r6 : List Cond := [Cond.methodLink RX4 109 Lib.Math.min.name, Cond.methodLink RX4 115 Lib.Math.max.name]
def wsX10_glean : List Cond := .code yX10_glean cX10_glean 2 (some .int) :: ((wsX10_glean_r1 ++ (wsX10_glean_r2 ++ (wsX10_glean_r3 ++ (wsX10_glean_r4 ++ (wsX10_glean_r5 ++ wsX10_glean_r6))))) ++ wsX100 ++ wsX40 ++ wsX10)
def wsX10_night_r1 : List Cond := [Cond.fieldLink RX10 36 "GleanDusk" "now" "LGleanDusk$Parish;", Cond.fieldLink RX10 140 "GleanDusk$Parish" "dusk" "LGleanDusk$Dusk;", Cond.fieldLink RX10 164 "GleanDusk$Dusk" "number" "I", Cond.methodLink RX10 157 yX4_remember, Cond.instanceMethod yX4_remember, Cond.selects RX4 yX4_remember yX4_remember, Cond.initialized RX4, Cond.code yX4_remember cX4_remember 1 none, Cond.fieldLink RX4 45 "GleanDusk$Parish" "undoable" "I", Cond.fieldLink RX4 22 "GleanDusk$Parish" "earlier" "[LGleanDusk$Dusk;", Cond.fieldLink RX4 18 "GleanDusk$Parish" "dusk" "LGleanDusk$Dusk;", Cond.methodLink RX4 86 yX4_dropOldest, Cond.instanceMethod yX4_dropOldest, Cond.selects RX4 yX4_dropOldest yX4_dropOldest, Cond.code yX4_dropOldest cX4_dropOldest 3 none, Cond.methodLink RX4 69 yX1_become, Cond.instanceMethod yX1_become, Cond.selects RX1 yX1_become yX1_become, Cond.initialized RX1, Cond.code yX1_become cX1_become 2 none, Cond.fieldLink RX1 9 "GleanDusk$Dusk" "light" "[I", Cond.methodLink RX1 21 arraycopyName, Cond.native arraycopyName, Cond.static arraycopyName]
def wsX10_night_r2 : List Cond := [Cond.initialized "java/lang/System", Cond.fieldLink RX1 15 "GleanDusk$Dusk" "at" "[I", Cond.fieldLink RX1 18 "GleanDusk$Dusk" "store" "[I", Cond.fieldLink RX1 27 "GleanDusk$Dusk" "step" "I", Cond.fieldLink RX1 31 "GleanDusk$Dusk" "cloud" "I", Cond.fieldLink RX1 34 "GleanDusk$Dusk" "number" "I", Cond.methodLink RX10 160 yX4_fade, Cond.instanceMethod yX4_fade, Cond.selects RX4 yX4_fade yX4_fade, Cond.code yX4_fade cX4_fade 3 none, Cond.fieldLink RX4 42 "GleanDusk$Parish" "gleaners" "I", Cond.fieldLink RX4 83 "GleanDusk$Dusk" "store" "[I", Cond.fieldLink RX4 38 "GleanDusk$Parish" "fields" "I", Cond.fieldLink RX4 77 "GleanDusk$Dusk" "light" "[I", Cond.methodLink RX4 109 Lib.Math.min.name, Cond.static Lib.Math.min.name, Cond.initialized "java/lang/Math", Cond.code Lib.Math.min.name Lib.Math.min.code 2 (some .int), Cond.fieldLink RX4 60 "GleanDusk$Dusk" "number" "I", Cond.fieldLink RX4 54 "GleanDusk$Dusk" "step" "I", Cond.static yX10_faded, Cond.initialized RX10, Cond.code yX10_faded cX10_faded 1 (some .int)]
def wsX10_night : List Cond := .code yX10_night cX10_night 1 (some .int) :: ((wsX10_night_r1 ++ wsX10_night_r2) ++ wsX100 ++ wsX40 ++ wsX10)
def wsX10_goes_r1 : List Cond := [Cond.fieldLink RX10 36 "GleanDusk" "now" "LGleanDusk$Parish;", Cond.fieldLink RX10 140 "GleanDusk$Parish" "dusk" "LGleanDusk$Dusk;", Cond.fieldLink RX10 170 "GleanDusk$Dusk" "at" "[I", Cond.methodLink RX10 167 yX4_hasGleaner, Cond.instanceMethod yX4_hasGleaner, Cond.selects RX4 yX4_hasGleaner yX4_hasGleaner, Cond.initialized RX4, Cond.code yX4_hasGleaner cX4_hasGleaner 2 (some .boolean), Cond.fieldLink RX4 42 "GleanDusk$Parish" "gleaners" "I", Cond.static yX10_isBelow, Cond.initialized RX10, Cond.code yX10_isBelow cX10_isBelow 2 (some .boolean), Cond.methodLink RX10 112 yX4_hasField, Cond.instanceMethod yX4_hasField, Cond.selects RX4 yX4_hasField yX4_hasField, Cond.code yX4_hasField cX4_hasField 2 (some .boolean), Cond.fieldLink RX4 38 "GleanDusk$Parish" "fields" "I", Cond.methodLink RX10 90 yX10_refuseBad, Cond.instanceMethod yX10_refuseBad, Cond.selects RX10 yX10_refuseBad yX10_refuseBad, Cond.code yX10_refuseBad cX10_refuseBad 1 (some .int), Cond.fieldLink RX10 76 "GleanDusk" "refused" "[I", Cond.methodLink RX10 157 yX4_remember, Cond.instanceMethod yX4_remember]
def wsX10_goes_r2 : List Cond := [Cond.selects RX4 yX4_remember yX4_remember, Cond.code yX4_remember cX4_remember 1 none, Cond.fieldLink RX4 45 "GleanDusk$Parish" "undoable" "I", Cond.fieldLink RX4 22 "GleanDusk$Parish" "earlier" "[LGleanDusk$Dusk;", Cond.fieldLink RX4 18 "GleanDusk$Parish" "dusk" "LGleanDusk$Dusk;", Cond.methodLink RX4 86 yX4_dropOldest, Cond.instanceMethod yX4_dropOldest, Cond.selects RX4 yX4_dropOldest yX4_dropOldest, Cond.code yX4_dropOldest cX4_dropOldest 3 none, Cond.methodLink RX4 69 yX1_become, Cond.instanceMethod yX1_become, Cond.selects RX1 yX1_become yX1_become, Cond.initialized RX1, Cond.code yX1_become cX1_become 2 none, Cond.fieldLink RX1 9 "GleanDusk$Dusk" "light" "[I", Cond.methodLink RX1 21 arraycopyName, Cond.native arraycopyName, Cond.static arraycopyName, Cond.initialized "java/lang/System", Cond.fieldLink RX1 15 "GleanDusk$Dusk" "at" "[I", Cond.fieldLink RX1 18 "GleanDusk$Dusk" "store" "[I", Cond.fieldLink RX1 27 "GleanDusk$Dusk" "step" "I", Cond.fieldLink RX1 31 "GleanDusk$Dusk" "cloud" "I", Cond.fieldLink RX1 34 "GleanDusk$Dusk" "number" "I"]
def wsX10_goes : List Cond := .code yX10_goes cX10_goes 4 (some .int) :: ((wsX10_goes_r1 ++ wsX10_goes_r2) ++ wsX100 ++ wsX40 ++ wsX10)
def wsX10_cloud_r1 : List Cond := [Cond.fieldLink RX10 36 "GleanDusk" "now" "LGleanDusk$Parish;", Cond.fieldLink RX10 140 "GleanDusk$Parish" "dusk" "LGleanDusk$Dusk;", Cond.fieldLink RX10 173 "GleanDusk$Dusk" "cloud" "I", Cond.methodLink RX10 86 yX10_isBelow, Cond.static yX10_isBelow, Cond.initialized RX10, Cond.code yX10_isBelow cX10_isBelow 2 (some .boolean), Cond.methodLink RX10 90 yX10_refuseBad, Cond.instanceMethod yX10_refuseBad, Cond.selects RX10 yX10_refuseBad yX10_refuseBad, Cond.code yX10_refuseBad cX10_refuseBad 1 (some .int), Cond.fieldLink RX10 76 "GleanDusk" "refused" "[I", Cond.methodLink RX10 157 yX4_remember, Cond.instanceMethod yX4_remember, Cond.selects RX4 yX4_remember yX4_remember, Cond.initialized RX4, Cond.code yX4_remember cX4_remember 1 none, Cond.fieldLink RX4 45 "GleanDusk$Parish" "undoable" "I", Cond.fieldLink RX4 22 "GleanDusk$Parish" "earlier" "[LGleanDusk$Dusk;", Cond.fieldLink RX4 18 "GleanDusk$Parish" "dusk" "LGleanDusk$Dusk;", Cond.methodLink RX4 86 yX4_dropOldest, Cond.instanceMethod yX4_dropOldest, Cond.selects RX4 yX4_dropOldest yX4_dropOldest, Cond.code yX4_dropOldest cX4_dropOldest 3 none]
def wsX10_cloud_r2 : List Cond := [Cond.methodLink RX4 69 yX1_become, Cond.instanceMethod yX1_become, Cond.selects RX1 yX1_become yX1_become, Cond.initialized RX1, Cond.code yX1_become cX1_become 2 none, Cond.fieldLink RX1 9 "GleanDusk$Dusk" "light" "[I", Cond.methodLink RX1 21 arraycopyName, Cond.native arraycopyName, Cond.static arraycopyName, Cond.initialized "java/lang/System", Cond.fieldLink RX1 15 "GleanDusk$Dusk" "at" "[I", Cond.fieldLink RX1 18 "GleanDusk$Dusk" "store" "[I", Cond.fieldLink RX1 27 "GleanDusk$Dusk" "step" "I", Cond.fieldLink RX1 31 "GleanDusk$Dusk" "cloud" "I", Cond.fieldLink RX1 34 "GleanDusk$Dusk" "number" "I"]
def wsX10_cloud : List Cond := .code yX10_cloud cX10_cloud 3 (some .int) :: ((wsX10_cloud_r1 ++ wsX10_cloud_r2) ++ wsX100 ++ wsX40 ++ wsX10)
def wsX10_undo_r1 : List Cond := [Cond.fieldLink RX10 36 "GleanDusk" "now" "LGleanDusk$Parish;", Cond.fieldLink RX10 176 "GleanDusk$Parish" "undoable" "I", Cond.fieldLink RX10 140 "GleanDusk$Parish" "dusk" "LGleanDusk$Dusk;", Cond.fieldLink RX10 151 "GleanDusk$Dusk" "step" "I", Cond.methodLink RX10 154 yX10_refuseNo, Cond.instanceMethod yX10_refuseNo, Cond.selects RX10 yX10_refuseNo yX10_refuseNo, Cond.initialized RX10, Cond.code yX10_refuseNo cX10_refuseNo 1 (some .int), Cond.fieldLink RX10 76 "GleanDusk" "refused" "[I", Cond.methodLink RX10 179 yX4_goBack, Cond.instanceMethod yX4_goBack, Cond.selects RX4 yX4_goBack yX4_goBack, Cond.initialized RX4, Cond.code yX4_goBack cX4_goBack 1 none, Cond.fieldLink RX4 45 "GleanDusk$Parish" "undoable" "I", Cond.fieldLink RX4 18 "GleanDusk$Parish" "dusk" "LGleanDusk$Dusk;", Cond.fieldLink RX4 22 "GleanDusk$Parish" "earlier" "[LGleanDusk$Dusk;", Cond.methodLink RX4 69 yX1_become, Cond.instanceMethod yX1_become, Cond.selects RX1 yX1_become yX1_become, Cond.initialized RX1, Cond.code yX1_become cX1_become 2 none, Cond.fieldLink RX1 9 "GleanDusk$Dusk" "light" "[I"]
def wsX10_undo_r2 : List Cond := [Cond.methodLink RX1 21 arraycopyName, Cond.native arraycopyName, Cond.static arraycopyName, Cond.initialized "java/lang/System", Cond.fieldLink RX1 15 "GleanDusk$Dusk" "at" "[I", Cond.fieldLink RX1 18 "GleanDusk$Dusk" "store" "[I", Cond.fieldLink RX1 27 "GleanDusk$Dusk" "step" "I", Cond.fieldLink RX1 31 "GleanDusk$Dusk" "cloud" "I", Cond.fieldLink RX1 34 "GleanDusk$Dusk" "number" "I"]
def wsX10_undo : List Cond := .code yX10_undo cX10_undo 1 (some .int) :: ((wsX10_undo_r1 ++ wsX10_undo_r2) ++ wsX100 ++ wsX40 ++ wsX10)
def wsX10_of_r1 : List Cond := [Cond.fieldLink RX10 36 "GleanDusk" "now" "LGleanDusk$Parish;", Cond.fieldLink RX10 182 "GleanDusk$Parish" "kind" "[I", Cond.fieldLink RX10 140 "GleanDusk$Parish" "dusk" "LGleanDusk$Dusk;", Cond.fieldLink RX10 185 "GleanDusk$Dusk" "light" "[I", Cond.methodLink RX10 112 yX4_hasField, Cond.instanceMethod yX4_hasField, Cond.selects RX4 yX4_hasField yX4_hasField, Cond.initialized RX4, Cond.code yX4_hasField cX4_hasField 2 (some .boolean), Cond.fieldLink RX4 38 "GleanDusk$Parish" "fields" "I", Cond.static yX10_isBelow, Cond.initialized RX10, Cond.code yX10_isBelow cX10_isBelow 2 (some .boolean), Cond.methodLink RX10 86 yX10_isBelow, Cond.methodLink RX10 90 yX10_refuseBad, Cond.instanceMethod yX10_refuseBad, Cond.selects RX10 yX10_refuseBad yX10_refuseBad, Cond.code yX10_refuseBad cX10_refuseBad 1 (some .int), Cond.fieldLink RX10 76 "GleanDusk" "refused" "[I", Cond.methodLink RX10 188 yX4_whoIsOn, Cond.instanceMethod yX4_whoIsOn, Cond.selects RX4 yX4_whoIsOn yX4_whoIsOn, Cond.code yX4_whoIsOn cX4_whoIsOn 4 (some .int), Cond.fieldLink RX4 42 "GleanDusk$Parish" "gleaners" "I"]
def wsX10_of_r2 : List Cond := [Cond.fieldLink RX4 18 "GleanDusk$Parish" "dusk" "LGleanDusk$Dusk;", Cond.fieldLink RX4 80 "GleanDusk$Dusk" "at" "[I"]
def wsX10_of : List Cond := .code yX10_of cX10_of 3 (some .int) :: ((wsX10_of_r1 ++ wsX10_of_r2) ++ wsX100 ++ wsX40 ++ wsX10)
def wsX10_about_r1 : List Cond := [Cond.fieldLink RX10 36 "GleanDusk" "now" "LGleanDusk$Parish;", Cond.fieldLink RX10 140 "GleanDusk$Parish" "dusk" "LGleanDusk$Dusk;", Cond.fieldLink RX10 170 "GleanDusk$Dusk" "at" "[I", Cond.fieldLink RX10 191 "GleanDusk$Dusk" "store" "[I", Cond.methodLink RX10 167 yX4_hasGleaner, Cond.instanceMethod yX4_hasGleaner, Cond.selects RX4 yX4_hasGleaner yX4_hasGleaner, Cond.initialized RX4, Cond.code yX4_hasGleaner cX4_hasGleaner 2 (some .boolean), Cond.fieldLink RX4 42 "GleanDusk$Parish" "gleaners" "I", Cond.static yX10_isBelow, Cond.initialized RX10, Cond.code yX10_isBelow cX10_isBelow 2 (some .boolean), Cond.methodLink RX10 86 yX10_isBelow, Cond.methodLink RX10 90 yX10_refuseBad, Cond.instanceMethod yX10_refuseBad, Cond.selects RX10 yX10_refuseBad yX10_refuseBad, Cond.code yX10_refuseBad cX10_refuseBad 1 (some .int), Cond.fieldLink RX10 76 "GleanDusk" "refused" "[I", Cond.methodLink RX10 194 yX4_share, Cond.instanceMethod yX4_share, Cond.selects RX4 yX4_share yX4_share, Cond.code yX4_share cX4_share 4 (some .int), Cond.fieldLink RX4 54 "GleanDusk$Dusk" "step" "I"]
def wsX10_about_r2 : List Cond := [Cond.methodLink RX4 95 yX4_crowd, Cond.instanceMethod yX4_crowd, Cond.selects RX4 yX4_crowd yX4_crowd, Cond.code yX4_crowd cX4_crowd 5 (some .int), Cond.fieldLink RX4 80 "GleanDusk$Dusk" "at" "[I", Cond.methodLink RX4 99 yX4_shows, Cond.instanceMethod yX4_shows, Cond.selects RX4 yX4_shows yX4_shows, Cond.code yX4_shows cX4_shows 4 (some .int), Cond.fieldLink RX4 34 "GleanDusk$Parish" "kinds" "[LGleanDusk$Plain;", Cond.fieldLink RX4 9 "GleanDusk$Parish" "kind" "[I", Cond.fieldLink RX4 77 "GleanDusk$Dusk" "light" "[I", Cond.fieldLink RX4 57 "GleanDusk$Dusk" "cloud" "I", Cond.methodLink RX4 89 ⟨"GleanDusk$Plain", "sight", "(III)I"⟩, Cond.sameMethod "GleanDusk$Plain" "GleanDusk$Plain" "sight" "(III)I", Cond.instanceMethod ⟨"GleanDusk$Plain", "sight", "(III)I"⟩, Cond.selects RX2 ⟨"GleanDusk$Plain", "sight", "(III)I"⟩ yX2_sight, Cond.instanceMethod yX2_sight, Cond.initialized RX2, Cond.code yX2_sight cX2_sight 4 (some .int), Cond.methodLink RX2 7 Lib.Math.max.name, Cond.static Lib.Math.max.name, Cond.initialized "java/lang/Math", Cond.code Lib.Math.max.name Lib.Math.max.code 2 (some .int)]
def wsX10_about_r3 : List Cond := [Cond.methodLink RX2 13 yX8_sight, Cond.sameMethod "GleanDusk$West" "GleanDusk$West" "sight" "(III)I", Cond.superclass RX2 RX8, Cond.instanceMethod yX8_sight, Cond.initialized RX8, Cond.code yX8_sight cX8_sight 5 (some .int), Cond.methodLink RX8 7 yX5_sight, Cond.superclass RX8 RX5, Cond.instanceMethod yX5_sight, Cond.initialized RX5, Cond.code yX5_sight cX5_sight 4 (some .int), Cond.methodLink RX5 7 Lib.Math.max.name, Cond.selects RX3 ⟨"GleanDusk$Plain", "sight", "(III)I"⟩ yX3_sight, Cond.instanceMethod yX3_sight, Cond.initialized RX3, Cond.code yX3_sight cX3_sight 4 (some .int), Cond.methodLink RX3 7 yX9_sight, Cond.sameMethod "GleanDusk$Wood" "GleanDusk$Wood" "sight" "(III)I", Cond.superclass RX3 RX9, Cond.instanceMethod yX9_sight, Cond.initialized RX9, Cond.code yX9_sight cX9_sight 4 (some .int), Cond.methodLink RX9 7 yX5_sight, Cond.superclass RX9 RX5]
def wsX10_about_r4 : List Cond := [Cond.methodLink RX4 89 yX5_sight, Cond.selects RX5 yX5_sight yX5_sight, Cond.selects RX6 ⟨"GleanDusk$Plain", "sight", "(III)I"⟩ yX6_sight, Cond.instanceMethod yX6_sight, Cond.initialized RX6, Cond.code yX6_sight cX6_sight 4 (some .int), Cond.methodLink RX6 11 Lib.Math.min.name, Cond.static Lib.Math.min.name, Cond.code Lib.Math.min.name Lib.Math.min.code 2 (some .int), Cond.methodLink RX6 7 yX5_sight, Cond.superclass RX6 RX5, Cond.selects RX8 ⟨"GleanDusk$Plain", "sight", "(III)I"⟩ yX8_sight, Cond.selects RX9 ⟨"GleanDusk$Plain", "sight", "(III)I"⟩ yX9_sight]
def wsX10_about : List Cond := .code yX10_about cX10_about 3 (some .int) :: ((wsX10_about_r1 ++ (wsX10_about_r2 ++ (wsX10_about_r3 ++ wsX10_about_r4))) ++ wsX100 ++ wsX40 ++ wsX10)
def wsX10_seen_r1 : List Cond := [Cond.fieldLink RX10 36 "GleanDusk" "now" "LGleanDusk$Parish;", Cond.fieldLink RX10 140 "GleanDusk$Parish" "dusk" "LGleanDusk$Dusk;", Cond.methodLink RX10 112 yX4_hasField, Cond.instanceMethod yX4_hasField, Cond.selects RX4 yX4_hasField yX4_hasField, Cond.initialized RX4, Cond.code yX4_hasField cX4_hasField 2 (some .boolean), Cond.fieldLink RX4 38 "GleanDusk$Parish" "fields" "I", Cond.static yX10_isBelow, Cond.initialized RX10, Cond.code yX10_isBelow cX10_isBelow 2 (some .boolean), Cond.methodLink RX10 86 yX10_isBelow, Cond.methodLink RX10 90 yX10_refuseBad, Cond.instanceMethod yX10_refuseBad, Cond.selects RX10 yX10_refuseBad yX10_refuseBad, Cond.code yX10_refuseBad cX10_refuseBad 1 (some .int), Cond.fieldLink RX10 76 "GleanDusk" "refused" "[I", Cond.methodLink RX10 197 yX4_shows, Cond.instanceMethod yX4_shows, Cond.selects RX4 yX4_shows yX4_shows, Cond.code yX4_shows cX4_shows 4 (some .int), Cond.fieldLink RX4 34 "GleanDusk$Parish" "kinds" "[LGleanDusk$Plain;", Cond.fieldLink RX4 9 "GleanDusk$Parish" "kind" "[I", Cond.fieldLink RX4 77 "GleanDusk$Dusk" "light" "[I"]
def wsX10_seen_r2 : List Cond := [Cond.fieldLink RX4 57 "GleanDusk$Dusk" "cloud" "I", Cond.methodLink RX4 89 ⟨"GleanDusk$Plain", "sight", "(III)I"⟩, Cond.sameMethod "GleanDusk$Plain" "GleanDusk$Plain" "sight" "(III)I", Cond.instanceMethod ⟨"GleanDusk$Plain", "sight", "(III)I"⟩, Cond.selects RX2 ⟨"GleanDusk$Plain", "sight", "(III)I"⟩ yX2_sight, Cond.instanceMethod yX2_sight, Cond.initialized RX2, Cond.code yX2_sight cX2_sight 4 (some .int), Cond.methodLink RX2 7 Lib.Math.max.name, Cond.static Lib.Math.max.name, Cond.initialized "java/lang/Math", Cond.code Lib.Math.max.name Lib.Math.max.code 2 (some .int), Cond.methodLink RX2 13 yX8_sight, Cond.sameMethod "GleanDusk$West" "GleanDusk$West" "sight" "(III)I", Cond.superclass RX2 RX8, Cond.instanceMethod yX8_sight, Cond.initialized RX8, Cond.code yX8_sight cX8_sight 5 (some .int), Cond.methodLink RX8 7 yX5_sight, Cond.superclass RX8 RX5, Cond.instanceMethod yX5_sight, Cond.initialized RX5, Cond.code yX5_sight cX5_sight 4 (some .int), Cond.methodLink RX5 7 Lib.Math.max.name]
def wsX10_seen_r3 : List Cond := [Cond.selects RX3 ⟨"GleanDusk$Plain", "sight", "(III)I"⟩ yX3_sight, Cond.instanceMethod yX3_sight, Cond.initialized RX3, Cond.code yX3_sight cX3_sight 4 (some .int), Cond.methodLink RX3 7 yX9_sight, Cond.sameMethod "GleanDusk$Wood" "GleanDusk$Wood" "sight" "(III)I", Cond.superclass RX3 RX9, Cond.instanceMethod yX9_sight, Cond.initialized RX9, Cond.code yX9_sight cX9_sight 4 (some .int), Cond.methodLink RX9 7 yX5_sight, Cond.superclass RX9 RX5, Cond.methodLink RX4 89 yX5_sight, Cond.selects RX5 yX5_sight yX5_sight, Cond.selects RX6 ⟨"GleanDusk$Plain", "sight", "(III)I"⟩ yX6_sight, Cond.instanceMethod yX6_sight, Cond.initialized RX6, Cond.code yX6_sight cX6_sight 4 (some .int), Cond.methodLink RX6 11 Lib.Math.min.name, Cond.static Lib.Math.min.name, Cond.code Lib.Math.min.name Lib.Math.min.code 2 (some .int), Cond.methodLink RX6 7 yX5_sight, Cond.superclass RX6 RX5, Cond.selects RX8 ⟨"GleanDusk$Plain", "sight", "(III)I"⟩ yX8_sight]
def wsX10_seen_r4 : List Cond := [Cond.selects RX9 ⟨"GleanDusk$Plain", "sight", "(III)I"⟩ yX9_sight]
def wsX10_seen : List Cond := .code yX10_seen cX10_seen 3 (some .int) :: ((wsX10_seen_r1 ++ (wsX10_seen_r2 ++ (wsX10_seen_r3 ++ wsX10_seen_r4))) ++ wsX100 ++ wsX40 ++ wsX10)
def wsX10_then_r1 : List Cond := [Cond.fieldLink RX10 36 "GleanDusk" "now" "LGleanDusk$Parish;", Cond.fieldLink RX10 58 "GleanDusk" "trial" "LGleanDusk$Dusk;", Cond.fieldLink RX10 140 "GleanDusk$Parish" "dusk" "LGleanDusk$Dusk;", Cond.fieldLink RX10 151 "GleanDusk$Dusk" "step" "I", Cond.methodLink RX10 204 Lib.Math.min.name, Cond.static Lib.Math.min.name, Cond.initialized "java/lang/Math", Cond.code Lib.Math.min.name Lib.Math.min.code 2 (some .int), Cond.fieldLink RX10 191 "GleanDusk$Dusk" "store" "[I", Cond.methodLink RX10 167 yX4_hasGleaner, Cond.instanceMethod yX4_hasGleaner, Cond.selects RX4 yX4_hasGleaner yX4_hasGleaner, Cond.initialized RX4, Cond.code yX4_hasGleaner cX4_hasGleaner 2 (some .boolean), Cond.fieldLink RX4 42 "GleanDusk$Parish" "gleaners" "I", Cond.static yX10_isBelow, Cond.initialized RX10, Cond.code yX10_isBelow cX10_isBelow 2 (some .boolean), Cond.methodLink RX10 147 yX10_isIn, Cond.static yX10_isIn, Cond.code yX10_isIn cX10_isIn 3 (some .boolean), Cond.methodLink RX10 90 yX10_refuseBad, Cond.instanceMethod yX10_refuseBad, Cond.selects RX10 yX10_refuseBad yX10_refuseBad]
def wsX10_then_r2 : List Cond := [Cond.code yX10_refuseBad cX10_refuseBad 1 (some .int), Cond.fieldLink RX10 76 "GleanDusk" "refused" "[I", Cond.methodLink RX10 201 yX1_become, Cond.instanceMethod yX1_become, Cond.selects RX1 yX1_become yX1_become, Cond.initialized RX1, Cond.code yX1_become cX1_become 2 none, Cond.fieldLink RX1 9 "GleanDusk$Dusk" "light" "[I", Cond.methodLink RX1 21 arraycopyName, Cond.native arraycopyName, Cond.static arraycopyName, Cond.initialized "java/lang/System", Cond.fieldLink RX1 15 "GleanDusk$Dusk" "at" "[I", Cond.fieldLink RX1 18 "GleanDusk$Dusk" "store" "[I", Cond.fieldLink RX1 27 "GleanDusk$Dusk" "step" "I", Cond.fieldLink RX1 31 "GleanDusk$Dusk" "cloud" "I", Cond.fieldLink RX1 34 "GleanDusk$Dusk" "number" "I", Cond.methodLink RX10 143 yX4_gather, Cond.instanceMethod yX4_gather, Cond.selects RX4 yX4_gather yX4_gather, Cond.code yX4_gather cX4_gather 6 (some .int), Cond.fieldLink RX4 38 "GleanDusk$Parish" "fields" "I", Cond.fieldLink RX4 54 "GleanDusk$Dusk" "step" "I", Cond.methodLink RX4 103 yX4_share]
def wsX10_then_r3 : List Cond := [Cond.instanceMethod yX4_share, Cond.selects RX4 yX4_share yX4_share, Cond.code yX4_share cX4_share 4 (some .int), Cond.methodLink RX4 95 yX4_crowd, Cond.instanceMethod yX4_crowd, Cond.selects RX4 yX4_crowd yX4_crowd, Cond.code yX4_crowd cX4_crowd 5 (some .int), Cond.fieldLink RX4 80 "GleanDusk$Dusk" "at" "[I", Cond.methodLink RX4 99 yX4_shows, Cond.instanceMethod yX4_shows, Cond.selects RX4 yX4_shows yX4_shows, Cond.code yX4_shows cX4_shows 4 (some .int), Cond.fieldLink RX4 34 "GleanDusk$Parish" "kinds" "[LGleanDusk$Plain;", Cond.fieldLink RX4 9 "GleanDusk$Parish" "kind" "[I", Cond.fieldLink RX4 77 "GleanDusk$Dusk" "light" "[I", Cond.fieldLink RX4 57 "GleanDusk$Dusk" "cloud" "I", Cond.methodLink RX4 89 ⟨"GleanDusk$Plain", "sight", "(III)I"⟩, Cond.sameMethod "GleanDusk$Plain" "GleanDusk$Plain" "sight" "(III)I", Cond.instanceMethod ⟨"GleanDusk$Plain", "sight", "(III)I"⟩, Cond.selects RX2 ⟨"GleanDusk$Plain", "sight", "(III)I"⟩ yX2_sight, Cond.instanceMethod yX2_sight, Cond.initialized RX2, Cond.code yX2_sight cX2_sight 4 (some .int), Cond.methodLink RX2 7 Lib.Math.max.name]
def wsX10_then_r4 : List Cond := [Cond.static Lib.Math.max.name, Cond.code Lib.Math.max.name Lib.Math.max.code 2 (some .int), Cond.methodLink RX2 13 yX8_sight, Cond.sameMethod "GleanDusk$West" "GleanDusk$West" "sight" "(III)I", Cond.superclass RX2 RX8, Cond.instanceMethod yX8_sight, Cond.initialized RX8, Cond.code yX8_sight cX8_sight 5 (some .int), Cond.methodLink RX8 7 yX5_sight, Cond.superclass RX8 RX5, Cond.instanceMethod yX5_sight, Cond.initialized RX5, Cond.code yX5_sight cX5_sight 4 (some .int), Cond.methodLink RX5 7 Lib.Math.max.name, Cond.selects RX3 ⟨"GleanDusk$Plain", "sight", "(III)I"⟩ yX3_sight, Cond.instanceMethod yX3_sight, Cond.initialized RX3, Cond.code yX3_sight cX3_sight 4 (some .int), Cond.methodLink RX3 7 yX9_sight, Cond.sameMethod "GleanDusk$Wood" "GleanDusk$Wood" "sight" "(III)I", Cond.superclass RX3 RX9, Cond.instanceMethod yX9_sight, Cond.initialized RX9, Cond.code yX9_sight cX9_sight 4 (some .int)]
def wsX10_then_r5 : List Cond := [Cond.methodLink RX9 7 yX5_sight, Cond.superclass RX9 RX5, Cond.methodLink RX4 89 yX5_sight, Cond.selects RX5 yX5_sight yX5_sight, Cond.selects RX6 ⟨"GleanDusk$Plain", "sight", "(III)I"⟩ yX6_sight, Cond.instanceMethod yX6_sight, Cond.initialized RX6, Cond.code yX6_sight cX6_sight 4 (some .int), Cond.methodLink RX6 11 Lib.Math.min.name, Cond.methodLink RX6 7 yX5_sight, Cond.superclass RX6 RX5, Cond.selects RX8 ⟨"GleanDusk$Plain", "sight", "(III)I"⟩ yX8_sight, Cond.selects RX9 ⟨"GleanDusk$Plain", "sight", "(III)I"⟩ yX9_sight, Cond.methodLink RX4 106 yX4_give, Cond.instanceMethod yX4_give, Cond.selects RX4 yX4_give yX4_give, Cond.code yX4_give cX4_give 6 (some .int), Cond.fieldLink RX4 83 "GleanDusk$Dusk" "store" "[I", Cond.methodLink RX4 109 Lib.Math.min.name, Cond.methodLink RX4 115 Lib.Math.max.name]
def wsX10_then : List Cond := .code yX10_then cX10_then 3 (some .int) :: ((wsX10_then_r1 ++ (wsX10_then_r2 ++ (wsX10_then_r3 ++ (wsX10_then_r4 ++ wsX10_then_r5)))) ++ wsX100 ++ wsX40 ++ wsX10)
def wsX10_refuseTen : List Cond := .code yX10_refuseTen cX10_refuseTen 1 (some .int) :: ([.fieldLink RX10 76 "GleanDusk" "refused" "[I"] ++ wsX100)
def wsX10_roam_r1 : List Cond := [Cond.fieldLink RX10 65 "GleanDusk" "best" "LGleanDusk$Best;", Cond.fieldLink RX10 36 "GleanDusk" "now" "LGleanDusk$Parish;", Cond.fieldLink RX10 309 "GleanDusk$Best" "row" "[I", Cond.methodLink RX10 305 yX0_offer, Cond.instanceMethod yX0_offer, Cond.selects RX0 yX0_offer yX0_offer, Cond.initialized RX0, Cond.code yX0_offer cX0_offer 3 none, Cond.fieldLink RX0 18 "GleanDusk$Best" "most" "I", Cond.fieldLink RX0 9 "GleanDusk$Best" "row" "[I", Cond.fieldLink RX0 15 "GleanDusk$Best" "first" "[I", Cond.methodLink RX0 22 Lib.Math.min.name, Cond.static Lib.Math.min.name, Cond.initialized "java/lang/Math", Cond.code Lib.Math.min.name Lib.Math.min.code 2 (some .int), Cond.methodLink RX0 28 arraycopyName, Cond.native arraycopyName, Cond.static arraycopyName, Cond.initialized "java/lang/System", Cond.methodLink RX10 112 yX4_hasField, Cond.instanceMethod yX4_hasField, Cond.selects RX4 yX4_hasField yX4_hasField, Cond.initialized RX4, Cond.code yX4_hasField cX4_hasField 2 (some .boolean)]
def wsX10_roam_r2 : List Cond := [Cond.fieldLink RX4 38 "GleanDusk$Parish" "fields" "I", Cond.static yX10_isBelow, Cond.initialized RX10, Cond.code yX10_isBelow cX10_isBelow 2 (some .boolean), Cond.methodLink RX10 312 yX10_stay, Cond.instanceMethod yX10_stay, Cond.selects RX10 yX10_stay yX10_stay, Cond.methodLink RX10 214 yX10_roam, Cond.instanceMethod yX10_roam, Cond.selects RX10 yX10_roam yX10_roam, Cond.code yX10_stay cX10_stay 7 none, Cond.fieldLink RX10 58 "GleanDusk" "trial" "LGleanDusk$Dusk;", Cond.fieldLink RX10 185 "GleanDusk$Dusk" "light" "[I", Cond.fieldLink RX10 151 "GleanDusk$Dusk" "step" "I", Cond.methodLink RX10 315 Lib.Math.max.name, Cond.static Lib.Math.max.name, Cond.code Lib.Math.max.name Lib.Math.max.code 2 (some .int), Cond.methodLink RX10 197 yX4_shows, Cond.instanceMethod yX4_shows, Cond.selects RX4 yX4_shows yX4_shows, Cond.code yX4_shows cX4_shows 4 (some .int), Cond.fieldLink RX4 34 "GleanDusk$Parish" "kinds" "[LGleanDusk$Plain;", Cond.fieldLink RX4 9 "GleanDusk$Parish" "kind" "[I", Cond.fieldLink RX4 77 "GleanDusk$Dusk" "light" "[I"]
def wsX10_roam_r3 : List Cond := [Cond.fieldLink RX4 57 "GleanDusk$Dusk" "cloud" "I", Cond.methodLink RX4 89 ⟨"GleanDusk$Plain", "sight", "(III)I"⟩, Cond.sameMethod "GleanDusk$Plain" "GleanDusk$Plain" "sight" "(III)I", Cond.instanceMethod ⟨"GleanDusk$Plain", "sight", "(III)I"⟩, Cond.selects RX2 ⟨"GleanDusk$Plain", "sight", "(III)I"⟩ yX2_sight, Cond.instanceMethod yX2_sight, Cond.initialized RX2, Cond.code yX2_sight cX2_sight 4 (some .int), Cond.methodLink RX2 7 Lib.Math.max.name, Cond.methodLink RX2 13 yX8_sight, Cond.sameMethod "GleanDusk$West" "GleanDusk$West" "sight" "(III)I", Cond.superclass RX2 RX8, Cond.instanceMethod yX8_sight, Cond.initialized RX8, Cond.code yX8_sight cX8_sight 5 (some .int), Cond.methodLink RX8 7 yX5_sight, Cond.superclass RX8 RX5, Cond.instanceMethod yX5_sight, Cond.initialized RX5, Cond.code yX5_sight cX5_sight 4 (some .int), Cond.methodLink RX5 7 Lib.Math.max.name, Cond.selects RX3 ⟨"GleanDusk$Plain", "sight", "(III)I"⟩ yX3_sight, Cond.instanceMethod yX3_sight, Cond.initialized RX3]
def wsX10_roam_r4 : List Cond := [Cond.code yX3_sight cX3_sight 4 (some .int), Cond.methodLink RX3 7 yX9_sight, Cond.sameMethod "GleanDusk$Wood" "GleanDusk$Wood" "sight" "(III)I", Cond.superclass RX3 RX9, Cond.instanceMethod yX9_sight, Cond.initialized RX9, Cond.code yX9_sight cX9_sight 4 (some .int), Cond.methodLink RX9 7 yX5_sight, Cond.superclass RX9 RX5, Cond.methodLink RX4 89 yX5_sight, Cond.selects RX5 yX5_sight yX5_sight, Cond.selects RX6 ⟨"GleanDusk$Plain", "sight", "(III)I"⟩ yX6_sight, Cond.instanceMethod yX6_sight, Cond.initialized RX6, Cond.code yX6_sight cX6_sight 4 (some .int), Cond.methodLink RX6 11 Lib.Math.min.name, Cond.methodLink RX6 7 yX5_sight, Cond.superclass RX6 RX5, Cond.selects RX8 ⟨"GleanDusk$Plain", "sight", "(III)I"⟩ yX8_sight, Cond.selects RX9 ⟨"GleanDusk$Plain", "sight", "(III)I"⟩ yX9_sight]
def wsX10_roam : List Cond := .code yX10_roam cX10_roam 6 none :: ((wsX10_roam_r1 ++ (wsX10_roam_r2 ++ (wsX10_roam_r3 ++ wsX10_roam_r4))) ++ wsX100 ++ wsX00 ++ wsX40 ++ wsX10)
def wsX10_stay_r1 : List Cond := [Cond.fieldLink RX10 58 "GleanDusk" "trial" "LGleanDusk$Dusk;", Cond.fieldLink RX10 185 "GleanDusk$Dusk" "light" "[I", Cond.fieldLink RX10 36 "GleanDusk" "now" "LGleanDusk$Parish;", Cond.fieldLink RX10 151 "GleanDusk$Dusk" "step" "I", Cond.methodLink RX10 315 Lib.Math.max.name, Cond.static Lib.Math.max.name, Cond.initialized "java/lang/Math", Cond.code Lib.Math.max.name Lib.Math.max.code 2 (some .int), Cond.methodLink RX10 197 yX4_shows, Cond.instanceMethod yX4_shows, Cond.selects RX4 yX4_shows yX4_shows, Cond.initialized RX4, Cond.code yX4_shows cX4_shows 4 (some .int), Cond.fieldLink RX4 34 "GleanDusk$Parish" "kinds" "[LGleanDusk$Plain;", Cond.fieldLink RX4 9 "GleanDusk$Parish" "kind" "[I", Cond.fieldLink RX4 77 "GleanDusk$Dusk" "light" "[I", Cond.fieldLink RX4 57 "GleanDusk$Dusk" "cloud" "I", Cond.methodLink RX4 89 ⟨"GleanDusk$Plain", "sight", "(III)I"⟩, Cond.sameMethod "GleanDusk$Plain" "GleanDusk$Plain" "sight" "(III)I", Cond.instanceMethod ⟨"GleanDusk$Plain", "sight", "(III)I"⟩, Cond.selects RX2 ⟨"GleanDusk$Plain", "sight", "(III)I"⟩ yX2_sight, Cond.instanceMethod yX2_sight, Cond.initialized RX2, Cond.code yX2_sight cX2_sight 4 (some .int)]
def wsX10_stay_r2 : List Cond := [Cond.methodLink RX2 7 Lib.Math.max.name, Cond.methodLink RX2 13 yX8_sight, Cond.sameMethod "GleanDusk$West" "GleanDusk$West" "sight" "(III)I", Cond.superclass RX2 RX8, Cond.instanceMethod yX8_sight, Cond.initialized RX8, Cond.code yX8_sight cX8_sight 5 (some .int), Cond.methodLink RX8 7 yX5_sight, Cond.superclass RX8 RX5, Cond.instanceMethod yX5_sight, Cond.initialized RX5, Cond.code yX5_sight cX5_sight 4 (some .int), Cond.methodLink RX5 7 Lib.Math.max.name, Cond.selects RX3 ⟨"GleanDusk$Plain", "sight", "(III)I"⟩ yX3_sight, Cond.instanceMethod yX3_sight, Cond.initialized RX3, Cond.code yX3_sight cX3_sight 4 (some .int), Cond.methodLink RX3 7 yX9_sight, Cond.sameMethod "GleanDusk$Wood" "GleanDusk$Wood" "sight" "(III)I", Cond.superclass RX3 RX9, Cond.instanceMethod yX9_sight, Cond.initialized RX9, Cond.code yX9_sight cX9_sight 4 (some .int), Cond.methodLink RX9 7 yX5_sight]
def wsX10_stay_r3 : List Cond := [Cond.superclass RX9 RX5, Cond.methodLink RX4 89 yX5_sight, Cond.selects RX5 yX5_sight yX5_sight, Cond.selects RX6 ⟨"GleanDusk$Plain", "sight", "(III)I"⟩ yX6_sight, Cond.instanceMethod yX6_sight, Cond.initialized RX6, Cond.code yX6_sight cX6_sight 4 (some .int), Cond.methodLink RX6 11 Lib.Math.min.name, Cond.static Lib.Math.min.name, Cond.code Lib.Math.min.name Lib.Math.min.code 2 (some .int), Cond.methodLink RX6 7 yX5_sight, Cond.superclass RX6 RX5, Cond.selects RX8 ⟨"GleanDusk$Plain", "sight", "(III)I"⟩ yX8_sight, Cond.selects RX9 ⟨"GleanDusk$Plain", "sight", "(III)I"⟩ yX9_sight, Cond.methodLink RX10 214 yX10_roam, Cond.instanceMethod yX10_roam, Cond.selects RX10 yX10_roam yX10_roam, Cond.initialized RX10, Cond.code yX10_roam cX10_roam 6 none, Cond.fieldLink RX10 65 "GleanDusk" "best" "LGleanDusk$Best;", Cond.fieldLink RX10 309 "GleanDusk$Best" "row" "[I", Cond.methodLink RX10 305 yX0_offer, Cond.instanceMethod yX0_offer, Cond.selects RX0 yX0_offer yX0_offer]
def wsX10_stay_r4 : List Cond := [Cond.initialized RX0, Cond.code yX0_offer cX0_offer 3 none, Cond.fieldLink RX0 18 "GleanDusk$Best" "most" "I", Cond.fieldLink RX0 9 "GleanDusk$Best" "row" "[I", Cond.fieldLink RX0 15 "GleanDusk$Best" "first" "[I", Cond.methodLink RX0 22 Lib.Math.min.name, Cond.methodLink RX0 28 arraycopyName, Cond.native arraycopyName, Cond.static arraycopyName, Cond.initialized "java/lang/System", Cond.methodLink RX10 112 yX4_hasField, Cond.instanceMethod yX4_hasField, Cond.selects RX4 yX4_hasField yX4_hasField, Cond.code yX4_hasField cX4_hasField 2 (some .boolean), Cond.fieldLink RX4 38 "GleanDusk$Parish" "fields" "I", Cond.static yX10_isBelow, Cond.code yX10_isBelow cX10_isBelow 2 (some .boolean), Cond.methodLink RX10 312 yX10_stay, Cond.instanceMethod yX10_stay, Cond.selects RX10 yX10_stay yX10_stay]
def wsX10_stay : List Cond := .code yX10_stay cX10_stay 7 none :: ((wsX10_stay_r1 ++ (wsX10_stay_r2 ++ (wsX10_stay_r3 ++ wsX10_stay_r4))) ++ wsX100 ++ wsX00 ++ wsX40 ++ wsX10)
def wsX10_round_r1 : List Cond := [Cond.fieldLink RX10 36 "GleanDusk" "now" "LGleanDusk$Parish;", Cond.fieldLink RX10 58 "GleanDusk" "trial" "LGleanDusk$Dusk;", Cond.fieldLink RX10 140 "GleanDusk$Parish" "dusk" "LGleanDusk$Dusk;", Cond.fieldLink RX10 65 "GleanDusk" "best" "LGleanDusk$Best;", Cond.fieldLink RX10 170 "GleanDusk$Dusk" "at" "[I", Cond.fieldLink RX10 218 "GleanDusk$Best" "most" "I", Cond.fieldLink RX10 221 "GleanDusk$Best" "first" "[I", Cond.methodLink RX10 167 yX4_hasGleaner, Cond.instanceMethod yX4_hasGleaner, Cond.selects RX4 yX4_hasGleaner yX4_hasGleaner, Cond.initialized RX4, Cond.code yX4_hasGleaner cX4_hasGleaner 2 (some .boolean), Cond.fieldLink RX4 42 "GleanDusk$Parish" "gleaners" "I", Cond.static yX10_isBelow, Cond.initialized RX10, Cond.code yX10_isBelow cX10_isBelow 2 (some .boolean), Cond.methodLink RX10 147 yX10_isIn, Cond.static yX10_isIn, Cond.code yX10_isIn cX10_isIn 3 (some .boolean), Cond.methodLink RX10 209 yX10_refuseTen, Cond.instanceMethod yX10_refuseTen, Cond.selects RX10 yX10_refuseTen yX10_refuseTen, Cond.code yX10_refuseTen cX10_refuseTen 1 (some .int), Cond.fieldLink RX10 76 "GleanDusk" "refused" "[I"]
def wsX10_round_r2 : List Cond := [Cond.methodLink RX10 201 yX1_become, Cond.instanceMethod yX1_become, Cond.selects RX1 yX1_become yX1_become, Cond.initialized RX1, Cond.code yX1_become cX1_become 2 none, Cond.fieldLink RX1 9 "GleanDusk$Dusk" "light" "[I", Cond.methodLink RX1 21 arraycopyName, Cond.native arraycopyName, Cond.static arraycopyName, Cond.initialized "java/lang/System", Cond.fieldLink RX1 15 "GleanDusk$Dusk" "at" "[I", Cond.fieldLink RX1 18 "GleanDusk$Dusk" "store" "[I", Cond.fieldLink RX1 27 "GleanDusk$Dusk" "step" "I", Cond.fieldLink RX1 31 "GleanDusk$Dusk" "cloud" "I", Cond.fieldLink RX1 34 "GleanDusk$Dusk" "number" "I", Cond.methodLink RX10 212 yX0_begin, Cond.instanceMethod yX0_begin, Cond.selects RX0 yX0_begin yX0_begin, Cond.initialized RX0, Cond.code yX0_begin cX0_begin 1 none, Cond.fieldLink RX0 18 "GleanDusk$Best" "most" "I", Cond.methodLink RX10 214 yX10_roam, Cond.instanceMethod yX10_roam, Cond.selects RX10 yX10_roam yX10_roam]
def wsX10_round_r3 : List Cond := [Cond.code yX10_roam cX10_roam 6 none, Cond.fieldLink RX10 309 "GleanDusk$Best" "row" "[I", Cond.methodLink RX10 305 yX0_offer, Cond.instanceMethod yX0_offer, Cond.selects RX0 yX0_offer yX0_offer, Cond.code yX0_offer cX0_offer 3 none, Cond.fieldLink RX0 9 "GleanDusk$Best" "row" "[I", Cond.fieldLink RX0 15 "GleanDusk$Best" "first" "[I", Cond.methodLink RX0 22 Lib.Math.min.name, Cond.static Lib.Math.min.name, Cond.initialized "java/lang/Math", Cond.code Lib.Math.min.name Lib.Math.min.code 2 (some .int), Cond.methodLink RX0 28 arraycopyName, Cond.methodLink RX10 112 yX4_hasField, Cond.instanceMethod yX4_hasField, Cond.selects RX4 yX4_hasField yX4_hasField, Cond.code yX4_hasField cX4_hasField 2 (some .boolean), Cond.fieldLink RX4 38 "GleanDusk$Parish" "fields" "I", Cond.methodLink RX10 312 yX10_stay, Cond.instanceMethod yX10_stay, Cond.selects RX10 yX10_stay yX10_stay, Cond.code yX10_stay cX10_stay 7 none, Cond.fieldLink RX10 185 "GleanDusk$Dusk" "light" "[I", Cond.fieldLink RX10 151 "GleanDusk$Dusk" "step" "I"]
def wsX10_round_r4 : List Cond := [Cond.methodLink RX10 315 Lib.Math.max.name, Cond.static Lib.Math.max.name, Cond.code Lib.Math.max.name Lib.Math.max.code 2 (some .int), Cond.methodLink RX10 197 yX4_shows, Cond.instanceMethod yX4_shows, Cond.selects RX4 yX4_shows yX4_shows, Cond.code yX4_shows cX4_shows 4 (some .int), Cond.fieldLink RX4 34 "GleanDusk$Parish" "kinds" "[LGleanDusk$Plain;", Cond.fieldLink RX4 9 "GleanDusk$Parish" "kind" "[I", Cond.fieldLink RX4 77 "GleanDusk$Dusk" "light" "[I", Cond.fieldLink RX4 57 "GleanDusk$Dusk" "cloud" "I", Cond.methodLink RX4 89 ⟨"GleanDusk$Plain", "sight", "(III)I"⟩, Cond.sameMethod "GleanDusk$Plain" "GleanDusk$Plain" "sight" "(III)I", Cond.instanceMethod ⟨"GleanDusk$Plain", "sight", "(III)I"⟩, Cond.selects RX2 ⟨"GleanDusk$Plain", "sight", "(III)I"⟩ yX2_sight, Cond.instanceMethod yX2_sight, Cond.initialized RX2, Cond.code yX2_sight cX2_sight 4 (some .int), Cond.methodLink RX2 7 Lib.Math.max.name, Cond.methodLink RX2 13 yX8_sight, Cond.sameMethod "GleanDusk$West" "GleanDusk$West" "sight" "(III)I", Cond.superclass RX2 RX8, Cond.instanceMethod yX8_sight, Cond.initialized RX8]
def wsX10_round_r5 : List Cond := [Cond.code yX8_sight cX8_sight 5 (some .int), Cond.methodLink RX8 7 yX5_sight, Cond.superclass RX8 RX5, Cond.instanceMethod yX5_sight, Cond.initialized RX5, Cond.code yX5_sight cX5_sight 4 (some .int), Cond.methodLink RX5 7 Lib.Math.max.name, Cond.selects RX3 ⟨"GleanDusk$Plain", "sight", "(III)I"⟩ yX3_sight, Cond.instanceMethod yX3_sight, Cond.initialized RX3, Cond.code yX3_sight cX3_sight 4 (some .int), Cond.methodLink RX3 7 yX9_sight, Cond.sameMethod "GleanDusk$Wood" "GleanDusk$Wood" "sight" "(III)I", Cond.superclass RX3 RX9, Cond.instanceMethod yX9_sight, Cond.initialized RX9, Cond.code yX9_sight cX9_sight 4 (some .int), Cond.methodLink RX9 7 yX5_sight, Cond.superclass RX9 RX5, Cond.methodLink RX4 89 yX5_sight, Cond.selects RX5 yX5_sight yX5_sight, Cond.selects RX6 ⟨"GleanDusk$Plain", "sight", "(III)I"⟩ yX6_sight, Cond.instanceMethod yX6_sight, Cond.initialized RX6]
def wsX10_round_r6 : List Cond := [Cond.code yX6_sight cX6_sight 4 (some .int), Cond.methodLink RX6 11 Lib.Math.min.name, Cond.methodLink RX6 7 yX5_sight, Cond.superclass RX6 RX5, Cond.selects RX8 ⟨"GleanDusk$Plain", "sight", "(III)I"⟩ yX8_sight, Cond.selects RX9 ⟨"GleanDusk$Plain", "sight", "(III)I"⟩ yX9_sight]
def wsX10_round : List Cond := .code yX10_round cX10_round 4 (some .int) :: ((wsX10_round_r1 ++ (wsX10_round_r2 ++ (wsX10_round_r3 ++ (wsX10_round_r4 ++ (wsX10_round_r5 ++ wsX10_round_r6))))) ++ wsX100 ++ wsX40 ++ wsX10 ++ wsX00)
def wsX10_showAll_r1 : List Cond := [Cond.fieldLink RX10 36 "GleanDusk" "now" "LGleanDusk$Parish;", Cond.fieldLink RX10 94 "GleanDusk$Parish" "fields" "I", Cond.fieldLink RX10 69 "GleanDusk" "shown" "[I", Cond.fieldLink RX10 140 "GleanDusk$Parish" "dusk" "LGleanDusk$Dusk;", Cond.methodLink RX10 197 yX4_shows, Cond.instanceMethod yX4_shows, Cond.selects RX4 yX4_shows yX4_shows, Cond.initialized RX4, Cond.code yX4_shows cX4_shows 4 (some .int), Cond.fieldLink RX4 34 "GleanDusk$Parish" "kinds" "[LGleanDusk$Plain;", Cond.fieldLink RX4 9 "GleanDusk$Parish" "kind" "[I", Cond.fieldLink RX4 77 "GleanDusk$Dusk" "light" "[I", Cond.fieldLink RX4 57 "GleanDusk$Dusk" "cloud" "I", Cond.methodLink RX4 89 ⟨"GleanDusk$Plain", "sight", "(III)I"⟩, Cond.sameMethod "GleanDusk$Plain" "GleanDusk$Plain" "sight" "(III)I", Cond.instanceMethod ⟨"GleanDusk$Plain", "sight", "(III)I"⟩, Cond.selects RX2 ⟨"GleanDusk$Plain", "sight", "(III)I"⟩ yX2_sight, Cond.instanceMethod yX2_sight, Cond.initialized RX2, Cond.code yX2_sight cX2_sight 4 (some .int), Cond.methodLink RX2 7 Lib.Math.max.name, Cond.static Lib.Math.max.name, Cond.initialized "java/lang/Math", Cond.code Lib.Math.max.name Lib.Math.max.code 2 (some .int)]
def wsX10_showAll_r2 : List Cond := [Cond.methodLink RX2 13 yX8_sight, Cond.sameMethod "GleanDusk$West" "GleanDusk$West" "sight" "(III)I", Cond.superclass RX2 RX8, Cond.instanceMethod yX8_sight, Cond.initialized RX8, Cond.code yX8_sight cX8_sight 5 (some .int), Cond.methodLink RX8 7 yX5_sight, Cond.superclass RX8 RX5, Cond.instanceMethod yX5_sight, Cond.initialized RX5, Cond.code yX5_sight cX5_sight 4 (some .int), Cond.methodLink RX5 7 Lib.Math.max.name, Cond.selects RX3 ⟨"GleanDusk$Plain", "sight", "(III)I"⟩ yX3_sight, Cond.instanceMethod yX3_sight, Cond.initialized RX3, Cond.code yX3_sight cX3_sight 4 (some .int), Cond.methodLink RX3 7 yX9_sight, Cond.sameMethod "GleanDusk$Wood" "GleanDusk$Wood" "sight" "(III)I", Cond.superclass RX3 RX9, Cond.instanceMethod yX9_sight, Cond.initialized RX9, Cond.code yX9_sight cX9_sight 4 (some .int), Cond.methodLink RX9 7 yX5_sight, Cond.superclass RX9 RX5]
def wsX10_showAll_r3 : List Cond := [Cond.methodLink RX4 89 yX5_sight, Cond.selects RX5 yX5_sight yX5_sight, Cond.selects RX6 ⟨"GleanDusk$Plain", "sight", "(III)I"⟩ yX6_sight, Cond.instanceMethod yX6_sight, Cond.initialized RX6, Cond.code yX6_sight cX6_sight 4 (some .int), Cond.methodLink RX6 11 Lib.Math.min.name, Cond.static Lib.Math.min.name, Cond.code Lib.Math.min.name Lib.Math.min.code 2 (some .int), Cond.methodLink RX6 7 yX5_sight, Cond.superclass RX6 RX5, Cond.selects RX8 ⟨"GleanDusk$Plain", "sight", "(III)I"⟩ yX8_sight, Cond.selects RX9 ⟨"GleanDusk$Plain", "sight", "(III)I"⟩ yX9_sight]
def wsX10_showAll : List Cond := .code yX10_showAll cX10_showAll 3 none :: ((wsX10_showAll_r1 ++ (wsX10_showAll_r2 ++ wsX10_showAll_r3)) ++ wsX100 ++ wsX40 ++ wsX10)
def wsX10_allGet : List Cond := .code yX10_allGet cX10_allGet 3 (some .int) :: ([.fieldLink RX10 36 "GleanDusk" "now" "LGleanDusk$Parish;", .fieldLink RX10 94 "GleanDusk$Parish" "fields" "I", .fieldLink RX10 73 "GleanDusk" "standing" "[I", .fieldLink RX10 69 "GleanDusk" "shown" "[I"] ++ wsX100 ++ wsX40)
def wsX10_poorestGets : List Cond := .code yX10_poorestGets cX10_poorestGets 3 (some .int) :: ([.constant RX10 324 (2147483647), .fieldLink RX10 36 "GleanDusk" "now" "LGleanDusk$Parish;", .fieldLink RX10 94 "GleanDusk$Parish" "fields" "I", .fieldLink RX10 73 "GleanDusk" "standing" "[I", .fieldLink RX10 69 "GleanDusk" "shown" "[I", .methodLink RX10 204 Lib.Math.min.name, .static Lib.Math.min.name, .initialized "java/lang/Math", .code Lib.Math.min.name Lib.Math.min.code 2 (some .int)] ++ wsX100 ++ wsX40)
def wsX10_settle_r1 : List Cond := [Cond.fieldLink RX10 36 "GleanDusk" "now" "LGleanDusk$Parish;", Cond.fieldLink RX10 115 "GleanDusk$Parish" "gleaners" "I", Cond.fieldLink RX10 65 "GleanDusk" "best" "LGleanDusk$Best;", Cond.fieldLink RX10 94 "GleanDusk$Parish" "fields" "I", Cond.fieldLink RX10 309 "GleanDusk$Best" "row" "[I", Cond.fieldLink RX10 73 "GleanDusk" "standing" "[I", Cond.methodLink RX10 318 yX10_allGet, Cond.instanceMethod yX10_allGet, Cond.selects RX10 yX10_allGet yX10_allGet, Cond.initialized RX10, Cond.code yX10_allGet cX10_allGet 3 (some .int), Cond.fieldLink RX10 69 "GleanDusk" "shown" "[I", Cond.methodLink RX10 321 yX10_poorestGets, Cond.instanceMethod yX10_poorestGets, Cond.selects RX10 yX10_poorestGets yX10_poorestGets, Cond.code yX10_poorestGets cX10_poorestGets 3 (some .int), Cond.constant RX10 324 (2147483647), Cond.methodLink RX10 204 Lib.Math.min.name, Cond.static Lib.Math.min.name, Cond.initialized "java/lang/Math", Cond.code Lib.Math.min.name Lib.Math.min.code 2 (some .int), Cond.methodLink RX10 305 yX0_offer, Cond.instanceMethod yX0_offer, Cond.selects RX0 yX0_offer yX0_offer]
def wsX10_settle_r2 : List Cond := [Cond.initialized RX0, Cond.code yX0_offer cX0_offer 3 none, Cond.fieldLink RX0 18 "GleanDusk$Best" "most" "I", Cond.fieldLink RX0 9 "GleanDusk$Best" "row" "[I", Cond.fieldLink RX0 15 "GleanDusk$Best" "first" "[I", Cond.methodLink RX0 22 Lib.Math.min.name, Cond.methodLink RX0 28 arraycopyName, Cond.native arraycopyName, Cond.static arraycopyName, Cond.initialized "java/lang/System", Cond.methodLink RX10 225 yX10_settle, Cond.instanceMethod yX10_settle, Cond.selects RX10 yX10_settle yX10_settle]
def wsX10_settle : List Cond := .code yX10_settle cX10_settle 5 none :: ((wsX10_settle_r1 ++ wsX10_settle_r2) ++ wsX100 ++ wsX40 ++ wsX00)
def wsX10_places_r1 : List Cond := [Cond.fieldLink RX10 36 "GleanDusk" "now" "LGleanDusk$Parish;", Cond.fieldLink RX10 115 "GleanDusk$Parish" "gleaners" "I", Cond.fieldLink RX10 140 "GleanDusk$Parish" "dusk" "LGleanDusk$Dusk;", Cond.fieldLink RX10 151 "GleanDusk$Dusk" "step" "I", Cond.fieldLink RX10 65 "GleanDusk" "best" "LGleanDusk$Best;", Cond.fieldLink RX10 218 "GleanDusk$Best" "most" "I", Cond.fieldLink RX10 221 "GleanDusk$Best" "first" "[I", Cond.methodLink RX10 86 yX10_isBelow, Cond.static yX10_isBelow, Cond.initialized RX10, Cond.code yX10_isBelow cX10_isBelow 2 (some .boolean), Cond.methodLink RX10 167 yX4_hasGleaner, Cond.instanceMethod yX4_hasGleaner, Cond.selects RX4 yX4_hasGleaner yX4_hasGleaner, Cond.initialized RX4, Cond.code yX4_hasGleaner cX4_hasGleaner 2 (some .boolean), Cond.fieldLink RX4 42 "GleanDusk$Parish" "gleaners" "I", Cond.methodLink RX10 209 yX10_refuseTen, Cond.instanceMethod yX10_refuseTen, Cond.selects RX10 yX10_refuseTen yX10_refuseTen, Cond.code yX10_refuseTen cX10_refuseTen 1 (some .int), Cond.fieldLink RX10 76 "GleanDusk" "refused" "[I", Cond.methodLink RX10 222 yX10_showAll, Cond.instanceMethod yX10_showAll]
def wsX10_places_r2 : List Cond := [Cond.selects RX10 yX10_showAll yX10_showAll, Cond.code yX10_showAll cX10_showAll 3 none, Cond.fieldLink RX10 94 "GleanDusk$Parish" "fields" "I", Cond.fieldLink RX10 69 "GleanDusk" "shown" "[I", Cond.methodLink RX10 197 yX4_shows, Cond.instanceMethod yX4_shows, Cond.selects RX4 yX4_shows yX4_shows, Cond.code yX4_shows cX4_shows 4 (some .int), Cond.fieldLink RX4 34 "GleanDusk$Parish" "kinds" "[LGleanDusk$Plain;", Cond.fieldLink RX4 9 "GleanDusk$Parish" "kind" "[I", Cond.fieldLink RX4 77 "GleanDusk$Dusk" "light" "[I", Cond.fieldLink RX4 57 "GleanDusk$Dusk" "cloud" "I", Cond.methodLink RX4 89 ⟨"GleanDusk$Plain", "sight", "(III)I"⟩, Cond.sameMethod "GleanDusk$Plain" "GleanDusk$Plain" "sight" "(III)I", Cond.instanceMethod ⟨"GleanDusk$Plain", "sight", "(III)I"⟩, Cond.selects RX2 ⟨"GleanDusk$Plain", "sight", "(III)I"⟩ yX2_sight, Cond.instanceMethod yX2_sight, Cond.initialized RX2, Cond.code yX2_sight cX2_sight 4 (some .int), Cond.methodLink RX2 7 Lib.Math.max.name, Cond.static Lib.Math.max.name, Cond.initialized "java/lang/Math", Cond.code Lib.Math.max.name Lib.Math.max.code 2 (some .int), Cond.methodLink RX2 13 yX8_sight]
def wsX10_places_r3 : List Cond := [Cond.sameMethod "GleanDusk$West" "GleanDusk$West" "sight" "(III)I", Cond.superclass RX2 RX8, Cond.instanceMethod yX8_sight, Cond.initialized RX8, Cond.code yX8_sight cX8_sight 5 (some .int), Cond.methodLink RX8 7 yX5_sight, Cond.superclass RX8 RX5, Cond.instanceMethod yX5_sight, Cond.initialized RX5, Cond.code yX5_sight cX5_sight 4 (some .int), Cond.methodLink RX5 7 Lib.Math.max.name, Cond.selects RX3 ⟨"GleanDusk$Plain", "sight", "(III)I"⟩ yX3_sight, Cond.instanceMethod yX3_sight, Cond.initialized RX3, Cond.code yX3_sight cX3_sight 4 (some .int), Cond.methodLink RX3 7 yX9_sight, Cond.sameMethod "GleanDusk$Wood" "GleanDusk$Wood" "sight" "(III)I", Cond.superclass RX3 RX9, Cond.instanceMethod yX9_sight, Cond.initialized RX9, Cond.code yX9_sight cX9_sight 4 (some .int), Cond.methodLink RX9 7 yX5_sight, Cond.superclass RX9 RX5, Cond.methodLink RX4 89 yX5_sight]
def wsX10_places_r4 : List Cond := [Cond.selects RX5 yX5_sight yX5_sight, Cond.selects RX6 ⟨"GleanDusk$Plain", "sight", "(III)I"⟩ yX6_sight, Cond.instanceMethod yX6_sight, Cond.initialized RX6, Cond.code yX6_sight cX6_sight 4 (some .int), Cond.methodLink RX6 11 Lib.Math.min.name, Cond.static Lib.Math.min.name, Cond.code Lib.Math.min.name Lib.Math.min.code 2 (some .int), Cond.methodLink RX6 7 yX5_sight, Cond.superclass RX6 RX5, Cond.selects RX8 ⟨"GleanDusk$Plain", "sight", "(III)I"⟩ yX8_sight, Cond.selects RX9 ⟨"GleanDusk$Plain", "sight", "(III)I"⟩ yX9_sight, Cond.methodLink RX10 212 yX0_begin, Cond.instanceMethod yX0_begin, Cond.selects RX0 yX0_begin yX0_begin, Cond.initialized RX0, Cond.code yX0_begin cX0_begin 1 none, Cond.fieldLink RX0 18 "GleanDusk$Best" "most" "I", Cond.methodLink RX10 225 yX10_settle, Cond.instanceMethod yX10_settle, Cond.selects RX10 yX10_settle yX10_settle, Cond.code yX10_settle cX10_settle 5 none, Cond.fieldLink RX10 309 "GleanDusk$Best" "row" "[I", Cond.fieldLink RX10 73 "GleanDusk" "standing" "[I"]
def wsX10_places_r5 : List Cond := [Cond.methodLink RX10 318 yX10_allGet, Cond.instanceMethod yX10_allGet, Cond.selects RX10 yX10_allGet yX10_allGet, Cond.code yX10_allGet cX10_allGet 3 (some .int), Cond.methodLink RX10 321 yX10_poorestGets, Cond.instanceMethod yX10_poorestGets, Cond.selects RX10 yX10_poorestGets yX10_poorestGets, Cond.code yX10_poorestGets cX10_poorestGets 3 (some .int), Cond.constant RX10 324 (2147483647), Cond.methodLink RX10 204 Lib.Math.min.name, Cond.methodLink RX10 305 yX0_offer, Cond.instanceMethod yX0_offer, Cond.selects RX0 yX0_offer yX0_offer, Cond.code yX0_offer cX0_offer 3 none, Cond.fieldLink RX0 9 "GleanDusk$Best" "row" "[I", Cond.fieldLink RX0 15 "GleanDusk$Best" "first" "[I", Cond.methodLink RX0 22 Lib.Math.min.name, Cond.methodLink RX0 28 arraycopyName, Cond.native arraycopyName, Cond.static arraycopyName, Cond.initialized "java/lang/System"]
def wsX10_places : List Cond := .code yX10_places cX10_places 3 (some .int) :: ((wsX10_places_r1 ++ (wsX10_places_r2 ++ (wsX10_places_r3 ++ (wsX10_places_r4 ++ wsX10_places_r5)))) ++ wsX100 ++ wsX40 ++ wsX10 ++ wsX00)
def wsX10_which_r1 : List Cond := [Cond.fieldLink RX10 36 "GleanDusk" "now" "LGleanDusk$Parish;", Cond.fieldLink RX10 94 "GleanDusk$Parish" "fields" "I", Cond.fieldLink RX10 69 "GleanDusk" "shown" "[I", Cond.methodLink RX10 86 yX10_isBelow, Cond.static yX10_isBelow, Cond.initialized RX10, Cond.code yX10_isBelow cX10_isBelow 2 (some .boolean), Cond.methodLink RX10 90 yX10_refuseBad, Cond.instanceMethod yX10_refuseBad, Cond.selects RX10 yX10_refuseBad yX10_refuseBad, Cond.code yX10_refuseBad cX10_refuseBad 1 (some .int), Cond.fieldLink RX10 76 "GleanDusk" "refused" "[I", Cond.methodLink RX10 222 yX10_showAll, Cond.instanceMethod yX10_showAll, Cond.selects RX10 yX10_showAll yX10_showAll, Cond.code yX10_showAll cX10_showAll 3 none, Cond.fieldLink RX10 140 "GleanDusk$Parish" "dusk" "LGleanDusk$Dusk;", Cond.methodLink RX10 197 yX4_shows, Cond.instanceMethod yX4_shows, Cond.selects RX4 yX4_shows yX4_shows, Cond.initialized RX4, Cond.code yX4_shows cX4_shows 4 (some .int), Cond.fieldLink RX4 34 "GleanDusk$Parish" "kinds" "[LGleanDusk$Plain;", Cond.fieldLink RX4 9 "GleanDusk$Parish" "kind" "[I"]
def wsX10_which_r2 : List Cond := [Cond.fieldLink RX4 77 "GleanDusk$Dusk" "light" "[I", Cond.fieldLink RX4 57 "GleanDusk$Dusk" "cloud" "I", Cond.methodLink RX4 89 ⟨"GleanDusk$Plain", "sight", "(III)I"⟩, Cond.sameMethod "GleanDusk$Plain" "GleanDusk$Plain" "sight" "(III)I", Cond.instanceMethod ⟨"GleanDusk$Plain", "sight", "(III)I"⟩, Cond.selects RX2 ⟨"GleanDusk$Plain", "sight", "(III)I"⟩ yX2_sight, Cond.instanceMethod yX2_sight, Cond.initialized RX2, Cond.code yX2_sight cX2_sight 4 (some .int), Cond.methodLink RX2 7 Lib.Math.max.name, Cond.static Lib.Math.max.name, Cond.initialized "java/lang/Math", Cond.code Lib.Math.max.name Lib.Math.max.code 2 (some .int), Cond.methodLink RX2 13 yX8_sight, Cond.sameMethod "GleanDusk$West" "GleanDusk$West" "sight" "(III)I", Cond.superclass RX2 RX8, Cond.instanceMethod yX8_sight, Cond.initialized RX8, Cond.code yX8_sight cX8_sight 5 (some .int), Cond.methodLink RX8 7 yX5_sight, Cond.superclass RX8 RX5, Cond.instanceMethod yX5_sight, Cond.initialized RX5, Cond.code yX5_sight cX5_sight 4 (some .int)]
def wsX10_which_r3 : List Cond := [Cond.methodLink RX5 7 Lib.Math.max.name, Cond.selects RX3 ⟨"GleanDusk$Plain", "sight", "(III)I"⟩ yX3_sight, Cond.instanceMethod yX3_sight, Cond.initialized RX3, Cond.code yX3_sight cX3_sight 4 (some .int), Cond.methodLink RX3 7 yX9_sight, Cond.sameMethod "GleanDusk$Wood" "GleanDusk$Wood" "sight" "(III)I", Cond.superclass RX3 RX9, Cond.instanceMethod yX9_sight, Cond.initialized RX9, Cond.code yX9_sight cX9_sight 4 (some .int), Cond.methodLink RX9 7 yX5_sight, Cond.superclass RX9 RX5, Cond.methodLink RX4 89 yX5_sight, Cond.selects RX5 yX5_sight yX5_sight, Cond.selects RX6 ⟨"GleanDusk$Plain", "sight", "(III)I"⟩ yX6_sight, Cond.instanceMethod yX6_sight, Cond.initialized RX6, Cond.code yX6_sight cX6_sight 4 (some .int), Cond.methodLink RX6 11 Lib.Math.min.name, Cond.static Lib.Math.min.name, Cond.code Lib.Math.min.name Lib.Math.min.code 2 (some .int), Cond.methodLink RX6 7 yX5_sight, Cond.superclass RX6 RX5]
def wsX10_which_r4 : List Cond := [Cond.selects RX8 ⟨"GleanDusk$Plain", "sight", "(III)I"⟩ yX8_sight, Cond.selects RX9 ⟨"GleanDusk$Plain", "sight", "(III)I"⟩ yX9_sight]
def wsX10_which : List Cond := .code yX10_which cX10_which 4 (some .int) :: ((wsX10_which_r1 ++ (wsX10_which_r2 ++ (wsX10_which_r3 ++ wsX10_which_r4))) ++ wsX100 ++ wsX40 ++ wsX10)
def wsX10_lasts : List Cond := .code yX10_lasts cX10_lasts 5 (some .int) :: ([.fieldLink RX10 36 "GleanDusk" "now" "LGleanDusk$Parish;", .fieldLink RX10 140 "GleanDusk$Parish" "dusk" "LGleanDusk$Dusk;", .fieldLink RX10 191 "GleanDusk$Dusk" "store" "[I", .methodLink RX10 167 yX4_hasGleaner, .instanceMethod yX4_hasGleaner, .selects RX4 yX4_hasGleaner yX4_hasGleaner, .initialized RX4, .code yX4_hasGleaner cX4_hasGleaner 2 (some .boolean), .fieldLink RX4 42 "GleanDusk$Parish" "gleaners" "I", .static yX10_isBelow, .initialized RX10, .code yX10_isBelow cX10_isBelow 2 (some .boolean), .methodLink RX10 147 yX10_isIn, .static yX10_isIn, .code yX10_isIn cX10_isIn 3 (some .boolean), .methodLink RX10 90 yX10_refuseBad, .instanceMethod yX10_refuseBad, .selects RX10 yX10_refuseBad yX10_refuseBad, .code yX10_refuseBad cX10_refuseBad 1 (some .int), .fieldLink RX10 76 "GleanDusk" "refused" "[I", .methodLink RX10 229 yX10_faded, .static yX10_faded, .code yX10_faded cX10_faded 1 (some .int)] ++ wsX100 ++ wsX40 ++ wsX10)
def wsJ6_bitCount_0f7a4 : List Cond := .code yJ6_bitCount_0f7a4 cJ6_bitCount_0f7a4 1 (some .int) :: ([.constant RJ6 265 (1431655765), .constant RJ6 266 (858993459), .constant RJ6 267 (252645135)])
def wsX10_enough_r1 : List Cond := [Cond.fieldLink RX10 36 "GleanDusk" "now" "LGleanDusk$Parish;", Cond.fieldLink RX10 115 "GleanDusk$Parish" "gleaners" "I", Cond.methodLink RX10 147 yX10_isIn, Cond.static yX10_isIn, Cond.initialized RX10, Cond.code yX10_isIn cX10_isIn 3 (some .boolean), Cond.methodLink RX10 90 yX10_refuseBad, Cond.instanceMethod yX10_refuseBad, Cond.selects RX10 yX10_refuseBad yX10_refuseBad, Cond.code yX10_refuseBad cX10_refuseBad 1 (some .int), Cond.fieldLink RX10 76 "GleanDusk" "refused" "[I", Cond.methodLink RX10 232 yJ6_bitCount_0f7a4, Cond.static yJ6_bitCount_0f7a4, Cond.initialized RJ6, Cond.code yJ6_bitCount_0f7a4 cJ6_bitCount_0f7a4 1 (some .int), Cond.constant RJ6 265 (1431655765), Cond.constant RJ6 266 (858993459), Cond.constant RJ6 267 (252645135), Cond.methodLink RX10 237 yX4_storesOf, Cond.instanceMethod yX4_storesOf, Cond.selects RX4 yX4_storesOf yX4_storesOf, Cond.initialized RX4, Cond.code yX4_storesOf cX4_storesOf 4 (some .int), Cond.fieldLink RX4 42 "GleanDusk$Parish" "gleaners" "I"]
def wsX10_enough_r2 : List Cond := [Cond.fieldLink RX4 18 "GleanDusk$Parish" "dusk" "LGleanDusk$Dusk;", Cond.fieldLink RX4 83 "GleanDusk$Dusk" "store" "[I"]
def wsX10_enough : List Cond := .code yX10_enough cX10_enough 5 (some .int) :: ((wsX10_enough_r1 ++ wsX10_enough_r2) ++ wsX100 ++ wsX40 ++ wsX10)
def wsX10_missed_r1 : List Cond := [Cond.fieldLink RX10 36 "GleanDusk" "now" "LGleanDusk$Parish;", Cond.fieldLink RX10 240 "GleanDusk$Parish" "missedCount" "I", Cond.methodLink RX10 112 yX4_hasField, Cond.instanceMethod yX4_hasField, Cond.selects RX4 yX4_hasField yX4_hasField, Cond.initialized RX4, Cond.code yX4_hasField cX4_hasField 2 (some .boolean), Cond.fieldLink RX4 38 "GleanDusk$Parish" "fields" "I", Cond.static yX10_isBelow, Cond.initialized RX10, Cond.code yX10_isBelow cX10_isBelow 2 (some .boolean), Cond.methodLink RX10 86 yX10_isBelow, Cond.methodLink RX10 101 yX10_isLight, Cond.static yX10_isLight, Cond.code yX10_isLight cX10_isLight 1 (some .boolean), Cond.methodLink RX10 147 yX10_isIn, Cond.static yX10_isIn, Cond.code yX10_isIn cX10_isIn 3 (some .boolean), Cond.methodLink RX10 90 yX10_refuseBad, Cond.instanceMethod yX10_refuseBad, Cond.selects RX10 yX10_refuseBad yX10_refuseBad, Cond.code yX10_refuseBad cX10_refuseBad 1 (some .int), Cond.fieldLink RX10 76 "GleanDusk" "refused" "[I", Cond.methodLink RX10 105 yX10_refuseFull]
def wsX10_missed_r2 : List Cond := [Cond.instanceMethod yX10_refuseFull, Cond.selects RX10 yX10_refuseFull yX10_refuseFull, Cond.code yX10_refuseFull cX10_refuseFull 1 (some .int), Cond.methodLink RX10 243 yX4_addMissed, Cond.instanceMethod yX4_addMissed, Cond.selects RX4 yX4_addMissed yX4_addMissed, Cond.code yX4_addMissed cX4_addMissed 6 (some .int), Cond.fieldLink RX4 28 "GleanDusk$Parish" "missed" "[[I", Cond.fieldLink RX4 48 "GleanDusk$Parish" "missedCount" "I"]
def wsX10_missed : List Cond := .code yX10_missed cX10_missed 5 (some .int) :: ((wsX10_missed_r1 ++ wsX10_missed_r2) ++ wsX100 ++ wsX40)
def wsX10_clouds_r1 : List Cond := [Cond.fieldLink RX10 36 "GleanDusk" "now" "LGleanDusk$Parish;", Cond.methodLink RX10 247 yX4_missedFit, Cond.instanceMethod yX4_missedFit, Cond.selects RX4 yX4_missedFit yX4_missedFit, Cond.initialized RX4, Cond.code yX4_missedFit cX4_missedFit 4 (some .boolean), Cond.fieldLink RX4 48 "GleanDusk$Parish" "missedCount" "I", Cond.fieldLink RX4 28 "GleanDusk$Parish" "missed" "[[I", Cond.fieldLink RX4 34 "GleanDusk$Parish" "kinds" "[LGleanDusk$Plain;", Cond.fieldLink RX4 9 "GleanDusk$Parish" "kind" "[I", Cond.methodLink RX4 89 ⟨"GleanDusk$Plain", "sight", "(III)I"⟩, Cond.sameMethod "GleanDusk$Plain" "GleanDusk$Plain" "sight" "(III)I", Cond.instanceMethod ⟨"GleanDusk$Plain", "sight", "(III)I"⟩, Cond.selects RX2 ⟨"GleanDusk$Plain", "sight", "(III)I"⟩ yX2_sight, Cond.instanceMethod yX2_sight, Cond.initialized RX2, Cond.code yX2_sight cX2_sight 4 (some .int), Cond.methodLink RX2 7 Lib.Math.max.name, Cond.static Lib.Math.max.name, Cond.initialized "java/lang/Math", Cond.code Lib.Math.max.name Lib.Math.max.code 2 (some .int), Cond.methodLink RX2 13 yX8_sight, Cond.sameMethod "GleanDusk$West" "GleanDusk$West" "sight" "(III)I", Cond.superclass RX2 RX8]
def wsX10_clouds_r2 : List Cond := [Cond.instanceMethod yX8_sight, Cond.initialized RX8, Cond.code yX8_sight cX8_sight 5 (some .int), Cond.methodLink RX8 7 yX5_sight, Cond.superclass RX8 RX5, Cond.instanceMethod yX5_sight, Cond.initialized RX5, Cond.code yX5_sight cX5_sight 4 (some .int), Cond.methodLink RX5 7 Lib.Math.max.name, Cond.selects RX3 ⟨"GleanDusk$Plain", "sight", "(III)I"⟩ yX3_sight, Cond.instanceMethod yX3_sight, Cond.initialized RX3, Cond.code yX3_sight cX3_sight 4 (some .int), Cond.methodLink RX3 7 yX9_sight, Cond.sameMethod "GleanDusk$Wood" "GleanDusk$Wood" "sight" "(III)I", Cond.superclass RX3 RX9, Cond.instanceMethod yX9_sight, Cond.initialized RX9, Cond.code yX9_sight cX9_sight 4 (some .int), Cond.methodLink RX9 7 yX5_sight, Cond.superclass RX9 RX5, Cond.methodLink RX4 89 yX5_sight, Cond.selects RX5 yX5_sight yX5_sight, Cond.selects RX6 ⟨"GleanDusk$Plain", "sight", "(III)I"⟩ yX6_sight]
def wsX10_clouds_r3 : List Cond := [Cond.instanceMethod yX6_sight, Cond.initialized RX6, Cond.code yX6_sight cX6_sight 4 (some .int), Cond.methodLink RX6 11 Lib.Math.min.name, Cond.static Lib.Math.min.name, Cond.code Lib.Math.min.name Lib.Math.min.code 2 (some .int), Cond.methodLink RX6 7 yX5_sight, Cond.superclass RX6 RX5, Cond.selects RX8 ⟨"GleanDusk$Plain", "sight", "(III)I"⟩ yX8_sight, Cond.selects RX9 ⟨"GleanDusk$Plain", "sight", "(III)I"⟩ yX9_sight]
def wsX10_clouds : List Cond := .code yX10_clouds cX10_clouds 3 (some .int) :: ((wsX10_clouds_r1 ++ (wsX10_clouds_r2 ++ wsX10_clouds_r3)) ++ wsX100 ++ wsX40)
def wsX10_note_r1 : List Cond := [Cond.fieldLink RX10 36 "GleanDusk" "now" "LGleanDusk$Parish;", Cond.fieldLink RX10 250 "GleanDusk$Parish" "noteCount" "I", Cond.methodLink RX10 112 yX4_hasField, Cond.instanceMethod yX4_hasField, Cond.selects RX4 yX4_hasField yX4_hasField, Cond.initialized RX4, Cond.code yX4_hasField cX4_hasField 2 (some .boolean), Cond.fieldLink RX4 38 "GleanDusk$Parish" "fields" "I", Cond.static yX10_isBelow, Cond.initialized RX10, Cond.code yX10_isBelow cX10_isBelow 2 (some .boolean), Cond.methodLink RX10 86 yX10_isBelow, Cond.methodLink RX10 101 yX10_isLight, Cond.static yX10_isLight, Cond.code yX10_isLight cX10_isLight 1 (some .boolean), Cond.methodLink RX10 147 yX10_isIn, Cond.static yX10_isIn, Cond.code yX10_isIn cX10_isIn 3 (some .boolean), Cond.methodLink RX10 90 yX10_refuseBad, Cond.instanceMethod yX10_refuseBad, Cond.selects RX10 yX10_refuseBad yX10_refuseBad, Cond.code yX10_refuseBad cX10_refuseBad 1 (some .int), Cond.fieldLink RX10 76 "GleanDusk" "refused" "[I", Cond.methodLink RX10 105 yX10_refuseFull]
def wsX10_note_r2 : List Cond := [Cond.instanceMethod yX10_refuseFull, Cond.selects RX10 yX10_refuseFull yX10_refuseFull, Cond.code yX10_refuseFull cX10_refuseFull 1 (some .int), Cond.methodLink RX10 253 yX4_addNote, Cond.instanceMethod yX4_addNote, Cond.selects RX4 yX4_addNote yX4_addNote, Cond.code yX4_addNote cX4_addNote 7 (some .int), Cond.fieldLink RX4 31 "GleanDusk$Parish" "notes" "[[I", Cond.fieldLink RX4 51 "GleanDusk$Parish" "noteCount" "I"]
def wsX10_note : List Cond := .code yX10_note cX10_note 6 (some .int) :: ((wsX10_note_r1 ++ wsX10_note_r2) ++ wsX100 ++ wsX40)
def wsX10_forget : List Cond := .code yX10_forget cX10_forget 3 (some .int) :: ([.fieldLink RX10 36 "GleanDusk" "now" "LGleanDusk$Parish;", .fieldLink RX10 240 "GleanDusk$Parish" "missedCount" "I", .fieldLink RX10 250 "GleanDusk$Parish" "noteCount" "I", .methodLink RX10 86 yX10_isBelow, .static yX10_isBelow, .initialized RX10, .code yX10_isBelow cX10_isBelow 2 (some .boolean), .methodLink RX10 90 yX10_refuseBad, .instanceMethod yX10_refuseBad, .selects RX10 yX10_refuseBad yX10_refuseBad, .code yX10_refuseBad cX10_refuseBad 1 (some .int), .fieldLink RX10 76 "GleanDusk" "refused" "[I"] ++ wsX100 ++ wsX40)
def wsX10_is_r1 : List Cond := [Cond.fieldLink RX10 36 "GleanDusk" "now" "LGleanDusk$Parish;", Cond.methodLink RX10 112 yX4_hasField, Cond.instanceMethod yX4_hasField, Cond.selects RX4 yX4_hasField yX4_hasField, Cond.initialized RX4, Cond.code yX4_hasField cX4_hasField 2 (some .boolean), Cond.fieldLink RX4 38 "GleanDusk$Parish" "fields" "I", Cond.static yX10_isBelow, Cond.initialized RX10, Cond.code yX10_isBelow cX10_isBelow 2 (some .boolean), Cond.methodLink RX10 90 yX10_refuseBad, Cond.instanceMethod yX10_refuseBad, Cond.selects RX10 yX10_refuseBad yX10_refuseBad, Cond.code yX10_refuseBad cX10_refuseBad 1 (some .int), Cond.fieldLink RX10 76 "GleanDusk" "refused" "[I", Cond.methodLink RX10 257 yX4_kindsThatFit, Cond.instanceMethod yX4_kindsThatFit, Cond.selects RX4 yX4_kindsThatFit yX4_kindsThatFit, Cond.code yX4_kindsThatFit cX4_kindsThatFit 4 (some .int), Cond.fieldLink RX4 34 "GleanDusk$Parish" "kinds" "[LGleanDusk$Plain;", Cond.methodLink RX4 122 yX4_notesFit, Cond.instanceMethod yX4_notesFit, Cond.selects RX4 yX4_notesFit yX4_notesFit, Cond.code yX4_notesFit cX4_notesFit 5 (some .boolean)]
def wsX10_is_r2 : List Cond := [Cond.fieldLink RX4 51 "GleanDusk$Parish" "noteCount" "I", Cond.fieldLink RX4 31 "GleanDusk$Parish" "notes" "[[I", Cond.methodLink RX4 89 ⟨"GleanDusk$Plain", "sight", "(III)I"⟩, Cond.sameMethod "GleanDusk$Plain" "GleanDusk$Plain" "sight" "(III)I", Cond.instanceMethod ⟨"GleanDusk$Plain", "sight", "(III)I"⟩, Cond.selects RX2 ⟨"GleanDusk$Plain", "sight", "(III)I"⟩ yX2_sight, Cond.instanceMethod yX2_sight, Cond.initialized RX2, Cond.code yX2_sight cX2_sight 4 (some .int), Cond.methodLink RX2 7 Lib.Math.max.name, Cond.static Lib.Math.max.name, Cond.initialized "java/lang/Math", Cond.code Lib.Math.max.name Lib.Math.max.code 2 (some .int), Cond.methodLink RX2 13 yX8_sight, Cond.sameMethod "GleanDusk$West" "GleanDusk$West" "sight" "(III)I", Cond.superclass RX2 RX8, Cond.instanceMethod yX8_sight, Cond.initialized RX8, Cond.code yX8_sight cX8_sight 5 (some .int), Cond.methodLink RX8 7 yX5_sight, Cond.superclass RX8 RX5, Cond.instanceMethod yX5_sight, Cond.initialized RX5, Cond.code yX5_sight cX5_sight 4 (some .int)]
def wsX10_is_r3 : List Cond := [Cond.methodLink RX5 7 Lib.Math.max.name, Cond.selects RX3 ⟨"GleanDusk$Plain", "sight", "(III)I"⟩ yX3_sight, Cond.instanceMethod yX3_sight, Cond.initialized RX3, Cond.code yX3_sight cX3_sight 4 (some .int), Cond.methodLink RX3 7 yX9_sight, Cond.sameMethod "GleanDusk$Wood" "GleanDusk$Wood" "sight" "(III)I", Cond.superclass RX3 RX9, Cond.instanceMethod yX9_sight, Cond.initialized RX9, Cond.code yX9_sight cX9_sight 4 (some .int), Cond.methodLink RX9 7 yX5_sight, Cond.superclass RX9 RX5, Cond.methodLink RX4 89 yX5_sight, Cond.selects RX5 yX5_sight yX5_sight, Cond.selects RX6 ⟨"GleanDusk$Plain", "sight", "(III)I"⟩ yX6_sight, Cond.instanceMethod yX6_sight, Cond.initialized RX6, Cond.code yX6_sight cX6_sight 4 (some .int), Cond.methodLink RX6 11 Lib.Math.min.name, Cond.static Lib.Math.min.name, Cond.code Lib.Math.min.name Lib.Math.min.code 2 (some .int), Cond.methodLink RX6 7 yX5_sight, Cond.superclass RX6 RX5]
def wsX10_is_r4 : List Cond := [Cond.selects RX8 ⟨"GleanDusk$Plain", "sight", "(III)I"⟩ yX8_sight, Cond.selects RX9 ⟨"GleanDusk$Plain", "sight", "(III)I"⟩ yX9_sight]
def wsX10_is : List Cond := .code yX10_is cX10_is 2 (some .int) :: ((wsX10_is_r1 ++ (wsX10_is_r2 ++ (wsX10_is_r3 ++ wsX10_is_r4))) ++ wsX100 ++ wsX40)
def wsX10_mostAlike_r1 : List Cond := [Cond.fieldLink RX10 25 "GleanDusk" "kinds" "[LGleanDusk$Plain;", Cond.methodLink RX10 315 Lib.Math.max.name, Cond.static Lib.Math.max.name, Cond.initialized "java/lang/Math", Cond.code Lib.Math.max.name Lib.Math.max.code 2 (some .int), Cond.methodLink RX10 325 ⟨"GleanDusk$Plain", "sight", "(III)I"⟩, Cond.sameMethod "GleanDusk$Plain" "GleanDusk$Plain" "sight" "(III)I", Cond.instanceMethod ⟨"GleanDusk$Plain", "sight", "(III)I"⟩, Cond.selects RX2 ⟨"GleanDusk$Plain", "sight", "(III)I"⟩ yX2_sight, Cond.instanceMethod yX2_sight, Cond.initialized RX2, Cond.code yX2_sight cX2_sight 4 (some .int), Cond.methodLink RX2 7 Lib.Math.max.name, Cond.methodLink RX2 13 yX8_sight, Cond.sameMethod "GleanDusk$West" "GleanDusk$West" "sight" "(III)I", Cond.superclass RX2 RX8, Cond.instanceMethod yX8_sight, Cond.initialized RX8, Cond.code yX8_sight cX8_sight 5 (some .int), Cond.methodLink RX8 7 yX5_sight, Cond.superclass RX8 RX5, Cond.instanceMethod yX5_sight, Cond.initialized RX5, Cond.code yX5_sight cX5_sight 4 (some .int)]
def wsX10_mostAlike_r2 : List Cond := [Cond.methodLink RX5 7 Lib.Math.max.name, Cond.selects RX3 ⟨"GleanDusk$Plain", "sight", "(III)I"⟩ yX3_sight, Cond.instanceMethod yX3_sight, Cond.initialized RX3, Cond.code yX3_sight cX3_sight 4 (some .int), Cond.methodLink RX3 7 yX9_sight, Cond.sameMethod "GleanDusk$Wood" "GleanDusk$Wood" "sight" "(III)I", Cond.superclass RX3 RX9, Cond.instanceMethod yX9_sight, Cond.initialized RX9, Cond.code yX9_sight cX9_sight 4 (some .int), Cond.methodLink RX9 7 yX5_sight, Cond.superclass RX9 RX5, Cond.methodLink RX10 325 yX5_sight, Cond.selects RX5 yX5_sight yX5_sight, Cond.selects RX6 ⟨"GleanDusk$Plain", "sight", "(III)I"⟩ yX6_sight, Cond.instanceMethod yX6_sight, Cond.initialized RX6, Cond.code yX6_sight cX6_sight 4 (some .int), Cond.methodLink RX6 11 Lib.Math.min.name, Cond.static Lib.Math.min.name, Cond.code Lib.Math.min.name Lib.Math.min.code 2 (some .int), Cond.methodLink RX6 7 yX5_sight, Cond.superclass RX6 RX5]
def wsX10_mostAlike_r3 : List Cond := [Cond.selects RX8 ⟨"GleanDusk$Plain", "sight", "(III)I"⟩ yX8_sight, Cond.selects RX9 ⟨"GleanDusk$Plain", "sight", "(III)I"⟩ yX9_sight]
def wsX10_mostAlike : List Cond := .code yX10_mostAlike cX10_mostAlike 10 (some .int) :: ((wsX10_mostAlike_r1 ++ (wsX10_mostAlike_r2 ++ wsX10_mostAlike_r3)) ++ wsX100)
def wsX10_look_r1 : List Cond := [Cond.fieldLink RX10 36 "GleanDusk" "now" "LGleanDusk$Parish;", Cond.fieldLink RX10 140 "GleanDusk$Parish" "dusk" "LGleanDusk$Dusk;", Cond.fieldLink RX10 185 "GleanDusk$Dusk" "light" "[I", Cond.methodLink RX10 112 yX4_hasField, Cond.instanceMethod yX4_hasField, Cond.selects RX4 yX4_hasField yX4_hasField, Cond.initialized RX4, Cond.code yX4_hasField cX4_hasField 2 (some .boolean), Cond.fieldLink RX4 38 "GleanDusk$Parish" "fields" "I", Cond.static yX10_isBelow, Cond.initialized RX10, Cond.code yX10_isBelow cX10_isBelow 2 (some .boolean), Cond.methodLink RX10 90 yX10_refuseBad, Cond.instanceMethod yX10_refuseBad, Cond.selects RX10 yX10_refuseBad yX10_refuseBad, Cond.code yX10_refuseBad cX10_refuseBad 1 (some .int), Cond.fieldLink RX10 76 "GleanDusk" "refused" "[I", Cond.methodLink RX10 257 yX4_kindsThatFit, Cond.instanceMethod yX4_kindsThatFit, Cond.selects RX4 yX4_kindsThatFit yX4_kindsThatFit, Cond.code yX4_kindsThatFit cX4_kindsThatFit 4 (some .int), Cond.fieldLink RX4 34 "GleanDusk$Parish" "kinds" "[LGleanDusk$Plain;", Cond.methodLink RX4 122 yX4_notesFit, Cond.instanceMethod yX4_notesFit]
def wsX10_look_r2 : List Cond := [Cond.selects RX4 yX4_notesFit yX4_notesFit, Cond.code yX4_notesFit cX4_notesFit 5 (some .boolean), Cond.fieldLink RX4 51 "GleanDusk$Parish" "noteCount" "I", Cond.fieldLink RX4 31 "GleanDusk$Parish" "notes" "[[I", Cond.methodLink RX4 89 ⟨"GleanDusk$Plain", "sight", "(III)I"⟩, Cond.sameMethod "GleanDusk$Plain" "GleanDusk$Plain" "sight" "(III)I", Cond.instanceMethod ⟨"GleanDusk$Plain", "sight", "(III)I"⟩, Cond.selects RX2 ⟨"GleanDusk$Plain", "sight", "(III)I"⟩ yX2_sight, Cond.instanceMethod yX2_sight, Cond.initialized RX2, Cond.code yX2_sight cX2_sight 4 (some .int), Cond.methodLink RX2 7 Lib.Math.max.name, Cond.static Lib.Math.max.name, Cond.initialized "java/lang/Math", Cond.code Lib.Math.max.name Lib.Math.max.code 2 (some .int), Cond.methodLink RX2 13 yX8_sight, Cond.sameMethod "GleanDusk$West" "GleanDusk$West" "sight" "(III)I", Cond.superclass RX2 RX8, Cond.instanceMethod yX8_sight, Cond.initialized RX8, Cond.code yX8_sight cX8_sight 5 (some .int), Cond.methodLink RX8 7 yX5_sight, Cond.superclass RX8 RX5, Cond.instanceMethod yX5_sight]
def wsX10_look_r3 : List Cond := [Cond.initialized RX5, Cond.code yX5_sight cX5_sight 4 (some .int), Cond.methodLink RX5 7 Lib.Math.max.name, Cond.selects RX3 ⟨"GleanDusk$Plain", "sight", "(III)I"⟩ yX3_sight, Cond.instanceMethod yX3_sight, Cond.initialized RX3, Cond.code yX3_sight cX3_sight 4 (some .int), Cond.methodLink RX3 7 yX9_sight, Cond.sameMethod "GleanDusk$Wood" "GleanDusk$Wood" "sight" "(III)I", Cond.superclass RX3 RX9, Cond.instanceMethod yX9_sight, Cond.initialized RX9, Cond.code yX9_sight cX9_sight 4 (some .int), Cond.methodLink RX9 7 yX5_sight, Cond.superclass RX9 RX5, Cond.methodLink RX4 89 yX5_sight, Cond.selects RX5 yX5_sight yX5_sight, Cond.selects RX6 ⟨"GleanDusk$Plain", "sight", "(III)I"⟩ yX6_sight, Cond.instanceMethod yX6_sight, Cond.initialized RX6, Cond.code yX6_sight cX6_sight 4 (some .int), Cond.methodLink RX6 11 Lib.Math.min.name, Cond.static Lib.Math.min.name, Cond.code Lib.Math.min.name Lib.Math.min.code 2 (some .int)]
def wsX10_look_r4 : List Cond := [Cond.methodLink RX6 7 yX5_sight, Cond.superclass RX6 RX5, Cond.selects RX8 ⟨"GleanDusk$Plain", "sight", "(III)I"⟩ yX8_sight, Cond.selects RX9 ⟨"GleanDusk$Plain", "sight", "(III)I"⟩ yX9_sight, Cond.methodLink RX10 260 yX10_mostAlike, Cond.instanceMethod yX10_mostAlike, Cond.selects RX10 yX10_mostAlike yX10_mostAlike, Cond.code yX10_mostAlike cX10_mostAlike 10 (some .int), Cond.fieldLink RX10 25 "GleanDusk" "kinds" "[LGleanDusk$Plain;", Cond.methodLink RX10 315 Lib.Math.max.name, Cond.methodLink RX10 325 ⟨"GleanDusk$Plain", "sight", "(III)I"⟩, Cond.methodLink RX10 325 yX5_sight]
def wsX10_look : List Cond := .code yX10_look cX10_look 8 (some .int) :: ((wsX10_look_r1 ++ (wsX10_look_r2 ++ (wsX10_look_r3 ++ wsX10_look_r4))) ++ wsX100 ++ wsX40 ++ wsX10)
def wsX10_worth : List Cond := .code yX10_worth cX10_worth 5 (some .int) :: ([.fieldLink RX10 69 "GleanDusk" "shown" "[I", .methodLink RX10 332 Lib.Math.abs.name, .static Lib.Math.abs.name, .initialized "java/lang/Math", .code Lib.Math.abs.name Lib.Math.abs.code 1 (some .int)] ++ wsX100)
def wsX10_staysPut : List Cond := .code yX10_staysPut cX10_staysPut 6 (some .boolean) :: ([.fieldLink RX10 36 "GleanDusk" "now" "LGleanDusk$Parish;", .fieldLink RX10 94 "GleanDusk$Parish" "fields" "I", .methodLink RX10 329 yX10_worth, .instanceMethod yX10_worth, .selects RX10 yX10_worth yX10_worth, .initialized RX10, .code yX10_worth cX10_worth 5 (some .int), .fieldLink RX10 69 "GleanDusk" "shown" "[I", .methodLink RX10 332 Lib.Math.abs.name, .static Lib.Math.abs.name, .initialized "java/lang/Math", .code Lib.Math.abs.name Lib.Math.abs.code 1 (some .int)] ++ wsX100 ++ wsX40)
def wsX10_two_r1 : List Cond := [Cond.fieldLink RX10 36 "GleanDusk" "now" "LGleanDusk$Parish;", Cond.fieldLink RX10 140 "GleanDusk$Parish" "dusk" "LGleanDusk$Dusk;", Cond.fieldLink RX10 151 "GleanDusk$Dusk" "step" "I", Cond.fieldLink RX10 94 "GleanDusk$Parish" "fields" "I", Cond.fieldLink RX10 170 "GleanDusk$Dusk" "at" "[I", Cond.methodLink RX10 167 yX4_hasGleaner, Cond.instanceMethod yX4_hasGleaner, Cond.selects RX4 yX4_hasGleaner yX4_hasGleaner, Cond.initialized RX4, Cond.code yX4_hasGleaner cX4_hasGleaner 2 (some .boolean), Cond.fieldLink RX4 42 "GleanDusk$Parish" "gleaners" "I", Cond.static yX10_isBelow, Cond.initialized RX10, Cond.code yX10_isBelow cX10_isBelow 2 (some .boolean), Cond.methodLink RX10 209 yX10_refuseTen, Cond.instanceMethod yX10_refuseTen, Cond.selects RX10 yX10_refuseTen yX10_refuseTen, Cond.code yX10_refuseTen cX10_refuseTen 1 (some .int), Cond.fieldLink RX10 76 "GleanDusk" "refused" "[I", Cond.methodLink RX10 222 yX10_showAll, Cond.instanceMethod yX10_showAll, Cond.selects RX10 yX10_showAll yX10_showAll, Cond.code yX10_showAll cX10_showAll 3 none, Cond.fieldLink RX10 69 "GleanDusk" "shown" "[I"]
def wsX10_two_r2 : List Cond := [Cond.methodLink RX10 197 yX4_shows, Cond.instanceMethod yX4_shows, Cond.selects RX4 yX4_shows yX4_shows, Cond.code yX4_shows cX4_shows 4 (some .int), Cond.fieldLink RX4 34 "GleanDusk$Parish" "kinds" "[LGleanDusk$Plain;", Cond.fieldLink RX4 9 "GleanDusk$Parish" "kind" "[I", Cond.fieldLink RX4 77 "GleanDusk$Dusk" "light" "[I", Cond.fieldLink RX4 57 "GleanDusk$Dusk" "cloud" "I", Cond.methodLink RX4 89 ⟨"GleanDusk$Plain", "sight", "(III)I"⟩, Cond.sameMethod "GleanDusk$Plain" "GleanDusk$Plain" "sight" "(III)I", Cond.instanceMethod ⟨"GleanDusk$Plain", "sight", "(III)I"⟩, Cond.selects RX2 ⟨"GleanDusk$Plain", "sight", "(III)I"⟩ yX2_sight, Cond.instanceMethod yX2_sight, Cond.initialized RX2, Cond.code yX2_sight cX2_sight 4 (some .int), Cond.methodLink RX2 7 Lib.Math.max.name, Cond.static Lib.Math.max.name, Cond.initialized "java/lang/Math", Cond.code Lib.Math.max.name Lib.Math.max.code 2 (some .int), Cond.methodLink RX2 13 yX8_sight, Cond.sameMethod "GleanDusk$West" "GleanDusk$West" "sight" "(III)I", Cond.superclass RX2 RX8, Cond.instanceMethod yX8_sight, Cond.initialized RX8]
def wsX10_two_r3 : List Cond := [Cond.code yX8_sight cX8_sight 5 (some .int), Cond.methodLink RX8 7 yX5_sight, Cond.superclass RX8 RX5, Cond.instanceMethod yX5_sight, Cond.initialized RX5, Cond.code yX5_sight cX5_sight 4 (some .int), Cond.methodLink RX5 7 Lib.Math.max.name, Cond.selects RX3 ⟨"GleanDusk$Plain", "sight", "(III)I"⟩ yX3_sight, Cond.instanceMethod yX3_sight, Cond.initialized RX3, Cond.code yX3_sight cX3_sight 4 (some .int), Cond.methodLink RX3 7 yX9_sight, Cond.sameMethod "GleanDusk$Wood" "GleanDusk$Wood" "sight" "(III)I", Cond.superclass RX3 RX9, Cond.instanceMethod yX9_sight, Cond.initialized RX9, Cond.code yX9_sight cX9_sight 4 (some .int), Cond.methodLink RX9 7 yX5_sight, Cond.superclass RX9 RX5, Cond.methodLink RX4 89 yX5_sight, Cond.selects RX5 yX5_sight yX5_sight, Cond.selects RX6 ⟨"GleanDusk$Plain", "sight", "(III)I"⟩ yX6_sight, Cond.instanceMethod yX6_sight, Cond.initialized RX6]
def wsX10_two_r4 : List Cond := [Cond.code yX6_sight cX6_sight 4 (some .int), Cond.methodLink RX6 11 Lib.Math.min.name, Cond.static Lib.Math.min.name, Cond.code Lib.Math.min.name Lib.Math.min.code 2 (some .int), Cond.methodLink RX6 7 yX5_sight, Cond.superclass RX6 RX5, Cond.selects RX8 ⟨"GleanDusk$Plain", "sight", "(III)I"⟩ yX8_sight, Cond.selects RX9 ⟨"GleanDusk$Plain", "sight", "(III)I"⟩ yX9_sight, Cond.methodLink RX10 263 yX10_staysPut, Cond.instanceMethod yX10_staysPut, Cond.selects RX10 yX10_staysPut yX10_staysPut, Cond.code yX10_staysPut cX10_staysPut 6 (some .boolean), Cond.methodLink RX10 329 yX10_worth, Cond.instanceMethod yX10_worth, Cond.selects RX10 yX10_worth yX10_worth, Cond.code yX10_worth cX10_worth 5 (some .int), Cond.methodLink RX10 332 Lib.Math.abs.name, Cond.static Lib.Math.abs.name, Cond.code Lib.Math.abs.name Lib.Math.abs.code 1 (some .int)]
def wsX10_two : List Cond := .code yX10_two cX10_two 7 (some .int) :: ((wsX10_two_r1 ++ (wsX10_two_r2 ++ (wsX10_two_r3 ++ wsX10_two_r4))) ++ wsX100 ++ wsX40 ++ wsX10)
def wsX10_commonDivisor : List Cond := .code yX10_commonDivisor cX10_commonDivisor 6 (some .int) :: ([])
def wsX10_rains_r1 : List Cond := [Cond.fieldLink RX10 36 "GleanDusk" "now" "LGleanDusk$Parish;", Cond.fieldLink RX10 140 "GleanDusk$Parish" "dusk" "LGleanDusk$Dusk;", Cond.fieldLink RX10 151 "GleanDusk$Dusk" "step" "I", Cond.fieldLink RX10 58 "GleanDusk" "trial" "LGleanDusk$Dusk;", Cond.fieldLink RX10 173 "GleanDusk$Dusk" "cloud" "I", Cond.methodLink RX10 204 Lib.Math.min.name, Cond.static Lib.Math.min.name, Cond.initialized "java/lang/Math", Cond.code Lib.Math.min.name Lib.Math.min.code 2 (some .int), Cond.fieldLink RX10 79 "GleanDusk" "above" "I", Cond.fieldLink RX10 83 "GleanDusk" "below" "I", Cond.methodLink RX10 112 yX4_hasField, Cond.instanceMethod yX4_hasField, Cond.selects RX4 yX4_hasField yX4_hasField, Cond.initialized RX4, Cond.code yX4_hasField cX4_hasField 2 (some .boolean), Cond.fieldLink RX4 38 "GleanDusk$Parish" "fields" "I", Cond.static yX10_isBelow, Cond.initialized RX10, Cond.code yX10_isBelow cX10_isBelow 2 (some .boolean), Cond.methodLink RX10 147 yX10_isIn, Cond.static yX10_isIn, Cond.code yX10_isIn cX10_isIn 3 (some .boolean), Cond.methodLink RX10 90 yX10_refuseBad]
def wsX10_rains_r2 : List Cond := [Cond.instanceMethod yX10_refuseBad, Cond.selects RX10 yX10_refuseBad yX10_refuseBad, Cond.code yX10_refuseBad cX10_refuseBad 1 (some .int), Cond.fieldLink RX10 76 "GleanDusk" "refused" "[I", Cond.methodLink RX10 197 yX4_shows, Cond.instanceMethod yX4_shows, Cond.selects RX4 yX4_shows yX4_shows, Cond.code yX4_shows cX4_shows 4 (some .int), Cond.fieldLink RX4 34 "GleanDusk$Parish" "kinds" "[LGleanDusk$Plain;", Cond.fieldLink RX4 9 "GleanDusk$Parish" "kind" "[I", Cond.fieldLink RX4 77 "GleanDusk$Dusk" "light" "[I", Cond.fieldLink RX4 57 "GleanDusk$Dusk" "cloud" "I", Cond.methodLink RX4 89 ⟨"GleanDusk$Plain", "sight", "(III)I"⟩, Cond.sameMethod "GleanDusk$Plain" "GleanDusk$Plain" "sight" "(III)I", Cond.instanceMethod ⟨"GleanDusk$Plain", "sight", "(III)I"⟩, Cond.selects RX2 ⟨"GleanDusk$Plain", "sight", "(III)I"⟩ yX2_sight, Cond.instanceMethod yX2_sight, Cond.initialized RX2, Cond.code yX2_sight cX2_sight 4 (some .int), Cond.methodLink RX2 7 Lib.Math.max.name, Cond.static Lib.Math.max.name, Cond.code Lib.Math.max.name Lib.Math.max.code 2 (some .int), Cond.methodLink RX2 13 yX8_sight, Cond.sameMethod "GleanDusk$West" "GleanDusk$West" "sight" "(III)I"]
def wsX10_rains_r3 : List Cond := [Cond.superclass RX2 RX8, Cond.instanceMethod yX8_sight, Cond.initialized RX8, Cond.code yX8_sight cX8_sight 5 (some .int), Cond.methodLink RX8 7 yX5_sight, Cond.superclass RX8 RX5, Cond.instanceMethod yX5_sight, Cond.initialized RX5, Cond.code yX5_sight cX5_sight 4 (some .int), Cond.methodLink RX5 7 Lib.Math.max.name, Cond.selects RX3 ⟨"GleanDusk$Plain", "sight", "(III)I"⟩ yX3_sight, Cond.instanceMethod yX3_sight, Cond.initialized RX3, Cond.code yX3_sight cX3_sight 4 (some .int), Cond.methodLink RX3 7 yX9_sight, Cond.sameMethod "GleanDusk$Wood" "GleanDusk$Wood" "sight" "(III)I", Cond.superclass RX3 RX9, Cond.instanceMethod yX9_sight, Cond.initialized RX9, Cond.code yX9_sight cX9_sight 4 (some .int), Cond.methodLink RX9 7 yX5_sight, Cond.superclass RX9 RX5, Cond.methodLink RX4 89 yX5_sight, Cond.selects RX5 yX5_sight yX5_sight]
def wsX10_rains_r4 : List Cond := [Cond.selects RX6 ⟨"GleanDusk$Plain", "sight", "(III)I"⟩ yX6_sight, Cond.instanceMethod yX6_sight, Cond.initialized RX6, Cond.code yX6_sight cX6_sight 4 (some .int), Cond.methodLink RX6 11 Lib.Math.min.name, Cond.methodLink RX6 7 yX5_sight, Cond.superclass RX6 RX5, Cond.selects RX8 ⟨"GleanDusk$Plain", "sight", "(III)I"⟩ yX8_sight, Cond.selects RX9 ⟨"GleanDusk$Plain", "sight", "(III)I"⟩ yX9_sight, Cond.methodLink RX10 201 yX1_become, Cond.instanceMethod yX1_become, Cond.selects RX1 yX1_become yX1_become, Cond.initialized RX1, Cond.code yX1_become cX1_become 2 none, Cond.fieldLink RX1 9 "GleanDusk$Dusk" "light" "[I", Cond.methodLink RX1 21 arraycopyName, Cond.native arraycopyName, Cond.static arraycopyName, Cond.initialized "java/lang/System", Cond.fieldLink RX1 15 "GleanDusk$Dusk" "at" "[I", Cond.fieldLink RX1 18 "GleanDusk$Dusk" "store" "[I", Cond.fieldLink RX1 27 "GleanDusk$Dusk" "step" "I", Cond.fieldLink RX1 31 "GleanDusk$Dusk" "cloud" "I", Cond.fieldLink RX1 34 "GleanDusk$Dusk" "number" "I"]
def wsX10_rains_r5 : List Cond := [Cond.methodLink RX10 266 yX10_commonDivisor, Cond.static yX10_commonDivisor, Cond.code yX10_commonDivisor cX10_commonDivisor 6 (some .int)]
def wsX10_rains : List Cond := .code yX10_rains cX10_rains 7 (some .int) :: ((wsX10_rains_r1 ++ (wsX10_rains_r2 ++ (wsX10_rains_r3 ++ (wsX10_rains_r4 ++ wsX10_rains_r5)))) ++ wsX100 ++ wsX40 ++ wsX10)
def wsX10_summers_r1 : List Cond := [Cond.constant RX10 269 (1000000), Cond.fieldLink RX10 58 "GleanDusk" "trial" "LGleanDusk$Dusk;", Cond.fieldLink RX10 36 "GleanDusk" "now" "LGleanDusk$Parish;", Cond.fieldLink RX10 140 "GleanDusk$Parish" "dusk" "LGleanDusk$Dusk;", Cond.constantLong RX10 270 (1103515245), Cond.constantLong RX10 272 (12345), Cond.constantLong RX10 274 (2147483648), Cond.fieldLink RX10 151 "GleanDusk$Dusk" "step" "I", Cond.constantLong RX10 276 (65536), Cond.constantLong RX10 278 (10), Cond.fieldLink RX10 173 "GleanDusk$Dusk" "cloud" "I", Cond.methodLink RX10 86 yX10_isBelow, Cond.static yX10_isBelow, Cond.initialized RX10, Cond.code yX10_isBelow cX10_isBelow 2 (some .boolean), Cond.methodLink RX10 147 yX10_isIn, Cond.static yX10_isIn, Cond.code yX10_isIn cX10_isIn 3 (some .boolean), Cond.methodLink RX10 90 yX10_refuseBad, Cond.instanceMethod yX10_refuseBad, Cond.selects RX10 yX10_refuseBad yX10_refuseBad, Cond.code yX10_refuseBad cX10_refuseBad 1 (some .int), Cond.fieldLink RX10 76 "GleanDusk" "refused" "[I", Cond.methodLink RX10 201 yX1_become]
def wsX10_summers_r2 : List Cond := [Cond.instanceMethod yX1_become, Cond.selects RX1 yX1_become yX1_become, Cond.initialized RX1, Cond.code yX1_become cX1_become 2 none, Cond.fieldLink RX1 9 "GleanDusk$Dusk" "light" "[I", Cond.methodLink RX1 21 arraycopyName, Cond.native arraycopyName, Cond.static arraycopyName, Cond.initialized "java/lang/System", Cond.fieldLink RX1 15 "GleanDusk$Dusk" "at" "[I", Cond.fieldLink RX1 18 "GleanDusk$Dusk" "store" "[I", Cond.fieldLink RX1 27 "GleanDusk$Dusk" "step" "I", Cond.fieldLink RX1 31 "GleanDusk$Dusk" "cloud" "I", Cond.fieldLink RX1 34 "GleanDusk$Dusk" "number" "I", Cond.methodLink RX10 160 yX4_fade, Cond.instanceMethod yX4_fade, Cond.selects RX4 yX4_fade yX4_fade, Cond.initialized RX4, Cond.code yX4_fade cX4_fade 3 none, Cond.fieldLink RX4 42 "GleanDusk$Parish" "gleaners" "I", Cond.fieldLink RX4 83 "GleanDusk$Dusk" "store" "[I", Cond.fieldLink RX4 38 "GleanDusk$Parish" "fields" "I", Cond.fieldLink RX4 77 "GleanDusk$Dusk" "light" "[I", Cond.methodLink RX4 109 Lib.Math.min.name]
def wsX10_summers_r3 : List Cond := [Cond.static Lib.Math.min.name, Cond.initialized "java/lang/Math", Cond.code Lib.Math.min.name Lib.Math.min.code 2 (some .int), Cond.fieldLink RX4 60 "GleanDusk$Dusk" "number" "I", Cond.fieldLink RX4 54 "GleanDusk$Dusk" "step" "I", Cond.static yX10_faded, Cond.code yX10_faded cX10_faded 1 (some .int), Cond.methodLink RX10 143 yX4_gather, Cond.instanceMethod yX4_gather, Cond.selects RX4 yX4_gather yX4_gather, Cond.code yX4_gather cX4_gather 6 (some .int), Cond.methodLink RX4 103 yX4_share, Cond.instanceMethod yX4_share, Cond.selects RX4 yX4_share yX4_share, Cond.code yX4_share cX4_share 4 (some .int), Cond.methodLink RX4 95 yX4_crowd, Cond.instanceMethod yX4_crowd, Cond.selects RX4 yX4_crowd yX4_crowd, Cond.code yX4_crowd cX4_crowd 5 (some .int), Cond.fieldLink RX4 80 "GleanDusk$Dusk" "at" "[I", Cond.methodLink RX4 99 yX4_shows, Cond.instanceMethod yX4_shows, Cond.selects RX4 yX4_shows yX4_shows, Cond.code yX4_shows cX4_shows 4 (some .int)]
def wsX10_summers_r4 : List Cond := [Cond.fieldLink RX4 34 "GleanDusk$Parish" "kinds" "[LGleanDusk$Plain;", Cond.fieldLink RX4 9 "GleanDusk$Parish" "kind" "[I", Cond.fieldLink RX4 57 "GleanDusk$Dusk" "cloud" "I", Cond.methodLink RX4 89 ⟨"GleanDusk$Plain", "sight", "(III)I"⟩, Cond.sameMethod "GleanDusk$Plain" "GleanDusk$Plain" "sight" "(III)I", Cond.instanceMethod ⟨"GleanDusk$Plain", "sight", "(III)I"⟩, Cond.selects RX2 ⟨"GleanDusk$Plain", "sight", "(III)I"⟩ yX2_sight, Cond.instanceMethod yX2_sight, Cond.initialized RX2, Cond.code yX2_sight cX2_sight 4 (some .int), Cond.methodLink RX2 7 Lib.Math.max.name, Cond.static Lib.Math.max.name, Cond.code Lib.Math.max.name Lib.Math.max.code 2 (some .int), Cond.methodLink RX2 13 yX8_sight, Cond.sameMethod "GleanDusk$West" "GleanDusk$West" "sight" "(III)I", Cond.superclass RX2 RX8, Cond.instanceMethod yX8_sight, Cond.initialized RX8, Cond.code yX8_sight cX8_sight 5 (some .int), Cond.methodLink RX8 7 yX5_sight, Cond.superclass RX8 RX5, Cond.instanceMethod yX5_sight, Cond.initialized RX5, Cond.code yX5_sight cX5_sight 4 (some .int)]
def wsX10_summers_r5 : List Cond := [Cond.methodLink RX5 7 Lib.Math.max.name, Cond.selects RX3 ⟨"GleanDusk$Plain", "sight", "(III)I"⟩ yX3_sight, Cond.instanceMethod yX3_sight, Cond.initialized RX3, Cond.code yX3_sight cX3_sight 4 (some .int), Cond.methodLink RX3 7 yX9_sight, Cond.sameMethod "GleanDusk$Wood" "GleanDusk$Wood" "sight" "(III)I", Cond.superclass RX3 RX9, Cond.instanceMethod yX9_sight, Cond.initialized RX9, Cond.code yX9_sight cX9_sight 4 (some .int), Cond.methodLink RX9 7 yX5_sight, Cond.superclass RX9 RX5, Cond.methodLink RX4 89 yX5_sight, Cond.selects RX5 yX5_sight yX5_sight, Cond.selects RX6 ⟨"GleanDusk$Plain", "sight", "(III)I"⟩ yX6_sight, Cond.instanceMethod yX6_sight, Cond.initialized RX6, Cond.code yX6_sight cX6_sight 4 (some .int), Cond.methodLink RX6 11 Lib.Math.min.name, Cond.methodLink RX6 7 yX5_sight, Cond.superclass RX6 RX5, Cond.selects RX8 ⟨"GleanDusk$Plain", "sight", "(III)I"⟩ yX8_sight, Cond.selects RX9 ⟨"GleanDusk$Plain", "sight", "(III)I"⟩ yX9_sight]
def wsX10_summers_r6 : List Cond := [Cond.methodLink RX4 106 yX4_give, Cond.instanceMethod yX4_give, Cond.selects RX4 yX4_give yX4_give, Cond.code yX4_give cX4_give 6 (some .int), Cond.methodLink RX4 115 Lib.Math.max.name]
def wsX10_summers : List Cond := .code yX10_summers cX10_summers 7 (some .int) :: ((wsX10_summers_r1 ++ (wsX10_summers_r2 ++ (wsX10_summers_r3 ++ (wsX10_summers_r4 ++ (wsX10_summers_r5 ++ wsX10_summers_r6))))) ++ wsX100 ++ wsX40 ++ wsX10)
def wsX10_part : List Cond := .code yX10_part cX10_part 2 (some .long) :: ([.fieldLink RX10 79 "GleanDusk" "above" "I", .fieldLink RX10 83 "GleanDusk" "below" "I", .methodLink RX10 86 yX10_isBelow, .static yX10_isBelow, .initialized RX10, .code yX10_isBelow cX10_isBelow 2 (some .boolean), .methodLink RX10 90 yX10_refuseBad, .instanceMethod yX10_refuseBad, .selects RX10 yX10_refuseBad yX10_refuseBad, .code yX10_refuseBad cX10_refuseBad 1 (some .int), .fieldLink RX10 76 "GleanDusk" "refused" "[I"] ++ wsX100)
def wsX10_image_r1 : List Cond := [Cond.fieldLink RX10 40 "GleanDusk" "images" "[LGleanDusk$Parish;", Cond.fieldLink RX10 36 "GleanDusk" "now" "LGleanDusk$Parish;", Cond.fieldLink RX10 44 "GleanDusk" "kept" "[Z", Cond.methodLink RX10 86 yX10_isBelow, Cond.static yX10_isBelow, Cond.initialized RX10, Cond.code yX10_isBelow cX10_isBelow 2 (some .boolean), Cond.methodLink RX10 90 yX10_refuseBad, Cond.instanceMethod yX10_refuseBad, Cond.selects RX10 yX10_refuseBad yX10_refuseBad, Cond.code yX10_refuseBad cX10_refuseBad 1 (some .int), Cond.fieldLink RX10 76 "GleanDusk" "refused" "[I", Cond.methodLink RX10 280 yX4_become, Cond.instanceMethod yX4_become, Cond.selects RX4 yX4_become yX4_become, Cond.initialized RX4, Cond.code yX4_become cX4_become 3 none, Cond.fieldLink RX4 9 "GleanDusk$Parish" "kind" "[I", Cond.methodLink RX4 63 arraycopyName, Cond.native arraycopyName, Cond.static arraycopyName, Cond.initialized "java/lang/System", Cond.fieldLink RX4 18 "GleanDusk$Parish" "dusk" "LGleanDusk$Dusk;", Cond.fieldLink RX4 45 "GleanDusk$Parish" "undoable" "I"]
def wsX10_image_r2 : List Cond := [Cond.fieldLink RX4 22 "GleanDusk$Parish" "earlier" "[LGleanDusk$Dusk;", Cond.fieldLink RX4 48 "GleanDusk$Parish" "missedCount" "I", Cond.fieldLink RX4 28 "GleanDusk$Parish" "missed" "[[I", Cond.fieldLink RX4 51 "GleanDusk$Parish" "noteCount" "I", Cond.fieldLink RX4 31 "GleanDusk$Parish" "notes" "[[I", Cond.fieldLink RX4 38 "GleanDusk$Parish" "fields" "I", Cond.fieldLink RX4 42 "GleanDusk$Parish" "gleaners" "I", Cond.methodLink RX4 69 yX1_become, Cond.instanceMethod yX1_become, Cond.selects RX1 yX1_become yX1_become, Cond.initialized RX1, Cond.code yX1_become cX1_become 2 none, Cond.fieldLink RX1 9 "GleanDusk$Dusk" "light" "[I", Cond.methodLink RX1 21 arraycopyName, Cond.fieldLink RX1 15 "GleanDusk$Dusk" "at" "[I", Cond.fieldLink RX1 18 "GleanDusk$Dusk" "store" "[I", Cond.fieldLink RX1 27 "GleanDusk$Dusk" "step" "I", Cond.fieldLink RX1 31 "GleanDusk$Dusk" "cloud" "I", Cond.fieldLink RX1 34 "GleanDusk$Dusk" "number" "I"]
def wsX10_image : List Cond := .code yX10_image cX10_image 2 (some .int) :: ((wsX10_image_r1 ++ wsX10_image_r2) ++ wsX100 ++ wsX40 ++ wsX10)
def wsX10_from_r1 : List Cond := [Cond.fieldLink RX10 44 "GleanDusk" "kept" "[Z", Cond.fieldLink RX10 36 "GleanDusk" "now" "LGleanDusk$Parish;", Cond.fieldLink RX10 40 "GleanDusk" "images" "[LGleanDusk$Parish;", Cond.methodLink RX10 86 yX10_isBelow, Cond.static yX10_isBelow, Cond.initialized RX10, Cond.code yX10_isBelow cX10_isBelow 2 (some .boolean), Cond.methodLink RX10 90 yX10_refuseBad, Cond.instanceMethod yX10_refuseBad, Cond.selects RX10 yX10_refuseBad yX10_refuseBad, Cond.code yX10_refuseBad cX10_refuseBad 1 (some .int), Cond.fieldLink RX10 76 "GleanDusk" "refused" "[I", Cond.methodLink RX10 154 yX10_refuseNo, Cond.instanceMethod yX10_refuseNo, Cond.selects RX10 yX10_refuseNo yX10_refuseNo, Cond.code yX10_refuseNo cX10_refuseNo 1 (some .int), Cond.methodLink RX10 280 yX4_become, Cond.instanceMethod yX4_become, Cond.selects RX4 yX4_become yX4_become, Cond.initialized RX4, Cond.code yX4_become cX4_become 3 none, Cond.fieldLink RX4 9 "GleanDusk$Parish" "kind" "[I", Cond.methodLink RX4 63 arraycopyName, Cond.native arraycopyName]
def wsX10_from_r2 : List Cond := [Cond.static arraycopyName, Cond.initialized "java/lang/System", Cond.fieldLink RX4 18 "GleanDusk$Parish" "dusk" "LGleanDusk$Dusk;", Cond.fieldLink RX4 45 "GleanDusk$Parish" "undoable" "I", Cond.fieldLink RX4 22 "GleanDusk$Parish" "earlier" "[LGleanDusk$Dusk;", Cond.fieldLink RX4 48 "GleanDusk$Parish" "missedCount" "I", Cond.fieldLink RX4 28 "GleanDusk$Parish" "missed" "[[I", Cond.fieldLink RX4 51 "GleanDusk$Parish" "noteCount" "I", Cond.fieldLink RX4 31 "GleanDusk$Parish" "notes" "[[I", Cond.fieldLink RX4 38 "GleanDusk$Parish" "fields" "I", Cond.fieldLink RX4 42 "GleanDusk$Parish" "gleaners" "I", Cond.methodLink RX4 69 yX1_become, Cond.instanceMethod yX1_become, Cond.selects RX1 yX1_become yX1_become, Cond.initialized RX1, Cond.code yX1_become cX1_become 2 none, Cond.fieldLink RX1 9 "GleanDusk$Dusk" "light" "[I", Cond.methodLink RX1 21 arraycopyName, Cond.fieldLink RX1 15 "GleanDusk$Dusk" "at" "[I", Cond.fieldLink RX1 18 "GleanDusk$Dusk" "store" "[I", Cond.fieldLink RX1 27 "GleanDusk$Dusk" "step" "I", Cond.fieldLink RX1 31 "GleanDusk$Dusk" "cloud" "I", Cond.fieldLink RX1 34 "GleanDusk$Dusk" "number" "I"]
def wsX10_from : List Cond := .code yX10_from cX10_from 2 (some .int) :: ((wsX10_from_r1 ++ wsX10_from_r2) ++ wsX100 ++ wsX40 ++ wsX10)
def wsX10_status : List Cond := .code yX10_status cX10_status 2 (some .int) :: ([.fieldLink RX10 76 "GleanDusk" "refused" "[I", .methodLink RX10 86 yX10_isBelow, .static yX10_isBelow, .initialized RX10, .code yX10_isBelow cX10_isBelow 2 (some .boolean), .methodLink RX10 90 yX10_refuseBad, .instanceMethod yX10_refuseBad, .selects RX10 yX10_refuseBad yX10_refuseBad, .code yX10_refuseBad cX10_refuseBad 1 (some .int)] ++ wsX100)
def wsX10_howMany : List Cond := .code yX10_howMany cX10_howMany 2 (some .int) :: ([.fieldLink RX10 36 "GleanDusk" "now" "LGleanDusk$Parish;", .fieldLink RX10 94 "GleanDusk$Parish" "fields" "I", .fieldLink RX10 115 "GleanDusk$Parish" "gleaners" "I", .fieldLink RX10 140 "GleanDusk$Parish" "dusk" "LGleanDusk$Dusk;", .fieldLink RX10 151 "GleanDusk$Dusk" "step" "I", .fieldLink RX10 173 "GleanDusk$Dusk" "cloud" "I", .fieldLink RX10 164 "GleanDusk$Dusk" "number" "I", .fieldLink RX10 240 "GleanDusk$Parish" "missedCount" "I", .fieldLink RX10 250 "GleanDusk$Parish" "noteCount" "I", .fieldLink RX10 176 "GleanDusk$Parish" "undoable" "I", .fieldLink RX10 51 "GleanDusk" "text" "LGleanDusk$Text;", .fieldLink RX10 122 "GleanDusk$Text" "length" "I"] ++ wsX100 ++ wsX40 ++ wsX10 ++ wsX70)
def wsX10_count_r1 : List Cond := [Cond.methodLink RX10 86 yX10_isBelow, Cond.static yX10_isBelow, Cond.initialized RX10, Cond.code yX10_isBelow cX10_isBelow 2 (some .boolean), Cond.methodLink RX10 90 yX10_refuseBad, Cond.instanceMethod yX10_refuseBad, Cond.selects RX10 yX10_refuseBad yX10_refuseBad, Cond.code yX10_refuseBad cX10_refuseBad 1 (some .int), Cond.fieldLink RX10 76 "GleanDusk" "refused" "[I", Cond.methodLink RX10 283 yX10_howMany, Cond.instanceMethod yX10_howMany, Cond.selects RX10 yX10_howMany yX10_howMany, Cond.code yX10_howMany cX10_howMany 2 (some .int), Cond.fieldLink RX10 36 "GleanDusk" "now" "LGleanDusk$Parish;", Cond.fieldLink RX10 94 "GleanDusk$Parish" "fields" "I", Cond.fieldLink RX10 115 "GleanDusk$Parish" "gleaners" "I", Cond.fieldLink RX10 140 "GleanDusk$Parish" "dusk" "LGleanDusk$Dusk;", Cond.fieldLink RX10 151 "GleanDusk$Dusk" "step" "I", Cond.fieldLink RX10 173 "GleanDusk$Dusk" "cloud" "I", Cond.fieldLink RX10 164 "GleanDusk$Dusk" "number" "I", Cond.fieldLink RX10 240 "GleanDusk$Parish" "missedCount" "I", Cond.fieldLink RX10 250 "GleanDusk$Parish" "noteCount" "I", Cond.fieldLink RX10 176 "GleanDusk$Parish" "undoable" "I", Cond.fieldLink RX10 51 "GleanDusk" "text" "LGleanDusk$Text;"]
def wsX10_count_r2 : List Cond := [Cond.fieldLink RX10 122 "GleanDusk$Text" "length" "I"]
def wsX10_count : List Cond := .code yX10_count cX10_count 2 (some .int) :: ((wsX10_count_r1 ++ wsX10_count_r2) ++ wsX100 ++ wsX40 ++ wsX10 ++ wsX70)
def wsX10_mix : List Cond := .code yX10_mix cX10_mix 4 (some .long) :: ([.constantLong RX10 303 (31)])
def wsX10_mixRow : List Cond := .code yX10_mixRow cX10_mixRow 9 (some .long) :: ([.methodLink RX10 288 yX10_mix, .static yX10_mix, .initialized RX10, .code yX10_mix cX10_mix 4 (some .long), .constantLong RX10 303 (31)])
def wsX10_digest_r1 : List Cond := [Cond.constantLong RX10 286 (1451), Cond.fieldLink RX10 36 "GleanDusk" "now" "LGleanDusk$Parish;", Cond.fieldLink RX10 94 "GleanDusk$Parish" "fields" "I", Cond.fieldLink RX10 182 "GleanDusk$Parish" "kind" "[I", Cond.fieldLink RX10 140 "GleanDusk$Parish" "dusk" "LGleanDusk$Dusk;", Cond.fieldLink RX10 185 "GleanDusk$Dusk" "light" "[I", Cond.fieldLink RX10 115 "GleanDusk$Parish" "gleaners" "I", Cond.fieldLink RX10 170 "GleanDusk$Dusk" "at" "[I", Cond.fieldLink RX10 191 "GleanDusk$Dusk" "store" "[I", Cond.fieldLink RX10 240 "GleanDusk$Parish" "missedCount" "I", Cond.fieldLink RX10 292 "GleanDusk$Parish" "missed" "[[I", Cond.fieldLink RX10 250 "GleanDusk$Parish" "noteCount" "I", Cond.fieldLink RX10 300 "GleanDusk$Parish" "notes" "[[I", Cond.fieldLink RX10 79 "GleanDusk" "above" "I", Cond.fieldLink RX10 83 "GleanDusk" "below" "I", Cond.methodLink RX10 283 yX10_howMany, Cond.instanceMethod yX10_howMany, Cond.selects RX10 yX10_howMany yX10_howMany, Cond.initialized RX10, Cond.code yX10_howMany cX10_howMany 2 (some .int), Cond.fieldLink RX10 151 "GleanDusk$Dusk" "step" "I", Cond.fieldLink RX10 173 "GleanDusk$Dusk" "cloud" "I", Cond.fieldLink RX10 164 "GleanDusk$Dusk" "number" "I", Cond.fieldLink RX10 176 "GleanDusk$Parish" "undoable" "I"]
def wsX10_digest_r2 : List Cond := [Cond.fieldLink RX10 51 "GleanDusk" "text" "LGleanDusk$Text;", Cond.fieldLink RX10 122 "GleanDusk$Text" "length" "I", Cond.methodLink RX10 288 yX10_mix, Cond.static yX10_mix, Cond.code yX10_mix cX10_mix 4 (some .long), Cond.constantLong RX10 303 (31), Cond.methodLink RX10 296 yX10_mixRow, Cond.static yX10_mixRow, Cond.code yX10_mixRow cX10_mixRow 9 (some .long)]
def wsX10_digest : List Cond := .code yX10_digest cX10_digest 4 (some .long) :: ((wsX10_digest_r1 ++ wsX10_digest_r2) ++ wsX100 ++ wsX40 ++ wsX10 ++ wsX70)
def wsX11_begin : List Cond := .code yX11_begin cX11_begin 3 none :: ([])
def wsX11_init : List Cond := .code yX11_init cX11_init 1 none :: ([.methodLink RX11 1 objectInit, .instanceMethod objectInit, .code objectInit ⟨#[0xb1]⟩ 1 none, .arrayClass .int, .fieldLink RX11 7 "GleanDuskModel" "told" "[I", .fieldLink RX11 13 "GleanDuskModel" "kept" "[I", .arrayClass .boolean, .fieldLink RX11 16 "GleanDuskModel" "isKept" "[Z", .fieldLink RX11 20 "GleanDuskModel" "refused" "[I", .fieldLink RX11 23 "GleanDuskModel" "below" "J", .fieldLink RX11 27 "GleanDuskModel" "hand" "[I", .fieldLink RX11 30 "GleanDuskModel" "round0" "[I", .fieldLink RX11 33 "GleanDuskModel" "bestRound" "[I", .fieldLink RX11 36 "GleanDuskModel" "bestPlaces" "[I", .fieldLink RX11 39 "GleanDuskModel" "bytes" "[I", .fieldLink RX11 42 "GleanDuskModel" "anew" "[I", .fieldLink RX11 45 "GleanDuskModel" "values" "[I", .methodLink RX11 48 yX11_begin, .static yX11_begin, .initialized RX11, .code yX11_begin cX11_begin 3 none] ++ wsX110)
def wsX11_in : List Cond := .code yX11_in cX11_in 6 (some .boolean) :: ([])
def wsX11_bad : List Cond := .code yX11_bad cX11_bad 2 (some .int) :: ([.fieldLink RX11 20 "GleanDuskModel" "refused" "[I"] ++ wsX110)
def wsX11_no : List Cond := .code yX11_no cX11_no 1 (some .int) :: ([.fieldLink RX11 20 "GleanDuskModel" "refused" "[I"] ++ wsX110)
def wsX11_full : List Cond := .code yX11_full cX11_full 1 (some .int) :: ([.fieldLink RX11 20 "GleanDuskModel" "refused" "[I"] ++ wsX110)
def wsX11_bits : List Cond := .code yX11_bits cX11_bits 3 (some .int) :: ([])
def wsX11_has : List Cond := .code yX11_has cX11_has 2 (some .boolean) :: ([])
def wsX11_many : List Cond := .code yX11_many cX11_many 1 (some .int) :: ([.fieldLink RX11 7 "GleanDuskModel" "told" "[I"] ++ wsX110)
def wsX11_manyGleaners : List Cond := .code yX11_manyGleaners cX11_manyGleaners 1 (some .int) :: ([.fieldLink RX11 7 "GleanDuskModel" "told" "[I"] ++ wsX110)
def wsX11_isField : List Cond := .code yX11_isField cX11_isField 2 (some .boolean) :: ([.methodLink RX11 52 yX11_many, .instanceMethod yX11_many, .selects RX11 yX11_many yX11_many, .initialized RX11, .code yX11_many cX11_many 1 (some .int), .fieldLink RX11 7 "GleanDuskModel" "told" "[I", .methodLink RX11 56 yX11_in, .static yX11_in, .code yX11_in cX11_in 6 (some .boolean)] ++ wsX110)
def wsX11_isGleaner : List Cond := .code yX11_isGleaner cX11_isGleaner 2 (some .boolean) :: ([.methodLink RX11 60 yX11_manyGleaners, .instanceMethod yX11_manyGleaners, .selects RX11 yX11_manyGleaners yX11_manyGleaners, .initialized RX11, .code yX11_manyGleaners cX11_manyGleaners 1 (some .int), .fieldLink RX11 7 "GleanDuskModel" "told" "[I", .methodLink RX11 56 yX11_in, .static yX11_in, .code yX11_in cX11_in 6 (some .boolean)] ++ wsX110)
def wsX11_isStep : List Cond := .code yX11_isStep cX11_isStep 1 (some .boolean) :: ([.constantLong RX11 63 (11), .methodLink RX11 56 yX11_in, .static yX11_in, .initialized RX11, .code yX11_in cX11_in 6 (some .boolean)])
def wsX11_isCloud : List Cond := .code yX11_isCloud cX11_isCloud 1 (some .boolean) :: ([.constantLong RX11 65 (9), .methodLink RX11 56 yX11_in, .static yX11_in, .initialized RX11, .code yX11_in cX11_in 6 (some .boolean)])
def wsX11_isLight : List Cond := .code yX11_isLight cX11_isLight 1 (some .boolean) :: ([.constantLong RX11 67 (60), .methodLink RX11 56 yX11_in, .static yX11_in, .initialized RX11, .code yX11_in cX11_in 6 (some .boolean)])
def wsX11_parish : List Cond := .code yX11_parish cX11_parish 3 (some .int) :: ([.fieldLink RX11 7 "GleanDuskModel" "told" "[I", .methodLink RX11 69 yX11_isCloud, .static yX11_isCloud, .initialized RX11, .code yX11_isCloud cX11_isCloud 1 (some .boolean), .constantLong RX11 65 (9), .methodLink RX11 56 yX11_in, .static yX11_in, .code yX11_in cX11_in 6 (some .boolean), .methodLink RX11 73 yX11_bad, .instanceMethod yX11_bad, .selects RX11 yX11_bad yX11_bad, .code yX11_bad cX11_bad 2 (some .int), .fieldLink RX11 20 "GleanDuskModel" "refused" "[I", .methodLink RX11 52 yX11_many, .instanceMethod yX11_many, .selects RX11 yX11_many yX11_many, .code yX11_many cX11_many 1 (some .int), .methodLink RX11 48 yX11_begin, .static yX11_begin, .code yX11_begin cX11_begin 3 none] ++ wsX110)
def wsX11_layField : List Cond := .code yX11_layField cX11_layField 3 none :: ([])
def wsX11_field_r1 : List Cond := [Cond.constantLong RX11 77 (5), Cond.fieldLink RX11 7 "GleanDuskModel" "told" "[I", Cond.methodLink RX11 56 yX11_in, Cond.static yX11_in, Cond.initialized RX11, Cond.code yX11_in cX11_in 6 (some .boolean), Cond.methodLink RX11 79 yX11_isLight, Cond.static yX11_isLight, Cond.code yX11_isLight cX11_isLight 1 (some .boolean), Cond.constantLong RX11 67 (60), Cond.methodLink RX11 73 yX11_bad, Cond.instanceMethod yX11_bad, Cond.selects RX11 yX11_bad yX11_bad, Cond.code yX11_bad cX11_bad 2 (some .int), Cond.fieldLink RX11 20 "GleanDuskModel" "refused" "[I", Cond.methodLink RX11 52 yX11_many, Cond.instanceMethod yX11_many, Cond.selects RX11 yX11_many yX11_many, Cond.code yX11_many cX11_many 1 (some .int), Cond.methodLink RX11 82 yX11_full, Cond.instanceMethod yX11_full, Cond.selects RX11 yX11_full yX11_full, Cond.code yX11_full cX11_full 1 (some .int), Cond.methodLink RX11 85 yX11_layField]
def wsX11_field_r2 : List Cond := [Cond.static yX11_layField, Cond.code yX11_layField cX11_layField 3 none]
def wsX11_field : List Cond := .code yX11_field cX11_field 3 (some .int) :: ((wsX11_field_r1 ++ wsX11_field_r2) ++ wsX110)
def wsX11_layGleaner : List Cond := .code yX11_layGleaner cX11_layGleaner 2 none :: ([])
def wsX11_gleaner_r1 : List Cond := [Cond.fieldLink RX11 7 "GleanDuskModel" "told" "[I", Cond.methodLink RX11 89 yX11_isField, Cond.instanceMethod yX11_isField, Cond.selects RX11 yX11_isField yX11_isField, Cond.initialized RX11, Cond.code yX11_isField cX11_isField 2 (some .boolean), Cond.methodLink RX11 52 yX11_many, Cond.instanceMethod yX11_many, Cond.selects RX11 yX11_many yX11_many, Cond.code yX11_many cX11_many 1 (some .int), Cond.methodLink RX11 56 yX11_in, Cond.static yX11_in, Cond.code yX11_in cX11_in 6 (some .boolean), Cond.methodLink RX11 73 yX11_bad, Cond.instanceMethod yX11_bad, Cond.selects RX11 yX11_bad yX11_bad, Cond.code yX11_bad cX11_bad 2 (some .int), Cond.fieldLink RX11 20 "GleanDuskModel" "refused" "[I", Cond.methodLink RX11 60 yX11_manyGleaners, Cond.instanceMethod yX11_manyGleaners, Cond.selects RX11 yX11_manyGleaners yX11_manyGleaners, Cond.code yX11_manyGleaners cX11_manyGleaners 1 (some .int), Cond.methodLink RX11 82 yX11_full, Cond.instanceMethod yX11_full]
end
section
def wsX11_gleaner_r2 : List Cond := [Cond.selects RX11 yX11_full yX11_full, Cond.code yX11_full cX11_full 1 (some .int), Cond.methodLink RX11 92 yX11_layGleaner, Cond.static yX11_layGleaner, Cond.code yX11_layGleaner cX11_layGleaner 2 none]
def wsX11_gleaner : List Cond := .code yX11_gleaner cX11_gleaner 2 (some .int) :: ((wsX11_gleaner_r1 ++ wsX11_gleaner_r2) ++ wsX110)
def wsX11_plainly : List Cond := .code yX11_plainly cX11_plainly 4 (some .int) :: ([])
def wsX11_westerly : List Cond := .code yX11_westerly cX11_westerly 3 (some .int) :: ([.methodLink RX11 95 yX11_plainly, .static yX11_plainly, .initialized RX11, .code yX11_plainly cX11_plainly 4 (some .int)])
def wsX11_seenAs : List Cond := .code yX11_seenAs cX11_seenAs 5 (some .int) :: ([.methodLink RX11 95 yX11_plainly, .static yX11_plainly, .initialized RX11, .code yX11_plainly cX11_plainly 4 (some .int), .methodLink RX11 99 yX11_westerly, .static yX11_westerly, .code yX11_westerly cX11_westerly 3 (some .int)])
def wsX11_layHand : List Cond := .code yX11_layHand cX11_layHand 2 none :: ([.fieldLink RX11 27 "GleanDuskModel" "hand" "[I", .fieldLink RX11 7 "GleanDuskModel" "told" "[I"] ++ wsX110)
def wsX11_seenOn : List Cond := .code yX11_seenOn cX11_seenOn 3 (some .int) :: ([.methodLink RX11 102 yX11_seenAs, .static yX11_seenAs, .initialized RX11, .code yX11_seenAs cX11_seenAs 5 (some .int), .methodLink RX11 95 yX11_plainly, .static yX11_plainly, .code yX11_plainly cX11_plainly 4 (some .int), .methodLink RX11 99 yX11_westerly, .static yX11_westerly, .code yX11_westerly cX11_westerly 3 (some .int)])
def wsX11_manyOn : List Cond := .code yX11_manyOn cX11_manyOn 4 (some .int) :: ([])
def wsX11_getsOne : List Cond := .code yX11_getsOne cX11_getsOne 2 (some .int) :: ([.methodLink RX11 106 yX11_seenOn, .static yX11_seenOn, .initialized RX11, .code yX11_seenOn cX11_seenOn 3 (some .int), .methodLink RX11 102 yX11_seenAs, .static yX11_seenAs, .code yX11_seenAs cX11_seenAs 5 (some .int), .methodLink RX11 95 yX11_plainly, .static yX11_plainly, .code yX11_plainly cX11_plainly 4 (some .int), .methodLink RX11 99 yX11_westerly, .static yX11_westerly, .code yX11_westerly cX11_westerly 3 (some .int), .methodLink RX11 110 yX11_manyOn, .static yX11_manyOn, .code yX11_manyOn cX11_manyOn 4 (some .int)])
def wsX11_goStep : List Cond := .code yX11_goStep cX11_goStep 7 (some .int) :: ([.methodLink RX11 110 yX11_manyOn, .static yX11_manyOn, .initialized RX11, .code yX11_manyOn cX11_manyOn 4 (some .int), .methodLink RX11 106 yX11_seenOn, .static yX11_seenOn, .code yX11_seenOn cX11_seenOn 3 (some .int), .methodLink RX11 102 yX11_seenAs, .static yX11_seenAs, .code yX11_seenAs cX11_seenAs 5 (some .int), .methodLink RX11 95 yX11_plainly, .static yX11_plainly, .code yX11_plainly cX11_plainly 4 (some .int), .methodLink RX11 99 yX11_westerly, .static yX11_westerly, .code yX11_westerly cX11_westerly 3 (some .int)])
def wsX11_fadedBy : List Cond := .code yX11_fadedBy cX11_fadedBy 1 (some .int) :: ([])
def wsX11_goNight : List Cond := .code yX11_goNight cX11_goNight 3 none :: ([.methodLink RX11 114 yX11_fadedBy, .static yX11_fadedBy, .initialized RX11, .code yX11_fadedBy cX11_fadedBy 1 (some .int)])
def wsX11_keep : List Cond := .code yX11_keep cX11_keep 2 none :: ([.fieldLink RX11 7 "GleanDuskModel" "told" "[I"] ++ wsX110)
def wsX11_glean_r1 : List Cond := [Cond.constantLong RX11 117 (12), Cond.fieldLink RX11 7 "GleanDuskModel" "told" "[I", Cond.methodLink RX11 56 yX11_in, Cond.static yX11_in, Cond.initialized RX11, Cond.code yX11_in cX11_in 6 (some .boolean), Cond.methodLink RX11 73 yX11_bad, Cond.instanceMethod yX11_bad, Cond.selects RX11 yX11_bad yX11_bad, Cond.code yX11_bad cX11_bad 2 (some .int), Cond.fieldLink RX11 20 "GleanDuskModel" "refused" "[I", Cond.methodLink RX11 119 yX11_no, Cond.instanceMethod yX11_no, Cond.selects RX11 yX11_no yX11_no, Cond.code yX11_no cX11_no 1 (some .int), Cond.methodLink RX11 122 yX11_keep, Cond.instanceMethod yX11_keep, Cond.selects RX11 yX11_keep yX11_keep, Cond.code yX11_keep cX11_keep 2 none, Cond.methodLink RX11 125 yX11_goStep, Cond.static yX11_goStep, Cond.code yX11_goStep cX11_goStep 7 (some .int), Cond.methodLink RX11 110 yX11_manyOn, Cond.static yX11_manyOn]
def wsX11_glean_r2 : List Cond := [Cond.code yX11_manyOn cX11_manyOn 4 (some .int), Cond.methodLink RX11 106 yX11_seenOn, Cond.static yX11_seenOn, Cond.code yX11_seenOn cX11_seenOn 3 (some .int), Cond.methodLink RX11 102 yX11_seenAs, Cond.static yX11_seenAs, Cond.code yX11_seenAs cX11_seenAs 5 (some .int), Cond.methodLink RX11 95 yX11_plainly, Cond.static yX11_plainly, Cond.code yX11_plainly cX11_plainly 4 (some .int), Cond.methodLink RX11 99 yX11_westerly, Cond.static yX11_westerly, Cond.code yX11_westerly cX11_westerly 3 (some .int)]
def wsX11_glean : List Cond := .code yX11_glean cX11_glean 4 (some .int) :: ((wsX11_glean_r1 ++ wsX11_glean_r2) ++ wsX110)
def wsX11_night : List Cond := .code yX11_night cX11_night 1 (some .int) :: ([.fieldLink RX11 7 "GleanDuskModel" "told" "[I", .methodLink RX11 122 yX11_keep, .instanceMethod yX11_keep, .selects RX11 yX11_keep yX11_keep, .initialized RX11, .code yX11_keep cX11_keep 2 none, .methodLink RX11 129 yX11_goNight, .static yX11_goNight, .code yX11_goNight cX11_goNight 3 none, .methodLink RX11 114 yX11_fadedBy, .static yX11_fadedBy, .code yX11_fadedBy cX11_fadedBy 1 (some .int)] ++ wsX110)
def wsX11_goes_r1 : List Cond := [Cond.fieldLink RX11 7 "GleanDuskModel" "told" "[I", Cond.methodLink RX11 133 yX11_isGleaner, Cond.instanceMethod yX11_isGleaner, Cond.selects RX11 yX11_isGleaner yX11_isGleaner, Cond.initialized RX11, Cond.code yX11_isGleaner cX11_isGleaner 2 (some .boolean), Cond.methodLink RX11 60 yX11_manyGleaners, Cond.instanceMethod yX11_manyGleaners, Cond.selects RX11 yX11_manyGleaners yX11_manyGleaners, Cond.code yX11_manyGleaners cX11_manyGleaners 1 (some .int), Cond.methodLink RX11 56 yX11_in, Cond.static yX11_in, Cond.code yX11_in cX11_in 6 (some .boolean), Cond.methodLink RX11 89 yX11_isField, Cond.instanceMethod yX11_isField, Cond.selects RX11 yX11_isField yX11_isField, Cond.code yX11_isField cX11_isField 2 (some .boolean), Cond.methodLink RX11 52 yX11_many, Cond.instanceMethod yX11_many, Cond.selects RX11 yX11_many yX11_many, Cond.code yX11_many cX11_many 1 (some .int), Cond.methodLink RX11 73 yX11_bad, Cond.instanceMethod yX11_bad, Cond.selects RX11 yX11_bad yX11_bad]
def wsX11_goes_r2 : List Cond := [Cond.code yX11_bad cX11_bad 2 (some .int), Cond.fieldLink RX11 20 "GleanDuskModel" "refused" "[I", Cond.methodLink RX11 122 yX11_keep, Cond.instanceMethod yX11_keep, Cond.selects RX11 yX11_keep yX11_keep, Cond.code yX11_keep cX11_keep 2 none]
def wsX11_goes : List Cond := .code yX11_goes cX11_goes 4 (some .int) :: ((wsX11_goes_r1 ++ wsX11_goes_r2) ++ wsX110)
def wsX11_cloud : List Cond := .code yX11_cloud cX11_cloud 3 (some .int) :: ([.fieldLink RX11 7 "GleanDuskModel" "told" "[I", .methodLink RX11 69 yX11_isCloud, .static yX11_isCloud, .initialized RX11, .code yX11_isCloud cX11_isCloud 1 (some .boolean), .constantLong RX11 65 (9), .methodLink RX11 56 yX11_in, .static yX11_in, .code yX11_in cX11_in 6 (some .boolean), .methodLink RX11 73 yX11_bad, .instanceMethod yX11_bad, .selects RX11 yX11_bad yX11_bad, .code yX11_bad cX11_bad 2 (some .int), .fieldLink RX11 20 "GleanDuskModel" "refused" "[I", .methodLink RX11 122 yX11_keep, .instanceMethod yX11_keep, .selects RX11 yX11_keep yX11_keep, .code yX11_keep cX11_keep 2 none] ++ wsX110)
def wsX11_undo : List Cond := .code yX11_undo cX11_undo 2 (some .int) :: ([.fieldLink RX11 7 "GleanDuskModel" "told" "[I", .methodLink RX11 119 yX11_no, .instanceMethod yX11_no, .selects RX11 yX11_no yX11_no, .initialized RX11, .code yX11_no cX11_no 1 (some .int), .fieldLink RX11 20 "GleanDuskModel" "refused" "[I"] ++ wsX110)
def wsX11_whoIsOn : List Cond := .code yX11_whoIsOn cX11_whoIsOn 4 (some .int) :: ([.fieldLink RX11 7 "GleanDuskModel" "told" "[I", .methodLink RX11 60 yX11_manyGleaners, .instanceMethod yX11_manyGleaners, .selects RX11 yX11_manyGleaners yX11_manyGleaners, .initialized RX11, .code yX11_manyGleaners cX11_manyGleaners 1 (some .int)] ++ wsX110)
def wsX11_of_r1 : List Cond := [Cond.constantLong RX11 136 (2), Cond.fieldLink RX11 7 "GleanDuskModel" "told" "[I", Cond.methodLink RX11 89 yX11_isField, Cond.instanceMethod yX11_isField, Cond.selects RX11 yX11_isField yX11_isField, Cond.initialized RX11, Cond.code yX11_isField cX11_isField 2 (some .boolean), Cond.methodLink RX11 52 yX11_many, Cond.instanceMethod yX11_many, Cond.selects RX11 yX11_many yX11_many, Cond.code yX11_many cX11_many 1 (some .int), Cond.methodLink RX11 56 yX11_in, Cond.static yX11_in, Cond.code yX11_in cX11_in 6 (some .boolean), Cond.methodLink RX11 73 yX11_bad, Cond.instanceMethod yX11_bad, Cond.selects RX11 yX11_bad yX11_bad, Cond.code yX11_bad cX11_bad 2 (some .int), Cond.fieldLink RX11 20 "GleanDuskModel" "refused" "[I", Cond.methodLink RX11 138 yX11_whoIsOn, Cond.instanceMethod yX11_whoIsOn, Cond.selects RX11 yX11_whoIsOn yX11_whoIsOn, Cond.code yX11_whoIsOn cX11_whoIsOn 4 (some .int), Cond.methodLink RX11 60 yX11_manyGleaners]
def wsX11_of_r2 : List Cond := [Cond.instanceMethod yX11_manyGleaners, Cond.selects RX11 yX11_manyGleaners yX11_manyGleaners, Cond.code yX11_manyGleaners cX11_manyGleaners 1 (some .int)]
def wsX11_of : List Cond := .code yX11_of cX11_of 3 (some .int) :: ((wsX11_of_r1 ++ wsX11_of_r2) ++ wsX110)
def wsX11_about_r1 : List Cond := [Cond.constantLong RX11 136 (2), Cond.fieldLink RX11 7 "GleanDuskModel" "told" "[I", Cond.methodLink RX11 133 yX11_isGleaner, Cond.instanceMethod yX11_isGleaner, Cond.selects RX11 yX11_isGleaner yX11_isGleaner, Cond.initialized RX11, Cond.code yX11_isGleaner cX11_isGleaner 2 (some .boolean), Cond.methodLink RX11 60 yX11_manyGleaners, Cond.instanceMethod yX11_manyGleaners, Cond.selects RX11 yX11_manyGleaners yX11_manyGleaners, Cond.code yX11_manyGleaners cX11_manyGleaners 1 (some .int), Cond.methodLink RX11 56 yX11_in, Cond.static yX11_in, Cond.code yX11_in cX11_in 6 (some .boolean), Cond.methodLink RX11 73 yX11_bad, Cond.instanceMethod yX11_bad, Cond.selects RX11 yX11_bad yX11_bad, Cond.code yX11_bad cX11_bad 2 (some .int), Cond.fieldLink RX11 20 "GleanDuskModel" "refused" "[I", Cond.methodLink RX11 141 yX11_getsOne, Cond.static yX11_getsOne, Cond.code yX11_getsOne cX11_getsOne 2 (some .int), Cond.methodLink RX11 106 yX11_seenOn, Cond.static yX11_seenOn]
def wsX11_about_r2 : List Cond := [Cond.code yX11_seenOn cX11_seenOn 3 (some .int), Cond.methodLink RX11 102 yX11_seenAs, Cond.static yX11_seenAs, Cond.code yX11_seenAs cX11_seenAs 5 (some .int), Cond.methodLink RX11 95 yX11_plainly, Cond.static yX11_plainly, Cond.code yX11_plainly cX11_plainly 4 (some .int), Cond.methodLink RX11 99 yX11_westerly, Cond.static yX11_westerly, Cond.code yX11_westerly cX11_westerly 3 (some .int), Cond.methodLink RX11 110 yX11_manyOn, Cond.static yX11_manyOn, Cond.code yX11_manyOn cX11_manyOn 4 (some .int)]
def wsX11_about : List Cond := .code yX11_about cX11_about 3 (some .int) :: ((wsX11_about_r1 ++ wsX11_about_r2) ++ wsX110)
def wsX11_seen_r1 : List Cond := [Cond.fieldLink RX11 7 "GleanDuskModel" "told" "[I", Cond.methodLink RX11 89 yX11_isField, Cond.instanceMethod yX11_isField, Cond.selects RX11 yX11_isField yX11_isField, Cond.initialized RX11, Cond.code yX11_isField cX11_isField 2 (some .boolean), Cond.methodLink RX11 52 yX11_many, Cond.instanceMethod yX11_many, Cond.selects RX11 yX11_many yX11_many, Cond.code yX11_many cX11_many 1 (some .int), Cond.methodLink RX11 56 yX11_in, Cond.static yX11_in, Cond.code yX11_in cX11_in 6 (some .boolean), Cond.methodLink RX11 144 yX11_isStep, Cond.static yX11_isStep, Cond.code yX11_isStep cX11_isStep 1 (some .boolean), Cond.constantLong RX11 63 (11), Cond.methodLink RX11 106 yX11_seenOn, Cond.static yX11_seenOn, Cond.code yX11_seenOn cX11_seenOn 3 (some .int), Cond.methodLink RX11 102 yX11_seenAs, Cond.static yX11_seenAs, Cond.code yX11_seenAs cX11_seenAs 5 (some .int), Cond.methodLink RX11 95 yX11_plainly]
def wsX11_seen_r2 : List Cond := [Cond.static yX11_plainly, Cond.code yX11_plainly cX11_plainly 4 (some .int), Cond.methodLink RX11 99 yX11_westerly, Cond.static yX11_westerly, Cond.code yX11_westerly cX11_westerly 3 (some .int), Cond.methodLink RX11 73 yX11_bad, Cond.instanceMethod yX11_bad, Cond.selects RX11 yX11_bad yX11_bad, Cond.code yX11_bad cX11_bad 2 (some .int), Cond.fieldLink RX11 20 "GleanDuskModel" "refused" "[I"]
def wsX11_seen : List Cond := .code yX11_seen cX11_seen 3 (some .int) :: ((wsX11_seen_r1 ++ wsX11_seen_r2) ++ wsX110)
def wsX11_then_r1 : List Cond := [Cond.constantLong RX11 117 (12), Cond.fieldLink RX11 27 "GleanDuskModel" "hand" "[I", Cond.methodLink RX11 133 yX11_isGleaner, Cond.instanceMethod yX11_isGleaner, Cond.selects RX11 yX11_isGleaner yX11_isGleaner, Cond.initialized RX11, Cond.code yX11_isGleaner cX11_isGleaner 2 (some .boolean), Cond.methodLink RX11 60 yX11_manyGleaners, Cond.instanceMethod yX11_manyGleaners, Cond.selects RX11 yX11_manyGleaners yX11_manyGleaners, Cond.code yX11_manyGleaners cX11_manyGleaners 1 (some .int), Cond.fieldLink RX11 7 "GleanDuskModel" "told" "[I", Cond.methodLink RX11 56 yX11_in, Cond.static yX11_in, Cond.code yX11_in cX11_in 6 (some .boolean), Cond.methodLink RX11 73 yX11_bad, Cond.instanceMethod yX11_bad, Cond.selects RX11 yX11_bad yX11_bad, Cond.code yX11_bad cX11_bad 2 (some .int), Cond.fieldLink RX11 20 "GleanDuskModel" "refused" "[I", Cond.methodLink RX11 147 yX11_layHand, Cond.instanceMethod yX11_layHand, Cond.selects RX11 yX11_layHand yX11_layHand, Cond.code yX11_layHand cX11_layHand 2 none]
def wsX11_then_r2 : List Cond := [Cond.methodLink RX11 125 yX11_goStep, Cond.static yX11_goStep, Cond.code yX11_goStep cX11_goStep 7 (some .int), Cond.methodLink RX11 110 yX11_manyOn, Cond.static yX11_manyOn, Cond.code yX11_manyOn cX11_manyOn 4 (some .int), Cond.methodLink RX11 106 yX11_seenOn, Cond.static yX11_seenOn, Cond.code yX11_seenOn cX11_seenOn 3 (some .int), Cond.methodLink RX11 102 yX11_seenAs, Cond.static yX11_seenAs, Cond.code yX11_seenAs cX11_seenAs 5 (some .int), Cond.methodLink RX11 95 yX11_plainly, Cond.static yX11_plainly, Cond.code yX11_plainly cX11_plainly 4 (some .int), Cond.methodLink RX11 99 yX11_westerly, Cond.static yX11_westerly, Cond.code yX11_westerly cX11_westerly 3 (some .int)]
def wsX11_then : List Cond := .code yX11_then cX11_then 5 (some .int) :: ((wsX11_then_r1 ++ wsX11_then_r2) ++ wsX110)
def wsX11_powerOfThree : List Cond := .code yX11_powerOfThree cX11_powerOfThree 3 (some .int) :: ([])
def wsX11_roundBy_r1 : List Cond := [Cond.fieldLink RX11 7 "GleanDuskModel" "told" "[I", Cond.fieldLink RX11 27 "GleanDuskModel" "hand" "[I", Cond.fieldLink RX11 30 "GleanDuskModel" "round0" "[I", Cond.methodLink RX11 147 yX11_layHand, Cond.instanceMethod yX11_layHand, Cond.selects RX11 yX11_layHand yX11_layHand, Cond.initialized RX11, Cond.code yX11_layHand cX11_layHand 2 none, Cond.methodLink RX11 150 yX11_powerOfThree, Cond.static yX11_powerOfThree, Cond.code yX11_powerOfThree cX11_powerOfThree 3 (some .int), Cond.methodLink RX11 106 yX11_seenOn, Cond.static yX11_seenOn, Cond.code yX11_seenOn cX11_seenOn 3 (some .int), Cond.methodLink RX11 102 yX11_seenAs, Cond.static yX11_seenAs, Cond.code yX11_seenAs cX11_seenAs 5 (some .int), Cond.methodLink RX11 95 yX11_plainly, Cond.static yX11_plainly, Cond.code yX11_plainly cX11_plainly 4 (some .int), Cond.methodLink RX11 99 yX11_westerly, Cond.static yX11_westerly, Cond.code yX11_westerly cX11_westerly 3 (some .int), Cond.methodLink RX11 89 yX11_isField]
def wsX11_roundBy_r2 : List Cond := [Cond.instanceMethod yX11_isField, Cond.selects RX11 yX11_isField yX11_isField, Cond.code yX11_isField cX11_isField 2 (some .boolean), Cond.methodLink RX11 52 yX11_many, Cond.instanceMethod yX11_many, Cond.selects RX11 yX11_many yX11_many, Cond.code yX11_many cX11_many 1 (some .int), Cond.methodLink RX11 56 yX11_in, Cond.static yX11_in, Cond.code yX11_in cX11_in 6 (some .boolean)]
def wsX11_roundBy : List Cond := .code yX11_roundBy cX11_roundBy 10 (some .int) :: ((wsX11_roundBy_r1 ++ wsX11_roundBy_r2) ++ wsX110)
def wsX11_round_r1 : List Cond := [Cond.constantLong RX11 153 (6), Cond.fieldLink RX11 33 "GleanDuskModel" "bestRound" "[I", Cond.fieldLink RX11 30 "GleanDuskModel" "round0" "[I", Cond.methodLink RX11 133 yX11_isGleaner, Cond.instanceMethod yX11_isGleaner, Cond.selects RX11 yX11_isGleaner yX11_isGleaner, Cond.initialized RX11, Cond.code yX11_isGleaner cX11_isGleaner 2 (some .boolean), Cond.methodLink RX11 60 yX11_manyGleaners, Cond.instanceMethod yX11_manyGleaners, Cond.selects RX11 yX11_manyGleaners yX11_manyGleaners, Cond.code yX11_manyGleaners cX11_manyGleaners 1 (some .int), Cond.fieldLink RX11 7 "GleanDuskModel" "told" "[I", Cond.methodLink RX11 56 yX11_in, Cond.static yX11_in, Cond.code yX11_in cX11_in 6 (some .boolean), Cond.methodLink RX11 73 yX11_bad, Cond.instanceMethod yX11_bad, Cond.selects RX11 yX11_bad yX11_bad, Cond.code yX11_bad cX11_bad 2 (some .int), Cond.fieldLink RX11 20 "GleanDuskModel" "refused" "[I", Cond.methodLink RX11 150 yX11_powerOfThree, Cond.static yX11_powerOfThree, Cond.code yX11_powerOfThree cX11_powerOfThree 3 (some .int)]
def wsX11_round_r2 : List Cond := [Cond.methodLink RX11 155 yX11_roundBy, Cond.instanceMethod yX11_roundBy, Cond.selects RX11 yX11_roundBy yX11_roundBy, Cond.code yX11_roundBy cX11_roundBy 10 (some .int), Cond.fieldLink RX11 27 "GleanDuskModel" "hand" "[I", Cond.methodLink RX11 147 yX11_layHand, Cond.instanceMethod yX11_layHand, Cond.selects RX11 yX11_layHand yX11_layHand, Cond.code yX11_layHand cX11_layHand 2 none, Cond.methodLink RX11 106 yX11_seenOn, Cond.static yX11_seenOn, Cond.code yX11_seenOn cX11_seenOn 3 (some .int), Cond.methodLink RX11 102 yX11_seenAs, Cond.static yX11_seenAs, Cond.code yX11_seenAs cX11_seenAs 5 (some .int), Cond.methodLink RX11 95 yX11_plainly, Cond.static yX11_plainly, Cond.code yX11_plainly cX11_plainly 4 (some .int), Cond.methodLink RX11 99 yX11_westerly, Cond.static yX11_westerly, Cond.code yX11_westerly cX11_westerly 3 (some .int), Cond.methodLink RX11 89 yX11_isField, Cond.instanceMethod yX11_isField, Cond.selects RX11 yX11_isField yX11_isField]
def wsX11_round_r3 : List Cond := [Cond.code yX11_isField cX11_isField 2 (some .boolean), Cond.methodLink RX11 52 yX11_many, Cond.instanceMethod yX11_many, Cond.selects RX11 yX11_many yX11_many, Cond.code yX11_many cX11_many 1 (some .int)]
def wsX11_round : List Cond := .code yX11_round cX11_round 8 (some .int) :: ((wsX11_round_r1 ++ (wsX11_round_r2 ++ wsX11_round_r3)) ++ wsX110)
def wsX11_placesBy_r1 : List Cond := [Cond.constant RX11 158 (1000000), Cond.fieldLink RX11 27 "GleanDuskModel" "hand" "[I", Cond.methodLink RX11 60 yX11_manyGleaners, Cond.instanceMethod yX11_manyGleaners, Cond.selects RX11 yX11_manyGleaners yX11_manyGleaners, Cond.initialized RX11, Cond.code yX11_manyGleaners cX11_manyGleaners 1 (some .int), Cond.fieldLink RX11 7 "GleanDuskModel" "told" "[I", Cond.methodLink RX11 52 yX11_many, Cond.instanceMethod yX11_many, Cond.selects RX11 yX11_many yX11_many, Cond.code yX11_many cX11_many 1 (some .int), Cond.methodLink RX11 141 yX11_getsOne, Cond.static yX11_getsOne, Cond.code yX11_getsOne cX11_getsOne 2 (some .int), Cond.methodLink RX11 106 yX11_seenOn, Cond.static yX11_seenOn, Cond.code yX11_seenOn cX11_seenOn 3 (some .int), Cond.methodLink RX11 102 yX11_seenAs, Cond.static yX11_seenAs, Cond.code yX11_seenAs cX11_seenAs 5 (some .int), Cond.methodLink RX11 95 yX11_plainly, Cond.static yX11_plainly, Cond.code yX11_plainly cX11_plainly 4 (some .int)]
def wsX11_placesBy_r2 : List Cond := [Cond.methodLink RX11 99 yX11_westerly, Cond.static yX11_westerly, Cond.code yX11_westerly cX11_westerly 3 (some .int), Cond.methodLink RX11 110 yX11_manyOn, Cond.static yX11_manyOn, Cond.code yX11_manyOn cX11_manyOn 4 (some .int)]
def wsX11_placesBy : List Cond := .code yX11_placesBy cX11_placesBy 8 (some .int) :: ((wsX11_placesBy_r1 ++ wsX11_placesBy_r2) ++ wsX110)
def wsX11_places_r1 : List Cond := [Cond.constantLong RX11 159 (-1), Cond.fieldLink RX11 36 "GleanDuskModel" "bestPlaces" "[I", Cond.fieldLink RX11 27 "GleanDuskModel" "hand" "[I", Cond.methodLink RX11 56 yX11_in, Cond.static yX11_in, Cond.initialized RX11, Cond.code yX11_in cX11_in 6 (some .boolean), Cond.methodLink RX11 60 yX11_manyGleaners, Cond.instanceMethod yX11_manyGleaners, Cond.selects RX11 yX11_manyGleaners yX11_manyGleaners, Cond.code yX11_manyGleaners cX11_manyGleaners 1 (some .int), Cond.fieldLink RX11 7 "GleanDuskModel" "told" "[I", Cond.methodLink RX11 73 yX11_bad, Cond.instanceMethod yX11_bad, Cond.selects RX11 yX11_bad yX11_bad, Cond.code yX11_bad cX11_bad 2 (some .int), Cond.fieldLink RX11 20 "GleanDuskModel" "refused" "[I", Cond.methodLink RX11 147 yX11_layHand, Cond.instanceMethod yX11_layHand, Cond.selects RX11 yX11_layHand yX11_layHand, Cond.code yX11_layHand cX11_layHand 2 none, Cond.methodLink RX11 52 yX11_many, Cond.instanceMethod yX11_many, Cond.selects RX11 yX11_many yX11_many]
def wsX11_places_r2 : List Cond := [Cond.code yX11_many cX11_many 1 (some .int), Cond.methodLink RX11 161 yX11_placesBy, Cond.instanceMethod yX11_placesBy, Cond.selects RX11 yX11_placesBy yX11_placesBy, Cond.code yX11_placesBy cX11_placesBy 8 (some .int), Cond.constant RX11 158 (1000000), Cond.methodLink RX11 141 yX11_getsOne, Cond.static yX11_getsOne, Cond.code yX11_getsOne cX11_getsOne 2 (some .int), Cond.methodLink RX11 106 yX11_seenOn, Cond.static yX11_seenOn, Cond.code yX11_seenOn cX11_seenOn 3 (some .int), Cond.methodLink RX11 102 yX11_seenAs, Cond.static yX11_seenAs, Cond.code yX11_seenAs cX11_seenAs 5 (some .int), Cond.methodLink RX11 95 yX11_plainly, Cond.static yX11_plainly, Cond.code yX11_plainly cX11_plainly 4 (some .int), Cond.methodLink RX11 99 yX11_westerly, Cond.static yX11_westerly, Cond.code yX11_westerly cX11_westerly 3 (some .int), Cond.methodLink RX11 110 yX11_manyOn, Cond.static yX11_manyOn, Cond.code yX11_manyOn cX11_manyOn 4 (some .int)]
def wsX11_places : List Cond := .code yX11_places cX11_places 8 (some .int) :: ((wsX11_places_r1 ++ wsX11_places_r2) ++ wsX110)
def wsX11_which_r1 : List Cond := [Cond.fieldLink RX11 7 "GleanDuskModel" "told" "[I", Cond.methodLink RX11 144 yX11_isStep, Cond.static yX11_isStep, Cond.initialized RX11, Cond.code yX11_isStep cX11_isStep 1 (some .boolean), Cond.constantLong RX11 63 (11), Cond.methodLink RX11 56 yX11_in, Cond.static yX11_in, Cond.code yX11_in cX11_in 6 (some .boolean), Cond.methodLink RX11 73 yX11_bad, Cond.instanceMethod yX11_bad, Cond.selects RX11 yX11_bad yX11_bad, Cond.code yX11_bad cX11_bad 2 (some .int), Cond.fieldLink RX11 20 "GleanDuskModel" "refused" "[I", Cond.methodLink RX11 52 yX11_many, Cond.instanceMethod yX11_many, Cond.selects RX11 yX11_many yX11_many, Cond.code yX11_many cX11_many 1 (some .int), Cond.methodLink RX11 106 yX11_seenOn, Cond.static yX11_seenOn, Cond.code yX11_seenOn cX11_seenOn 3 (some .int), Cond.methodLink RX11 102 yX11_seenAs, Cond.static yX11_seenAs, Cond.code yX11_seenAs cX11_seenAs 5 (some .int)]
def wsX11_which_r2 : List Cond := [Cond.methodLink RX11 95 yX11_plainly, Cond.static yX11_plainly, Cond.code yX11_plainly cX11_plainly 4 (some .int), Cond.methodLink RX11 99 yX11_westerly, Cond.static yX11_westerly, Cond.code yX11_westerly cX11_westerly 3 (some .int)]
def wsX11_which : List Cond := .code yX11_which cX11_which 4 (some .int) :: ((wsX11_which_r1 ++ wsX11_which_r2) ++ wsX110)
def wsX11_lasts : List Cond := .code yX11_lasts cX11_lasts 5 (some .int) :: ([.constantLong RX11 165 (999), .fieldLink RX11 7 "GleanDuskModel" "told" "[I", .methodLink RX11 133 yX11_isGleaner, .instanceMethod yX11_isGleaner, .selects RX11 yX11_isGleaner yX11_isGleaner, .initialized RX11, .code yX11_isGleaner cX11_isGleaner 2 (some .boolean), .methodLink RX11 60 yX11_manyGleaners, .instanceMethod yX11_manyGleaners, .selects RX11 yX11_manyGleaners yX11_manyGleaners, .code yX11_manyGleaners cX11_manyGleaners 1 (some .int), .methodLink RX11 56 yX11_in, .static yX11_in, .code yX11_in cX11_in 6 (some .boolean), .methodLink RX11 73 yX11_bad, .instanceMethod yX11_bad, .selects RX11 yX11_bad yX11_bad, .code yX11_bad cX11_bad 2 (some .int), .fieldLink RX11 20 "GleanDuskModel" "refused" "[I", .methodLink RX11 114 yX11_fadedBy, .static yX11_fadedBy, .code yX11_fadedBy cX11_fadedBy 1 (some .int)] ++ wsX110)
def wsX11_enough : List Cond := .code yX11_enough cX11_enough 6 (some .int) :: ([.constantLong RX11 165 (999), .fieldLink RX11 7 "GleanDuskModel" "told" "[I", .methodLink RX11 56 yX11_in, .static yX11_in, .initialized RX11, .code yX11_in cX11_in 6 (some .boolean), .methodLink RX11 73 yX11_bad, .instanceMethod yX11_bad, .selects RX11 yX11_bad yX11_bad, .code yX11_bad cX11_bad 2 (some .int), .fieldLink RX11 20 "GleanDuskModel" "refused" "[I", .methodLink RX11 60 yX11_manyGleaners, .instanceMethod yX11_manyGleaners, .selects RX11 yX11_manyGleaners yX11_manyGleaners, .code yX11_manyGleaners cX11_manyGleaners 1 (some .int), .methodLink RX11 167 yX11_has, .static yX11_has, .code yX11_has cX11_has 2 (some .boolean), .methodLink RX11 171 yX11_bits, .static yX11_bits, .code yX11_bits cX11_bits 3 (some .int)] ++ wsX110)
def wsX11_missed_r1 : List Cond := [Cond.fieldLink RX11 7 "GleanDuskModel" "told" "[I", Cond.methodLink RX11 89 yX11_isField, Cond.instanceMethod yX11_isField, Cond.selects RX11 yX11_isField yX11_isField, Cond.initialized RX11, Cond.code yX11_isField cX11_isField 2 (some .boolean), Cond.methodLink RX11 52 yX11_many, Cond.instanceMethod yX11_many, Cond.selects RX11 yX11_many yX11_many, Cond.code yX11_many cX11_many 1 (some .int), Cond.methodLink RX11 56 yX11_in, Cond.static yX11_in, Cond.code yX11_in cX11_in 6 (some .boolean), Cond.methodLink RX11 144 yX11_isStep, Cond.static yX11_isStep, Cond.code yX11_isStep cX11_isStep 1 (some .boolean), Cond.constantLong RX11 63 (11), Cond.methodLink RX11 79 yX11_isLight, Cond.static yX11_isLight, Cond.code yX11_isLight cX11_isLight 1 (some .boolean), Cond.constantLong RX11 67 (60), Cond.methodLink RX11 73 yX11_bad, Cond.instanceMethod yX11_bad, Cond.selects RX11 yX11_bad yX11_bad]
def wsX11_missed_r2 : List Cond := [Cond.code yX11_bad cX11_bad 2 (some .int), Cond.fieldLink RX11 20 "GleanDuskModel" "refused" "[I", Cond.methodLink RX11 82 yX11_full, Cond.instanceMethod yX11_full, Cond.selects RX11 yX11_full yX11_full, Cond.code yX11_full cX11_full 1 (some .int)]
def wsX11_missed : List Cond := .code yX11_missed cX11_missed 6 (some .int) :: ((wsX11_missed_r1 ++ wsX11_missed_r2) ++ wsX110)
def wsX11_clouds : List Cond := .code yX11_clouds cX11_clouds 6 (some .int) :: ([.fieldLink RX11 7 "GleanDuskModel" "told" "[I", .methodLink RX11 102 yX11_seenAs, .static yX11_seenAs, .initialized RX11, .code yX11_seenAs cX11_seenAs 5 (some .int), .methodLink RX11 95 yX11_plainly, .static yX11_plainly, .code yX11_plainly cX11_plainly 4 (some .int), .methodLink RX11 99 yX11_westerly, .static yX11_westerly, .code yX11_westerly cX11_westerly 3 (some .int)] ++ wsX110)
def wsX11_note_r1 : List Cond := [Cond.constantLong RX11 174 (99), Cond.fieldLink RX11 7 "GleanDuskModel" "told" "[I", Cond.methodLink RX11 89 yX11_isField, Cond.instanceMethod yX11_isField, Cond.selects RX11 yX11_isField yX11_isField, Cond.initialized RX11, Cond.code yX11_isField cX11_isField 2 (some .boolean), Cond.methodLink RX11 52 yX11_many, Cond.instanceMethod yX11_many, Cond.selects RX11 yX11_many yX11_many, Cond.code yX11_many cX11_many 1 (some .int), Cond.methodLink RX11 56 yX11_in, Cond.static yX11_in, Cond.code yX11_in cX11_in 6 (some .boolean), Cond.methodLink RX11 144 yX11_isStep, Cond.static yX11_isStep, Cond.code yX11_isStep cX11_isStep 1 (some .boolean), Cond.constantLong RX11 63 (11), Cond.methodLink RX11 79 yX11_isLight, Cond.static yX11_isLight, Cond.code yX11_isLight cX11_isLight 1 (some .boolean), Cond.constantLong RX11 67 (60), Cond.methodLink RX11 69 yX11_isCloud, Cond.static yX11_isCloud]
def wsX11_note_r2 : List Cond := [Cond.code yX11_isCloud cX11_isCloud 1 (some .boolean), Cond.constantLong RX11 65 (9), Cond.methodLink RX11 73 yX11_bad, Cond.instanceMethod yX11_bad, Cond.selects RX11 yX11_bad yX11_bad, Cond.code yX11_bad cX11_bad 2 (some .int), Cond.fieldLink RX11 20 "GleanDuskModel" "refused" "[I", Cond.methodLink RX11 82 yX11_full, Cond.instanceMethod yX11_full, Cond.selects RX11 yX11_full yX11_full, Cond.code yX11_full cX11_full 1 (some .int)]
def wsX11_note : List Cond := .code yX11_note cX11_note 7 (some .int) :: ((wsX11_note_r1 ++ wsX11_note_r2) ++ wsX110)
def wsX11_forget : List Cond := .code yX11_forget cX11_forget 3 (some .int) :: ([.fieldLink RX11 7 "GleanDuskModel" "told" "[I", .methodLink RX11 56 yX11_in, .static yX11_in, .initialized RX11, .code yX11_in cX11_in 6 (some .boolean), .methodLink RX11 73 yX11_bad, .instanceMethod yX11_bad, .selects RX11 yX11_bad yX11_bad, .code yX11_bad cX11_bad 2 (some .int), .fieldLink RX11 20 "GleanDuskModel" "refused" "[I"] ++ wsX110)
def wsX11_kindsOf : List Cond := .code yX11_kindsOf cX11_kindsOf 7 (some .int) :: ([.fieldLink RX11 7 "GleanDuskModel" "told" "[I", .methodLink RX11 102 yX11_seenAs, .static yX11_seenAs, .initialized RX11, .code yX11_seenAs cX11_seenAs 5 (some .int), .methodLink RX11 95 yX11_plainly, .static yX11_plainly, .code yX11_plainly cX11_plainly 4 (some .int), .methodLink RX11 99 yX11_westerly, .static yX11_westerly, .code yX11_westerly cX11_westerly 3 (some .int)] ++ wsX110)
def wsX11_is_r1 : List Cond := [Cond.methodLink RX11 89 yX11_isField, Cond.instanceMethod yX11_isField, Cond.selects RX11 yX11_isField yX11_isField, Cond.initialized RX11, Cond.code yX11_isField cX11_isField 2 (some .boolean), Cond.methodLink RX11 52 yX11_many, Cond.instanceMethod yX11_many, Cond.selects RX11 yX11_many yX11_many, Cond.code yX11_many cX11_many 1 (some .int), Cond.fieldLink RX11 7 "GleanDuskModel" "told" "[I", Cond.methodLink RX11 56 yX11_in, Cond.static yX11_in, Cond.code yX11_in cX11_in 6 (some .boolean), Cond.methodLink RX11 176 yX11_kindsOf, Cond.instanceMethod yX11_kindsOf, Cond.selects RX11 yX11_kindsOf yX11_kindsOf, Cond.code yX11_kindsOf cX11_kindsOf 7 (some .int), Cond.methodLink RX11 102 yX11_seenAs, Cond.static yX11_seenAs, Cond.code yX11_seenAs cX11_seenAs 5 (some .int), Cond.methodLink RX11 95 yX11_plainly, Cond.static yX11_plainly, Cond.code yX11_plainly cX11_plainly 4 (some .int), Cond.methodLink RX11 99 yX11_westerly]
def wsX11_is_r2 : List Cond := [Cond.static yX11_westerly, Cond.code yX11_westerly cX11_westerly 3 (some .int), Cond.methodLink RX11 73 yX11_bad, Cond.instanceMethod yX11_bad, Cond.selects RX11 yX11_bad yX11_bad, Cond.code yX11_bad cX11_bad 2 (some .int), Cond.fieldLink RX11 20 "GleanDuskModel" "refused" "[I"]
def wsX11_is : List Cond := .code yX11_is cX11_is 2 (some .int) :: ((wsX11_is_r1 ++ wsX11_is_r2) ++ wsX110)
def wsX11_look_r1 : List Cond := [Cond.constant RX11 158 (1000000), Cond.fieldLink RX11 7 "GleanDuskModel" "told" "[I", Cond.methodLink RX11 89 yX11_isField, Cond.instanceMethod yX11_isField, Cond.selects RX11 yX11_isField yX11_isField, Cond.initialized RX11, Cond.code yX11_isField cX11_isField 2 (some .boolean), Cond.methodLink RX11 52 yX11_many, Cond.instanceMethod yX11_many, Cond.selects RX11 yX11_many yX11_many, Cond.code yX11_many cX11_many 1 (some .int), Cond.methodLink RX11 56 yX11_in, Cond.static yX11_in, Cond.code yX11_in cX11_in 6 (some .boolean), Cond.methodLink RX11 73 yX11_bad, Cond.instanceMethod yX11_bad, Cond.selects RX11 yX11_bad yX11_bad, Cond.code yX11_bad cX11_bad 2 (some .int), Cond.fieldLink RX11 20 "GleanDuskModel" "refused" "[I", Cond.methodLink RX11 176 yX11_kindsOf, Cond.instanceMethod yX11_kindsOf, Cond.selects RX11 yX11_kindsOf yX11_kindsOf, Cond.code yX11_kindsOf cX11_kindsOf 7 (some .int), Cond.methodLink RX11 102 yX11_seenAs]
def wsX11_look_r2 : List Cond := [Cond.static yX11_seenAs, Cond.code yX11_seenAs cX11_seenAs 5 (some .int), Cond.methodLink RX11 95 yX11_plainly, Cond.static yX11_plainly, Cond.code yX11_plainly cX11_plainly 4 (some .int), Cond.methodLink RX11 99 yX11_westerly, Cond.static yX11_westerly, Cond.code yX11_westerly cX11_westerly 3 (some .int), Cond.methodLink RX11 167 yX11_has, Cond.static yX11_has, Cond.code yX11_has cX11_has 2 (some .boolean)]
def wsX11_look : List Cond := .code yX11_look cX11_look 11 (some .int) :: ((wsX11_look_r1 ++ wsX11_look_r2) ++ wsX110)
def wsX11_distance : List Cond := .code yX11_distance cX11_distance 2 (some .int) :: ([])
def wsX11_hasBy : List Cond := .code yX11_hasBy cX11_hasBy 5 (some .int) :: ([.fieldLink RX11 7 "GleanDuskModel" "told" "[I", .methodLink RX11 106 yX11_seenOn, .static yX11_seenOn, .initialized RX11, .code yX11_seenOn cX11_seenOn 3 (some .int), .methodLink RX11 102 yX11_seenAs, .static yX11_seenAs, .code yX11_seenAs cX11_seenAs 5 (some .int), .methodLink RX11 95 yX11_plainly, .static yX11_plainly, .code yX11_plainly cX11_plainly 4 (some .int), .methodLink RX11 99 yX11_westerly, .static yX11_westerly, .code yX11_westerly cX11_westerly 3 (some .int), .methodLink RX11 179 yX11_distance, .static yX11_distance, .code yX11_distance cX11_distance 2 (some .int)] ++ wsX110)
def wsX11_rests_r1 : List Cond := [Cond.methodLink RX11 52 yX11_many, Cond.instanceMethod yX11_many, Cond.selects RX11 yX11_many yX11_many, Cond.initialized RX11, Cond.code yX11_many cX11_many 1 (some .int), Cond.fieldLink RX11 7 "GleanDuskModel" "told" "[I", Cond.methodLink RX11 182 yX11_hasBy, Cond.instanceMethod yX11_hasBy, Cond.selects RX11 yX11_hasBy yX11_hasBy, Cond.code yX11_hasBy cX11_hasBy 5 (some .int), Cond.methodLink RX11 106 yX11_seenOn, Cond.static yX11_seenOn, Cond.code yX11_seenOn cX11_seenOn 3 (some .int), Cond.methodLink RX11 102 yX11_seenAs, Cond.static yX11_seenAs, Cond.code yX11_seenAs cX11_seenAs 5 (some .int), Cond.methodLink RX11 95 yX11_plainly, Cond.static yX11_plainly, Cond.code yX11_plainly cX11_plainly 4 (some .int), Cond.methodLink RX11 99 yX11_westerly, Cond.static yX11_westerly, Cond.code yX11_westerly cX11_westerly 3 (some .int), Cond.methodLink RX11 179 yX11_distance, Cond.static yX11_distance]
def wsX11_rests_r2 : List Cond := [Cond.code yX11_distance cX11_distance 2 (some .int)]
def wsX11_rests : List Cond := .code yX11_rests cX11_rests 7 (some .boolean) :: ((wsX11_rests_r1 ++ wsX11_rests_r2) ++ wsX110)
def wsX11_two_r1 : List Cond := [Cond.methodLink RX11 133 yX11_isGleaner, Cond.instanceMethod yX11_isGleaner, Cond.selects RX11 yX11_isGleaner yX11_isGleaner, Cond.initialized RX11, Cond.code yX11_isGleaner cX11_isGleaner 2 (some .boolean), Cond.methodLink RX11 60 yX11_manyGleaners, Cond.instanceMethod yX11_manyGleaners, Cond.selects RX11 yX11_manyGleaners yX11_manyGleaners, Cond.code yX11_manyGleaners cX11_manyGleaners 1 (some .int), Cond.fieldLink RX11 7 "GleanDuskModel" "told" "[I", Cond.methodLink RX11 56 yX11_in, Cond.static yX11_in, Cond.code yX11_in cX11_in 6 (some .boolean), Cond.methodLink RX11 73 yX11_bad, Cond.instanceMethod yX11_bad, Cond.selects RX11 yX11_bad yX11_bad, Cond.code yX11_bad cX11_bad 2 (some .int), Cond.fieldLink RX11 20 "GleanDuskModel" "refused" "[I", Cond.methodLink RX11 52 yX11_many, Cond.instanceMethod yX11_many, Cond.selects RX11 yX11_many yX11_many, Cond.code yX11_many cX11_many 1 (some .int), Cond.methodLink RX11 185 yX11_rests, Cond.instanceMethod yX11_rests]
def wsX11_two_r2 : List Cond := [Cond.selects RX11 yX11_rests yX11_rests, Cond.code yX11_rests cX11_rests 7 (some .boolean), Cond.methodLink RX11 182 yX11_hasBy, Cond.instanceMethod yX11_hasBy, Cond.selects RX11 yX11_hasBy yX11_hasBy, Cond.code yX11_hasBy cX11_hasBy 5 (some .int), Cond.methodLink RX11 106 yX11_seenOn, Cond.static yX11_seenOn, Cond.code yX11_seenOn cX11_seenOn 3 (some .int), Cond.methodLink RX11 102 yX11_seenAs, Cond.static yX11_seenAs, Cond.code yX11_seenAs cX11_seenAs 5 (some .int), Cond.methodLink RX11 95 yX11_plainly, Cond.static yX11_plainly, Cond.code yX11_plainly cX11_plainly 4 (some .int), Cond.methodLink RX11 99 yX11_westerly, Cond.static yX11_westerly, Cond.code yX11_westerly cX11_westerly 3 (some .int), Cond.methodLink RX11 179 yX11_distance, Cond.static yX11_distance, Cond.code yX11_distance cX11_distance 2 (some .int)]
def wsX11_two : List Cond := .code yX11_two cX11_two 8 (some .int) :: ((wsX11_two_r1 ++ wsX11_two_r2) ++ wsX110)
def wsX11_fraction : List Cond := .code yX11_fraction cX11_fraction 11 none :: ([.fieldLink RX11 189 "GleanDuskModel" "above" "J", .fieldLink RX11 23 "GleanDuskModel" "below" "J"] ++ wsX110)
def wsX11_rains_r1 : List Cond := [Cond.constantLong RX11 192 (10), Cond.fieldLink RX11 27 "GleanDuskModel" "hand" "[I", Cond.fieldLink RX11 7 "GleanDuskModel" "told" "[I", Cond.methodLink RX11 89 yX11_isField, Cond.instanceMethod yX11_isField, Cond.selects RX11 yX11_isField yX11_isField, Cond.initialized RX11, Cond.code yX11_isField cX11_isField 2 (some .boolean), Cond.methodLink RX11 52 yX11_many, Cond.instanceMethod yX11_many, Cond.selects RX11 yX11_many yX11_many, Cond.code yX11_many cX11_many 1 (some .int), Cond.methodLink RX11 56 yX11_in, Cond.static yX11_in, Cond.code yX11_in cX11_in 6 (some .boolean), Cond.methodLink RX11 73 yX11_bad, Cond.instanceMethod yX11_bad, Cond.selects RX11 yX11_bad yX11_bad, Cond.code yX11_bad cX11_bad 2 (some .int), Cond.fieldLink RX11 20 "GleanDuskModel" "refused" "[I", Cond.methodLink RX11 147 yX11_layHand, Cond.instanceMethod yX11_layHand, Cond.selects RX11 yX11_layHand yX11_layHand, Cond.code yX11_layHand cX11_layHand 2 none]
def wsX11_rains_r2 : List Cond := [Cond.methodLink RX11 106 yX11_seenOn, Cond.static yX11_seenOn, Cond.code yX11_seenOn cX11_seenOn 3 (some .int), Cond.methodLink RX11 102 yX11_seenAs, Cond.static yX11_seenAs, Cond.code yX11_seenAs cX11_seenAs 5 (some .int), Cond.methodLink RX11 95 yX11_plainly, Cond.static yX11_plainly, Cond.code yX11_plainly cX11_plainly 4 (some .int), Cond.methodLink RX11 99 yX11_westerly, Cond.static yX11_westerly, Cond.code yX11_westerly cX11_westerly 3 (some .int), Cond.methodLink RX11 194 yX11_fraction, Cond.instanceMethod yX11_fraction, Cond.selects RX11 yX11_fraction yX11_fraction, Cond.code yX11_fraction cX11_fraction 11 none, Cond.fieldLink RX11 189 "GleanDuskModel" "above" "J", Cond.fieldLink RX11 23 "GleanDuskModel" "below" "J"]
def wsX11_rains : List Cond := .code yX11_rains cX11_rains 3 (some .int) :: ((wsX11_rains_r1 ++ wsX11_rains_r2) ++ wsX110)
def wsX11_summers_r1 : List Cond := [Cond.constantLong RX11 198 (999999), Cond.constantLong RX11 67 (60), Cond.constantLong RX11 200 (1103515245), Cond.constantLong RX11 202 (12345), Cond.constantLong RX11 204 (2147483648), Cond.fieldLink RX11 27 "GleanDuskModel" "hand" "[I", Cond.constantLong RX11 206 (65536), Cond.constantLong RX11 192 (10), Cond.methodLink RX11 56 yX11_in, Cond.static yX11_in, Cond.initialized RX11, Cond.code yX11_in cX11_in 6 (some .boolean), Cond.methodLink RX11 73 yX11_bad, Cond.instanceMethod yX11_bad, Cond.selects RX11 yX11_bad yX11_bad, Cond.code yX11_bad cX11_bad 2 (some .int), Cond.fieldLink RX11 20 "GleanDuskModel" "refused" "[I", Cond.methodLink RX11 147 yX11_layHand, Cond.instanceMethod yX11_layHand, Cond.selects RX11 yX11_layHand yX11_layHand, Cond.code yX11_layHand cX11_layHand 2 none, Cond.fieldLink RX11 7 "GleanDuskModel" "told" "[I", Cond.methodLink RX11 129 yX11_goNight, Cond.static yX11_goNight]
def wsX11_summers_r2 : List Cond := [Cond.code yX11_goNight cX11_goNight 3 none, Cond.methodLink RX11 114 yX11_fadedBy, Cond.static yX11_fadedBy, Cond.code yX11_fadedBy cX11_fadedBy 1 (some .int), Cond.methodLink RX11 125 yX11_goStep, Cond.static yX11_goStep, Cond.code yX11_goStep cX11_goStep 7 (some .int), Cond.methodLink RX11 110 yX11_manyOn, Cond.static yX11_manyOn, Cond.code yX11_manyOn cX11_manyOn 4 (some .int), Cond.methodLink RX11 106 yX11_seenOn, Cond.static yX11_seenOn, Cond.code yX11_seenOn cX11_seenOn 3 (some .int), Cond.methodLink RX11 102 yX11_seenAs, Cond.static yX11_seenAs, Cond.code yX11_seenAs cX11_seenAs 5 (some .int), Cond.methodLink RX11 95 yX11_plainly, Cond.static yX11_plainly, Cond.code yX11_plainly cX11_plainly 4 (some .int), Cond.methodLink RX11 99 yX11_westerly, Cond.static yX11_westerly, Cond.code yX11_westerly cX11_westerly 3 (some .int)]
def wsX11_summers : List Cond := .code yX11_summers cX11_summers 7 (some .int) :: ((wsX11_summers_r1 ++ wsX11_summers_r2) ++ wsX110)
def wsX11_type : List Cond := .code yX11_type cX11_type 2 (some .int) :: ([.constantLong RX11 208 (127), .fieldLink RX11 210 "GleanDuskModel" "bytesLong" "I", .fieldLink RX11 39 "GleanDuskModel" "bytes" "[I", .methodLink RX11 56 yX11_in, .static yX11_in, .initialized RX11, .code yX11_in cX11_in 6 (some .boolean), .methodLink RX11 73 yX11_bad, .instanceMethod yX11_bad, .selects RX11 yX11_bad yX11_bad, .code yX11_bad cX11_bad 2 (some .int), .fieldLink RX11 20 "GleanDuskModel" "refused" "[I", .methodLink RX11 82 yX11_full, .instanceMethod yX11_full, .selects RX11 yX11_full yX11_full, .code yX11_full cX11_full 1 (some .int)] ++ wsX110)
def wsX11_clear : List Cond := .code yX11_clear cX11_clear 2 (some .int) :: ([.fieldLink RX11 210 "GleanDuskModel" "bytesLong" "I"] ++ wsX110)
def wsX11_isSmall : List Cond := .code yX11_isSmall cX11_isSmall 1 (some .boolean) :: ([.constantLong RX11 214 (97), .constantLong RX11 216 (122), .methodLink RX11 56 yX11_in, .static yX11_in, .initialized RX11, .code yX11_in cX11_in 6 (some .boolean)])
def wsX11_isFigure : List Cond := .code yX11_isFigure cX11_isFigure 1 (some .boolean) :: ([.constantLong RX11 218 (48), .constantLong RX11 220 (57), .methodLink RX11 56 yX11_in, .static yX11_in, .initialized RX11, .code yX11_in cX11_in 6 (some .boolean)])
def wsX11_lookAt : List Cond := .code yX11_lookAt cX11_lookAt 5 none :: ([.fieldLink RX11 222 "GleanDuskModel" "tokenAt" "I", .fieldLink RX11 210 "GleanDuskModel" "bytesLong" "I", .fieldLink RX11 39 "GleanDuskModel" "bytes" "[I", .fieldLink RX11 225 "GleanDuskModel" "tokenLong" "I", .fieldLink RX11 228 "GleanDuskModel" "token" "I", .fieldLink RX11 231 "GleanDuskModel" "value" "I", .methodLink RX11 234 yX11_isSmall, .static yX11_isSmall, .initialized RX11, .code yX11_isSmall cX11_isSmall 1 (some .boolean), .constantLong RX11 214 (97), .constantLong RX11 216 (122), .methodLink RX11 56 yX11_in, .static yX11_in, .code yX11_in cX11_in 6 (some .boolean), .methodLink RX11 237 yX11_isFigure, .static yX11_isFigure, .code yX11_isFigure cX11_isFigure 1 (some .boolean), .constantLong RX11 218 (48), .constantLong RX11 220 (57)] ++ wsX110)
def wsX11_goBehind : List Cond := .code yX11_goBehind cX11_goBehind 1 none :: ([.fieldLink RX11 222 "GleanDuskModel" "tokenAt" "I", .fieldLink RX11 225 "GleanDuskModel" "tokenLong" "I", .methodLink RX11 240 yX11_lookAt, .instanceMethod yX11_lookAt, .selects RX11 yX11_lookAt yX11_lookAt, .initialized RX11, .code yX11_lookAt cX11_lookAt 5 none, .fieldLink RX11 210 "GleanDuskModel" "bytesLong" "I", .fieldLink RX11 39 "GleanDuskModel" "bytes" "[I", .fieldLink RX11 228 "GleanDuskModel" "token" "I", .fieldLink RX11 231 "GleanDuskModel" "value" "I", .methodLink RX11 234 yX11_isSmall, .static yX11_isSmall, .code yX11_isSmall cX11_isSmall 1 (some .boolean), .constantLong RX11 214 (97), .constantLong RX11 216 (122), .methodLink RX11 56 yX11_in, .static yX11_in, .code yX11_in cX11_in 6 (some .boolean), .methodLink RX11 237 yX11_isFigure, .static yX11_isFigure, .code yX11_isFigure cX11_isFigure 1 (some .boolean), .constantLong RX11 218 (48), .constantLong RX11 220 (57)] ++ wsX110)
def wsX11_spells : List Cond := .code yX11_spells cX11_spells 10 (some .boolean) :: ([.fieldLink RX11 228 "GleanDuskModel" "token" "I", .fieldLink RX11 225 "GleanDuskModel" "tokenLong" "I", .fieldLink RX11 39 "GleanDuskModel" "bytes" "[I", .fieldLink RX11 222 "GleanDuskModel" "tokenAt" "I"] ++ wsX110)
def wsX11_takes_r1 : List Cond := [Cond.fieldLink RX11 228 "GleanDuskModel" "token" "I", Cond.fieldLink RX11 231 "GleanDuskModel" "value" "I", Cond.fieldLink RX11 45 "GleanDuskModel" "values" "[I", Cond.methodLink RX11 56 yX11_in, Cond.static yX11_in, Cond.initialized RX11, Cond.code yX11_in cX11_in 6 (some .boolean), Cond.methodLink RX11 244 yX11_goBehind, Cond.instanceMethod yX11_goBehind, Cond.selects RX11 yX11_goBehind yX11_goBehind, Cond.code yX11_goBehind cX11_goBehind 1 none, Cond.fieldLink RX11 222 "GleanDuskModel" "tokenAt" "I", Cond.fieldLink RX11 225 "GleanDuskModel" "tokenLong" "I", Cond.methodLink RX11 240 yX11_lookAt, Cond.instanceMethod yX11_lookAt, Cond.selects RX11 yX11_lookAt yX11_lookAt, Cond.code yX11_lookAt cX11_lookAt 5 none, Cond.fieldLink RX11 210 "GleanDuskModel" "bytesLong" "I", Cond.fieldLink RX11 39 "GleanDuskModel" "bytes" "[I", Cond.methodLink RX11 234 yX11_isSmall, Cond.static yX11_isSmall, Cond.code yX11_isSmall cX11_isSmall 1 (some .boolean), Cond.constantLong RX11 214 (97), Cond.constantLong RX11 216 (122)]
def wsX11_takes_r2 : List Cond := [Cond.methodLink RX11 237 yX11_isFigure, Cond.static yX11_isFigure, Cond.code yX11_isFigure cX11_isFigure 1 (some .boolean), Cond.constantLong RX11 218 (48), Cond.constantLong RX11 220 (57)]
def wsX11_takes : List Cond := .code yX11_takes cX11_takes 4 (some .boolean) :: ((wsX11_takes_r1 ++ wsX11_takes_r2) ++ wsX110)
def wsX11_takesParish_r1 : List Cond := [Cond.fieldLink RX11 42 "GleanDuskModel" "anew" "[I", Cond.fieldLink RX11 45 "GleanDuskModel" "values" "[I", Cond.fieldLink RX11 228 "GleanDuskModel" "token" "I", Cond.methodLink RX11 247 yX11_spells, Cond.instanceMethod yX11_spells, Cond.selects RX11 yX11_spells yX11_spells, Cond.initialized RX11, Cond.code yX11_spells cX11_spells 10 (some .boolean), Cond.fieldLink RX11 225 "GleanDuskModel" "tokenLong" "I", Cond.fieldLink RX11 39 "GleanDuskModel" "bytes" "[I", Cond.fieldLink RX11 222 "GleanDuskModel" "tokenAt" "I", Cond.methodLink RX11 244 yX11_goBehind, Cond.instanceMethod yX11_goBehind, Cond.selects RX11 yX11_goBehind yX11_goBehind, Cond.code yX11_goBehind cX11_goBehind 1 none, Cond.methodLink RX11 240 yX11_lookAt, Cond.instanceMethod yX11_lookAt, Cond.selects RX11 yX11_lookAt yX11_lookAt, Cond.code yX11_lookAt cX11_lookAt 5 none, Cond.fieldLink RX11 210 "GleanDuskModel" "bytesLong" "I", Cond.fieldLink RX11 231 "GleanDuskModel" "value" "I", Cond.methodLink RX11 234 yX11_isSmall, Cond.static yX11_isSmall, Cond.code yX11_isSmall cX11_isSmall 1 (some .boolean)]
def wsX11_takesParish_r2 : List Cond := [Cond.constantLong RX11 214 (97), Cond.constantLong RX11 216 (122), Cond.methodLink RX11 56 yX11_in, Cond.static yX11_in, Cond.code yX11_in cX11_in 6 (some .boolean), Cond.methodLink RX11 237 yX11_isFigure, Cond.static yX11_isFigure, Cond.code yX11_isFigure cX11_isFigure 1 (some .boolean), Cond.constantLong RX11 218 (48), Cond.constantLong RX11 220 (57), Cond.methodLink RX11 251 yX11_takes, Cond.instanceMethod yX11_takes, Cond.selects RX11 yX11_takes yX11_takes, Cond.code yX11_takes cX11_takes 4 (some .boolean), Cond.methodLink RX11 48 yX11_begin, Cond.static yX11_begin, Cond.code yX11_begin cX11_begin 3 none]
def wsX11_takesParish : List Cond := .code yX11_takesParish cX11_takesParish 1 (some .boolean) :: ((wsX11_takesParish_r1 ++ wsX11_takesParish_r2) ++ wsX110)
def wsX11_takesField_r1 : List Cond := [Cond.fieldLink RX11 42 "GleanDuskModel" "anew" "[I", Cond.fieldLink RX11 45 "GleanDuskModel" "values" "[I", Cond.methodLink RX11 244 yX11_goBehind, Cond.instanceMethod yX11_goBehind, Cond.selects RX11 yX11_goBehind yX11_goBehind, Cond.initialized RX11, Cond.code yX11_goBehind cX11_goBehind 1 none, Cond.fieldLink RX11 222 "GleanDuskModel" "tokenAt" "I", Cond.fieldLink RX11 225 "GleanDuskModel" "tokenLong" "I", Cond.methodLink RX11 240 yX11_lookAt, Cond.instanceMethod yX11_lookAt, Cond.selects RX11 yX11_lookAt yX11_lookAt, Cond.code yX11_lookAt cX11_lookAt 5 none, Cond.fieldLink RX11 210 "GleanDuskModel" "bytesLong" "I", Cond.fieldLink RX11 39 "GleanDuskModel" "bytes" "[I", Cond.fieldLink RX11 228 "GleanDuskModel" "token" "I", Cond.fieldLink RX11 231 "GleanDuskModel" "value" "I", Cond.methodLink RX11 234 yX11_isSmall, Cond.static yX11_isSmall, Cond.code yX11_isSmall cX11_isSmall 1 (some .boolean), Cond.constantLong RX11 214 (97), Cond.constantLong RX11 216 (122), Cond.methodLink RX11 56 yX11_in, Cond.static yX11_in]
def wsX11_takesField_r2 : List Cond := [Cond.code yX11_in cX11_in 6 (some .boolean), Cond.methodLink RX11 237 yX11_isFigure, Cond.static yX11_isFigure, Cond.code yX11_isFigure cX11_isFigure 1 (some .boolean), Cond.constantLong RX11 218 (48), Cond.constantLong RX11 220 (57), Cond.methodLink RX11 251 yX11_takes, Cond.instanceMethod yX11_takes, Cond.selects RX11 yX11_takes yX11_takes, Cond.code yX11_takes cX11_takes 4 (some .boolean), Cond.methodLink RX11 85 yX11_layField, Cond.static yX11_layField, Cond.code yX11_layField cX11_layField 3 none]
def wsX11_takesField : List Cond := .code yX11_takesField cX11_takesField 1 (some .boolean) :: ((wsX11_takesField_r1 ++ wsX11_takesField_r2) ++ wsX110)
def wsX11_takesGleaner_r1 : List Cond := [Cond.fieldLink RX11 42 "GleanDuskModel" "anew" "[I", Cond.fieldLink RX11 45 "GleanDuskModel" "values" "[I", Cond.methodLink RX11 244 yX11_goBehind, Cond.instanceMethod yX11_goBehind, Cond.selects RX11 yX11_goBehind yX11_goBehind, Cond.initialized RX11, Cond.code yX11_goBehind cX11_goBehind 1 none, Cond.fieldLink RX11 222 "GleanDuskModel" "tokenAt" "I", Cond.fieldLink RX11 225 "GleanDuskModel" "tokenLong" "I", Cond.methodLink RX11 240 yX11_lookAt, Cond.instanceMethod yX11_lookAt, Cond.selects RX11 yX11_lookAt yX11_lookAt, Cond.code yX11_lookAt cX11_lookAt 5 none, Cond.fieldLink RX11 210 "GleanDuskModel" "bytesLong" "I", Cond.fieldLink RX11 39 "GleanDuskModel" "bytes" "[I", Cond.fieldLink RX11 228 "GleanDuskModel" "token" "I", Cond.fieldLink RX11 231 "GleanDuskModel" "value" "I", Cond.methodLink RX11 234 yX11_isSmall, Cond.static yX11_isSmall, Cond.code yX11_isSmall cX11_isSmall 1 (some .boolean), Cond.constantLong RX11 214 (97), Cond.constantLong RX11 216 (122), Cond.methodLink RX11 56 yX11_in, Cond.static yX11_in]
def wsX11_takesGleaner_r2 : List Cond := [Cond.code yX11_in cX11_in 6 (some .boolean), Cond.methodLink RX11 237 yX11_isFigure, Cond.static yX11_isFigure, Cond.code yX11_isFigure cX11_isFigure 1 (some .boolean), Cond.constantLong RX11 218 (48), Cond.constantLong RX11 220 (57), Cond.methodLink RX11 251 yX11_takes, Cond.instanceMethod yX11_takes, Cond.selects RX11 yX11_takes yX11_takes, Cond.code yX11_takes cX11_takes 4 (some .boolean), Cond.methodLink RX11 92 yX11_layGleaner, Cond.static yX11_layGleaner, Cond.code yX11_layGleaner cX11_layGleaner 2 none]
def wsX11_takesGleaner : List Cond := .code yX11_takesGleaner cX11_takesGleaner 1 (some .boolean) :: ((wsX11_takesGleaner_r1 ++ wsX11_takesGleaner_r2) ++ wsX110)
def wsX11_takesGlean_r1 : List Cond := [Cond.fieldLink RX11 42 "GleanDuskModel" "anew" "[I", Cond.fieldLink RX11 45 "GleanDuskModel" "values" "[I", Cond.methodLink RX11 244 yX11_goBehind, Cond.instanceMethod yX11_goBehind, Cond.selects RX11 yX11_goBehind yX11_goBehind, Cond.initialized RX11, Cond.code yX11_goBehind cX11_goBehind 1 none, Cond.fieldLink RX11 222 "GleanDuskModel" "tokenAt" "I", Cond.fieldLink RX11 225 "GleanDuskModel" "tokenLong" "I", Cond.methodLink RX11 240 yX11_lookAt, Cond.instanceMethod yX11_lookAt, Cond.selects RX11 yX11_lookAt yX11_lookAt, Cond.code yX11_lookAt cX11_lookAt 5 none, Cond.fieldLink RX11 210 "GleanDuskModel" "bytesLong" "I", Cond.fieldLink RX11 39 "GleanDuskModel" "bytes" "[I", Cond.fieldLink RX11 228 "GleanDuskModel" "token" "I", Cond.fieldLink RX11 231 "GleanDuskModel" "value" "I", Cond.methodLink RX11 234 yX11_isSmall, Cond.static yX11_isSmall, Cond.code yX11_isSmall cX11_isSmall 1 (some .boolean), Cond.constantLong RX11 214 (97), Cond.constantLong RX11 216 (122), Cond.methodLink RX11 56 yX11_in, Cond.static yX11_in]
def wsX11_takesGlean_r2 : List Cond := [Cond.code yX11_in cX11_in 6 (some .boolean), Cond.methodLink RX11 237 yX11_isFigure, Cond.static yX11_isFigure, Cond.code yX11_isFigure cX11_isFigure 1 (some .boolean), Cond.constantLong RX11 218 (48), Cond.constantLong RX11 220 (57), Cond.methodLink RX11 251 yX11_takes, Cond.instanceMethod yX11_takes, Cond.selects RX11 yX11_takes yX11_takes, Cond.code yX11_takes cX11_takes 4 (some .boolean), Cond.methodLink RX11 125 yX11_goStep, Cond.static yX11_goStep, Cond.code yX11_goStep cX11_goStep 7 (some .int), Cond.methodLink RX11 110 yX11_manyOn, Cond.static yX11_manyOn, Cond.code yX11_manyOn cX11_manyOn 4 (some .int), Cond.methodLink RX11 106 yX11_seenOn, Cond.static yX11_seenOn, Cond.code yX11_seenOn cX11_seenOn 3 (some .int), Cond.methodLink RX11 102 yX11_seenAs, Cond.static yX11_seenAs, Cond.code yX11_seenAs cX11_seenAs 5 (some .int), Cond.methodLink RX11 95 yX11_plainly, Cond.static yX11_plainly]
def wsX11_takesGlean_r3 : List Cond := [Cond.code yX11_plainly cX11_plainly 4 (some .int), Cond.methodLink RX11 99 yX11_westerly, Cond.static yX11_westerly, Cond.code yX11_westerly cX11_westerly 3 (some .int)]
def wsX11_takesGlean : List Cond := .code yX11_takesGlean cX11_takesGlean 3 (some .boolean) :: ((wsX11_takesGlean_r1 ++ (wsX11_takesGlean_r2 ++ wsX11_takesGlean_r3)) ++ wsX110)
def wsX11_isGleanerWord : List Cond := .code yX11_isGleanerWord cX11_isGleanerWord 3 (some .boolean) :: ([.fieldLink RX11 228 "GleanDuskModel" "token" "I", .fieldLink RX11 225 "GleanDuskModel" "tokenLong" "I", .fieldLink RX11 39 "GleanDuskModel" "bytes" "[I", .fieldLink RX11 222 "GleanDuskModel" "tokenAt" "I", .methodLink RX11 247 yX11_spells, .instanceMethod yX11_spells, .selects RX11 yX11_spells yX11_spells, .initialized RX11, .code yX11_spells cX11_spells 10 (some .boolean)] ++ wsX110)
def wsX11_takesItem_r1 : List Cond := [Cond.methodLink RX11 247 yX11_spells, Cond.instanceMethod yX11_spells, Cond.selects RX11 yX11_spells yX11_spells, Cond.initialized RX11, Cond.code yX11_spells cX11_spells 10 (some .boolean), Cond.fieldLink RX11 228 "GleanDuskModel" "token" "I", Cond.fieldLink RX11 225 "GleanDuskModel" "tokenLong" "I", Cond.fieldLink RX11 39 "GleanDuskModel" "bytes" "[I", Cond.fieldLink RX11 222 "GleanDuskModel" "tokenAt" "I", Cond.methodLink RX11 255 yX11_takesField, Cond.instanceMethod yX11_takesField, Cond.selects RX11 yX11_takesField yX11_takesField, Cond.code yX11_takesField cX11_takesField 1 (some .boolean), Cond.fieldLink RX11 42 "GleanDuskModel" "anew" "[I", Cond.fieldLink RX11 45 "GleanDuskModel" "values" "[I", Cond.methodLink RX11 244 yX11_goBehind, Cond.instanceMethod yX11_goBehind, Cond.selects RX11 yX11_goBehind yX11_goBehind, Cond.code yX11_goBehind cX11_goBehind 1 none, Cond.methodLink RX11 240 yX11_lookAt, Cond.instanceMethod yX11_lookAt, Cond.selects RX11 yX11_lookAt yX11_lookAt, Cond.code yX11_lookAt cX11_lookAt 5 none, Cond.fieldLink RX11 210 "GleanDuskModel" "bytesLong" "I"]
def wsX11_takesItem_r2 : List Cond := [Cond.fieldLink RX11 231 "GleanDuskModel" "value" "I", Cond.methodLink RX11 234 yX11_isSmall, Cond.static yX11_isSmall, Cond.code yX11_isSmall cX11_isSmall 1 (some .boolean), Cond.constantLong RX11 214 (97), Cond.constantLong RX11 216 (122), Cond.methodLink RX11 56 yX11_in, Cond.static yX11_in, Cond.code yX11_in cX11_in 6 (some .boolean), Cond.methodLink RX11 237 yX11_isFigure, Cond.static yX11_isFigure, Cond.code yX11_isFigure cX11_isFigure 1 (some .boolean), Cond.constantLong RX11 218 (48), Cond.constantLong RX11 220 (57), Cond.methodLink RX11 251 yX11_takes, Cond.instanceMethod yX11_takes, Cond.selects RX11 yX11_takes yX11_takes, Cond.code yX11_takes cX11_takes 4 (some .boolean), Cond.methodLink RX11 85 yX11_layField, Cond.static yX11_layField, Cond.code yX11_layField cX11_layField 3 none, Cond.methodLink RX11 259 yX11_takesGlean, Cond.instanceMethod yX11_takesGlean, Cond.selects RX11 yX11_takesGlean yX11_takesGlean]
def wsX11_takesItem_r3 : List Cond := [Cond.code yX11_takesGlean cX11_takesGlean 3 (some .boolean), Cond.methodLink RX11 125 yX11_goStep, Cond.static yX11_goStep, Cond.code yX11_goStep cX11_goStep 7 (some .int), Cond.methodLink RX11 110 yX11_manyOn, Cond.static yX11_manyOn, Cond.code yX11_manyOn cX11_manyOn 4 (some .int), Cond.methodLink RX11 106 yX11_seenOn, Cond.static yX11_seenOn, Cond.code yX11_seenOn cX11_seenOn 3 (some .int), Cond.methodLink RX11 102 yX11_seenAs, Cond.static yX11_seenAs, Cond.code yX11_seenAs cX11_seenAs 5 (some .int), Cond.methodLink RX11 95 yX11_plainly, Cond.static yX11_plainly, Cond.code yX11_plainly cX11_plainly 4 (some .int), Cond.methodLink RX11 99 yX11_westerly, Cond.static yX11_westerly, Cond.code yX11_westerly cX11_westerly 3 (some .int), Cond.methodLink RX11 262 yX11_isGleanerWord, Cond.instanceMethod yX11_isGleanerWord, Cond.selects RX11 yX11_isGleanerWord yX11_isGleanerWord, Cond.code yX11_isGleanerWord cX11_isGleanerWord 3 (some .boolean), Cond.methodLink RX11 265 yX11_takesGleaner]
def wsX11_takesItem_r4 : List Cond := [Cond.instanceMethod yX11_takesGleaner, Cond.selects RX11 yX11_takesGleaner yX11_takesGleaner, Cond.code yX11_takesGleaner cX11_takesGleaner 1 (some .boolean), Cond.methodLink RX11 92 yX11_layGleaner, Cond.static yX11_layGleaner, Cond.code yX11_layGleaner cX11_layGleaner 2 none]
def wsX11_takesItem : List Cond := .code yX11_takesItem cX11_takesItem 1 (some .boolean) :: ((wsX11_takesItem_r1 ++ (wsX11_takesItem_r2 ++ (wsX11_takesItem_r3 ++ wsX11_takesItem_r4))) ++ wsX110)
def wsX11_read_r1 : List Cond := [Cond.fieldLink RX11 222 "GleanDuskModel" "tokenAt" "I", Cond.fieldLink RX11 228 "GleanDuskModel" "token" "I", Cond.fieldLink RX11 7 "GleanDuskModel" "told" "[I", Cond.fieldLink RX11 42 "GleanDuskModel" "anew" "[I", Cond.methodLink RX11 240 yX11_lookAt, Cond.instanceMethod yX11_lookAt, Cond.selects RX11 yX11_lookAt yX11_lookAt, Cond.initialized RX11, Cond.code yX11_lookAt cX11_lookAt 5 none, Cond.fieldLink RX11 210 "GleanDuskModel" "bytesLong" "I", Cond.fieldLink RX11 39 "GleanDuskModel" "bytes" "[I", Cond.fieldLink RX11 225 "GleanDuskModel" "tokenLong" "I", Cond.fieldLink RX11 231 "GleanDuskModel" "value" "I", Cond.methodLink RX11 234 yX11_isSmall, Cond.static yX11_isSmall, Cond.code yX11_isSmall cX11_isSmall 1 (some .boolean), Cond.constantLong RX11 214 (97), Cond.constantLong RX11 216 (122), Cond.methodLink RX11 56 yX11_in, Cond.static yX11_in, Cond.code yX11_in cX11_in 6 (some .boolean), Cond.methodLink RX11 237 yX11_isFigure, Cond.static yX11_isFigure, Cond.code yX11_isFigure cX11_isFigure 1 (some .boolean)]
def wsX11_read_r2 : List Cond := [Cond.constantLong RX11 218 (48), Cond.constantLong RX11 220 (57), Cond.methodLink RX11 268 yX11_takesParish, Cond.instanceMethod yX11_takesParish, Cond.selects RX11 yX11_takesParish yX11_takesParish, Cond.code yX11_takesParish cX11_takesParish 1 (some .boolean), Cond.fieldLink RX11 45 "GleanDuskModel" "values" "[I", Cond.methodLink RX11 247 yX11_spells, Cond.instanceMethod yX11_spells, Cond.selects RX11 yX11_spells yX11_spells, Cond.code yX11_spells cX11_spells 10 (some .boolean), Cond.methodLink RX11 244 yX11_goBehind, Cond.instanceMethod yX11_goBehind, Cond.selects RX11 yX11_goBehind yX11_goBehind, Cond.code yX11_goBehind cX11_goBehind 1 none, Cond.methodLink RX11 251 yX11_takes, Cond.instanceMethod yX11_takes, Cond.selects RX11 yX11_takes yX11_takes, Cond.code yX11_takes cX11_takes 4 (some .boolean), Cond.methodLink RX11 48 yX11_begin, Cond.static yX11_begin, Cond.code yX11_begin cX11_begin 3 none, Cond.methodLink RX11 271 yX11_takesItem, Cond.instanceMethod yX11_takesItem]
def wsX11_read_r3 : List Cond := [Cond.selects RX11 yX11_takesItem yX11_takesItem, Cond.code yX11_takesItem cX11_takesItem 1 (some .boolean), Cond.methodLink RX11 255 yX11_takesField, Cond.instanceMethod yX11_takesField, Cond.selects RX11 yX11_takesField yX11_takesField, Cond.code yX11_takesField cX11_takesField 1 (some .boolean), Cond.methodLink RX11 85 yX11_layField, Cond.static yX11_layField, Cond.code yX11_layField cX11_layField 3 none, Cond.methodLink RX11 259 yX11_takesGlean, Cond.instanceMethod yX11_takesGlean, Cond.selects RX11 yX11_takesGlean yX11_takesGlean, Cond.code yX11_takesGlean cX11_takesGlean 3 (some .boolean), Cond.methodLink RX11 125 yX11_goStep, Cond.static yX11_goStep, Cond.code yX11_goStep cX11_goStep 7 (some .int), Cond.methodLink RX11 110 yX11_manyOn, Cond.static yX11_manyOn, Cond.code yX11_manyOn cX11_manyOn 4 (some .int), Cond.methodLink RX11 106 yX11_seenOn, Cond.static yX11_seenOn, Cond.code yX11_seenOn cX11_seenOn 3 (some .int), Cond.methodLink RX11 102 yX11_seenAs, Cond.static yX11_seenAs]
def wsX11_read_r4 : List Cond := [Cond.code yX11_seenAs cX11_seenAs 5 (some .int), Cond.methodLink RX11 95 yX11_plainly, Cond.static yX11_plainly, Cond.code yX11_plainly cX11_plainly 4 (some .int), Cond.methodLink RX11 99 yX11_westerly, Cond.static yX11_westerly, Cond.code yX11_westerly cX11_westerly 3 (some .int), Cond.methodLink RX11 262 yX11_isGleanerWord, Cond.instanceMethod yX11_isGleanerWord, Cond.selects RX11 yX11_isGleanerWord yX11_isGleanerWord, Cond.code yX11_isGleanerWord cX11_isGleanerWord 3 (some .boolean), Cond.methodLink RX11 265 yX11_takesGleaner, Cond.instanceMethod yX11_takesGleaner, Cond.selects RX11 yX11_takesGleaner yX11_takesGleaner, Cond.code yX11_takesGleaner cX11_takesGleaner 1 (some .boolean), Cond.methodLink RX11 92 yX11_layGleaner, Cond.static yX11_layGleaner, Cond.code yX11_layGleaner cX11_layGleaner 2 none]
def wsX11_read : List Cond := .code yX11_read cX11_read 3 (some .int) :: ((wsX11_read_r1 ++ (wsX11_read_r2 ++ (wsX11_read_r3 ++ wsX11_read_r4))) ++ wsX110)
def wsX11_part : List Cond := .code yX11_part cX11_part 2 (some .long) :: ([.fieldLink RX11 189 "GleanDuskModel" "above" "J", .fieldLink RX11 23 "GleanDuskModel" "below" "J", .methodLink RX11 73 yX11_bad, .instanceMethod yX11_bad, .selects RX11 yX11_bad yX11_bad, .initialized RX11, .code yX11_bad cX11_bad 2 (some .int), .fieldLink RX11 20 "GleanDuskModel" "refused" "[I"] ++ wsX110)
def wsX11_image : List Cond := .code yX11_image cX11_image 3 (some .int) :: ([.fieldLink RX11 13 "GleanDuskModel" "kept" "[I", .fieldLink RX11 7 "GleanDuskModel" "told" "[I", .fieldLink RX11 16 "GleanDuskModel" "isKept" "[Z", .methodLink RX11 56 yX11_in, .static yX11_in, .initialized RX11, .code yX11_in cX11_in 6 (some .boolean), .methodLink RX11 73 yX11_bad, .instanceMethod yX11_bad, .selects RX11 yX11_bad yX11_bad, .code yX11_bad cX11_bad 2 (some .int), .fieldLink RX11 20 "GleanDuskModel" "refused" "[I"] ++ wsX110)
def wsX11_from : List Cond := .code yX11_from cX11_from 3 (some .int) :: ([.fieldLink RX11 16 "GleanDuskModel" "isKept" "[Z", .fieldLink RX11 7 "GleanDuskModel" "told" "[I", .fieldLink RX11 13 "GleanDuskModel" "kept" "[I", .methodLink RX11 56 yX11_in, .static yX11_in, .initialized RX11, .code yX11_in cX11_in 6 (some .boolean), .methodLink RX11 73 yX11_bad, .instanceMethod yX11_bad, .selects RX11 yX11_bad yX11_bad, .code yX11_bad cX11_bad 2 (some .int), .fieldLink RX11 20 "GleanDuskModel" "refused" "[I", .methodLink RX11 119 yX11_no, .instanceMethod yX11_no, .selects RX11 yX11_no yX11_no, .code yX11_no cX11_no 1 (some .int)] ++ wsX110)
def wsX11_status : List Cond := .code yX11_status cX11_status 2 (some .int) :: ([.constantLong RX11 136 (2), .fieldLink RX11 20 "GleanDuskModel" "refused" "[I", .methodLink RX11 56 yX11_in, .static yX11_in, .initialized RX11, .code yX11_in cX11_in 6 (some .boolean), .methodLink RX11 73 yX11_bad, .instanceMethod yX11_bad, .selects RX11 yX11_bad yX11_bad, .code yX11_bad cX11_bad 2 (some .int)] ++ wsX110)
def wsX11_counted : List Cond := .code yX11_counted cX11_counted 2 (some .int) :: ([.fieldLink RX11 7 "GleanDuskModel" "told" "[I", .fieldLink RX11 210 "GleanDuskModel" "bytesLong" "I", .methodLink RX11 52 yX11_many, .instanceMethod yX11_many, .selects RX11 yX11_many yX11_many, .initialized RX11, .code yX11_many cX11_many 1 (some .int), .methodLink RX11 60 yX11_manyGleaners, .instanceMethod yX11_manyGleaners, .selects RX11 yX11_manyGleaners yX11_manyGleaners, .code yX11_manyGleaners cX11_manyGleaners 1 (some .int)] ++ wsX110)
def wsX11_count : List Cond := .code yX11_count cX11_count 2 (some .int) :: ([.constantLong RX11 274 (8), .methodLink RX11 56 yX11_in, .static yX11_in, .initialized RX11, .code yX11_in cX11_in 6 (some .boolean), .methodLink RX11 276 yX11_counted, .instanceMethod yX11_counted, .selects RX11 yX11_counted yX11_counted, .code yX11_counted cX11_counted 2 (some .int), .fieldLink RX11 7 "GleanDuskModel" "told" "[I", .fieldLink RX11 210 "GleanDuskModel" "bytesLong" "I", .methodLink RX11 52 yX11_many, .instanceMethod yX11_many, .selects RX11 yX11_many yX11_many, .code yX11_many cX11_many 1 (some .int), .methodLink RX11 60 yX11_manyGleaners, .instanceMethod yX11_manyGleaners, .selects RX11 yX11_manyGleaners yX11_manyGleaners, .code yX11_manyGleaners cX11_manyGleaners 1 (some .int), .methodLink RX11 73 yX11_bad, .instanceMethod yX11_bad, .selects RX11 yX11_bad yX11_bad, .code yX11_bad cX11_bad 2 (some .int), .fieldLink RX11 20 "GleanDuskModel" "refused" "[I"] ++ wsX110)
def wsX11_sums : List Cond := .code yX11_sums cX11_sums 8 (some .long) :: ([.constantLong RX11 279 (31), .fieldLink RX11 7 "GleanDuskModel" "told" "[I"] ++ wsX110)
def wsX11_digest : List Cond := .code yX11_digest cX11_digest 4 (some .long) :: ([.constantLong RX11 281 (1451), .constantLong RX11 279 (31), .fieldLink RX11 7 "GleanDuskModel" "told" "[I", .fieldLink RX11 189 "GleanDuskModel" "above" "J", .fieldLink RX11 23 "GleanDuskModel" "below" "J", .methodLink RX11 276 yX11_counted, .instanceMethod yX11_counted, .selects RX11 yX11_counted yX11_counted, .initialized RX11, .code yX11_counted cX11_counted 2 (some .int), .fieldLink RX11 210 "GleanDuskModel" "bytesLong" "I", .methodLink RX11 52 yX11_many, .instanceMethod yX11_many, .selects RX11 yX11_many yX11_many, .code yX11_many cX11_many 1 (some .int), .methodLink RX11 60 yX11_manyGleaners, .instanceMethod yX11_manyGleaners, .selects RX11 yX11_manyGleaners yX11_manyGleaners, .code yX11_manyGleaners cX11_manyGleaners 1 (some .int), .methodLink RX11 283 yX11_sums, .instanceMethod yX11_sums, .selects RX11 yX11_sums yX11_sums, .code yX11_sums cX11_sums 8 (some .long)] ++ wsX110)
def wsJ9_abs_0f7a4 : List Cond := .code yJ9_abs_0f7a4 cJ9_abs_0f7a4 1 (some .int) :: ([])
def wsJ9_max_7cf53 : List Cond := .code yJ9_max_7cf53 cJ9_max_7cf53 2 (some .int) :: ([])
def wsJ9_min_7cf53 : List Cond := .code yJ9_min_7cf53 cJ9_min_7cf53 2 (some .int) :: ([])
def wsL_law_r1 : List Cond := [Cond.classLink RL 7 RX10, Cond.instantiable RX10 12, Cond.initialized RX10, Cond.classLink RL 10 RX11, Cond.instantiable RX11 18, Cond.initialized RX11, Cond.methodLink RL 9 yX10_init, Cond.instanceMethod yX10_init, Cond.code yX10_init cX10_init 1 none, Cond.methodLink RX10 1 objectInit, Cond.instanceMethod objectInit, Cond.code objectInit ⟨#[0xb1]⟩ 1 none, Cond.classLink RX10 7 RX5, Cond.instantiable RX5 0, Cond.initialized RX5, Cond.classLink RX10 10 RX8, Cond.instantiable RX8 0, Cond.initialized RX8, Cond.classLink RX10 13 RX9, Cond.instantiable RX9 0, Cond.initialized RX9, Cond.classLink RX10 16 RX6, Cond.instantiable RX6 0, Cond.initialized RX6]
def wsL_law_r2 : List Cond := [Cond.classLink RX10 19 RX2, Cond.instantiable RX2 0, Cond.initialized RX2, Cond.classLink RX10 22 RX3, Cond.instantiable RX3 0, Cond.initialized RX3, Cond.fieldLink RX10 25 "GleanDusk" "kinds" "[LGleanDusk$Plain;", Cond.classLink RX10 31 RX4, Cond.instantiable RX4 11, Cond.initialized RX4, Cond.fieldLink RX10 36 "GleanDusk" "now" "LGleanDusk$Parish;", Cond.fieldLink RX10 40 "GleanDusk" "images" "[LGleanDusk$Parish;", Cond.arrayClass .boolean, Cond.fieldLink RX10 44 "GleanDusk" "kept" "[Z", Cond.classLink RX10 48 RX7, Cond.instantiable RX7 12, Cond.initialized RX7, Cond.fieldLink RX10 51 "GleanDusk" "text" "LGleanDusk$Text;", Cond.classLink RX10 55 RX1, Cond.instantiable RX1 6, Cond.initialized RX1, Cond.fieldLink RX10 58 "GleanDusk" "trial" "LGleanDusk$Dusk;", Cond.classLink RX10 62 RX0, Cond.instantiable RX0 3]
def wsL_law_r3 : List Cond := [Cond.initialized RX0, Cond.fieldLink RX10 65 "GleanDusk" "best" "LGleanDusk$Best;", Cond.arrayClass .int, Cond.fieldLink RX10 69 "GleanDusk" "shown" "[I", Cond.fieldLink RX10 73 "GleanDusk" "standing" "[I", Cond.fieldLink RX10 76 "GleanDusk" "refused" "[I", Cond.fieldLink RX10 79 "GleanDusk" "above" "I", Cond.fieldLink RX10 83 "GleanDusk" "below" "I", Cond.instanceMethod yX5_init, Cond.code yX5_init cX5_init 1 none, Cond.methodLink RX5 1 objectInit, Cond.instanceMethod yX8_init, Cond.code yX8_init cX8_init 1 none, Cond.instanceMethod yX9_init, Cond.code yX9_init cX9_init 1 none, Cond.instanceMethod yX6_init, Cond.code yX6_init cX6_init 1 none, Cond.instanceMethod yX2_init, Cond.code yX2_init cX2_init 1 none, Cond.instanceMethod yX3_init, Cond.code yX3_init cX3_init 1 none, Cond.methodLink RX10 33 yX4_init, Cond.instanceMethod yX4_init, Cond.code yX4_init cX4_init 3 none]
def wsL_law_r4 : List Cond := [Cond.methodLink RX4 3 objectInit, Cond.fieldLink RX4 9 "GleanDusk$Parish" "kind" "[I", Cond.classLink RX4 15 RX1, Cond.fieldLink RX4 18 "GleanDusk$Parish" "dusk" "LGleanDusk$Dusk;", Cond.fieldLink RX4 22 "GleanDusk$Parish" "earlier" "[LGleanDusk$Dusk;", Cond.classLink RX4 26 "[[I", Cond.fieldLink RX4 28 "GleanDusk$Parish" "missed" "[[I", Cond.fieldLink RX4 31 "GleanDusk$Parish" "notes" "[[I", Cond.fieldLink RX4 34 "GleanDusk$Parish" "kinds" "[LGleanDusk$Plain;", Cond.instanceMethod yX1_init, Cond.code yX1_init cX1_init 1 none, Cond.methodLink RX1 3 objectInit, Cond.fieldLink RX1 9 "GleanDusk$Dusk" "light" "[I", Cond.fieldLink RX1 15 "GleanDusk$Dusk" "at" "[I", Cond.fieldLink RX1 18 "GleanDusk$Dusk" "store" "[I", Cond.instanceMethod yX7_init, Cond.code yX7_init cX7_init 1 none, Cond.methodLink RX7 3 objectInit, Cond.arrayClass .byte, Cond.fieldLink RX7 9 "GleanDusk$Text" "bytes" "[B", Cond.fieldLink RX7 15 "GleanDusk$Text" "words" "[I", Cond.fieldLink RX7 19 "GleanDusk$Text" "first" "[I", Cond.fieldLink RX7 22 "GleanDusk$Text" "second" "[I", Cond.instanceMethod yX0_init]
def wsL_law_r5 : List Cond := [Cond.code yX0_init cX0_init 1 none, Cond.methodLink RX0 3 objectInit, Cond.fieldLink RX0 9 "GleanDusk$Best" "row" "[I", Cond.fieldLink RX0 15 "GleanDusk$Best" "first" "[I", Cond.methodLink RL 12 yX11_init, Cond.instanceMethod yX11_init, Cond.code yX11_init cX11_init 1 none, Cond.methodLink RX11 1 objectInit, Cond.fieldLink RX11 7 "GleanDuskModel" "told" "[I", Cond.fieldLink RX11 13 "GleanDuskModel" "kept" "[I", Cond.fieldLink RX11 16 "GleanDuskModel" "isKept" "[Z", Cond.fieldLink RX11 20 "GleanDuskModel" "refused" "[I", Cond.fieldLink RX11 23 "GleanDuskModel" "below" "J", Cond.fieldLink RX11 27 "GleanDuskModel" "hand" "[I", Cond.fieldLink RX11 30 "GleanDuskModel" "round0" "[I", Cond.fieldLink RX11 33 "GleanDuskModel" "bestRound" "[I", Cond.fieldLink RX11 36 "GleanDuskModel" "bestPlaces" "[I", Cond.fieldLink RX11 39 "GleanDuskModel" "bytes" "[I", Cond.fieldLink RX11 42 "GleanDuskModel" "anew" "[I", Cond.fieldLink RX11 45 "GleanDuskModel" "values" "[I", Cond.methodLink RX11 48 yX11_begin, Cond.static yX11_begin, Cond.code yX11_begin cX11_begin 3 none, Cond.methodLink RL 13 yX10_parish]
def wsL_law_r6 : List Cond := [Cond.instanceMethod yX10_parish, Cond.selects RX10 yX10_parish yX10_parish, Cond.code yX10_parish cX10_parish 3 (some .int), Cond.fieldLink RX10 94 "GleanDusk$Parish" "fields" "I", Cond.methodLink RX10 86 yX10_isBelow, Cond.static yX10_isBelow, Cond.code yX10_isBelow cX10_isBelow 2 (some .boolean), Cond.methodLink RX10 90 yX10_refuseBad, Cond.instanceMethod yX10_refuseBad, Cond.selects RX10 yX10_refuseBad yX10_refuseBad, Cond.code yX10_refuseBad cX10_refuseBad 1 (some .int), Cond.methodLink RX10 97 yX4_begin, Cond.instanceMethod yX4_begin, Cond.selects RX4 yX4_begin yX4_begin, Cond.code yX4_begin cX4_begin 2 none, Cond.fieldLink RX4 38 "GleanDusk$Parish" "fields" "I", Cond.fieldLink RX4 42 "GleanDusk$Parish" "gleaners" "I", Cond.fieldLink RX4 45 "GleanDusk$Parish" "undoable" "I", Cond.fieldLink RX4 48 "GleanDusk$Parish" "missedCount" "I", Cond.fieldLink RX4 51 "GleanDusk$Parish" "noteCount" "I", Cond.fieldLink RX4 54 "GleanDusk$Dusk" "step" "I", Cond.fieldLink RX4 57 "GleanDusk$Dusk" "cloud" "I", Cond.fieldLink RX4 60 "GleanDusk$Dusk" "number" "I", Cond.methodLink RL 17 yX11_parish]
def wsL_law_r7 : List Cond := [Cond.instanceMethod yX11_parish, Cond.selects RX11 yX11_parish yX11_parish, Cond.code yX11_parish cX11_parish 3 (some .int), Cond.methodLink RX11 69 yX11_isCloud, Cond.static yX11_isCloud, Cond.code yX11_isCloud cX11_isCloud 1 (some .boolean), Cond.constantLong RX11 65 (9), Cond.methodLink RX11 56 yX11_in, Cond.static yX11_in, Cond.code yX11_in cX11_in 6 (some .boolean), Cond.methodLink RX11 73 yX11_bad, Cond.instanceMethod yX11_bad, Cond.selects RX11 yX11_bad yX11_bad, Cond.code yX11_bad cX11_bad 2 (some .int), Cond.methodLink RX11 52 yX11_many, Cond.instanceMethod yX11_many, Cond.selects RX11 yX11_many yX11_many, Cond.code yX11_many cX11_many 1 (some .int), Cond.methodLink RL 18 yX10_field, Cond.instanceMethod yX10_field, Cond.selects RX10 yX10_field yX10_field, Cond.code yX10_field cX10_field 3 (some .int), Cond.methodLink RX10 101 yX10_isLight, Cond.static yX10_isLight]
def wsL_law_r8 : List Cond := [Cond.code yX10_isLight cX10_isLight 1 (some .boolean), Cond.methodLink RX10 147 yX10_isIn, Cond.static yX10_isIn, Cond.code yX10_isIn cX10_isIn 3 (some .boolean), Cond.methodLink RX10 105 yX10_refuseFull, Cond.instanceMethod yX10_refuseFull, Cond.selects RX10 yX10_refuseFull yX10_refuseFull, Cond.code yX10_refuseFull cX10_refuseFull 1 (some .int), Cond.methodLink RX10 108 yX4_addField, Cond.instanceMethod yX4_addField, Cond.selects RX4 yX4_addField yX4_addField, Cond.code yX4_addField cX4_addField 3 (some .int), Cond.fieldLink RX4 77 "GleanDusk$Dusk" "light" "[I", Cond.methodLink RL 22 yX11_field, Cond.instanceMethod yX11_field, Cond.selects RX11 yX11_field yX11_field, Cond.code yX11_field cX11_field 3 (some .int), Cond.constantLong RX11 77 (5), Cond.methodLink RX11 79 yX11_isLight, Cond.static yX11_isLight, Cond.code yX11_isLight cX11_isLight 1 (some .boolean), Cond.constantLong RX11 67 (60), Cond.methodLink RX11 82 yX11_full, Cond.instanceMethod yX11_full]
def wsL_law_r9 : List Cond := [Cond.selects RX11 yX11_full yX11_full, Cond.code yX11_full cX11_full 1 (some .int), Cond.methodLink RX11 85 yX11_layField, Cond.static yX11_layField, Cond.code yX11_layField cX11_layField 3 none, Cond.methodLink RL 23 yX10_gleaner, Cond.instanceMethod yX10_gleaner, Cond.selects RX10 yX10_gleaner yX10_gleaner, Cond.code yX10_gleaner cX10_gleaner 2 (some .int), Cond.fieldLink RX10 115 "GleanDusk$Parish" "gleaners" "I", Cond.methodLink RX10 112 yX4_hasField, Cond.instanceMethod yX4_hasField, Cond.selects RX4 yX4_hasField yX4_hasField, Cond.code yX4_hasField cX4_hasField 2 (some .boolean), Cond.methodLink RX10 118 yX4_addGleaner, Cond.instanceMethod yX4_addGleaner, Cond.selects RX4 yX4_addGleaner yX4_addGleaner, Cond.code yX4_addGleaner cX4_addGleaner 2 (some .int), Cond.fieldLink RX4 80 "GleanDusk$Dusk" "at" "[I", Cond.fieldLink RX4 83 "GleanDusk$Dusk" "store" "[I", Cond.methodLink RL 26 yX11_gleaner, Cond.instanceMethod yX11_gleaner, Cond.selects RX11 yX11_gleaner yX11_gleaner, Cond.code yX11_gleaner cX11_gleaner 2 (some .int)]
def wsL_law_r10 : List Cond := [Cond.methodLink RX11 89 yX11_isField, Cond.instanceMethod yX11_isField, Cond.selects RX11 yX11_isField yX11_isField, Cond.code yX11_isField cX11_isField 2 (some .boolean), Cond.methodLink RX11 60 yX11_manyGleaners, Cond.instanceMethod yX11_manyGleaners, Cond.selects RX11 yX11_manyGleaners yX11_manyGleaners, Cond.code yX11_manyGleaners cX11_manyGleaners 1 (some .int), Cond.methodLink RX11 92 yX11_layGleaner, Cond.static yX11_layGleaner, Cond.code yX11_layGleaner cX11_layGleaner 2 none, Cond.methodLink RL 27 yX10_type, Cond.instanceMethod yX10_type, Cond.selects RX10 yX10_type yX10_type, Cond.code yX10_type cX10_type 2 (some .int), Cond.fieldLink RX10 122 "GleanDusk$Text" "length" "I", Cond.methodLink RX10 125 yX7_append, Cond.instanceMethod yX7_append, Cond.selects RX7 yX7_append yX7_append, Cond.code yX7_append cX7_append 2 (some .int), Cond.fieldLink RX7 25 "GleanDusk$Text" "length" "I", Cond.methodLink RL 30 yX11_type, Cond.instanceMethod yX11_type, Cond.selects RX11 yX11_type yX11_type]
def wsL_law_r11 : List Cond := [Cond.code yX11_type cX11_type 2 (some .int), Cond.constantLong RX11 208 (127), Cond.fieldLink RX11 210 "GleanDuskModel" "bytesLong" "I", Cond.methodLink RL 31 yX10_clear, Cond.instanceMethod yX10_clear, Cond.selects RX10 yX10_clear yX10_clear, Cond.code yX10_clear cX10_clear 2 (some .int), Cond.methodLink RL 35 yX11_clear, Cond.instanceMethod yX11_clear, Cond.selects RX11 yX11_clear yX11_clear, Cond.code yX11_clear cX11_clear 2 (some .int), Cond.methodLink RL 36 yX10_read, Cond.instanceMethod yX10_read, Cond.selects RX10 yX10_read yX10_read, Cond.code yX10_read cX10_read 3 (some .int), Cond.fieldLink RX10 131 "GleanDusk$Text" "first" "[I", Cond.fieldLink RX10 134 "GleanDusk$Text" "words" "[I", Cond.fieldLink RX10 137 "GleanDusk$Text" "second" "[I", Cond.fieldLink RX10 140 "GleanDusk$Parish" "dusk" "LGleanDusk$Dusk;", Cond.methodLink RX10 128 yX7_parse, Cond.instanceMethod yX7_parse, Cond.selects RX7 yX7_parse yX7_parse, Cond.code yX7_parse cX7_parse 2 (some .int), Cond.fieldLink RX7 29 "GleanDusk$Text" "end" "I"]
def wsL_law_r12 : List Cond := [Cond.fieldLink RX7 32 "GleanDusk$Text" "fields" "I", Cond.fieldLink RX7 35 "GleanDusk$Text" "gleaners" "I", Cond.fieldLink RX7 38 "GleanDusk$Text" "steps" "I", Cond.fieldLink RX7 44 "GleanDusk$Text" "token" "I", Cond.fieldLink RX7 51 "GleanDusk$Text" "start" "I", Cond.methodLink RX7 41 yX7_advance, Cond.instanceMethod yX7_advance, Cond.selects RX7 yX7_advance yX7_advance, Cond.code yX7_advance cX7_advance 1 none, Cond.methodLink RX7 89 yX7_isLetter, Cond.static yX7_isLetter, Cond.code yX7_isLetter cX7_isLetter 1 (some .boolean), Cond.methodLink RX7 92 yX7_passWord, Cond.instanceMethod yX7_passWord, Cond.selects RX7 yX7_passWord yX7_passWord, Cond.code yX7_passWord cX7_passWord 1 none, Cond.methodLink RX7 95 yX7_isFigure, Cond.static yX7_isFigure, Cond.code yX7_isFigure cX7_isFigure 1 (some .boolean), Cond.methodLink RX7 98 yX7_passNumber, Cond.instanceMethod yX7_passNumber, Cond.selects RX7 yX7_passNumber yX7_passNumber, Cond.code yX7_passNumber cX7_passNumber 1 none, Cond.fieldLink RX7 62 "GleanDusk$Text" "number" "I"]
def wsL_law_r13 : List Cond := [Cond.methodLink RX7 101 yX7_passSign, Cond.instanceMethod yX7_passSign, Cond.selects RX7 yX7_passSign yX7_passSign, Cond.code yX7_passSign cX7_passSign 1 none, Cond.methodLink RX7 47 yX7_isItem, Cond.instanceMethod yX7_isItem, Cond.selects RX7 yX7_isItem yX7_isItem, Cond.code yX7_isItem cX7_isItem 4 (some .boolean), Cond.methodLink RX7 54 yX7_wordHere, Cond.instanceMethod yX7_wordHere, Cond.selects RX7 yX7_wordHere yX7_wordHere, Cond.code yX7_wordHere cX7_wordHere 1 (some .int), Cond.methodLink RX7 67 yX7_isWord, Cond.instanceMethod yX7_isWord, Cond.selects RX7 yX7_isWord yX7_isWord, Cond.code yX7_isWord cX7_isWord 3 (some .boolean), Cond.methodLink RX7 77 yJ0_length_8abf5, Cond.instanceMethod yJ0_length_8abf5, Cond.selects RJ0 yJ0_length_8abf5 yJ0_length_8abf5, Cond.initialized RJ0, Cond.code yJ0_length_8abf5 cJ0_length_8abf5 1 (some .int), Cond.fieldLink RJ0 9 "java/lang/String" "value" "[B", Cond.methodLink RJ0 335 yJ0_coder_7d493, Cond.instanceMethod yJ0_coder_7d493]
def wsL_law_r14 : List Cond := [Cond.selects RJ0 yJ0_coder_7d493 yJ0_coder_7d493, Cond.code yJ0_coder_7d493 cJ0_coder_7d493 1 (some .byte), Cond.fieldLink RJ0 38 "java/lang/String" "COMPACT_STRINGS" "Z", Cond.fieldLink RJ0 15 "java/lang/String" "coder" "B", Cond.methodLink RX7 81 yJ0_charAt_5068e, Cond.instanceMethod yJ0_charAt_5068e, Cond.selects RJ0 yJ0_charAt_5068e yJ0_charAt_5068e, Cond.code yJ0_charAt_5068e cJ0_charAt_5068e 2 (some .char), Cond.methodLink RJ0 492 yJ0_isLatin1_aae02, Cond.instanceMethod yJ0_isLatin1_aae02, Cond.selects RJ0 yJ0_isLatin1_aae02 yJ0_isLatin1_aae02, Cond.code yJ0_isLatin1_aae02 cJ0_isLatin1_aae02 1 (some .boolean), Cond.methodLink RJ0 495 yJ1_charAt_3b067, Cond.static yJ1_charAt_3b067, Cond.initialized RJ1, Cond.code yJ1_charAt_3b067 cJ1_charAt_3b067 2 (some .char), Cond.methodLink RJ1 9 yJ0_checkIndex_df160, Cond.static yJ0_checkIndex_df160, Cond.code yJ0_checkIndex_df160 cJ0_checkIndex_df160 2 none, Cond.fieldLink RJ0 1053 "jdk/internal/util/Preconditions" "SIOOBE_FORMATTER" "Ljava/util/function/BiFunction;", Cond.methodLink RJ0 1059 yJ3_checkIndex_8e157, Cond.static yJ3_checkIndex_8e157, Cond.initialized RJ3, Cond.code yJ3_checkIndex_8e157 cJ3_checkIndex_8e157 3 (some .int)]
def wsL_law_r15 : List Cond := [Cond.methodLink RJ0 498 yJ2_charAt_3b067, Cond.static yJ2_charAt_3b067, Cond.initialized RJ2, Cond.code yJ2_charAt_3b067 cJ2_charAt_3b067 2 (some .char), Cond.methodLink RJ2 67 yJ2_checkIndex_2214a, Cond.static yJ2_checkIndex_2214a, Cond.code yJ2_checkIndex_2214a cJ2_checkIndex_2214a 2 none, Cond.methodLink RJ2 48 yJ2_length_9d52b, Cond.static yJ2_length_9d52b, Cond.code yJ2_length_9d52b cJ2_length_9d52b 1 (some .int), Cond.methodLink RJ2 414 yJ0_checkIndex_df160, Cond.methodLink RJ2 71 yJ2_getChar_3b067, Cond.static yJ2_getChar_3b067, Cond.code yJ2_getChar_3b067 cJ2_getChar_3b067 2 (some .char), Cond.fieldLink RJ2 44 "java/lang/StringUTF16" "$assertionsDisabled" "Z", Cond.fieldLink RJ2 59 "java/lang/StringUTF16" "HI_BYTE_SHIFT" "I", Cond.fieldLink RJ2 63 "java/lang/StringUTF16" "LO_BYTE_SHIFT" "I", Cond.methodLink RX7 58 yX7_takes, Cond.instanceMethod yX7_takes, Cond.selects RX7 yX7_takes yX7_takes, Cond.code yX7_takes cX7_takes 5 (some .boolean), Cond.methodLink RX10 143 yX4_gather, Cond.instanceMethod yX4_gather, Cond.selects RX4 yX4_gather yX4_gather]
def wsL_law_r16 : List Cond := [Cond.code yX4_gather cX4_gather 6 (some .int), Cond.methodLink RX4 103 yX4_share, Cond.instanceMethod yX4_share, Cond.selects RX4 yX4_share yX4_share, Cond.code yX4_share cX4_share 4 (some .int), Cond.methodLink RX4 95 yX4_crowd, Cond.instanceMethod yX4_crowd, Cond.selects RX4 yX4_crowd yX4_crowd, Cond.code yX4_crowd cX4_crowd 5 (some .int), Cond.methodLink RX4 99 yX4_shows, Cond.instanceMethod yX4_shows, Cond.selects RX4 yX4_shows yX4_shows, Cond.code yX4_shows cX4_shows 4 (some .int), Cond.methodLink RX4 89 ⟨"GleanDusk$Plain", "sight", "(III)I"⟩, Cond.sameMethod "GleanDusk$Plain" "GleanDusk$Plain" "sight" "(III)I", Cond.instanceMethod ⟨"GleanDusk$Plain", "sight", "(III)I"⟩, Cond.selects RX2 ⟨"GleanDusk$Plain", "sight", "(III)I"⟩ yX2_sight, Cond.instanceMethod yX2_sight, Cond.code yX2_sight cX2_sight 4 (some .int), Cond.methodLink RX2 7 Lib.Math.max.name, Cond.static Lib.Math.max.name, Cond.initialized "java/lang/Math", Cond.code Lib.Math.max.name Lib.Math.max.code 2 (some .int), Cond.methodLink RX2 13 yX8_sight]
def wsL_law_r17 : List Cond := [Cond.sameMethod "GleanDusk$West" "GleanDusk$West" "sight" "(III)I", Cond.superclass RX2 RX8, Cond.instanceMethod yX8_sight, Cond.code yX8_sight cX8_sight 5 (some .int), Cond.methodLink RX8 7 yX5_sight, Cond.superclass RX8 RX5, Cond.instanceMethod yX5_sight, Cond.code yX5_sight cX5_sight 4 (some .int), Cond.methodLink RX5 7 Lib.Math.max.name, Cond.selects RX3 ⟨"GleanDusk$Plain", "sight", "(III)I"⟩ yX3_sight, Cond.instanceMethod yX3_sight, Cond.code yX3_sight cX3_sight 4 (some .int), Cond.methodLink RX3 7 yX9_sight, Cond.sameMethod "GleanDusk$Wood" "GleanDusk$Wood" "sight" "(III)I", Cond.superclass RX3 RX9, Cond.instanceMethod yX9_sight, Cond.code yX9_sight cX9_sight 4 (some .int), Cond.methodLink RX9 7 yX5_sight, Cond.superclass RX9 RX5, Cond.methodLink RX4 89 yX5_sight, Cond.selects RX5 yX5_sight yX5_sight, Cond.selects RX6 ⟨"GleanDusk$Plain", "sight", "(III)I"⟩ yX6_sight, Cond.instanceMethod yX6_sight, Cond.code yX6_sight cX6_sight 4 (some .int)]
def wsL_law_r18 : List Cond := [Cond.methodLink RX6 11 Lib.Math.min.name, Cond.static Lib.Math.min.name, Cond.code Lib.Math.min.name Lib.Math.min.code 2 (some .int), Cond.methodLink RX6 7 yX5_sight, Cond.superclass RX6 RX5, Cond.selects RX8 ⟨"GleanDusk$Plain", "sight", "(III)I"⟩ yX8_sight, Cond.selects RX9 ⟨"GleanDusk$Plain", "sight", "(III)I"⟩ yX9_sight, Cond.methodLink RX4 106 yX4_give, Cond.instanceMethod yX4_give, Cond.selects RX4 yX4_give yX4_give, Cond.code yX4_give cX4_give 6 (some .int), Cond.methodLink RX4 109 Lib.Math.min.name, Cond.methodLink RX4 115 Lib.Math.max.name, Cond.methodLink RL 39 yX11_read, Cond.instanceMethod yX11_read, Cond.selects RX11 yX11_read yX11_read, Cond.code yX11_read cX11_read 3 (some .int), Cond.fieldLink RX11 222 "GleanDuskModel" "tokenAt" "I", Cond.fieldLink RX11 228 "GleanDuskModel" "token" "I", Cond.methodLink RX11 240 yX11_lookAt, Cond.instanceMethod yX11_lookAt, Cond.selects RX11 yX11_lookAt yX11_lookAt, Cond.code yX11_lookAt cX11_lookAt 5 none, Cond.fieldLink RX11 225 "GleanDuskModel" "tokenLong" "I"]
def wsL_law_r19 : List Cond := [Cond.fieldLink RX11 231 "GleanDuskModel" "value" "I", Cond.methodLink RX11 234 yX11_isSmall, Cond.static yX11_isSmall, Cond.code yX11_isSmall cX11_isSmall 1 (some .boolean), Cond.constantLong RX11 214 (97), Cond.constantLong RX11 216 (122), Cond.methodLink RX11 237 yX11_isFigure, Cond.static yX11_isFigure, Cond.code yX11_isFigure cX11_isFigure 1 (some .boolean), Cond.constantLong RX11 218 (48), Cond.constantLong RX11 220 (57), Cond.methodLink RX11 268 yX11_takesParish, Cond.instanceMethod yX11_takesParish, Cond.selects RX11 yX11_takesParish yX11_takesParish, Cond.code yX11_takesParish cX11_takesParish 1 (some .boolean), Cond.methodLink RX11 247 yX11_spells, Cond.instanceMethod yX11_spells, Cond.selects RX11 yX11_spells yX11_spells, Cond.code yX11_spells cX11_spells 10 (some .boolean), Cond.methodLink RX11 244 yX11_goBehind, Cond.instanceMethod yX11_goBehind, Cond.selects RX11 yX11_goBehind yX11_goBehind, Cond.code yX11_goBehind cX11_goBehind 1 none, Cond.methodLink RX11 251 yX11_takes]
def wsL_law_r20 : List Cond := [Cond.instanceMethod yX11_takes, Cond.selects RX11 yX11_takes yX11_takes, Cond.code yX11_takes cX11_takes 4 (some .boolean), Cond.methodLink RX11 271 yX11_takesItem, Cond.instanceMethod yX11_takesItem, Cond.selects RX11 yX11_takesItem yX11_takesItem, Cond.code yX11_takesItem cX11_takesItem 1 (some .boolean), Cond.methodLink RX11 255 yX11_takesField, Cond.instanceMethod yX11_takesField, Cond.selects RX11 yX11_takesField yX11_takesField, Cond.code yX11_takesField cX11_takesField 1 (some .boolean), Cond.methodLink RX11 259 yX11_takesGlean, Cond.instanceMethod yX11_takesGlean, Cond.selects RX11 yX11_takesGlean yX11_takesGlean, Cond.code yX11_takesGlean cX11_takesGlean 3 (some .boolean), Cond.methodLink RX11 125 yX11_goStep, Cond.static yX11_goStep, Cond.code yX11_goStep cX11_goStep 7 (some .int), Cond.methodLink RX11 110 yX11_manyOn, Cond.static yX11_manyOn, Cond.code yX11_manyOn cX11_manyOn 4 (some .int), Cond.methodLink RX11 106 yX11_seenOn, Cond.static yX11_seenOn, Cond.code yX11_seenOn cX11_seenOn 3 (some .int)]
def wsL_law_r21 : List Cond := [Cond.methodLink RX11 102 yX11_seenAs, Cond.static yX11_seenAs, Cond.code yX11_seenAs cX11_seenAs 5 (some .int), Cond.methodLink RX11 95 yX11_plainly, Cond.static yX11_plainly, Cond.code yX11_plainly cX11_plainly 4 (some .int), Cond.methodLink RX11 99 yX11_westerly, Cond.static yX11_westerly, Cond.code yX11_westerly cX11_westerly 3 (some .int), Cond.methodLink RX11 262 yX11_isGleanerWord, Cond.instanceMethod yX11_isGleanerWord, Cond.selects RX11 yX11_isGleanerWord yX11_isGleanerWord, Cond.code yX11_isGleanerWord cX11_isGleanerWord 3 (some .boolean), Cond.methodLink RX11 265 yX11_takesGleaner, Cond.instanceMethod yX11_takesGleaner, Cond.selects RX11 yX11_takesGleaner yX11_takesGleaner, Cond.code yX11_takesGleaner cX11_takesGleaner 1 (some .boolean), Cond.methodLink RL 40 yX10_glean, Cond.instanceMethod yX10_glean, Cond.selects RX10 yX10_glean yX10_glean, Cond.code yX10_glean cX10_glean 2 (some .int), Cond.fieldLink RX10 151 "GleanDusk$Dusk" "step" "I", Cond.methodLink RX10 154 yX10_refuseNo, Cond.instanceMethod yX10_refuseNo]
def wsL_law_r22 : List Cond := [Cond.selects RX10 yX10_refuseNo yX10_refuseNo, Cond.code yX10_refuseNo cX10_refuseNo 1 (some .int), Cond.methodLink RX10 157 yX4_remember, Cond.instanceMethod yX4_remember, Cond.selects RX4 yX4_remember yX4_remember, Cond.code yX4_remember cX4_remember 1 none, Cond.methodLink RX4 86 yX4_dropOldest, Cond.instanceMethod yX4_dropOldest, Cond.selects RX4 yX4_dropOldest yX4_dropOldest, Cond.code yX4_dropOldest cX4_dropOldest 3 none, Cond.methodLink RX4 69 yX1_become, Cond.instanceMethod yX1_become, Cond.selects RX1 yX1_become yX1_become, Cond.code yX1_become cX1_become 2 none, Cond.methodLink RX1 21 arraycopyName, Cond.native arraycopyName, Cond.static arraycopyName, Cond.initialized "java/lang/System", Cond.fieldLink RX1 27 "GleanDusk$Dusk" "step" "I", Cond.fieldLink RX1 31 "GleanDusk$Dusk" "cloud" "I", Cond.fieldLink RX1 34 "GleanDusk$Dusk" "number" "I", Cond.methodLink RL 43 yX11_glean, Cond.instanceMethod yX11_glean, Cond.selects RX11 yX11_glean yX11_glean]
def wsL_law_r23 : List Cond := [Cond.code yX11_glean cX11_glean 4 (some .int), Cond.constantLong RX11 117 (12), Cond.methodLink RX11 119 yX11_no, Cond.instanceMethod yX11_no, Cond.selects RX11 yX11_no yX11_no, Cond.code yX11_no cX11_no 1 (some .int), Cond.methodLink RX11 122 yX11_keep, Cond.instanceMethod yX11_keep, Cond.selects RX11 yX11_keep yX11_keep, Cond.code yX11_keep cX11_keep 2 none, Cond.methodLink RL 44 yX10_night, Cond.instanceMethod yX10_night, Cond.selects RX10 yX10_night yX10_night, Cond.code yX10_night cX10_night 1 (some .int), Cond.fieldLink RX10 164 "GleanDusk$Dusk" "number" "I", Cond.methodLink RX10 160 yX4_fade, Cond.instanceMethod yX4_fade, Cond.selects RX4 yX4_fade yX4_fade, Cond.code yX4_fade cX4_fade 3 none, Cond.static yX10_faded, Cond.code yX10_faded cX10_faded 1 (some .int), Cond.methodLink RL 47 yX11_night, Cond.instanceMethod yX11_night, Cond.selects RX11 yX11_night yX11_night]
def wsL_law_r24 : List Cond := [Cond.code yX11_night cX11_night 1 (some .int), Cond.methodLink RX11 129 yX11_goNight, Cond.static yX11_goNight, Cond.code yX11_goNight cX11_goNight 3 none, Cond.methodLink RX11 114 yX11_fadedBy, Cond.static yX11_fadedBy, Cond.code yX11_fadedBy cX11_fadedBy 1 (some .int), Cond.methodLink RL 48 yX10_goes, Cond.instanceMethod yX10_goes, Cond.selects RX10 yX10_goes yX10_goes, Cond.code yX10_goes cX10_goes 4 (some .int), Cond.fieldLink RX10 170 "GleanDusk$Dusk" "at" "[I", Cond.methodLink RX10 167 yX4_hasGleaner, Cond.instanceMethod yX4_hasGleaner, Cond.selects RX4 yX4_hasGleaner yX4_hasGleaner, Cond.code yX4_hasGleaner cX4_hasGleaner 2 (some .boolean), Cond.methodLink RL 51 yX11_goes, Cond.instanceMethod yX11_goes, Cond.selects RX11 yX11_goes yX11_goes, Cond.code yX11_goes cX11_goes 4 (some .int), Cond.methodLink RX11 133 yX11_isGleaner, Cond.instanceMethod yX11_isGleaner, Cond.selects RX11 yX11_isGleaner yX11_isGleaner, Cond.code yX11_isGleaner cX11_isGleaner 2 (some .boolean)]
def wsL_law_r25 : List Cond := [Cond.methodLink RL 52 yX10_cloud, Cond.instanceMethod yX10_cloud, Cond.selects RX10 yX10_cloud yX10_cloud, Cond.code yX10_cloud cX10_cloud 3 (some .int), Cond.fieldLink RX10 173 "GleanDusk$Dusk" "cloud" "I", Cond.methodLink RL 55 yX11_cloud, Cond.instanceMethod yX11_cloud, Cond.selects RX11 yX11_cloud yX11_cloud, Cond.code yX11_cloud cX11_cloud 3 (some .int), Cond.methodLink RL 56 yX10_undo, Cond.instanceMethod yX10_undo, Cond.selects RX10 yX10_undo yX10_undo, Cond.code yX10_undo cX10_undo 1 (some .int), Cond.fieldLink RX10 176 "GleanDusk$Parish" "undoable" "I", Cond.methodLink RX10 179 yX4_goBack, Cond.instanceMethod yX4_goBack, Cond.selects RX4 yX4_goBack yX4_goBack, Cond.code yX4_goBack cX4_goBack 1 none, Cond.methodLink RL 59 yX11_undo, Cond.instanceMethod yX11_undo, Cond.selects RX11 yX11_undo yX11_undo, Cond.code yX11_undo cX11_undo 2 (some .int), Cond.methodLink RL 60 yX10_of, Cond.instanceMethod yX10_of]
def wsL_law_r26 : List Cond := [Cond.selects RX10 yX10_of yX10_of, Cond.code yX10_of cX10_of 3 (some .int), Cond.fieldLink RX10 182 "GleanDusk$Parish" "kind" "[I", Cond.fieldLink RX10 185 "GleanDusk$Dusk" "light" "[I", Cond.methodLink RX10 188 yX4_whoIsOn, Cond.instanceMethod yX4_whoIsOn, Cond.selects RX4 yX4_whoIsOn yX4_whoIsOn, Cond.code yX4_whoIsOn cX4_whoIsOn 4 (some .int), Cond.methodLink RL 63 yX11_of, Cond.instanceMethod yX11_of, Cond.selects RX11 yX11_of yX11_of, Cond.code yX11_of cX11_of 3 (some .int), Cond.constantLong RX11 136 (2), Cond.methodLink RX11 138 yX11_whoIsOn, Cond.instanceMethod yX11_whoIsOn, Cond.selects RX11 yX11_whoIsOn yX11_whoIsOn, Cond.code yX11_whoIsOn cX11_whoIsOn 4 (some .int), Cond.methodLink RL 64 yX10_about, Cond.instanceMethod yX10_about, Cond.selects RX10 yX10_about yX10_about, Cond.code yX10_about cX10_about 3 (some .int), Cond.fieldLink RX10 191 "GleanDusk$Dusk" "store" "[I", Cond.methodLink RX10 194 yX4_share, Cond.methodLink RL 67 yX11_about]
def wsL_law_r27 : List Cond := [Cond.instanceMethod yX11_about, Cond.selects RX11 yX11_about yX11_about, Cond.code yX11_about cX11_about 3 (some .int), Cond.methodLink RX11 141 yX11_getsOne, Cond.static yX11_getsOne, Cond.code yX11_getsOne cX11_getsOne 2 (some .int), Cond.methodLink RL 68 yX10_seen, Cond.instanceMethod yX10_seen, Cond.selects RX10 yX10_seen yX10_seen, Cond.code yX10_seen cX10_seen 3 (some .int), Cond.methodLink RX10 197 yX4_shows, Cond.methodLink RL 71 yX11_seen, Cond.instanceMethod yX11_seen, Cond.selects RX11 yX11_seen yX11_seen, Cond.code yX11_seen cX11_seen 3 (some .int), Cond.methodLink RX11 144 yX11_isStep, Cond.static yX11_isStep, Cond.code yX11_isStep cX11_isStep 1 (some .boolean), Cond.constantLong RX11 63 (11), Cond.methodLink RL 72 yX10_then, Cond.instanceMethod yX10_then, Cond.selects RX10 yX10_then yX10_then, Cond.code yX10_then cX10_then 3 (some .int), Cond.methodLink RX10 204 Lib.Math.min.name]
def wsL_law_r28 : List Cond := [Cond.methodLink RX10 201 yX1_become, Cond.methodLink RL 75 yX11_then, Cond.instanceMethod yX11_then, Cond.selects RX11 yX11_then yX11_then, Cond.code yX11_then cX11_then 5 (some .int), Cond.methodLink RX11 147 yX11_layHand, Cond.instanceMethod yX11_layHand, Cond.selects RX11 yX11_layHand yX11_layHand, Cond.code yX11_layHand cX11_layHand 2 none, Cond.methodLink RL 76 yX10_round, Cond.instanceMethod yX10_round, Cond.selects RX10 yX10_round yX10_round, Cond.code yX10_round cX10_round 4 (some .int), Cond.fieldLink RX10 218 "GleanDusk$Best" "most" "I", Cond.fieldLink RX10 221 "GleanDusk$Best" "first" "[I", Cond.methodLink RX10 209 yX10_refuseTen, Cond.instanceMethod yX10_refuseTen, Cond.selects RX10 yX10_refuseTen yX10_refuseTen, Cond.code yX10_refuseTen cX10_refuseTen 1 (some .int), Cond.methodLink RX10 212 yX0_begin, Cond.instanceMethod yX0_begin, Cond.selects RX0 yX0_begin yX0_begin, Cond.code yX0_begin cX0_begin 1 none, Cond.fieldLink RX0 18 "GleanDusk$Best" "most" "I"]
def wsL_law_r29 : List Cond := [Cond.methodLink RX10 214 yX10_roam, Cond.instanceMethod yX10_roam, Cond.selects RX10 yX10_roam yX10_roam, Cond.code yX10_roam cX10_roam 6 none, Cond.fieldLink RX10 309 "GleanDusk$Best" "row" "[I", Cond.methodLink RX10 305 yX0_offer, Cond.instanceMethod yX0_offer, Cond.selects RX0 yX0_offer yX0_offer, Cond.code yX0_offer cX0_offer 3 none, Cond.methodLink RX0 22 Lib.Math.min.name, Cond.methodLink RX0 28 arraycopyName, Cond.methodLink RX10 312 yX10_stay, Cond.instanceMethod yX10_stay, Cond.selects RX10 yX10_stay yX10_stay, Cond.code yX10_stay cX10_stay 7 none, Cond.methodLink RX10 315 Lib.Math.max.name, Cond.methodLink RL 80 yX11_round, Cond.instanceMethod yX11_round, Cond.selects RX11 yX11_round yX11_round, Cond.code yX11_round cX11_round 8 (some .int), Cond.constantLong RX11 153 (6), Cond.methodLink RX11 150 yX11_powerOfThree, Cond.static yX11_powerOfThree, Cond.code yX11_powerOfThree cX11_powerOfThree 3 (some .int)]
def wsL_law_r30 : List Cond := [Cond.methodLink RX11 155 yX11_roundBy, Cond.instanceMethod yX11_roundBy, Cond.selects RX11 yX11_roundBy yX11_roundBy, Cond.code yX11_roundBy cX11_roundBy 10 (some .int), Cond.methodLink RL 81 yX10_places, Cond.instanceMethod yX10_places, Cond.selects RX10 yX10_places yX10_places, Cond.code yX10_places cX10_places 3 (some .int), Cond.methodLink RX10 222 yX10_showAll, Cond.instanceMethod yX10_showAll, Cond.selects RX10 yX10_showAll yX10_showAll, Cond.code yX10_showAll cX10_showAll 3 none, Cond.methodLink RX10 225 yX10_settle, Cond.instanceMethod yX10_settle, Cond.selects RX10 yX10_settle yX10_settle, Cond.code yX10_settle cX10_settle 5 none, Cond.methodLink RX10 318 yX10_allGet, Cond.instanceMethod yX10_allGet, Cond.selects RX10 yX10_allGet yX10_allGet, Cond.code yX10_allGet cX10_allGet 3 (some .int), Cond.methodLink RX10 321 yX10_poorestGets, Cond.instanceMethod yX10_poorestGets, Cond.selects RX10 yX10_poorestGets yX10_poorestGets, Cond.code yX10_poorestGets cX10_poorestGets 3 (some .int)]
def wsL_law_r31 : List Cond := [Cond.constant RX10 324 (2147483647), Cond.methodLink RL 84 yX11_places, Cond.instanceMethod yX11_places, Cond.selects RX11 yX11_places yX11_places, Cond.code yX11_places cX11_places 8 (some .int), Cond.constantLong RX11 159 (-1), Cond.methodLink RX11 161 yX11_placesBy, Cond.instanceMethod yX11_placesBy, Cond.selects RX11 yX11_placesBy yX11_placesBy, Cond.code yX11_placesBy cX11_placesBy 8 (some .int), Cond.constant RX11 158 (1000000), Cond.methodLink RL 85 yX10_which, Cond.instanceMethod yX10_which, Cond.selects RX10 yX10_which yX10_which, Cond.code yX10_which cX10_which 4 (some .int), Cond.methodLink RL 88 yX11_which, Cond.instanceMethod yX11_which, Cond.selects RX11 yX11_which yX11_which, Cond.code yX11_which cX11_which 4 (some .int), Cond.methodLink RL 89 yX10_lasts, Cond.instanceMethod yX10_lasts, Cond.selects RX10 yX10_lasts yX10_lasts, Cond.code yX10_lasts cX10_lasts 5 (some .int), Cond.methodLink RX10 229 yX10_faded]
def wsL_law_r32 : List Cond := [Cond.methodLink RL 92 yX11_lasts, Cond.instanceMethod yX11_lasts, Cond.selects RX11 yX11_lasts yX11_lasts, Cond.code yX11_lasts cX11_lasts 5 (some .int), Cond.constantLong RX11 165 (999), Cond.methodLink RL 93 yX10_enough, Cond.instanceMethod yX10_enough, Cond.selects RX10 yX10_enough yX10_enough, Cond.code yX10_enough cX10_enough 5 (some .int), Cond.methodLink RX10 232 yJ6_bitCount_0f7a4, Cond.static yJ6_bitCount_0f7a4, Cond.initialized RJ6, Cond.code yJ6_bitCount_0f7a4 cJ6_bitCount_0f7a4 1 (some .int), Cond.constant RJ6 265 (1431655765), Cond.constant RJ6 266 (858993459), Cond.constant RJ6 267 (252645135), Cond.methodLink RX10 237 yX4_storesOf, Cond.instanceMethod yX4_storesOf, Cond.selects RX4 yX4_storesOf yX4_storesOf, Cond.code yX4_storesOf cX4_storesOf 4 (some .int), Cond.methodLink RL 96 yX11_enough, Cond.instanceMethod yX11_enough, Cond.selects RX11 yX11_enough yX11_enough, Cond.code yX11_enough cX11_enough 6 (some .int)]
def wsL_law_r33 : List Cond := [Cond.methodLink RX11 167 yX11_has, Cond.static yX11_has, Cond.code yX11_has cX11_has 2 (some .boolean), Cond.methodLink RX11 171 yX11_bits, Cond.static yX11_bits, Cond.code yX11_bits cX11_bits 3 (some .int), Cond.methodLink RL 97 yX10_missed, Cond.instanceMethod yX10_missed, Cond.selects RX10 yX10_missed yX10_missed, Cond.code yX10_missed cX10_missed 5 (some .int), Cond.fieldLink RX10 240 "GleanDusk$Parish" "missedCount" "I", Cond.methodLink RX10 243 yX4_addMissed, Cond.instanceMethod yX4_addMissed, Cond.selects RX4 yX4_addMissed yX4_addMissed, Cond.code yX4_addMissed cX4_addMissed 6 (some .int), Cond.methodLink RL 101 yX11_missed, Cond.instanceMethod yX11_missed, Cond.selects RX11 yX11_missed yX11_missed, Cond.code yX11_missed cX11_missed 6 (some .int), Cond.methodLink RL 102 yX10_clouds, Cond.instanceMethod yX10_clouds, Cond.selects RX10 yX10_clouds yX10_clouds, Cond.code yX10_clouds cX10_clouds 3 (some .int), Cond.methodLink RX10 247 yX4_missedFit]
def wsL_law_r34 : List Cond := [Cond.instanceMethod yX4_missedFit, Cond.selects RX4 yX4_missedFit yX4_missedFit, Cond.code yX4_missedFit cX4_missedFit 4 (some .boolean), Cond.methodLink RL 105 yX11_clouds, Cond.instanceMethod yX11_clouds, Cond.selects RX11 yX11_clouds yX11_clouds, Cond.code yX11_clouds cX11_clouds 6 (some .int), Cond.methodLink RL 106 yX10_note, Cond.instanceMethod yX10_note, Cond.selects RX10 yX10_note yX10_note, Cond.code yX10_note cX10_note 6 (some .int), Cond.fieldLink RX10 250 "GleanDusk$Parish" "noteCount" "I", Cond.methodLink RX10 253 yX4_addNote, Cond.instanceMethod yX4_addNote, Cond.selects RX4 yX4_addNote yX4_addNote, Cond.code yX4_addNote cX4_addNote 7 (some .int), Cond.methodLink RL 110 yX11_note, Cond.instanceMethod yX11_note, Cond.selects RX11 yX11_note yX11_note, Cond.code yX11_note cX11_note 7 (some .int), Cond.constantLong RX11 174 (99), Cond.methodLink RL 111 yX10_forget, Cond.instanceMethod yX10_forget, Cond.selects RX10 yX10_forget yX10_forget]
def wsL_law_r35 : List Cond := [Cond.code yX10_forget cX10_forget 3 (some .int), Cond.methodLink RL 114 yX11_forget, Cond.instanceMethod yX11_forget, Cond.selects RX11 yX11_forget yX11_forget, Cond.code yX11_forget cX11_forget 3 (some .int), Cond.methodLink RL 115 yX10_is, Cond.instanceMethod yX10_is, Cond.selects RX10 yX10_is yX10_is, Cond.code yX10_is cX10_is 2 (some .int), Cond.methodLink RX10 257 yX4_kindsThatFit, Cond.instanceMethod yX4_kindsThatFit, Cond.selects RX4 yX4_kindsThatFit yX4_kindsThatFit, Cond.code yX4_kindsThatFit cX4_kindsThatFit 4 (some .int), Cond.methodLink RX4 122 yX4_notesFit, Cond.instanceMethod yX4_notesFit, Cond.selects RX4 yX4_notesFit yX4_notesFit, Cond.code yX4_notesFit cX4_notesFit 5 (some .boolean), Cond.methodLink RL 118 yX11_is, Cond.instanceMethod yX11_is, Cond.selects RX11 yX11_is yX11_is, Cond.code yX11_is cX11_is 2 (some .int), Cond.methodLink RX11 176 yX11_kindsOf, Cond.instanceMethod yX11_kindsOf, Cond.selects RX11 yX11_kindsOf yX11_kindsOf]
def wsL_law_r36 : List Cond := [Cond.code yX11_kindsOf cX11_kindsOf 7 (some .int), Cond.methodLink RL 119 yX10_look, Cond.instanceMethod yX10_look, Cond.selects RX10 yX10_look yX10_look, Cond.code yX10_look cX10_look 8 (some .int), Cond.methodLink RX10 260 yX10_mostAlike, Cond.instanceMethod yX10_mostAlike, Cond.selects RX10 yX10_mostAlike yX10_mostAlike, Cond.code yX10_mostAlike cX10_mostAlike 10 (some .int), Cond.methodLink RX10 325 ⟨"GleanDusk$Plain", "sight", "(III)I"⟩, Cond.methodLink RX10 325 yX5_sight, Cond.methodLink RL 122 yX11_look, Cond.instanceMethod yX11_look, Cond.selects RX11 yX11_look yX11_look, Cond.code yX11_look cX11_look 11 (some .int), Cond.methodLink RL 123 yX10_two, Cond.instanceMethod yX10_two, Cond.selects RX10 yX10_two yX10_two, Cond.code yX10_two cX10_two 7 (some .int), Cond.methodLink RX10 263 yX10_staysPut, Cond.instanceMethod yX10_staysPut, Cond.selects RX10 yX10_staysPut yX10_staysPut, Cond.code yX10_staysPut cX10_staysPut 6 (some .boolean), Cond.methodLink RX10 329 yX10_worth]
def wsL_law_r37 : List Cond := [Cond.instanceMethod yX10_worth, Cond.selects RX10 yX10_worth yX10_worth, Cond.code yX10_worth cX10_worth 5 (some .int), Cond.methodLink RX10 332 Lib.Math.abs.name, Cond.static Lib.Math.abs.name, Cond.code Lib.Math.abs.name Lib.Math.abs.code 1 (some .int), Cond.methodLink RL 126 yX11_two, Cond.instanceMethod yX11_two, Cond.selects RX11 yX11_two yX11_two, Cond.code yX11_two cX11_two 8 (some .int), Cond.methodLink RX11 185 yX11_rests, Cond.instanceMethod yX11_rests, Cond.selects RX11 yX11_rests yX11_rests, Cond.code yX11_rests cX11_rests 7 (some .boolean), Cond.methodLink RX11 182 yX11_hasBy, Cond.instanceMethod yX11_hasBy, Cond.selects RX11 yX11_hasBy yX11_hasBy, Cond.code yX11_hasBy cX11_hasBy 5 (some .int), Cond.methodLink RX11 179 yX11_distance, Cond.static yX11_distance, Cond.code yX11_distance cX11_distance 2 (some .int), Cond.methodLink RL 127 yX10_rains, Cond.instanceMethod yX10_rains, Cond.selects RX10 yX10_rains yX10_rains]
def wsL_law_r38 : List Cond := [Cond.code yX10_rains cX10_rains 7 (some .int), Cond.methodLink RX10 266 yX10_commonDivisor, Cond.static yX10_commonDivisor, Cond.code yX10_commonDivisor cX10_commonDivisor 6 (some .int), Cond.methodLink RL 130 yX11_rains, Cond.instanceMethod yX11_rains, Cond.selects RX11 yX11_rains yX11_rains, Cond.code yX11_rains cX11_rains 3 (some .int), Cond.constantLong RX11 192 (10), Cond.methodLink RX11 194 yX11_fraction, Cond.instanceMethod yX11_fraction, Cond.selects RX11 yX11_fraction yX11_fraction, Cond.code yX11_fraction cX11_fraction 11 none, Cond.fieldLink RX11 189 "GleanDuskModel" "above" "J", Cond.methodLink RL 131 yX10_summers, Cond.instanceMethod yX10_summers, Cond.selects RX10 yX10_summers yX10_summers, Cond.code yX10_summers cX10_summers 7 (some .int), Cond.constant RX10 269 (1000000), Cond.constantLong RX10 270 (1103515245), Cond.constantLong RX10 272 (12345), Cond.constantLong RX10 274 (2147483648), Cond.constantLong RX10 276 (65536), Cond.constantLong RX10 278 (10)]
def wsL_law_r39 : List Cond := [Cond.methodLink RL 134 yX11_summers, Cond.instanceMethod yX11_summers, Cond.selects RX11 yX11_summers yX11_summers, Cond.code yX11_summers cX11_summers 7 (some .int), Cond.constantLong RX11 198 (999999), Cond.constantLong RX11 200 (1103515245), Cond.constantLong RX11 202 (12345), Cond.constantLong RX11 204 (2147483648), Cond.constantLong RX11 206 (65536), Cond.methodLink RL 135 yX10_part, Cond.instanceMethod yX10_part, Cond.selects RX10 yX10_part yX10_part, Cond.code yX10_part cX10_part 2 (some .long), Cond.methodLink RL 139 yX11_part, Cond.instanceMethod yX11_part, Cond.selects RX11 yX11_part yX11_part, Cond.code yX11_part cX11_part 2 (some .long), Cond.methodLink RL 140 yX10_image, Cond.instanceMethod yX10_image, Cond.selects RX10 yX10_image yX10_image, Cond.code yX10_image cX10_image 2 (some .int), Cond.methodLink RX10 280 yX4_become, Cond.instanceMethod yX4_become, Cond.selects RX4 yX4_become yX4_become]
def wsL_law_r40 : List Cond := [Cond.code yX4_become cX4_become 3 none, Cond.methodLink RX4 63 arraycopyName, Cond.methodLink RL 143 yX11_image, Cond.instanceMethod yX11_image, Cond.selects RX11 yX11_image yX11_image, Cond.code yX11_image cX11_image 3 (some .int), Cond.methodLink RL 144 yX10_from, Cond.instanceMethod yX10_from, Cond.selects RX10 yX10_from yX10_from, Cond.code yX10_from cX10_from 2 (some .int), Cond.methodLink RL 147 yX11_from, Cond.instanceMethod yX11_from, Cond.selects RX11 yX11_from yX11_from, Cond.code yX11_from cX11_from 3 (some .int), Cond.methodLink RL 148 yX10_status, Cond.instanceMethod yX10_status, Cond.selects RX10 yX10_status yX10_status, Cond.code yX10_status cX10_status 2 (some .int), Cond.methodLink RL 151 yX11_status, Cond.instanceMethod yX11_status, Cond.selects RX11 yX11_status yX11_status, Cond.code yX11_status cX11_status 2 (some .int), Cond.methodLink RL 152 yX10_count, Cond.instanceMethod yX10_count]
def wsL_law_r41 : List Cond := [Cond.selects RX10 yX10_count yX10_count, Cond.code yX10_count cX10_count 2 (some .int), Cond.methodLink RX10 283 yX10_howMany, Cond.instanceMethod yX10_howMany, Cond.selects RX10 yX10_howMany yX10_howMany, Cond.code yX10_howMany cX10_howMany 2 (some .int), Cond.methodLink RL 155 yX11_count, Cond.instanceMethod yX11_count, Cond.selects RX11 yX11_count yX11_count, Cond.code yX11_count cX11_count 2 (some .int), Cond.constantLong RX11 274 (8), Cond.methodLink RX11 276 yX11_counted, Cond.instanceMethod yX11_counted, Cond.selects RX11 yX11_counted yX11_counted, Cond.code yX11_counted cX11_counted 2 (some .int), Cond.methodLink RL 156 yX10_digest, Cond.instanceMethod yX10_digest, Cond.selects RX10 yX10_digest yX10_digest, Cond.code yX10_digest cX10_digest 4 (some .long), Cond.constantLong RX10 286 (1451), Cond.fieldLink RX10 292 "GleanDusk$Parish" "missed" "[[I", Cond.fieldLink RX10 300 "GleanDusk$Parish" "notes" "[[I", Cond.methodLink RX10 288 yX10_mix, Cond.static yX10_mix]
def wsL_law_r42 : List Cond := [Cond.code yX10_mix cX10_mix 4 (some .long), Cond.constantLong RX10 303 (31), Cond.methodLink RX10 296 yX10_mixRow, Cond.static yX10_mixRow, Cond.code yX10_mixRow cX10_mixRow 9 (some .long), Cond.methodLink RL 160 yX11_digest, Cond.instanceMethod yX11_digest, Cond.selects RX11 yX11_digest yX11_digest, Cond.code yX11_digest cX11_digest 4 (some .long), Cond.constantLong RX11 281 (1451), Cond.constantLong RX11 279 (31), Cond.methodLink RX11 283 yX11_sums, Cond.instanceMethod yX11_sums, Cond.selects RX11 yX11_sums yX11_sums, Cond.code yX11_sums cX11_sums 8 (some .long)]
def wsL_law : List Cond := (wsL_law_r1 ++ (wsL_law_r2 ++ (wsL_law_r3 ++ (wsL_law_r4 ++ (wsL_law_r5 ++ (wsL_law_r6 ++ (wsL_law_r7 ++ (wsL_law_r8 ++ (wsL_law_r9 ++ (wsL_law_r10 ++ (wsL_law_r11 ++ (wsL_law_r12 ++ (wsL_law_r13 ++ (wsL_law_r14 ++ (wsL_law_r15 ++ (wsL_law_r16 ++ (wsL_law_r17 ++ (wsL_law_r18 ++ (wsL_law_r19 ++ (wsL_law_r20 ++ (wsL_law_r21 ++ (wsL_law_r22 ++ (wsL_law_r23 ++ (wsL_law_r24 ++ (wsL_law_r25 ++ (wsL_law_r26 ++ (wsL_law_r27 ++ (wsL_law_r28 ++ (wsL_law_r29 ++ (wsL_law_r30 ++ (wsL_law_r31 ++ (wsL_law_r32 ++ (wsL_law_r33 ++ (wsL_law_r34 ++ (wsL_law_r35 ++ (wsL_law_r36 ++ (wsL_law_r37 ++ (wsL_law_r38 ++ (wsL_law_r39 ++ (wsL_law_r40 ++ (wsL_law_r41 ++ wsL_law_r42))))))))))))))))))))))))))))))))))))))))) ++ wsX100 ++ wsX110 ++ wsX50 ++ wsX80 ++ wsX90 ++ wsX60 ++ wsX20 ++ wsX30 ++ wsX40 ++ wsX70 ++ wsX10 ++ wsX00 ++ ([] : List Cond)
theorem dX0_init_0 : decode cX0_init 0 = .ok (.aload_n 0, 1) := by decide +kernel
theorem dX0_init_1 : decode cX0_init 1 = .ok (.invokespecial 3, 3) := by decide +kernel
theorem dX0_init_4 : decode cX0_init 4 = .ok (.aload_n 0, 1) := by decide +kernel
theorem dX0_init_5 : decode cX0_init 5 = .ok (.bipush 6, 2) := by decide +kernel
theorem dX0_init_7 : decode cX0_init 7 = .ok (.newarray .int, 2) := by decide +kernel
theorem dX0_init_9 : decode cX0_init 9 = .ok (.putfield 9, 3) := by decide +kernel
theorem dX0_init_12 : decode cX0_init 12 = .ok (.aload_n 0, 1) := by decide +kernel
theorem dX0_init_13 : decode cX0_init 13 = .ok (.bipush 6, 2) := by decide +kernel
theorem dX0_init_15 : decode cX0_init 15 = .ok (.newarray .int, 2) := by decide +kernel
theorem dX0_init_17 : decode cX0_init 17 = .ok (.putfield 15, 3) := by decide +kernel
theorem dX0_init_20 : decode cX0_init 20 = .ok (.return_, 1) := by decide +kernel
theorem dX1_init_0 : decode cX1_init 0 = .ok (.aload_n 0, 1) := by decide +kernel
theorem dX1_init_1 : decode cX1_init 1 = .ok (.invokespecial 3, 3) := by decide +kernel
theorem dX1_init_4 : decode cX1_init 4 = .ok (.aload_n 0, 1) := by decide +kernel
theorem dX1_init_5 : decode cX1_init 5 = .ok (.bipush 6, 2) := by decide +kernel
theorem dX1_init_7 : decode cX1_init 7 = .ok (.newarray .int, 2) := by decide +kernel
end
section
theorem dX1_init_9 : decode cX1_init 9 = .ok (.putfield 9, 3) := by decide +kernel
theorem dX1_init_12 : decode cX1_init 12 = .ok (.aload_n 0, 1) := by decide +kernel
theorem dX1_init_13 : decode cX1_init 13 = .ok (.iconst 5, 1) := by decide +kernel
theorem dX1_init_14 : decode cX1_init 14 = .ok (.newarray .int, 2) := by decide +kernel
theorem dX1_init_16 : decode cX1_init 16 = .ok (.putfield 15, 3) := by decide +kernel
theorem dX1_init_19 : decode cX1_init 19 = .ok (.aload_n 0, 1) := by decide +kernel
theorem dX1_init_20 : decode cX1_init 20 = .ok (.iconst 5, 1) := by decide +kernel
theorem dX1_init_21 : decode cX1_init 21 = .ok (.newarray .int, 2) := by decide +kernel
theorem dX1_init_23 : decode cX1_init 23 = .ok (.putfield 18, 3) := by decide +kernel
theorem dX1_init_26 : decode cX1_init 26 = .ok (.return_, 1) := by decide +kernel
theorem dX1_become_0 : decode cX1_become 0 = .ok (.aload_n 1, 1) := by decide +kernel
theorem dX1_become_1 : decode cX1_become 1 = .ok (.getfield 9, 3) := by decide +kernel
theorem dX1_become_4 : decode cX1_become 4 = .ok (.iconst 0, 1) := by decide +kernel
theorem dX1_become_5 : decode cX1_become 5 = .ok (.aload_n 0, 1) := by decide +kernel
theorem dX1_become_6 : decode cX1_become 6 = .ok (.getfield 9, 3) := by decide +kernel
theorem dX1_become_9 : decode cX1_become 9 = .ok (.iconst 0, 1) := by decide +kernel
theorem dX1_become_10 : decode cX1_become 10 = .ok (.bipush 6, 2) := by decide +kernel
theorem dX1_become_12 : decode cX1_become 12 = .ok (.invokestatic 21, 3) := by decide +kernel
theorem dX1_become_15 : decode cX1_become 15 = .ok (.aload_n 1, 1) := by decide +kernel
theorem dX1_become_16 : decode cX1_become 16 = .ok (.getfield 15, 3) := by decide +kernel
theorem dX1_become_19 : decode cX1_become 19 = .ok (.iconst 0, 1) := by decide +kernel
theorem dX1_become_20 : decode cX1_become 20 = .ok (.aload_n 0, 1) := by decide +kernel
theorem dX1_become_21 : decode cX1_become 21 = .ok (.getfield 15, 3) := by decide +kernel
theorem dX1_become_24 : decode cX1_become 24 = .ok (.iconst 0, 1) := by decide +kernel
theorem dX1_become_25 : decode cX1_become 25 = .ok (.iconst 5, 1) := by decide +kernel
theorem dX1_become_26 : decode cX1_become 26 = .ok (.invokestatic 21, 3) := by decide +kernel
theorem dX1_become_29 : decode cX1_become 29 = .ok (.aload_n 1, 1) := by decide +kernel
theorem dX1_become_30 : decode cX1_become 30 = .ok (.getfield 18, 3) := by decide +kernel
theorem dX1_become_33 : decode cX1_become 33 = .ok (.iconst 0, 1) := by decide +kernel
theorem dX1_become_34 : decode cX1_become 34 = .ok (.aload_n 0, 1) := by decide +kernel
theorem dX1_become_35 : decode cX1_become 35 = .ok (.getfield 18, 3) := by decide +kernel
theorem dX1_become_38 : decode cX1_become 38 = .ok (.iconst 0, 1) := by decide +kernel
theorem dX1_become_39 : decode cX1_become 39 = .ok (.iconst 5, 1) := by decide +kernel
theorem dX1_become_40 : decode cX1_become 40 = .ok (.invokestatic 21, 3) := by decide +kernel
theorem dX1_become_43 : decode cX1_become 43 = .ok (.aload_n 0, 1) := by decide +kernel
theorem dX1_become_44 : decode cX1_become 44 = .ok (.aload_n 1, 1) := by decide +kernel
theorem dX1_become_45 : decode cX1_become 45 = .ok (.getfield 27, 3) := by decide +kernel
theorem dX1_become_48 : decode cX1_become 48 = .ok (.putfield 27, 3) := by decide +kernel
theorem dX1_become_51 : decode cX1_become 51 = .ok (.aload_n 0, 1) := by decide +kernel
theorem dX1_become_52 : decode cX1_become 52 = .ok (.aload_n 1, 1) := by decide +kernel
theorem dX1_become_53 : decode cX1_become 53 = .ok (.getfield 31, 3) := by decide +kernel
theorem dX1_become_56 : decode cX1_become 56 = .ok (.putfield 31, 3) := by decide +kernel
theorem dX1_become_59 : decode cX1_become 59 = .ok (.aload_n 0, 1) := by decide +kernel
theorem dX1_become_60 : decode cX1_become 60 = .ok (.aload_n 1, 1) := by decide +kernel
theorem dX1_become_61 : decode cX1_become 61 = .ok (.getfield 34, 3) := by decide +kernel
theorem dX1_become_64 : decode cX1_become 64 = .ok (.putfield 34, 3) := by decide +kernel
theorem dX1_become_67 : decode cX1_become 67 = .ok (.return_, 1) := by decide +kernel
set_option maxRecDepth 20000 in
theorem ggX2_init_X8_init : GoodIn wsX2_init wsX8_init := goodIn_r _ [3, 4, 5, 6, 7, 8, 9] (by decide +kernel) (by decide +kernel)
set_option maxRecDepth 20000 in
theorem gX2_init_X8_init_n1 : GoodIn wsX2_init (wsX8_init) := ggX2_init_X8_init
theorem dX2_init_0 : decode cX2_init 0 = .ok (.aload_n 0, 1) := by decide +kernel
theorem dX2_init_1 : decode cX2_init 1 = .ok (.invokespecial 1, 3) := by decide +kernel
theorem dX2_init_4 : decode cX2_init 4 = .ok (.return_, 1) := by decide +kernel
set_option maxRecDepth 20000 in
theorem ggX3_init_X9_init : GoodIn wsX3_init wsX9_init := goodIn_r _ [3, 4, 5, 6, 7, 8, 9] (by decide +kernel) (by decide +kernel)
set_option maxRecDepth 20000 in
theorem gX3_init_X9_init_n1 : GoodIn wsX3_init (wsX9_init) := ggX3_init_X9_init
theorem dX3_init_0 : decode cX3_init 0 = .ok (.aload_n 0, 1) := by decide +kernel
theorem dX3_init_1 : decode cX3_init 1 = .ok (.invokespecial 1, 3) := by decide +kernel
theorem dX3_init_4 : decode cX3_init 4 = .ok (.return_, 1) := by decide +kernel
set_option maxRecDepth 20000 in
theorem ggX4_init_X1_init : GoodIn wsX4_init wsX1_init := goodIn_r _ [16, 17, 2, 3, 4, 18, 19, 20, 32, 33, 34, 35, 36, 37] (by decide +kernel) (by decide +kernel)
set_option maxRecDepth 20000 in
theorem gX4_init_X1_init_n17 : GoodIn wsX4_init (wsX1_init) := ggX4_init_X1_init
theorem dX4_init_0 : decode cX4_init 0 = .ok (.aload_n 0, 1) := by decide +kernel
theorem dX4_init_1 : decode cX4_init 1 = .ok (.invokespecial 3, 3) := by decide +kernel
theorem dX4_init_4 : decode cX4_init 4 = .ok (.aload_n 0, 1) := by decide +kernel
theorem dX4_init_5 : decode cX4_init 5 = .ok (.bipush 6, 2) := by decide +kernel
theorem dX4_init_7 : decode cX4_init 7 = .ok (.newarray .int, 2) := by decide +kernel
theorem dX4_init_9 : decode cX4_init 9 = .ok (.putfield 9, 3) := by decide +kernel
theorem dX4_init_12 : decode cX4_init 12 = .ok (.aload_n 0, 1) := by decide +kernel
theorem dX4_init_13 : decode cX4_init 13 = .ok (.new 15, 3) := by decide +kernel
theorem dX4_init_16 : decode cX4_init 16 = .ok (.dup, 1) := by decide +kernel
theorem dX4_init_17 : decode cX4_init 17 = .ok (.invokespecial 17, 3) := by decide +kernel
theorem dX4_init_20 : decode cX4_init 20 = .ok (.putfield 18, 3) := by decide +kernel
theorem dX4_init_23 : decode cX4_init 23 = .ok (.aload_n 0, 1) := by decide +kernel
theorem dX4_init_24 : decode cX4_init 24 = .ok (.bipush 8, 2) := by decide +kernel
theorem dX4_init_26 : decode cX4_init 26 = .ok (.anewarray 15, 3) := by decide +kernel
theorem dX4_init_29 : decode cX4_init 29 = .ok (.putfield 22, 3) := by decide +kernel
theorem dX4_init_32 : decode cX4_init 32 = .ok (.aload_n 0, 1) := by decide +kernel
theorem dX4_init_33 : decode cX4_init 33 = .ok (.iconst 4, 1) := by decide +kernel
theorem dX4_init_34 : decode cX4_init 34 = .ok (.iconst 4, 1) := by decide +kernel
theorem dX4_init_35 : decode cX4_init 35 = .ok (.multianewarray 26 2, 4) := by decide +kernel
theorem dX4_init_39 : decode cX4_init 39 = .ok (.putfield 28, 3) := by decide +kernel
theorem dX4_init_42 : decode cX4_init 42 = .ok (.aload_n 0, 1) := by decide +kernel
theorem dX4_init_43 : decode cX4_init 43 = .ok (.bipush 6, 2) := by decide +kernel
theorem dX4_init_45 : decode cX4_init 45 = .ok (.iconst 5, 1) := by decide +kernel
theorem dX4_init_46 : decode cX4_init 46 = .ok (.multianewarray 26 2, 4) := by decide +kernel
theorem dX4_init_50 : decode cX4_init 50 = .ok (.putfield 31, 3) := by decide +kernel
theorem dX4_init_53 : decode cX4_init 53 = .ok (.aload_n 0, 1) := by decide +kernel
theorem dX4_init_54 : decode cX4_init 54 = .ok (.aload_n 1, 1) := by decide +kernel
theorem dX4_init_55 : decode cX4_init 55 = .ok (.putfield 34, 3) := by decide +kernel
theorem dX4_init_58 : decode cX4_init 58 = .ok (.iconst 0, 1) := by decide +kernel
theorem dX4_init_59 : decode cX4_init 59 = .ok (.istore_n 2, 1) := by decide +kernel
theorem dX4_init_60 : decode cX4_init 60 = .ok (.iload_n 2, 1) := by decide +kernel
theorem dX4_init_61 : decode cX4_init 61 = .ok (.bipush 8, 2) := by decide +kernel
theorem dX4_init_63 : decode cX4_init 63 = .ok (.if_icmp .ge 22, 3) := by decide +kernel
theorem dX4_init_66 : decode cX4_init 66 = .ok (.aload_n 0, 1) := by decide +kernel
theorem dX4_init_67 : decode cX4_init 67 = .ok (.getfield 22, 3) := by decide +kernel
theorem dX4_init_70 : decode cX4_init 70 = .ok (.iload_n 2, 1) := by decide +kernel
theorem dX4_init_71 : decode cX4_init 71 = .ok (.new 15, 3) := by decide +kernel
theorem dX4_init_74 : decode cX4_init 74 = .ok (.dup, 1) := by decide +kernel
theorem dX4_init_75 : decode cX4_init 75 = .ok (.invokespecial 17, 3) := by decide +kernel
theorem dX4_init_78 : decode cX4_init 78 = .ok (.aastore, 1) := by decide +kernel
theorem dX4_init_79 : decode cX4_init 79 = .ok (.iinc 2 1, 3) := by decide +kernel
theorem dX4_init_82 : decode cX4_init 82 = .ok (.goto (-22), 3) := by decide +kernel
theorem dX4_init_85 : decode cX4_init 85 = .ok (.return_, 1) := by decide +kernel
theorem dX4_begin_0 : decode cX4_begin 0 = .ok (.aload_n 0, 1) := by decide +kernel
theorem dX4_begin_1 : decode cX4_begin 1 = .ok (.iconst 0, 1) := by decide +kernel
theorem dX4_begin_2 : decode cX4_begin 2 = .ok (.putfield 38, 3) := by decide +kernel
theorem dX4_begin_5 : decode cX4_begin 5 = .ok (.aload_n 0, 1) := by decide +kernel
theorem dX4_begin_6 : decode cX4_begin 6 = .ok (.iconst 0, 1) := by decide +kernel
theorem dX4_begin_7 : decode cX4_begin 7 = .ok (.putfield 42, 3) := by decide +kernel
theorem dX4_begin_10 : decode cX4_begin 10 = .ok (.aload_n 0, 1) := by decide +kernel
theorem dX4_begin_11 : decode cX4_begin 11 = .ok (.iconst 0, 1) := by decide +kernel
theorem dX4_begin_12 : decode cX4_begin 12 = .ok (.putfield 45, 3) := by decide +kernel
theorem dX4_begin_15 : decode cX4_begin 15 = .ok (.aload_n 0, 1) := by decide +kernel
theorem dX4_begin_16 : decode cX4_begin 16 = .ok (.iconst 0, 1) := by decide +kernel
theorem dX4_begin_17 : decode cX4_begin 17 = .ok (.putfield 48, 3) := by decide +kernel
theorem dX4_begin_20 : decode cX4_begin 20 = .ok (.aload_n 0, 1) := by decide +kernel
theorem dX4_begin_21 : decode cX4_begin 21 = .ok (.iconst 0, 1) := by decide +kernel
theorem dX4_begin_22 : decode cX4_begin 22 = .ok (.putfield 51, 3) := by decide +kernel
theorem dX4_begin_25 : decode cX4_begin 25 = .ok (.aload_n 0, 1) := by decide +kernel
theorem dX4_begin_26 : decode cX4_begin 26 = .ok (.getfield 18, 3) := by decide +kernel
theorem dX4_begin_29 : decode cX4_begin 29 = .ok (.iconst 0, 1) := by decide +kernel
theorem dX4_begin_30 : decode cX4_begin 30 = .ok (.putfield 54, 3) := by decide +kernel
theorem dX4_begin_33 : decode cX4_begin 33 = .ok (.aload_n 0, 1) := by decide +kernel
theorem dX4_begin_34 : decode cX4_begin 34 = .ok (.getfield 18, 3) := by decide +kernel
theorem dX4_begin_37 : decode cX4_begin 37 = .ok (.iload_n 1, 1) := by decide +kernel
theorem dX4_begin_38 : decode cX4_begin 38 = .ok (.putfield 57, 3) := by decide +kernel
theorem dX4_begin_41 : decode cX4_begin 41 = .ok (.aload_n 0, 1) := by decide +kernel
theorem dX4_begin_42 : decode cX4_begin 42 = .ok (.getfield 18, 3) := by decide +kernel
theorem dX4_begin_45 : decode cX4_begin 45 = .ok (.iconst 0, 1) := by decide +kernel
theorem dX4_begin_46 : decode cX4_begin 46 = .ok (.putfield 60, 3) := by decide +kernel
theorem dX4_begin_49 : decode cX4_begin 49 = .ok (.return_, 1) := by decide +kernel
set_option maxRecDepth 20000 in
theorem ggX4_become_X1_become : GoodIn wsX4_become wsX1_become := goodIn_r _ [19, 20, 21, 3, 4, 5, 22, 23, 24, 25, 26, 38, 39, 40, 41, 42, 43] (by decide +kernel) (by decide +kernel)
set_option maxRecDepth 20000 in
theorem gX4_become_X1_become : GoodIn wsX4_become (wsV RX4 69 RX1 yX1_become wsX1_become) := goodIn_app (goodIn_of _ (by decide +kernel)) ggX4_become_X1_become
theorem dX4_become_0 : decode cX4_become 0 = .ok (.aload_n 1, 1) := by decide +kernel
theorem dX4_become_1 : decode cX4_become 1 = .ok (.getfield 9, 3) := by decide +kernel
theorem dX4_become_4 : decode cX4_become 4 = .ok (.iconst 0, 1) := by decide +kernel
theorem dX4_become_5 : decode cX4_become 5 = .ok (.aload_n 0, 1) := by decide +kernel
theorem dX4_become_6 : decode cX4_become 6 = .ok (.getfield 9, 3) := by decide +kernel
theorem dX4_become_9 : decode cX4_become 9 = .ok (.iconst 0, 1) := by decide +kernel
theorem dX4_become_10 : decode cX4_become 10 = .ok (.bipush 6, 2) := by decide +kernel
theorem dX4_become_12 : decode cX4_become 12 = .ok (.invokestatic 63, 3) := by decide +kernel
theorem dX4_become_15 : decode cX4_become 15 = .ok (.aload_n 0, 1) := by decide +kernel
theorem dX4_become_16 : decode cX4_become 16 = .ok (.getfield 18, 3) := by decide +kernel
theorem dX4_become_19 : decode cX4_become 19 = .ok (.aload_n 1, 1) := by decide +kernel
theorem dX4_become_20 : decode cX4_become 20 = .ok (.getfield 18, 3) := by decide +kernel
theorem dX4_become_23 : decode cX4_become 23 = .ok (.invokevirtual 69, 3) := by decide +kernel
theorem dX4_become_26 : decode cX4_become 26 = .ok (.iconst 0, 1) := by decide +kernel
theorem dX4_become_27 : decode cX4_become 27 = .ok (.istore_n 2, 1) := by decide +kernel
theorem dX4_become_28 : decode cX4_become 28 = .ok (.iload_n 2, 1) := by decide +kernel
theorem dX4_become_29 : decode cX4_become 29 = .ok (.aload_n 1, 1) := by decide +kernel
theorem dX4_become_30 : decode cX4_become 30 = .ok (.getfield 45, 3) := by decide +kernel
theorem dX4_become_33 : decode cX4_become 33 = .ok (.if_icmp .ge 24, 3) := by decide +kernel
theorem dX4_become_57 : decode cX4_become 57 = .ok (.iconst 0, 1) := by decide +kernel
theorem dX4_become_58 : decode cX4_become 58 = .ok (.istore_n 2, 1) := by decide +kernel
theorem dX4_become_59 : decode cX4_become 59 = .ok (.iload_n 2, 1) := by decide +kernel
theorem dX4_become_60 : decode cX4_become 60 = .ok (.aload_n 1, 1) := by decide +kernel
theorem dX4_become_61 : decode cX4_become 61 = .ok (.getfield 48, 3) := by decide +kernel
theorem dX4_become_64 : decode cX4_become 64 = .ok (.if_icmp .ge 27, 3) := by decide +kernel
theorem dX4_become_91 : decode cX4_become 91 = .ok (.iconst 0, 1) := by decide +kernel
theorem dX4_become_92 : decode cX4_become 92 = .ok (.istore_n 2, 1) := by decide +kernel
theorem dX4_become_93 : decode cX4_become 93 = .ok (.iload_n 2, 1) := by decide +kernel
theorem dX4_become_94 : decode cX4_become 94 = .ok (.aload_n 1, 1) := by decide +kernel
theorem dX4_become_95 : decode cX4_become 95 = .ok (.getfield 51, 3) := by decide +kernel
theorem dX4_become_98 : decode cX4_become 98 = .ok (.if_icmp .ge 27, 3) := by decide +kernel
theorem dX4_become_125 : decode cX4_become 125 = .ok (.aload_n 0, 1) := by decide +kernel
theorem dX4_become_126 : decode cX4_become 126 = .ok (.aload_n 1, 1) := by decide +kernel
theorem dX4_become_127 : decode cX4_become 127 = .ok (.getfield 38, 3) := by decide +kernel
theorem dX4_become_130 : decode cX4_become 130 = .ok (.putfield 38, 3) := by decide +kernel
theorem dX4_become_133 : decode cX4_become 133 = .ok (.aload_n 0, 1) := by decide +kernel
theorem dX4_become_134 : decode cX4_become 134 = .ok (.aload_n 1, 1) := by decide +kernel
theorem dX4_become_135 : decode cX4_become 135 = .ok (.getfield 42, 3) := by decide +kernel
theorem dX4_become_138 : decode cX4_become 138 = .ok (.putfield 42, 3) := by decide +kernel
theorem dX4_become_141 : decode cX4_become 141 = .ok (.aload_n 0, 1) := by decide +kernel
theorem dX4_become_142 : decode cX4_become 142 = .ok (.aload_n 1, 1) := by decide +kernel
theorem dX4_become_143 : decode cX4_become 143 = .ok (.getfield 45, 3) := by decide +kernel
theorem dX4_become_146 : decode cX4_become 146 = .ok (.putfield 45, 3) := by decide +kernel
theorem dX4_become_149 : decode cX4_become 149 = .ok (.aload_n 0, 1) := by decide +kernel
theorem dX4_become_150 : decode cX4_become 150 = .ok (.aload_n 1, 1) := by decide +kernel
theorem dX4_become_151 : decode cX4_become 151 = .ok (.getfield 48, 3) := by decide +kernel
theorem dX4_become_154 : decode cX4_become 154 = .ok (.putfield 48, 3) := by decide +kernel
theorem dX4_become_157 : decode cX4_become 157 = .ok (.aload_n 0, 1) := by decide +kernel
theorem dX4_become_158 : decode cX4_become 158 = .ok (.aload_n 1, 1) := by decide +kernel
theorem dX4_become_159 : decode cX4_become 159 = .ok (.getfield 51, 3) := by decide +kernel
theorem dX4_become_162 : decode cX4_become 162 = .ok (.putfield 51, 3) := by decide +kernel
theorem dX4_become_165 : decode cX4_become 165 = .ok (.return_, 1) := by decide +kernel
set_option maxRecDepth 20000 in
theorem ggX4_hasField_X10_isBelow : GoodIn wsX4_hasField wsX10_isBelow := goodIn_r _ [4] (by decide +kernel) (by decide +kernel)
set_option maxRecDepth 20000 in
theorem gX4_hasField_X10_isBelow_n73 : GoodIn wsX4_hasField (wsX10_isBelow) := ggX4_hasField_X10_isBelow
theorem dX4_hasField_0 : decode cX4_hasField 0 = .ok (.iload_n 1, 1) := by decide +kernel
theorem dX4_hasField_1 : decode cX4_hasField 1 = .ok (.aload_n 0, 1) := by decide +kernel
theorem dX4_hasField_2 : decode cX4_hasField 2 = .ok (.getfield 38, 3) := by decide +kernel
theorem dX4_hasField_5 : decode cX4_hasField 5 = .ok (.invokestatic 73, 3) := by decide +kernel
theorem dX4_hasField_8 : decode cX4_hasField 8 = .ok (.ireturn, 1) := by decide +kernel
set_option maxRecDepth 20000 in
theorem ggX4_hasGleaner_X10_isBelow : GoodIn wsX4_hasGleaner wsX10_isBelow := goodIn_r _ [4] (by decide +kernel) (by decide +kernel)
set_option maxRecDepth 20000 in
theorem gX4_hasGleaner_X10_isBelow_n73 : GoodIn wsX4_hasGleaner (wsX10_isBelow) := ggX4_hasGleaner_X10_isBelow
theorem dX4_hasGleaner_0 : decode cX4_hasGleaner 0 = .ok (.iload_n 1, 1) := by decide +kernel
theorem dX4_hasGleaner_1 : decode cX4_hasGleaner 1 = .ok (.aload_n 0, 1) := by decide +kernel
theorem dX4_hasGleaner_2 : decode cX4_hasGleaner 2 = .ok (.getfield 42, 3) := by decide +kernel
theorem dX4_hasGleaner_5 : decode cX4_hasGleaner 5 = .ok (.invokestatic 73, 3) := by decide +kernel
theorem dX4_hasGleaner_8 : decode cX4_hasGleaner 8 = .ok (.ireturn, 1) := by decide +kernel
theorem dX4_addField_0 : decode cX4_addField 0 = .ok (.aload_n 0, 1) := by decide +kernel
theorem dX4_addField_1 : decode cX4_addField 1 = .ok (.getfield 9, 3) := by decide +kernel
theorem dX4_addField_4 : decode cX4_addField 4 = .ok (.aload_n 0, 1) := by decide +kernel
theorem dX4_addField_5 : decode cX4_addField 5 = .ok (.getfield 38, 3) := by decide +kernel
theorem dX4_addField_8 : decode cX4_addField 8 = .ok (.iload_n 1, 1) := by decide +kernel
theorem dX4_addField_9 : decode cX4_addField 9 = .ok (.iastore, 1) := by decide +kernel
theorem dX4_addField_10 : decode cX4_addField 10 = .ok (.aload_n 0, 1) := by decide +kernel
theorem dX4_addField_11 : decode cX4_addField 11 = .ok (.getfield 18, 3) := by decide +kernel
theorem dX4_addField_14 : decode cX4_addField 14 = .ok (.getfield 77, 3) := by decide +kernel
theorem dX4_addField_17 : decode cX4_addField 17 = .ok (.aload_n 0, 1) := by decide +kernel
theorem dX4_addField_18 : decode cX4_addField 18 = .ok (.getfield 38, 3) := by decide +kernel
theorem dX4_addField_21 : decode cX4_addField 21 = .ok (.iload_n 2, 1) := by decide +kernel
theorem dX4_addField_22 : decode cX4_addField 22 = .ok (.iastore, 1) := by decide +kernel
theorem dX4_addField_23 : decode cX4_addField 23 = .ok (.aload_n 0, 1) := by decide +kernel
theorem dX4_addField_24 : decode cX4_addField 24 = .ok (.iconst 0, 1) := by decide +kernel
theorem dX4_addField_25 : decode cX4_addField 25 = .ok (.putfield 45, 3) := by decide +kernel
theorem dX4_addField_28 : decode cX4_addField 28 = .ok (.aload_n 0, 1) := by decide +kernel
theorem dX4_addField_29 : decode cX4_addField 29 = .ok (.dup, 1) := by decide +kernel
theorem dX4_addField_30 : decode cX4_addField 30 = .ok (.getfield 38, 3) := by decide +kernel
theorem dX4_addField_33 : decode cX4_addField 33 = .ok (.dup_x1, 1) := by decide +kernel
theorem dX4_addField_34 : decode cX4_addField 34 = .ok (.iconst 1, 1) := by decide +kernel
theorem dX4_addField_35 : decode cX4_addField 35 = .ok (.iadd, 1) := by decide +kernel
theorem dX4_addField_36 : decode cX4_addField 36 = .ok (.putfield 38, 3) := by decide +kernel
theorem dX4_addField_39 : decode cX4_addField 39 = .ok (.ireturn, 1) := by decide +kernel
set_option maxRecDepth 20000 in
theorem ggX4_remember_X1_become : GoodIn wsX4_remember wsX1_become := goodIn_r _ [13, 14, 15, 16, 17, 18, 19, 20, 21, 22, 23, 35, 36, 37, 38, 39, 40] (by decide +kernel) (by decide +kernel)
set_option maxRecDepth 20000 in
theorem gX4_remember_X1_become : GoodIn wsX4_remember (wsV RX4 69 RX1 yX1_become wsX1_become) := goodIn_app (goodIn_of _ (by decide +kernel)) ggX4_remember_X1_become
theorem dX4_remember_0 : decode cX4_remember 0 = .ok (.aload_n 0, 1) := by decide +kernel
theorem dX4_remember_1 : decode cX4_remember 1 = .ok (.getfield 45, 3) := by decide +kernel
theorem dX4_remember_4 : decode cX4_remember 4 = .ok (.bipush 8, 2) := by decide +kernel
theorem dX4_remember_6 : decode cX4_remember 6 = .ok (.if_icmp .lt 7, 3) := by decide +kernel
theorem dX4_remember_13 : decode cX4_remember 13 = .ok (.aload_n 0, 1) := by decide +kernel
theorem dX4_remember_14 : decode cX4_remember 14 = .ok (.getfield 22, 3) := by decide +kernel
theorem dX4_remember_17 : decode cX4_remember 17 = .ok (.aload_n 0, 1) := by decide +kernel
theorem dX4_remember_18 : decode cX4_remember 18 = .ok (.getfield 45, 3) := by decide +kernel
theorem dX4_remember_21 : decode cX4_remember 21 = .ok (.aaload, 1) := by decide +kernel
theorem dX4_remember_22 : decode cX4_remember 22 = .ok (.aload_n 0, 1) := by decide +kernel
theorem dX4_remember_23 : decode cX4_remember 23 = .ok (.getfield 18, 3) := by decide +kernel
theorem dX4_remember_26 : decode cX4_remember 26 = .ok (.invokevirtual 69, 3) := by decide +kernel
theorem dX4_remember_29 : decode cX4_remember 29 = .ok (.aload_n 0, 1) := by decide +kernel
theorem dX4_remember_30 : decode cX4_remember 30 = .ok (.dup, 1) := by decide +kernel
theorem dX4_remember_31 : decode cX4_remember 31 = .ok (.getfield 45, 3) := by decide +kernel
theorem dX4_remember_34 : decode cX4_remember 34 = .ok (.iconst 1, 1) := by decide +kernel
theorem dX4_remember_35 : decode cX4_remember 35 = .ok (.iadd, 1) := by decide +kernel
theorem dX4_remember_36 : decode cX4_remember 36 = .ok (.putfield 45, 3) := by decide +kernel
theorem dX4_remember_39 : decode cX4_remember 39 = .ok (.return_, 1) := by decide +kernel
theorem dX4_gather_0 : decode cX4_gather 0 = .ok (.iconst 0, 1) := by decide +kernel
theorem dX4_gather_1 : decode cX4_gather 1 = .ok (.istore_n 3, 1) := by decide +kernel
theorem dX4_gather_2 : decode cX4_gather 2 = .ok (.iconst 0, 1) := by decide +kernel
theorem dX4_gather_3 : decode cX4_gather 3 = .ok (.istore 4, 2) := by decide +kernel
theorem dX4_gather_5 : decode cX4_gather 5 = .ok (.iload 4, 2) := by decide +kernel
theorem dX4_gather_7 : decode cX4_gather 7 = .ok (.iload_n 2, 1) := by decide +kernel
theorem dX4_gather_8 : decode cX4_gather 8 = .ok (.if_icmp .ge 54, 3) := by decide +kernel
theorem dX4_gather_11 : decode cX4_gather 11 = .ok (.iconst 0, 1) := by decide +kernel
theorem dX4_gather_12 : decode cX4_gather 12 = .ok (.istore 5, 2) := by decide +kernel
theorem dX4_gather_14 : decode cX4_gather 14 = .ok (.iload 5, 2) := by decide +kernel
theorem dX4_gather_16 : decode cX4_gather 16 = .ok (.aload_n 0, 1) := by decide +kernel
theorem dX4_gather_17 : decode cX4_gather 17 = .ok (.getfield 38, 3) := by decide +kernel
theorem dX4_gather_20 : decode cX4_gather 20 = .ok (.if_icmp .ge 26, 3) := by decide +kernel
theorem dX4_gather_46 : decode cX4_gather 46 = .ok (.aload_n 1, 1) := by decide +kernel
theorem dX4_gather_47 : decode cX4_gather 47 = .ok (.dup, 1) := by decide +kernel
theorem dX4_gather_48 : decode cX4_gather 48 = .ok (.getfield 54, 3) := by decide +kernel
theorem dX4_gather_51 : decode cX4_gather 51 = .ok (.iconst 1, 1) := by decide +kernel
theorem dX4_gather_52 : decode cX4_gather 52 = .ok (.iadd, 1) := by decide +kernel
theorem dX4_gather_53 : decode cX4_gather 53 = .ok (.putfield 54, 3) := by decide +kernel
theorem dX4_gather_56 : decode cX4_gather 56 = .ok (.iinc 4 1, 3) := by decide +kernel
theorem dX4_gather_59 : decode cX4_gather 59 = .ok (.goto (-54), 3) := by decide +kernel
theorem dX4_gather_62 : decode cX4_gather 62 = .ok (.iload_n 3, 1) := by decide +kernel
theorem dX4_gather_63 : decode cX4_gather 63 = .ok (.ireturn, 1) := by decide +kernel
theorem dX4_fade_0 : decode cX4_fade 0 = .ok (.iconst 0, 1) := by decide +kernel
theorem dX4_fade_1 : decode cX4_fade 1 = .ok (.istore_n 2, 1) := by decide +kernel
theorem dX4_fade_2 : decode cX4_fade 2 = .ok (.iload_n 2, 1) := by decide +kernel
theorem dX4_fade_3 : decode cX4_fade 3 = .ok (.aload_n 0, 1) := by decide +kernel
theorem dX4_fade_4 : decode cX4_fade 4 = .ok (.getfield 42, 3) := by decide +kernel
theorem dX4_fade_7 : decode cX4_fade 7 = .ok (.if_icmp .ge 24, 3) := by decide +kernel
theorem dX4_fade_31 : decode cX4_fade 31 = .ok (.iconst 0, 1) := by decide +kernel
theorem dX4_fade_32 : decode cX4_fade 32 = .ok (.istore_n 2, 1) := by decide +kernel
theorem dX4_fade_33 : decode cX4_fade 33 = .ok (.iload_n 2, 1) := by decide +kernel
theorem dX4_fade_34 : decode cX4_fade 34 = .ok (.aload_n 0, 1) := by decide +kernel
theorem dX4_fade_35 : decode cX4_fade 35 = .ok (.getfield 38, 3) := by decide +kernel
theorem dX4_fade_38 : decode cX4_fade 38 = .ok (.if_icmp .ge 29, 3) := by decide +kernel
theorem dX4_fade_67 : decode cX4_fade 67 = .ok (.aload_n 1, 1) := by decide +kernel
theorem dX4_fade_68 : decode cX4_fade 68 = .ok (.sipush 999, 3) := by decide +kernel
theorem dX4_fade_71 : decode cX4_fade 71 = .ok (.aload_n 1, 1) := by decide +kernel
theorem dX4_fade_72 : decode cX4_fade 72 = .ok (.getfield 60, 3) := by decide +kernel
theorem dX4_fade_75 : decode cX4_fade 75 = .ok (.iconst 1, 1) := by decide +kernel
theorem dX4_fade_76 : decode cX4_fade 76 = .ok (.iadd, 1) := by decide +kernel
theorem dX4_fade_77 : decode cX4_fade 77 = .ok (.invokestatic 109, 3) := by decide +kernel
theorem dX4_fade_80 : decode cX4_fade 80 = .ok (.putfield 60, 3) := by decide +kernel
theorem dX4_fade_83 : decode cX4_fade 83 = .ok (.aload_n 1, 1) := by decide +kernel
theorem dX4_fade_84 : decode cX4_fade 84 = .ok (.iconst 0, 1) := by decide +kernel
theorem dX4_fade_85 : decode cX4_fade 85 = .ok (.putfield 54, 3) := by decide +kernel
theorem dX4_fade_88 : decode cX4_fade 88 = .ok (.return_, 1) := by decide +kernel
theorem dX4_storesOf_0 : decode cX4_storesOf 0 = .ok (.iconst 0, 1) := by decide +kernel
theorem dX4_storesOf_1 : decode cX4_storesOf 1 = .ok (.istore_n 2, 1) := by decide +kernel
theorem dX4_storesOf_2 : decode cX4_storesOf 2 = .ok (.iconst 0, 1) := by decide +kernel
theorem dX4_storesOf_3 : decode cX4_storesOf 3 = .ok (.istore_n 3, 1) := by decide +kernel
theorem dX4_storesOf_4 : decode cX4_storesOf 4 = .ok (.iload_n 3, 1) := by decide +kernel
theorem dX4_storesOf_5 : decode cX4_storesOf 5 = .ok (.aload_n 0, 1) := by decide +kernel
theorem dX4_storesOf_6 : decode cX4_storesOf 6 = .ok (.getfield 42, 3) := by decide +kernel
theorem dX4_storesOf_9 : decode cX4_storesOf 9 = .ok (.if_icmp .ge 30, 3) := by decide +kernel
theorem dX4_storesOf_39 : decode cX4_storesOf 39 = .ok (.iload_n 2, 1) := by decide +kernel
theorem dX4_storesOf_40 : decode cX4_storesOf 40 = .ok (.ireturn, 1) := by decide +kernel
theorem dX4_missedFit_0 : decode cX4_missedFit 0 = .ok (.iconst 0, 1) := by decide +kernel
theorem dX4_missedFit_1 : decode cX4_missedFit 1 = .ok (.istore_n 2, 1) := by decide +kernel
theorem dX4_missedFit_2 : decode cX4_missedFit 2 = .ok (.iload_n 2, 1) := by decide +kernel
theorem dX4_missedFit_3 : decode cX4_missedFit 3 = .ok (.aload_n 0, 1) := by decide +kernel
theorem dX4_missedFit_4 : decode cX4_missedFit 4 = .ok (.getfield 48, 3) := by decide +kernel
theorem dX4_missedFit_7 : decode cX4_missedFit 7 = .ok (.if_icmp .ge 47, 3) := by decide +kernel
theorem dX4_missedFit_54 : decode cX4_missedFit 54 = .ok (.iconst 1, 1) := by decide +kernel
theorem dX4_missedFit_55 : decode cX4_missedFit 55 = .ok (.ireturn, 1) := by decide +kernel
theorem dX5_init_0 : decode cX5_init 0 = .ok (.aload_n 0, 1) := by decide +kernel
theorem dX5_init_1 : decode cX5_init 1 = .ok (.invokespecial 1, 3) := by decide +kernel
theorem dX5_init_4 : decode cX5_init 4 = .ok (.return_, 1) := by decide +kernel
set_option maxRecDepth 20000 in
theorem ggX6_init_X5_init : GoodIn wsX6_init wsX5_init := goodIn_r _ [3, 4, 5, 6] (by decide +kernel) (by decide +kernel)
set_option maxRecDepth 20000 in
theorem gX6_init_X5_init_n1 : GoodIn wsX6_init (wsX5_init) := ggX6_init_X5_init
theorem dX6_init_0 : decode cX6_init 0 = .ok (.aload_n 0, 1) := by decide +kernel
theorem dX6_init_1 : decode cX6_init 1 = .ok (.invokespecial 1, 3) := by decide +kernel
theorem dX6_init_4 : decode cX6_init 4 = .ok (.return_, 1) := by decide +kernel
theorem dX7_init_0 : decode cX7_init 0 = .ok (.aload_n 0, 1) := by decide +kernel
theorem dX7_init_1 : decode cX7_init 1 = .ok (.invokespecial 3, 3) := by decide +kernel
theorem dX7_init_4 : decode cX7_init 4 = .ok (.aload_n 0, 1) := by decide +kernel
theorem dX7_init_5 : decode cX7_init 5 = .ok (.sipush 150, 3) := by decide +kernel
theorem dX7_init_8 : decode cX7_init 8 = .ok (.newarray .byte, 2) := by decide +kernel
theorem dX7_init_10 : decode cX7_init 10 = .ok (.putfield 9, 3) := by decide +kernel
theorem dX7_init_13 : decode cX7_init 13 = .ok (.aload_n 0, 1) := by decide +kernel
theorem dX7_init_14 : decode cX7_init 14 = .ok (.bipush 25, 2) := by decide +kernel
theorem dX7_init_16 : decode cX7_init 16 = .ok (.newarray .int, 2) := by decide +kernel
theorem dX7_init_18 : decode cX7_init 18 = .ok (.putfield 15, 3) := by decide +kernel
theorem dX7_init_21 : decode cX7_init 21 = .ok (.aload_n 0, 1) := by decide +kernel
theorem dX7_init_22 : decode cX7_init 22 = .ok (.bipush 25, 2) := by decide +kernel
theorem dX7_init_24 : decode cX7_init 24 = .ok (.newarray .int, 2) := by decide +kernel
theorem dX7_init_26 : decode cX7_init 26 = .ok (.putfield 19, 3) := by decide +kernel
theorem dX7_init_29 : decode cX7_init 29 = .ok (.aload_n 0, 1) := by decide +kernel
theorem dX7_init_30 : decode cX7_init 30 = .ok (.bipush 25, 2) := by decide +kernel
theorem dX7_init_32 : decode cX7_init 32 = .ok (.newarray .int, 2) := by decide +kernel
theorem dX7_init_34 : decode cX7_init 34 = .ok (.putfield 22, 3) := by decide +kernel
theorem dX7_init_37 : decode cX7_init 37 = .ok (.return_, 1) := by decide +kernel
theorem dX7_append_0 : decode cX7_append 0 = .ok (.aload_n 0, 1) := by decide +kernel
theorem dX7_append_1 : decode cX7_append 1 = .ok (.getfield 9, 3) := by decide +kernel
theorem dX7_append_4 : decode cX7_append 4 = .ok (.aload_n 0, 1) := by decide +kernel
theorem dX7_append_5 : decode cX7_append 5 = .ok (.getfield 25, 3) := by decide +kernel
theorem dX7_append_8 : decode cX7_append 8 = .ok (.iload_n 1, 1) := by decide +kernel
theorem dX7_append_9 : decode cX7_append 9 = .ok (.i2b, 1) := by decide +kernel
theorem dX7_append_10 : decode cX7_append 10 = .ok (.bastore, 1) := by decide +kernel
theorem dX7_append_11 : decode cX7_append 11 = .ok (.aload_n 0, 1) := by decide +kernel
theorem dX7_append_12 : decode cX7_append 12 = .ok (.dup, 1) := by decide +kernel
theorem dX7_append_13 : decode cX7_append 13 = .ok (.getfield 25, 3) := by decide +kernel
theorem dX7_append_16 : decode cX7_append 16 = .ok (.iconst 1, 1) := by decide +kernel
theorem dX7_append_17 : decode cX7_append 17 = .ok (.iadd, 1) := by decide +kernel
theorem dX7_append_18 : decode cX7_append 18 = .ok (.dup_x1, 1) := by decide +kernel
theorem dX7_append_19 : decode cX7_append 19 = .ok (.putfield 25, 3) := by decide +kernel
theorem dX7_append_22 : decode cX7_append 22 = .ok (.ireturn, 1) := by decide +kernel
set_option maxRecDepth 20000 in
theorem ggX7_parse_X7_advance : GoodIn wsX7_parse wsX7_advance := goodIn_r _ [11, 1, 6, 12, 13, 5, 14, 15, 10, 16, 17, 18, 19, 20, 21, 22, 23, 24, 25, 26, 27, 28, 29, 30, 31, 32, 104, 105, 106, 107, 108, 109, 110, 111, 112, 113, 114, 115] (by decide +kernel) (by decide +kernel)
set_option maxRecDepth 20000 in
theorem gX7_parse_X7_advance : GoodIn wsX7_parse (wsV RX7 41 RX7 yX7_advance wsX7_advance) := goodIn_app (goodIn_of _ (by decide +kernel)) ggX7_parse_X7_advance
set_option maxRecDepth 20000 in
theorem ggX7_parse_X7_isItem : GoodIn wsX7_parse wsX7_isItem := goodIn_r _ [36, 37, 38, 2, 39, 3, 4, 28, 40, 41, 42, 10, 43, 5, 44, 45, 46, 47, 1, 6, 13, 48, 49, 50, 51, 52, 53, 54, 55, 56, 57, 58, 59, 60, 61, 62, 63, 64, 65, 66, 67, 68, 69, 70, 71, 72, 73, 74, 75, 76, 77, 78, 79, 80, 81, 82, 83, 84, 85, 86, 87, 88, 89, 90, 91, 92, 93, 94, 95, 96, 97, 98, 99, 100, 7, 8, 9, 11, 12, 14, 15, 16, 17, 18, 19, 20, 21, 22, 23, 24, 25, 26, 27, 29, 30, 31, 32, 101, 102, 103, 104, 105, 106, 107, 108, 109, 110, 111, 112, 113, 114, 115] (by decide +kernel) (by decide +kernel)
set_option maxRecDepth 20000 in
theorem gX7_parse_X7_isItem : GoodIn wsX7_parse (wsV RX7 47 RX7 yX7_isItem wsX7_isItem) := goodIn_app (goodIn_of _ (by decide +kernel)) ggX7_parse_X7_isItem
theorem dX7_parse_0 : decode cX7_parse 0 = .ok (.aload_n 0, 1) := by decide +kernel
theorem dX7_parse_1 : decode cX7_parse 1 = .ok (.iconst 0, 1) := by decide +kernel
theorem dX7_parse_2 : decode cX7_parse 2 = .ok (.putfield 29, 3) := by decide +kernel
theorem dX7_parse_5 : decode cX7_parse 5 = .ok (.aload_n 0, 1) := by decide +kernel
theorem dX7_parse_6 : decode cX7_parse 6 = .ok (.iconst 0, 1) := by decide +kernel
theorem dX7_parse_7 : decode cX7_parse 7 = .ok (.putfield 32, 3) := by decide +kernel
theorem dX7_parse_10 : decode cX7_parse 10 = .ok (.aload_n 0, 1) := by decide +kernel
theorem dX7_parse_11 : decode cX7_parse 11 = .ok (.iconst 0, 1) := by decide +kernel
theorem dX7_parse_12 : decode cX7_parse 12 = .ok (.putfield 35, 3) := by decide +kernel
theorem dX7_parse_15 : decode cX7_parse 15 = .ok (.aload_n 0, 1) := by decide +kernel
theorem dX7_parse_16 : decode cX7_parse 16 = .ok (.bipush 12, 2) := by decide +kernel
theorem dX7_parse_18 : decode cX7_parse 18 = .ok (.putfield 38, 3) := by decide +kernel
theorem dX7_parse_21 : decode cX7_parse 21 = .ok (.iconst 0, 1) := by decide +kernel
theorem dX7_parse_22 : decode cX7_parse 22 = .ok (.istore_n 1, 1) := by decide +kernel
theorem dX7_parse_23 : decode cX7_parse 23 = .ok (.iload_n 1, 1) := by decide +kernel
theorem dX7_parse_24 : decode cX7_parse 24 = .ok (.bipush 25, 2) := by decide +kernel
theorem dX7_parse_26 : decode cX7_parse 26 = .ok (.if_icmp .ge 52, 3) := by decide +kernel
theorem dX7_parse_29 : decode cX7_parse 29 = .ok (.aload_n 0, 1) := by decide +kernel
theorem dX7_parse_30 : decode cX7_parse 30 = .ok (.invokevirtual 41, 3) := by decide +kernel
theorem dX7_parse_33 : decode cX7_parse 33 = .ok (.aload_n 0, 1) := by decide +kernel
theorem dX7_parse_34 : decode cX7_parse 34 = .ok (.getfield 44, 3) := by decide +kernel
theorem dX7_parse_37 : decode cX7_parse 37 = .ok (.ifCond .ne 9, 3) := by decide +kernel
theorem dX7_parse_40 : decode cX7_parse 40 = .ok (.iload_n 1, 1) := by decide +kernel
theorem dX7_parse_41 : decode cX7_parse 41 = .ok (.ifCond .le 5, 3) := by decide +kernel
theorem dX7_parse_46 : decode cX7_parse 46 = .ok (.aload_n 0, 1) := by decide +kernel
theorem dX7_parse_47 : decode cX7_parse 47 = .ok (.iload_n 1, 1) := by decide +kernel
theorem dX7_parse_48 : decode cX7_parse 48 = .ok (.invokevirtual 47, 3) := by decide +kernel
theorem dX7_parse_51 : decode cX7_parse 51 = .ok (.ifCond .ne 6, 3) := by decide +kernel
theorem dX7_parse_54 : decode cX7_parse 54 = .ok (.goto 24, 3) := by decide +kernel
theorem dX7_parse_78 : decode cX7_parse 78 = .ok (.bipush (-10), 2) := by decide +kernel
theorem dX7_parse_80 : decode cX7_parse 80 = .ok (.aload_n 0, 1) := by decide +kernel
theorem dX7_parse_81 : decode cX7_parse 81 = .ok (.getfield 51, 3) := by decide +kernel
theorem dX7_parse_84 : decode cX7_parse 84 = .ok (.isub, 1) := by decide +kernel
theorem dX7_parse_85 : decode cX7_parse 85 = .ok (.ireturn, 1) := by decide +kernel
set_option maxRecDepth 20000 in
theorem ggX7_isItem_X7_wordHere : GoodIn wsX7_isItem wsX7_wordHere := goodIn_r _ [12, 13, 14, 15, 16, 11, 17, 18, 19, 20, 21, 22, 23, 24, 25, 26, 27, 28, 29, 30, 31, 32, 33, 34, 35, 36, 37, 38, 39, 40, 41, 42, 43, 44, 45, 46, 47, 48, 49, 50, 51, 52, 53, 54, 55, 56, 57, 58, 59, 60, 61, 62, 63, 64, 65, 66, 67, 68, 69, 100, 101, 102, 103, 104, 105, 106, 107, 108, 109, 110, 111] (by decide +kernel) (by decide +kernel)
set_option maxRecDepth 20000 in
theorem gX7_isItem_X7_wordHere : GoodIn wsX7_isItem (wsV RX7 54 RX7 yX7_wordHere wsX7_wordHere) := goodIn_app (goodIn_of _ (by decide +kernel)) ggX7_isItem_X7_wordHere
theorem dX7_isItem_0 : decode cX7_isItem 0 = .ok (.aload_n 0, 1) := by decide +kernel
theorem dX7_isItem_1 : decode cX7_isItem 1 = .ok (.invokevirtual 54, 3) := by decide +kernel
theorem dX7_isItem_4 : decode cX7_isItem 4 = .ok (.istore_n 2, 1) := by decide +kernel
theorem dX7_isItem_5 : decode cX7_isItem 5 = .ok (.iload_n 2, 1) := by decide +kernel
theorem dX7_isItem_6 : decode cX7_isItem 6 = .ok (.iconst (-1), 1) := by decide +kernel
theorem dX7_isItem_7 : decode cX7_isItem 7 = .ok (.if_icmp .eq 24, 3) := by decide +kernel
theorem dX7_isItem_31 : decode cX7_isItem 31 = .ok (.iconst 0, 1) := by decide +kernel
theorem dX7_isItem_32 : decode cX7_isItem 32 = .ok (.ireturn, 1) := by decide +kernel
theorem dX7_wordHere_0 : decode cX7_wordHere 0 = .ok (.aload_n 0, 1) := by decide +kernel
theorem dX7_wordHere_1 : decode cX7_wordHere 1 = .ok (.getfield 44, 3) := by decide +kernel
theorem dX7_wordHere_4 : decode cX7_wordHere 4 = .ok (.iconst 1, 1) := by decide +kernel
theorem dX7_wordHere_5 : decode cX7_wordHere 5 = .ok (.if_icmp .eq 5, 3) := by decide +kernel
theorem dX7_wordHere_8 : decode cX7_wordHere 8 = .ok (.iconst (-1), 1) := by decide +kernel
theorem dX7_wordHere_9 : decode cX7_wordHere 9 = .ok (.ireturn, 1) := by decide +kernel
theorem dX7_advance_0 : decode cX7_advance 0 = .ok (.aload_n 0, 1) := by decide +kernel
theorem dX7_advance_1 : decode cX7_advance 1 = .ok (.aload_n 0, 1) := by decide +kernel
theorem dX7_advance_2 : decode cX7_advance 2 = .ok (.getfield 29, 3) := by decide +kernel
theorem dX7_advance_5 : decode cX7_advance 5 = .ok (.putfield 51, 3) := by decide +kernel
theorem dX7_advance_8 : decode cX7_advance 8 = .ok (.aload_n 0, 1) := by decide +kernel
theorem dX7_advance_9 : decode cX7_advance 9 = .ok (.getfield 51, 3) := by decide +kernel
theorem dX7_advance_12 : decode cX7_advance 12 = .ok (.aload_n 0, 1) := by decide +kernel
theorem dX7_advance_13 : decode cX7_advance 13 = .ok (.getfield 25, 3) := by decide +kernel
theorem dX7_advance_16 : decode cX7_advance 16 = .ok (.if_icmp .ge 30, 3) := by decide +kernel
theorem dX7_advance_46 : decode cX7_advance 46 = .ok (.aload_n 0, 1) := by decide +kernel
theorem dX7_advance_47 : decode cX7_advance 47 = .ok (.aload_n 0, 1) := by decide +kernel
theorem dX7_advance_48 : decode cX7_advance 48 = .ok (.getfield 51, 3) := by decide +kernel
theorem dX7_advance_51 : decode cX7_advance 51 = .ok (.putfield 29, 3) := by decide +kernel
theorem dX7_advance_54 : decode cX7_advance 54 = .ok (.aload_n 0, 1) := by decide +kernel
theorem dX7_advance_55 : decode cX7_advance 55 = .ok (.getfield 51, 3) := by decide +kernel
theorem dX7_advance_58 : decode cX7_advance 58 = .ok (.aload_n 0, 1) := by decide +kernel
theorem dX7_advance_59 : decode cX7_advance 59 = .ok (.getfield 25, 3) := by decide +kernel
theorem dX7_advance_62 : decode cX7_advance 62 = .ok (.if_icmp .lt 11, 3) := by decide +kernel
theorem dX7_advance_65 : decode cX7_advance 65 = .ok (.aload_n 0, 1) := by decide +kernel
theorem dX7_advance_66 : decode cX7_advance 66 = .ok (.iconst 0, 1) := by decide +kernel
theorem dX7_advance_67 : decode cX7_advance 67 = .ok (.putfield 44, 3) := by decide +kernel
theorem dX7_advance_70 : decode cX7_advance 70 = .ok (.goto 51, 3) := by decide +kernel
theorem dX7_advance_121 : decode cX7_advance 121 = .ok (.return_, 1) := by decide +kernel
set_option maxRecDepth 20000 in
theorem ggX8_init_X5_init : GoodIn wsX8_init wsX5_init := goodIn_r _ [3, 4, 5, 6] (by decide +kernel) (by decide +kernel)
set_option maxRecDepth 20000 in
theorem gX8_init_X5_init_n1 : GoodIn wsX8_init (wsX5_init) := ggX8_init_X5_init
theorem dX8_init_0 : decode cX8_init 0 = .ok (.aload_n 0, 1) := by decide +kernel
theorem dX8_init_1 : decode cX8_init 1 = .ok (.invokespecial 1, 3) := by decide +kernel
theorem dX8_init_4 : decode cX8_init 4 = .ok (.return_, 1) := by decide +kernel
set_option maxRecDepth 20000 in
theorem ggX9_init_X5_init : GoodIn wsX9_init wsX5_init := goodIn_r _ [3, 4, 5, 6] (by decide +kernel) (by decide +kernel)
set_option maxRecDepth 20000 in
theorem gX9_init_X5_init_n1 : GoodIn wsX9_init (wsX5_init) := ggX9_init_X5_init
theorem dX9_init_0 : decode cX9_init 0 = .ok (.aload_n 0, 1) := by decide +kernel
theorem dX9_init_1 : decode cX9_init 1 = .ok (.invokespecial 1, 3) := by decide +kernel
theorem dX9_init_4 : decode cX9_init 4 = .ok (.return_, 1) := by decide +kernel
set_option maxRecDepth 20000 in
theorem ggX10_init_X5_init : GoodIn wsX10_init wsX5_init := goodIn_r _ [49, 50, 2, 3] (by decide +kernel) (by decide +kernel)
set_option maxRecDepth 20000 in
theorem gX10_init_X5_init_n9 : GoodIn wsX10_init (wsX5_init) := ggX10_init_X5_init
set_option maxRecDepth 20000 in
theorem ggX10_init_X8_init : GoodIn wsX10_init wsX8_init := goodIn_r _ [52, 48, 6, 49, 50, 2, 3] (by decide +kernel) (by decide +kernel)
set_option maxRecDepth 20000 in
theorem gX10_init_X8_init_n12 : GoodIn wsX10_init (wsX8_init) := ggX10_init_X8_init
set_option maxRecDepth 20000 in
theorem ggX10_init_X9_init : GoodIn wsX10_init wsX9_init := goodIn_r _ [54, 48, 6, 49, 50, 2, 3] (by decide +kernel) (by decide +kernel)
set_option maxRecDepth 20000 in
theorem gX10_init_X9_init_n15 : GoodIn wsX10_init (wsX9_init) := ggX10_init_X9_init
set_option maxRecDepth 20000 in
theorem ggX10_init_X6_init : GoodIn wsX10_init wsX6_init := goodIn_r _ [56, 48, 6, 49, 50, 2, 3] (by decide +kernel) (by decide +kernel)
set_option maxRecDepth 20000 in
theorem gX10_init_X6_init_n18 : GoodIn wsX10_init (wsX6_init) := ggX10_init_X6_init
set_option maxRecDepth 20000 in
theorem ggX10_init_X2_init : GoodIn wsX10_init wsX2_init := goodIn_r _ [58, 51, 9, 52, 48, 6, 49, 50, 2, 3] (by decide +kernel) (by decide +kernel)
set_option maxRecDepth 20000 in
theorem gX10_init_X2_init_n21 : GoodIn wsX10_init (wsX2_init) := ggX10_init_X2_init
set_option maxRecDepth 20000 in
theorem ggX10_init_X3_init : GoodIn wsX10_init wsX3_init := goodIn_r _ [60, 53, 12, 54, 48, 6, 49, 50, 2, 3] (by decide +kernel) (by decide +kernel)
set_option maxRecDepth 20000 in
theorem gX10_init_X3_init_n24 : GoodIn wsX10_init (wsX3_init) := ggX10_init_X3_init
set_option maxRecDepth 20000 in
theorem ggX10_init_X4_init : GoodIn wsX10_init wsX4_init := goodIn_r _ [63, 64, 2, 3, 42, 65, 66, 35, 36, 67, 68, 69, 70, 71, 72, 73, 74, 75, 76, 77, 78, 104, 105, 106, 107, 108, 109, 110, 111, 112, 113, 114, 127, 128, 129, 130, 131, 132] (by decide +kernel) (by decide +kernel)
set_option maxRecDepth 20000 in
theorem gX10_init_X4_init : GoodIn wsX10_init (wsX4_init) := ggX10_init_X4_init
set_option maxRecDepth 20000 in
theorem ggX10_init_X7_init : GoodIn wsX10_init wsX7_init := goodIn_r _ [80, 81, 2, 3, 82, 83, 42, 84, 85, 86, 115, 116, 117, 118, 119, 120, 121, 122, 123, 124, 125, 126] (by decide +kernel) (by decide +kernel)
set_option maxRecDepth 20000 in
theorem gX10_init_X7_init_n50 : GoodIn wsX10_init (wsX7_init) := ggX10_init_X7_init
set_option maxRecDepth 20000 in
theorem ggX10_init_X1_init : GoodIn wsX10_init wsX1_init := goodIn_r _ [74, 75, 2, 3, 42, 76, 77, 78, 127, 128, 129, 130, 131, 132] (by decide +kernel) (by decide +kernel)
set_option maxRecDepth 20000 in
theorem gX10_init_X1_init_n57 : GoodIn wsX10_init (wsX1_init) := ggX10_init_X1_init
set_option maxRecDepth 20000 in
theorem ggX10_init_X0_init : GoodIn wsX10_init wsX0_init := goodIn_r _ [88, 89, 2, 3, 42, 90, 91, 133, 134, 135] (by decide +kernel) (by decide +kernel)
set_option maxRecDepth 20000 in
theorem gX10_init_X0_init_n64 : GoodIn wsX10_init (wsX0_init) := ggX10_init_X0_init
theorem dX10_init_0 : decode cX10_init 0 = .ok (.aload_n 0, 1) := by decide +kernel
theorem dX10_init_1 : decode cX10_init 1 = .ok (.invokespecial 1, 3) := by decide +kernel
theorem dX10_init_4 : decode cX10_init 4 = .ok (.aload_n 0, 1) := by decide +kernel
theorem dX10_init_5 : decode cX10_init 5 = .ok (.bipush 6, 2) := by decide +kernel
theorem dX10_init_7 : decode cX10_init 7 = .ok (.anewarray 7, 3) := by decide +kernel
theorem dX10_init_10 : decode cX10_init 10 = .ok (.dup, 1) := by decide +kernel
theorem dX10_init_11 : decode cX10_init 11 = .ok (.iconst 0, 1) := by decide +kernel
theorem dX10_init_12 : decode cX10_init 12 = .ok (.new 7, 3) := by decide +kernel
theorem dX10_init_15 : decode cX10_init 15 = .ok (.dup, 1) := by decide +kernel
theorem dX10_init_16 : decode cX10_init 16 = .ok (.invokespecial 9, 3) := by decide +kernel
theorem dX10_init_19 : decode cX10_init 19 = .ok (.aastore, 1) := by decide +kernel
theorem dX10_init_20 : decode cX10_init 20 = .ok (.dup, 1) := by decide +kernel
theorem dX10_init_21 : decode cX10_init 21 = .ok (.iconst 1, 1) := by decide +kernel
theorem dX10_init_22 : decode cX10_init 22 = .ok (.new 10, 3) := by decide +kernel
theorem dX10_init_25 : decode cX10_init 25 = .ok (.dup, 1) := by decide +kernel
theorem dX10_init_26 : decode cX10_init 26 = .ok (.invokespecial 12, 3) := by decide +kernel
theorem dX10_init_29 : decode cX10_init 29 = .ok (.aastore, 1) := by decide +kernel
theorem dX10_init_30 : decode cX10_init 30 = .ok (.dup, 1) := by decide +kernel
theorem dX10_init_31 : decode cX10_init 31 = .ok (.iconst 2, 1) := by decide +kernel
theorem dX10_init_32 : decode cX10_init 32 = .ok (.new 13, 3) := by decide +kernel
theorem dX10_init_35 : decode cX10_init 35 = .ok (.dup, 1) := by decide +kernel
theorem dX10_init_36 : decode cX10_init 36 = .ok (.invokespecial 15, 3) := by decide +kernel
theorem dX10_init_39 : decode cX10_init 39 = .ok (.aastore, 1) := by decide +kernel
theorem dX10_init_40 : decode cX10_init 40 = .ok (.dup, 1) := by decide +kernel
theorem dX10_init_41 : decode cX10_init 41 = .ok (.iconst 3, 1) := by decide +kernel
theorem dX10_init_42 : decode cX10_init 42 = .ok (.new 16, 3) := by decide +kernel
theorem dX10_init_45 : decode cX10_init 45 = .ok (.dup, 1) := by decide +kernel
theorem dX10_init_46 : decode cX10_init 46 = .ok (.invokespecial 18, 3) := by decide +kernel
theorem dX10_init_49 : decode cX10_init 49 = .ok (.aastore, 1) := by decide +kernel
theorem dX10_init_50 : decode cX10_init 50 = .ok (.dup, 1) := by decide +kernel
theorem dX10_init_51 : decode cX10_init 51 = .ok (.iconst 4, 1) := by decide +kernel
theorem dX10_init_52 : decode cX10_init 52 = .ok (.new 19, 3) := by decide +kernel
theorem dX10_init_55 : decode cX10_init 55 = .ok (.dup, 1) := by decide +kernel
theorem dX10_init_56 : decode cX10_init 56 = .ok (.invokespecial 21, 3) := by decide +kernel
theorem dX10_init_59 : decode cX10_init 59 = .ok (.aastore, 1) := by decide +kernel
theorem dX10_init_60 : decode cX10_init 60 = .ok (.dup, 1) := by decide +kernel
theorem dX10_init_61 : decode cX10_init 61 = .ok (.iconst 5, 1) := by decide +kernel
theorem dX10_init_62 : decode cX10_init 62 = .ok (.new 22, 3) := by decide +kernel
theorem dX10_init_65 : decode cX10_init 65 = .ok (.dup, 1) := by decide +kernel
theorem dX10_init_66 : decode cX10_init 66 = .ok (.invokespecial 24, 3) := by decide +kernel
theorem dX10_init_69 : decode cX10_init 69 = .ok (.aastore, 1) := by decide +kernel
theorem dX10_init_70 : decode cX10_init 70 = .ok (.putfield 25, 3) := by decide +kernel
theorem dX10_init_73 : decode cX10_init 73 = .ok (.aload_n 0, 1) := by decide +kernel
theorem dX10_init_74 : decode cX10_init 74 = .ok (.new 31, 3) := by decide +kernel
theorem dX10_init_77 : decode cX10_init 77 = .ok (.dup, 1) := by decide +kernel
theorem dX10_init_78 : decode cX10_init 78 = .ok (.aload_n 0, 1) := by decide +kernel
theorem dX10_init_79 : decode cX10_init 79 = .ok (.getfield 25, 3) := by decide +kernel
theorem dX10_init_82 : decode cX10_init 82 = .ok (.invokespecial 33, 3) := by decide +kernel
theorem dX10_init_85 : decode cX10_init 85 = .ok (.putfield 36, 3) := by decide +kernel
theorem dX10_init_88 : decode cX10_init 88 = .ok (.aload_n 0, 1) := by decide +kernel
theorem dX10_init_89 : decode cX10_init 89 = .ok (.iconst 2, 1) := by decide +kernel
theorem dX10_init_90 : decode cX10_init 90 = .ok (.anewarray 31, 3) := by decide +kernel
theorem dX10_init_93 : decode cX10_init 93 = .ok (.dup, 1) := by decide +kernel
theorem dX10_init_94 : decode cX10_init 94 = .ok (.iconst 0, 1) := by decide +kernel
theorem dX10_init_95 : decode cX10_init 95 = .ok (.new 31, 3) := by decide +kernel
theorem dX10_init_98 : decode cX10_init 98 = .ok (.dup, 1) := by decide +kernel
theorem dX10_init_99 : decode cX10_init 99 = .ok (.aload_n 0, 1) := by decide +kernel
theorem dX10_init_100 : decode cX10_init 100 = .ok (.getfield 25, 3) := by decide +kernel
theorem dX10_init_103 : decode cX10_init 103 = .ok (.invokespecial 33, 3) := by decide +kernel
theorem dX10_init_106 : decode cX10_init 106 = .ok (.aastore, 1) := by decide +kernel
theorem dX10_init_107 : decode cX10_init 107 = .ok (.dup, 1) := by decide +kernel
theorem dX10_init_108 : decode cX10_init 108 = .ok (.iconst 1, 1) := by decide +kernel
theorem dX10_init_109 : decode cX10_init 109 = .ok (.new 31, 3) := by decide +kernel
theorem dX10_init_112 : decode cX10_init 112 = .ok (.dup, 1) := by decide +kernel
theorem dX10_init_113 : decode cX10_init 113 = .ok (.aload_n 0, 1) := by decide +kernel
theorem dX10_init_114 : decode cX10_init 114 = .ok (.getfield 25, 3) := by decide +kernel
theorem dX10_init_117 : decode cX10_init 117 = .ok (.invokespecial 33, 3) := by decide +kernel
theorem dX10_init_120 : decode cX10_init 120 = .ok (.aastore, 1) := by decide +kernel
theorem dX10_init_121 : decode cX10_init 121 = .ok (.putfield 40, 3) := by decide +kernel
theorem dX10_init_124 : decode cX10_init 124 = .ok (.aload_n 0, 1) := by decide +kernel
theorem dX10_init_125 : decode cX10_init 125 = .ok (.iconst 2, 1) := by decide +kernel
theorem dX10_init_126 : decode cX10_init 126 = .ok (.newarray .boolean, 2) := by decide +kernel
theorem dX10_init_128 : decode cX10_init 128 = .ok (.putfield 44, 3) := by decide +kernel
theorem dX10_init_131 : decode cX10_init 131 = .ok (.aload_n 0, 1) := by decide +kernel
theorem dX10_init_132 : decode cX10_init 132 = .ok (.new 48, 3) := by decide +kernel
theorem dX10_init_135 : decode cX10_init 135 = .ok (.dup, 1) := by decide +kernel
theorem dX10_init_136 : decode cX10_init 136 = .ok (.invokespecial 50, 3) := by decide +kernel
theorem dX10_init_139 : decode cX10_init 139 = .ok (.putfield 51, 3) := by decide +kernel
theorem dX10_init_142 : decode cX10_init 142 = .ok (.aload_n 0, 1) := by decide +kernel
theorem dX10_init_143 : decode cX10_init 143 = .ok (.new 55, 3) := by decide +kernel
theorem dX10_init_146 : decode cX10_init 146 = .ok (.dup, 1) := by decide +kernel
theorem dX10_init_147 : decode cX10_init 147 = .ok (.invokespecial 57, 3) := by decide +kernel
theorem dX10_init_150 : decode cX10_init 150 = .ok (.putfield 58, 3) := by decide +kernel
theorem dX10_init_153 : decode cX10_init 153 = .ok (.aload_n 0, 1) := by decide +kernel
theorem dX10_init_154 : decode cX10_init 154 = .ok (.new 62, 3) := by decide +kernel
theorem dX10_init_157 : decode cX10_init 157 = .ok (.dup, 1) := by decide +kernel
theorem dX10_init_158 : decode cX10_init 158 = .ok (.invokespecial 64, 3) := by decide +kernel
theorem dX10_init_161 : decode cX10_init 161 = .ok (.putfield 65, 3) := by decide +kernel
theorem dX10_init_164 : decode cX10_init 164 = .ok (.aload_n 0, 1) := by decide +kernel
theorem dX10_init_165 : decode cX10_init 165 = .ok (.bipush 6, 2) := by decide +kernel
theorem dX10_init_167 : decode cX10_init 167 = .ok (.newarray .int, 2) := by decide +kernel
theorem dX10_init_169 : decode cX10_init 169 = .ok (.putfield 69, 3) := by decide +kernel
theorem dX10_init_172 : decode cX10_init 172 = .ok (.aload_n 0, 1) := by decide +kernel
theorem dX10_init_173 : decode cX10_init 173 = .ok (.bipush 6, 2) := by decide +kernel
theorem dX10_init_175 : decode cX10_init 175 = .ok (.newarray .int, 2) := by decide +kernel
theorem dX10_init_177 : decode cX10_init 177 = .ok (.putfield 73, 3) := by decide +kernel
theorem dX10_init_180 : decode cX10_init 180 = .ok (.aload_n 0, 1) := by decide +kernel
theorem dX10_init_181 : decode cX10_init 181 = .ok (.iconst 3, 1) := by decide +kernel
theorem dX10_init_182 : decode cX10_init 182 = .ok (.newarray .int, 2) := by decide +kernel
theorem dX10_init_184 : decode cX10_init 184 = .ok (.putfield 76, 3) := by decide +kernel
theorem dX10_init_187 : decode cX10_init 187 = .ok (.aload_n 0, 1) := by decide +kernel
theorem dX10_init_188 : decode cX10_init 188 = .ok (.iconst 0, 1) := by decide +kernel
theorem dX10_init_189 : decode cX10_init 189 = .ok (.putfield 79, 3) := by decide +kernel
theorem dX10_init_192 : decode cX10_init 192 = .ok (.aload_n 0, 1) := by decide +kernel
theorem dX10_init_193 : decode cX10_init 193 = .ok (.iconst 1, 1) := by decide +kernel
theorem dX10_init_194 : decode cX10_init 194 = .ok (.putfield 83, 3) := by decide +kernel
theorem dX10_init_197 : decode cX10_init 197 = .ok (.return_, 1) := by decide +kernel
set_option maxRecDepth 20000 in
theorem ggX10_parish_X10_isBelow : GoodIn wsX10_parish wsX10_isBelow := goodIn_r _ [6] (by decide +kernel) (by decide +kernel)
set_option maxRecDepth 20000 in
theorem gX10_parish_X10_isBelow : GoodIn wsX10_parish (va_wsS RX10 86 yX10_isBelow wsX10_isBelow) := goodIn_app (goodIn_of _ (by decide +kernel)) ggX10_parish_X10_isBelow
set_option maxRecDepth 20000 in
theorem ggX10_parish_X10_refuseBad : GoodIn wsX10_parish wsX10_refuseBad := goodIn_r _ [10, 11, 26, 27, 28, 29, 30, 31, 32, 33, 34, 35, 36, 37] (by decide +kernel) (by decide +kernel)
set_option maxRecDepth 20000 in
theorem gX10_parish_X10_refuseBad : GoodIn wsX10_parish (wsV RX10 90 RX10 yX10_refuseBad wsX10_refuseBad) := goodIn_app (goodIn_of _ (by decide +kernel)) ggX10_parish_X10_refuseBad
set_option maxRecDepth 20000 in
theorem ggX10_parish_X4_begin : GoodIn wsX10_parish wsX4_begin := goodIn_r _ [16, 17, 18, 19, 20, 21, 22, 23, 24, 25, 38, 39, 40, 41, 42, 43, 44, 45, 46, 47, 48, 49, 50, 51, 52, 53, 54] (by decide +kernel) (by decide +kernel)
set_option maxRecDepth 20000 in
theorem gX10_parish_X4_begin : GoodIn wsX10_parish (wsV RX10 97 RX4 yX4_begin wsX4_begin) := goodIn_app (goodIn_of _ (by decide +kernel)) ggX10_parish_X4_begin
theorem dX10_parish_0 : decode cX10_parish 0 = .ok (.iload_n 1, 1) := by decide +kernel
theorem dX10_parish_1 : decode cX10_parish 1 = .ok (.bipush 10, 2) := by decide +kernel
theorem dX10_parish_3 : decode cX10_parish 3 = .ok (.invokestatic 86, 3) := by decide +kernel
theorem dX10_parish_6 : decode cX10_parish 6 = .ok (.ifCond .ne 8, 3) := by decide +kernel
theorem dX10_parish_9 : decode cX10_parish 9 = .ok (.aload_n 0, 1) := by decide +kernel
theorem dX10_parish_10 : decode cX10_parish 10 = .ok (.invokevirtual 90, 3) := by decide +kernel
theorem dX10_parish_13 : decode cX10_parish 13 = .ok (.ireturn, 1) := by decide +kernel
theorem dX10_parish_14 : decode cX10_parish 14 = .ok (.aload_n 0, 1) := by decide +kernel
theorem dX10_parish_15 : decode cX10_parish 15 = .ok (.getfield 36, 3) := by decide +kernel
theorem dX10_parish_18 : decode cX10_parish 18 = .ok (.getfield 94, 3) := by decide +kernel
theorem dX10_parish_21 : decode cX10_parish 21 = .ok (.istore_n 2, 1) := by decide +kernel
theorem dX10_parish_22 : decode cX10_parish 22 = .ok (.aload_n 0, 1) := by decide +kernel
theorem dX10_parish_23 : decode cX10_parish 23 = .ok (.getfield 36, 3) := by decide +kernel
theorem dX10_parish_26 : decode cX10_parish 26 = .ok (.iload_n 1, 1) := by decide +kernel
theorem dX10_parish_27 : decode cX10_parish 27 = .ok (.invokevirtual 97, 3) := by decide +kernel
theorem dX10_parish_30 : decode cX10_parish 30 = .ok (.iload_n 2, 1) := by decide +kernel
theorem dX10_parish_31 : decode cX10_parish 31 = .ok (.ireturn, 1) := by decide +kernel
set_option maxRecDepth 20000 in
theorem ggX10_field_X10_isBelow : GoodIn wsX10_field wsX10_isBelow := goodIn_r _ [6] (by decide +kernel) (by decide +kernel)
set_option maxRecDepth 20000 in
theorem gX10_field_X10_isBelow : GoodIn wsX10_field (va_wsS RX10 86 yX10_isBelow wsX10_isBelow) := goodIn_app (goodIn_of _ (by decide +kernel)) ggX10_field_X10_isBelow
set_option maxRecDepth 20000 in
theorem ggX10_field_X10_isLight : GoodIn wsX10_field wsX10_isLight := goodIn_r _ [9, 10, 11, 5, 12] (by decide +kernel) (by decide +kernel)
set_option maxRecDepth 20000 in
theorem gX10_field_X10_isLight : GoodIn wsX10_field (va_wsS RX10 101 yX10_isLight wsX10_isLight) := goodIn_app (goodIn_of _ (by decide +kernel)) ggX10_field_X10_isLight
set_option maxRecDepth 20000 in
theorem ggX10_field_X10_refuseBad : GoodIn wsX10_field wsX10_refuseBad := goodIn_r _ [16, 17, 32, 33, 34, 35, 36, 37, 38, 39, 40, 41, 42, 43] (by decide +kernel) (by decide +kernel)
set_option maxRecDepth 20000 in
theorem gX10_field_X10_refuseBad : GoodIn wsX10_field (wsV RX10 90 RX10 yX10_refuseBad wsX10_refuseBad) := goodIn_app (goodIn_of _ (by decide +kernel)) ggX10_field_X10_refuseBad
set_option maxRecDepth 20000 in
theorem ggX10_field_X4_addField : GoodIn wsX10_field wsX4_addField := goodIn_r _ [26, 27, 28, 29, 30, 31, 44, 45, 46, 47, 48, 49, 50, 51, 52, 53, 54, 55, 56, 57, 58, 59, 60] (by decide +kernel) (by decide +kernel)
set_option maxRecDepth 20000 in
theorem gX10_field_X4_addField : GoodIn wsX10_field (wsV RX10 108 RX4 yX4_addField wsX4_addField) := goodIn_app (goodIn_of _ (by decide +kernel)) ggX10_field_X4_addField
theorem dX10_field_0 : decode cX10_field 0 = .ok (.iload_n 1, 1) := by decide +kernel
theorem dX10_field_1 : decode cX10_field 1 = .ok (.bipush 6, 2) := by decide +kernel
theorem dX10_field_3 : decode cX10_field 3 = .ok (.invokestatic 86, 3) := by decide +kernel
theorem dX10_field_6 : decode cX10_field 6 = .ok (.ifCond .eq 10, 3) := by decide +kernel
theorem dX10_field_9 : decode cX10_field 9 = .ok (.iload_n 2, 1) := by decide +kernel
theorem dX10_field_10 : decode cX10_field 10 = .ok (.invokestatic 101, 3) := by decide +kernel
theorem dX10_field_13 : decode cX10_field 13 = .ok (.ifCond .ne 8, 3) := by decide +kernel
theorem dX10_field_16 : decode cX10_field 16 = .ok (.aload_n 0, 1) := by decide +kernel
theorem dX10_field_17 : decode cX10_field 17 = .ok (.invokevirtual 90, 3) := by decide +kernel
theorem dX10_field_20 : decode cX10_field 20 = .ok (.ireturn, 1) := by decide +kernel
theorem dX10_field_21 : decode cX10_field 21 = .ok (.aload_n 0, 1) := by decide +kernel
theorem dX10_field_22 : decode cX10_field 22 = .ok (.getfield 36, 3) := by decide +kernel
theorem dX10_field_25 : decode cX10_field 25 = .ok (.getfield 94, 3) := by decide +kernel
theorem dX10_field_28 : decode cX10_field 28 = .ok (.bipush 6, 2) := by decide +kernel
theorem dX10_field_30 : decode cX10_field 30 = .ok (.if_icmp .lt 8, 3) := by decide +kernel
theorem dX10_field_38 : decode cX10_field 38 = .ok (.aload_n 0, 1) := by decide +kernel
theorem dX10_field_39 : decode cX10_field 39 = .ok (.getfield 36, 3) := by decide +kernel
theorem dX10_field_42 : decode cX10_field 42 = .ok (.iload_n 1, 1) := by decide +kernel
theorem dX10_field_43 : decode cX10_field 43 = .ok (.iload_n 2, 1) := by decide +kernel
theorem dX10_field_44 : decode cX10_field 44 = .ok (.invokevirtual 108, 3) := by decide +kernel
theorem dX10_field_47 : decode cX10_field 47 = .ok (.ireturn, 1) := by decide +kernel
set_option maxRecDepth 20000 in
theorem ggX10_gleaner_X4_hasField : GoodIn wsX10_gleaner wsX4_hasField := goodIn_r _ [7, 8, 9, 10, 11, 42, 43, 44, 45, 46, 47, 48, 49, 50, 51, 52] (by decide +kernel) (by decide +kernel)
set_option maxRecDepth 20000 in
theorem gX10_gleaner_X4_hasField : GoodIn wsX10_gleaner (wsV RX10 112 RX4 yX4_hasField wsX4_hasField) := goodIn_app (goodIn_of _ (by decide +kernel)) ggX10_gleaner_X4_hasField
set_option maxRecDepth 20000 in
theorem ggX10_gleaner_X10_refuseBad : GoodIn wsX10_gleaner wsX10_refuseBad := goodIn_r _ [15, 16, 30, 31, 32, 33, 34, 35, 36, 37, 38, 39, 40, 41] (by decide +kernel) (by decide +kernel)
set_option maxRecDepth 20000 in
theorem gX10_gleaner_X10_refuseBad : GoodIn wsX10_gleaner (wsV RX10 90 RX10 yX10_refuseBad wsX10_refuseBad) := goodIn_app (goodIn_of _ (by decide +kernel)) ggX10_gleaner_X10_refuseBad
theorem dX10_gleaner_0 : decode cX10_gleaner 0 = .ok (.aload_n 0, 1) := by decide +kernel
theorem dX10_gleaner_1 : decode cX10_gleaner 1 = .ok (.getfield 36, 3) := by decide +kernel
theorem dX10_gleaner_4 : decode cX10_gleaner 4 = .ok (.iload_n 1, 1) := by decide +kernel
theorem dX10_gleaner_5 : decode cX10_gleaner 5 = .ok (.invokevirtual 112, 3) := by decide +kernel
theorem dX10_gleaner_8 : decode cX10_gleaner 8 = .ok (.ifCond .ne 8, 3) := by decide +kernel
theorem dX10_gleaner_11 : decode cX10_gleaner 11 = .ok (.aload_n 0, 1) := by decide +kernel
theorem dX10_gleaner_12 : decode cX10_gleaner 12 = .ok (.invokevirtual 90, 3) := by decide +kernel
theorem dX10_gleaner_15 : decode cX10_gleaner 15 = .ok (.ireturn, 1) := by decide +kernel
set_option maxRecDepth 20000 in
theorem ggX10_type_X10_isBelow : GoodIn wsX10_type wsX10_isBelow := goodIn_r _ [6] (by decide +kernel) (by decide +kernel)
set_option maxRecDepth 20000 in
theorem gX10_type_X10_isBelow : GoodIn wsX10_type (va_wsS RX10 86 yX10_isBelow wsX10_isBelow) := goodIn_app (goodIn_of _ (by decide +kernel)) ggX10_type_X10_isBelow
set_option maxRecDepth 20000 in
theorem ggX10_type_X10_refuseBad : GoodIn wsX10_type wsX10_refuseBad := goodIn_r _ [10, 11, 23, 24, 25, 26, 27, 28, 29, 30, 31, 32, 33, 34] (by decide +kernel) (by decide +kernel)
set_option maxRecDepth 20000 in
theorem gX10_type_X10_refuseBad : GoodIn wsX10_type (wsV RX10 90 RX10 yX10_refuseBad wsX10_refuseBad) := goodIn_app (goodIn_of _ (by decide +kernel)) ggX10_type_X10_refuseBad
set_option maxRecDepth 20000 in
theorem ggX10_type_X7_append : GoodIn wsX10_type wsX7_append := goodIn_r _ [20, 21, 22, 35, 36, 37, 38, 39, 40, 41, 42, 43, 44, 45, 46] (by decide +kernel) (by decide +kernel)
set_option maxRecDepth 20000 in
theorem gX10_type_X7_append : GoodIn wsX10_type (wsV RX10 125 RX7 yX7_append wsX7_append) := goodIn_app (goodIn_of _ (by decide +kernel)) ggX10_type_X7_append
theorem dX10_type_0 : decode cX10_type 0 = .ok (.iload_n 1, 1) := by decide +kernel
theorem dX10_type_1 : decode cX10_type 1 = .ok (.sipush 128, 3) := by decide +kernel
theorem dX10_type_4 : decode cX10_type 4 = .ok (.invokestatic 86, 3) := by decide +kernel
theorem dX10_type_7 : decode cX10_type 7 = .ok (.ifCond .ne 8, 3) := by decide +kernel
theorem dX10_type_10 : decode cX10_type 10 = .ok (.aload_n 0, 1) := by decide +kernel
theorem dX10_type_11 : decode cX10_type 11 = .ok (.invokevirtual 90, 3) := by decide +kernel
theorem dX10_type_14 : decode cX10_type 14 = .ok (.ireturn, 1) := by decide +kernel
theorem dX10_type_15 : decode cX10_type 15 = .ok (.aload_n 0, 1) := by decide +kernel
theorem dX10_type_16 : decode cX10_type 16 = .ok (.getfield 51, 3) := by decide +kernel
theorem dX10_type_19 : decode cX10_type 19 = .ok (.getfield 122, 3) := by decide +kernel
theorem dX10_type_22 : decode cX10_type 22 = .ok (.sipush 150, 3) := by decide +kernel
theorem dX10_type_25 : decode cX10_type 25 = .ok (.if_icmp .lt 8, 3) := by decide +kernel
theorem dX10_type_33 : decode cX10_type 33 = .ok (.aload_n 0, 1) := by decide +kernel
theorem dX10_type_34 : decode cX10_type 34 = .ok (.getfield 51, 3) := by decide +kernel
theorem dX10_type_37 : decode cX10_type 37 = .ok (.iload_n 1, 1) := by decide +kernel
theorem dX10_type_38 : decode cX10_type 38 = .ok (.invokevirtual 125, 3) := by decide +kernel
theorem dX10_type_41 : decode cX10_type 41 = .ok (.ireturn, 1) := by decide +kernel
theorem dX10_clear_0 : decode cX10_clear 0 = .ok (.aload_n 0, 1) := by decide +kernel
theorem dX10_clear_1 : decode cX10_clear 1 = .ok (.getfield 51, 3) := by decide +kernel
theorem dX10_clear_4 : decode cX10_clear 4 = .ok (.getfield 122, 3) := by decide +kernel
theorem dX10_clear_7 : decode cX10_clear 7 = .ok (.istore_n 1, 1) := by decide +kernel
theorem dX10_clear_8 : decode cX10_clear 8 = .ok (.aload_n 0, 1) := by decide +kernel
theorem dX10_clear_9 : decode cX10_clear 9 = .ok (.getfield 51, 3) := by decide +kernel
theorem dX10_clear_12 : decode cX10_clear 12 = .ok (.iconst 0, 1) := by decide +kernel
theorem dX10_clear_13 : decode cX10_clear 13 = .ok (.putfield 122, 3) := by decide +kernel
theorem dX10_clear_16 : decode cX10_clear 16 = .ok (.iload_n 1, 1) := by decide +kernel
theorem dX10_clear_17 : decode cX10_clear 17 = .ok (.ireturn, 1) := by decide +kernel
set_option maxRecDepth 20000 in
theorem ggX10_read_X7_parse : GoodIn wsX10_read wsX7_parse := goodIn_r _ [11, 12, 13, 14, 15, 16, 17, 18, 19, 20, 10, 21, 22, 23, 24, 25, 26, 27, 28, 29, 30, 31, 32, 33, 34, 35, 36, 37, 38, 39, 40, 41, 42, 43, 44, 45, 46, 47, 48, 49, 50, 51, 52, 53, 54, 55, 56, 57, 58, 59, 60, 61, 62, 63, 64, 65, 66, 67, 68, 69, 70, 71, 72, 73, 74, 75, 76, 77, 78, 79, 80, 81, 82, 83, 84, 85, 86, 87, 88, 89, 90, 91, 92, 93, 94, 95, 96, 97, 98, 99, 100, 101, 102, 103, 104, 105, 106, 107, 108, 109, 110, 111, 112, 113, 223, 224, 225, 226, 227, 228, 229, 230, 231, 232, 233, 234] (by decide +kernel) (by decide +kernel)
set_option maxRecDepth 20000 in
theorem gX10_read_X7_parse : GoodIn wsX10_read (wsV RX10 128 RX7 yX7_parse wsX7_parse) := goodIn_app (goodIn_of _ (by decide +kernel)) ggX10_read_X7_parse
theorem dX10_read_0 : decode cX10_read 0 = .ok (.aload_n 0, 1) := by decide +kernel
theorem dX10_read_1 : decode cX10_read 1 = .ok (.getfield 51, 3) := by decide +kernel
theorem dX10_read_4 : decode cX10_read 4 = .ok (.invokevirtual 128, 3) := by decide +kernel
theorem dX10_read_7 : decode cX10_read 7 = .ok (.istore_n 1, 1) := by decide +kernel
theorem dX10_read_8 : decode cX10_read 8 = .ok (.iload_n 1, 1) := by decide +kernel
theorem dX10_read_9 : decode cX10_read 9 = .ok (.ifCond .ge 5, 3) := by decide +kernel
theorem dX10_read_12 : decode cX10_read 12 = .ok (.iload_n 1, 1) := by decide +kernel
theorem dX10_read_13 : decode cX10_read 13 = .ok (.ireturn, 1) := by decide +kernel
set_option maxRecDepth 20000 in
theorem ggX10_glean_X10_isIn : GoodIn wsX10_glean wsX10_isIn := goodIn_r _ [7] (by decide +kernel) (by decide +kernel)
set_option maxRecDepth 20000 in
theorem gX10_glean_X10_isIn : GoodIn wsX10_glean (va_wsS RX10 147 yX10_isIn wsX10_isIn) := goodIn_app (goodIn_of _ (by decide +kernel)) ggX10_glean_X10_isIn
set_option maxRecDepth 20000 in
theorem ggX10_glean_X10_refuseBad : GoodIn wsX10_glean wsX10_refuseBad := goodIn_r _ [11, 12, 123, 124, 125, 126, 127, 128, 129, 130, 131, 132, 133, 134] (by decide +kernel) (by decide +kernel)
set_option maxRecDepth 20000 in
theorem gX10_glean_X10_refuseBad : GoodIn wsX10_glean (wsV RX10 90 RX10 yX10_refuseBad wsX10_refuseBad) := goodIn_app (goodIn_of _ (by decide +kernel)) ggX10_glean_X10_refuseBad
set_option maxRecDepth 20000 in
theorem ggX10_glean_X4_remember : GoodIn wsX10_glean wsX4_remember := goodIn_r _ [21, 22, 23, 24, 25, 26, 27, 20, 28, 29, 30, 31, 32, 33, 34, 35, 36, 37, 38, 39, 40, 41, 42, 43, 135, 136, 137, 138, 139, 140, 141, 142, 143, 144, 145, 146, 147, 148, 149, 150, 151] (by decide +kernel) (by decide +kernel)
set_option maxRecDepth 20000 in
theorem gX10_glean_X4_remember : GoodIn wsX10_glean (wsV RX10 157 RX4 yX4_remember wsX4_remember) := goodIn_app (goodIn_of _ (by decide +kernel)) ggX10_glean_X4_remember
set_option maxRecDepth 20000 in
theorem ggX10_glean_X4_gather : GoodIn wsX10_glean wsX4_gather := goodIn_r _ [47, 48, 49, 50, 51, 52, 20, 53, 54, 55, 56, 57, 58, 59, 60, 61, 62, 63, 64, 65, 66, 67, 68, 69, 70, 71, 72, 73, 74, 75, 76, 77, 78, 79, 80, 81, 82, 83, 84, 85, 86, 87, 88, 89, 90, 91, 92, 93, 94, 95, 96, 97, 98, 99, 100, 101, 102, 103, 104, 105, 106, 107, 108, 109, 110, 111, 112, 113, 114, 115, 116, 117, 118, 119, 120, 121, 122, 135, 136, 137, 138, 139, 140, 141, 142, 143, 144, 145, 146, 147, 148, 149, 150, 151] (by decide +kernel) (by decide +kernel)
set_option maxRecDepth 20000 in
theorem gX10_glean_X4_gather : GoodIn wsX10_glean (wsV RX10 143 RX4 yX4_gather wsX4_gather) := goodIn_app (goodIn_of _ (by decide +kernel)) ggX10_glean_X4_gather
theorem dX10_glean_0 : decode cX10_glean 0 = .ok (.iload_n 1, 1) := by decide +kernel
theorem dX10_glean_1 : decode cX10_glean 1 = .ok (.iconst 1, 1) := by decide +kernel
theorem dX10_glean_2 : decode cX10_glean 2 = .ok (.bipush 12, 2) := by decide +kernel
theorem dX10_glean_4 : decode cX10_glean 4 = .ok (.invokestatic 147, 3) := by decide +kernel
theorem dX10_glean_7 : decode cX10_glean 7 = .ok (.ifCond .ne 8, 3) := by decide +kernel
theorem dX10_glean_10 : decode cX10_glean 10 = .ok (.aload_n 0, 1) := by decide +kernel
theorem dX10_glean_11 : decode cX10_glean 11 = .ok (.invokevirtual 90, 3) := by decide +kernel
theorem dX10_glean_14 : decode cX10_glean 14 = .ok (.ireturn, 1) := by decide +kernel
theorem dX10_glean_15 : decode cX10_glean 15 = .ok (.iload_n 1, 1) := by decide +kernel
theorem dX10_glean_16 : decode cX10_glean 16 = .ok (.bipush 12, 2) := by decide +kernel
theorem dX10_glean_18 : decode cX10_glean 18 = .ok (.aload_n 0, 1) := by decide +kernel
theorem dX10_glean_19 : decode cX10_glean 19 = .ok (.getfield 36, 3) := by decide +kernel
theorem dX10_glean_22 : decode cX10_glean 22 = .ok (.getfield 140, 3) := by decide +kernel
theorem dX10_glean_25 : decode cX10_glean 25 = .ok (.getfield 151, 3) := by decide +kernel
theorem dX10_glean_28 : decode cX10_glean 28 = .ok (.isub, 1) := by decide +kernel
theorem dX10_glean_29 : decode cX10_glean 29 = .ok (.if_icmp .le 8, 3) := by decide +kernel
theorem dX10_glean_37 : decode cX10_glean 37 = .ok (.aload_n 0, 1) := by decide +kernel
theorem dX10_glean_38 : decode cX10_glean 38 = .ok (.getfield 36, 3) := by decide +kernel
theorem dX10_glean_41 : decode cX10_glean 41 = .ok (.invokevirtual 157, 3) := by decide +kernel
theorem dX10_glean_44 : decode cX10_glean 44 = .ok (.aload_n 0, 1) := by decide +kernel
theorem dX10_glean_45 : decode cX10_glean 45 = .ok (.getfield 36, 3) := by decide +kernel
theorem dX10_glean_48 : decode cX10_glean 48 = .ok (.aload_n 0, 1) := by decide +kernel
theorem dX10_glean_49 : decode cX10_glean 49 = .ok (.getfield 36, 3) := by decide +kernel
theorem dX10_glean_52 : decode cX10_glean 52 = .ok (.getfield 140, 3) := by decide +kernel
theorem dX10_glean_55 : decode cX10_glean 55 = .ok (.iload_n 1, 1) := by decide +kernel
theorem dX10_glean_56 : decode cX10_glean 56 = .ok (.invokevirtual 143, 3) := by decide +kernel
theorem dX10_glean_59 : decode cX10_glean 59 = .ok (.ireturn, 1) := by decide +kernel
set_option maxRecDepth 20000 in
theorem ggX10_night_X4_remember : GoodIn wsX10_night wsX4_remember := goodIn_r _ [8, 9, 10, 11, 12, 13, 14, 7, 15, 16, 17, 18, 19, 20, 21, 22, 23, 24, 25, 26, 27, 28, 29, 30, 60, 61, 62, 63, 64, 65, 66, 67, 68, 69, 70, 71, 72, 73, 74, 75, 76] (by decide +kernel) (by decide +kernel)
set_option maxRecDepth 20000 in
theorem gX10_night_X4_remember : GoodIn wsX10_night (wsV RX10 157 RX4 yX4_remember wsX4_remember) := goodIn_app (goodIn_of _ (by decide +kernel)) ggX10_night_X4_remember
set_option maxRecDepth 20000 in
theorem ggX10_night_X4_fade : GoodIn wsX10_night wsX4_fade := goodIn_r _ [34, 35, 36, 37, 38, 39, 40, 41, 42, 43, 44, 45, 46, 47, 60, 61, 62, 63, 64, 65, 66, 67, 68, 69, 70, 71, 72, 73, 74, 75, 76] (by decide +kernel) (by decide +kernel)
set_option maxRecDepth 20000 in
theorem gX10_night_X4_fade : GoodIn wsX10_night (wsV RX10 160 RX4 yX4_fade wsX4_fade) := goodIn_app (goodIn_of _ (by decide +kernel)) ggX10_night_X4_fade
theorem dX10_night_0 : decode cX10_night 0 = .ok (.aload_n 0, 1) := by decide +kernel
theorem dX10_night_1 : decode cX10_night 1 = .ok (.getfield 36, 3) := by decide +kernel
theorem dX10_night_4 : decode cX10_night 4 = .ok (.invokevirtual 157, 3) := by decide +kernel
theorem dX10_night_7 : decode cX10_night 7 = .ok (.aload_n 0, 1) := by decide +kernel
theorem dX10_night_8 : decode cX10_night 8 = .ok (.getfield 36, 3) := by decide +kernel
theorem dX10_night_11 : decode cX10_night 11 = .ok (.aload_n 0, 1) := by decide +kernel
theorem dX10_night_12 : decode cX10_night 12 = .ok (.getfield 36, 3) := by decide +kernel
theorem dX10_night_15 : decode cX10_night 15 = .ok (.getfield 140, 3) := by decide +kernel
theorem dX10_night_18 : decode cX10_night 18 = .ok (.invokevirtual 160, 3) := by decide +kernel
theorem dX10_night_21 : decode cX10_night 21 = .ok (.aload_n 0, 1) := by decide +kernel
theorem dX10_night_22 : decode cX10_night 22 = .ok (.getfield 36, 3) := by decide +kernel
theorem dX10_night_25 : decode cX10_night 25 = .ok (.getfield 140, 3) := by decide +kernel
theorem dX10_night_28 : decode cX10_night 28 = .ok (.getfield 164, 3) := by decide +kernel
theorem dX10_night_31 : decode cX10_night 31 = .ok (.ireturn, 1) := by decide +kernel
set_option maxRecDepth 20000 in
theorem ggX10_goes_X4_hasGleaner : GoodIn wsX10_goes wsX4_hasGleaner := goodIn_r _ [8, 9, 10, 11, 12, 61, 62, 63, 64, 65, 66, 67, 68, 69, 70, 71] (by decide +kernel) (by decide +kernel)
set_option maxRecDepth 20000 in
theorem gX10_goes_X4_hasGleaner : GoodIn wsX10_goes (wsV RX10 167 RX4 yX4_hasGleaner wsX4_hasGleaner) := goodIn_app (goodIn_of _ (by decide +kernel)) ggX10_goes_X4_hasGleaner
set_option maxRecDepth 20000 in
theorem ggX10_goes_X10_refuseBad : GoodIn wsX10_goes wsX10_refuseBad := goodIn_r _ [21, 22, 49, 50, 51, 52, 53, 54, 55, 56, 57, 58, 59, 60] (by decide +kernel) (by decide +kernel)
set_option maxRecDepth 20000 in
theorem gX10_goes_X10_refuseBad : GoodIn wsX10_goes (wsV RX10 90 RX10 yX10_refuseBad wsX10_refuseBad) := goodIn_app (goodIn_of _ (by decide +kernel)) ggX10_goes_X10_refuseBad
theorem dX10_goes_0 : decode cX10_goes 0 = .ok (.aload_n 0, 1) := by decide +kernel
theorem dX10_goes_1 : decode cX10_goes 1 = .ok (.getfield 36, 3) := by decide +kernel
theorem dX10_goes_4 : decode cX10_goes 4 = .ok (.iload_n 1, 1) := by decide +kernel
theorem dX10_goes_5 : decode cX10_goes 5 = .ok (.invokevirtual 167, 3) := by decide +kernel
theorem dX10_goes_8 : decode cX10_goes 8 = .ok (.ifCond .eq 14, 3) := by decide +kernel
theorem dX10_goes_22 : decode cX10_goes 22 = .ok (.aload_n 0, 1) := by decide +kernel
theorem dX10_goes_23 : decode cX10_goes 23 = .ok (.invokevirtual 90, 3) := by decide +kernel
theorem dX10_goes_26 : decode cX10_goes 26 = .ok (.ireturn, 1) := by decide +kernel
set_option maxRecDepth 20000 in
theorem ggX10_cloud_X10_isBelow : GoodIn wsX10_cloud wsX10_isBelow := goodIn_r _ [7] (by decide +kernel) (by decide +kernel)
set_option maxRecDepth 20000 in
theorem gX10_cloud_X10_isBelow : GoodIn wsX10_cloud (va_wsS RX10 86 yX10_isBelow wsX10_isBelow) := goodIn_app (goodIn_of _ (by decide +kernel)) ggX10_cloud_X10_isBelow
set_option maxRecDepth 20000 in
theorem ggX10_cloud_X10_refuseBad : GoodIn wsX10_cloud wsX10_refuseBad := goodIn_r _ [11, 12, 40, 41, 42, 43, 44, 45, 46, 47, 48, 49, 50, 51] (by decide +kernel) (by decide +kernel)
set_option maxRecDepth 20000 in
theorem gX10_cloud_X10_refuseBad : GoodIn wsX10_cloud (wsV RX10 90 RX10 yX10_refuseBad wsX10_refuseBad) := goodIn_app (goodIn_of _ (by decide +kernel)) ggX10_cloud_X10_refuseBad
set_option maxRecDepth 20000 in
theorem ggX10_cloud_X4_remember : GoodIn wsX10_cloud wsX4_remember := goodIn_r _ [17, 18, 19, 20, 21, 22, 23, 16, 24, 25, 26, 27, 28, 29, 30, 31, 32, 33, 34, 35, 36, 37, 38, 39, 52, 53, 54, 55, 56, 57, 58, 59, 60, 61, 62, 63, 64, 65, 66, 67, 68] (by decide +kernel) (by decide +kernel)
set_option maxRecDepth 20000 in
theorem gX10_cloud_X4_remember : GoodIn wsX10_cloud (wsV RX10 157 RX4 yX4_remember wsX4_remember) := goodIn_app (goodIn_of _ (by decide +kernel)) ggX10_cloud_X4_remember
theorem dX10_cloud_0 : decode cX10_cloud 0 = .ok (.iload_n 1, 1) := by decide +kernel
theorem dX10_cloud_1 : decode cX10_cloud 1 = .ok (.bipush 10, 2) := by decide +kernel
theorem dX10_cloud_3 : decode cX10_cloud 3 = .ok (.invokestatic 86, 3) := by decide +kernel
theorem dX10_cloud_6 : decode cX10_cloud 6 = .ok (.ifCond .ne 8, 3) := by decide +kernel
theorem dX10_cloud_9 : decode cX10_cloud 9 = .ok (.aload_n 0, 1) := by decide +kernel
theorem dX10_cloud_10 : decode cX10_cloud 10 = .ok (.invokevirtual 90, 3) := by decide +kernel
theorem dX10_cloud_13 : decode cX10_cloud 13 = .ok (.ireturn, 1) := by decide +kernel
theorem dX10_cloud_14 : decode cX10_cloud 14 = .ok (.aload_n 0, 1) := by decide +kernel
theorem dX10_cloud_15 : decode cX10_cloud 15 = .ok (.getfield 36, 3) := by decide +kernel
theorem dX10_cloud_18 : decode cX10_cloud 18 = .ok (.invokevirtual 157, 3) := by decide +kernel
theorem dX10_cloud_21 : decode cX10_cloud 21 = .ok (.aload_n 0, 1) := by decide +kernel
theorem dX10_cloud_22 : decode cX10_cloud 22 = .ok (.getfield 36, 3) := by decide +kernel
theorem dX10_cloud_25 : decode cX10_cloud 25 = .ok (.getfield 140, 3) := by decide +kernel
theorem dX10_cloud_28 : decode cX10_cloud 28 = .ok (.getfield 173, 3) := by decide +kernel
theorem dX10_cloud_31 : decode cX10_cloud 31 = .ok (.istore_n 2, 1) := by decide +kernel
theorem dX10_cloud_32 : decode cX10_cloud 32 = .ok (.aload_n 0, 1) := by decide +kernel
theorem dX10_cloud_33 : decode cX10_cloud 33 = .ok (.getfield 36, 3) := by decide +kernel
theorem dX10_cloud_36 : decode cX10_cloud 36 = .ok (.getfield 140, 3) := by decide +kernel
theorem dX10_cloud_39 : decode cX10_cloud 39 = .ok (.iload_n 1, 1) := by decide +kernel
theorem dX10_cloud_40 : decode cX10_cloud 40 = .ok (.putfield 173, 3) := by decide +kernel
theorem dX10_cloud_43 : decode cX10_cloud 43 = .ok (.iload_n 2, 1) := by decide +kernel
theorem dX10_cloud_44 : decode cX10_cloud 44 = .ok (.ireturn, 1) := by decide +kernel
set_option maxRecDepth 20000 in
theorem ggX10_undo_X10_refuseNo : GoodIn wsX10_undo wsX10_refuseNo := goodIn_r _ [9, 10, 34, 35, 36, 37, 38, 39, 40, 41, 42, 43, 44, 45] (by decide +kernel) (by decide +kernel)
set_option maxRecDepth 20000 in
theorem gX10_undo_X10_refuseNo : GoodIn wsX10_undo (wsV RX10 154 RX10 yX10_refuseNo wsX10_refuseNo) := goodIn_app (goodIn_of _ (by decide +kernel)) ggX10_undo_X10_refuseNo
theorem dX10_undo_0 : decode cX10_undo 0 = .ok (.aload_n 0, 1) := by decide +kernel
theorem dX10_undo_1 : decode cX10_undo 1 = .ok (.getfield 36, 3) := by decide +kernel
theorem dX10_undo_4 : decode cX10_undo 4 = .ok (.getfield 176, 3) := by decide +kernel
theorem dX10_undo_7 : decode cX10_undo 7 = .ok (.ifCond .ne 8, 3) := by decide +kernel
theorem dX10_undo_10 : decode cX10_undo 10 = .ok (.aload_n 0, 1) := by decide +kernel
theorem dX10_undo_11 : decode cX10_undo 11 = .ok (.invokevirtual 154, 3) := by decide +kernel
theorem dX10_undo_14 : decode cX10_undo 14 = .ok (.ireturn, 1) := by decide +kernel
set_option maxRecDepth 20000 in
theorem ggX10_of_X4_hasField : GoodIn wsX10_of wsX4_hasField := goodIn_r _ [9, 10, 11, 12, 13, 39, 40, 41, 42, 43, 44, 45, 46, 47, 48, 49] (by decide +kernel) (by decide +kernel)
set_option maxRecDepth 20000 in
theorem gX10_of_X4_hasField : GoodIn wsX10_of (wsV RX10 112 RX4 yX4_hasField wsX4_hasField) := goodIn_app (goodIn_of _ (by decide +kernel)) ggX10_of_X4_hasField
set_option maxRecDepth 20000 in
theorem ggX10_of_X10_refuseBad : GoodIn wsX10_of wsX10_refuseBad := goodIn_r _ [18, 19, 27, 28, 29, 30, 31, 32, 33, 34, 35, 36, 37, 38] (by decide +kernel) (by decide +kernel)
set_option maxRecDepth 20000 in
theorem gX10_of_X10_refuseBad : GoodIn wsX10_of (wsV RX10 90 RX10 yX10_refuseBad wsX10_refuseBad) := goodIn_app (goodIn_of _ (by decide +kernel)) ggX10_of_X10_refuseBad
theorem dX10_of_0 : decode cX10_of 0 = .ok (.aload_n 0, 1) := by decide +kernel
theorem dX10_of_1 : decode cX10_of 1 = .ok (.getfield 36, 3) := by decide +kernel
theorem dX10_of_4 : decode cX10_of 4 = .ok (.iload_n 1, 1) := by decide +kernel
theorem dX10_of_5 : decode cX10_of 5 = .ok (.invokevirtual 112, 3) := by decide +kernel
theorem dX10_of_8 : decode cX10_of 8 = .ok (.ifCond .eq 11, 3) := by decide +kernel
theorem dX10_of_19 : decode cX10_of 19 = .ok (.aload_n 0, 1) := by decide +kernel
theorem dX10_of_20 : decode cX10_of 20 = .ok (.invokevirtual 90, 3) := by decide +kernel
theorem dX10_of_23 : decode cX10_of 23 = .ok (.ireturn, 1) := by decide +kernel
set_option maxRecDepth 20000 in
theorem ggX10_about_X4_hasGleaner : GoodIn wsX10_about wsX4_hasGleaner := goodIn_r _ [9, 10, 11, 12, 13, 98, 99, 100, 101, 102, 103, 104, 105, 106, 107, 108] (by decide +kernel) (by decide +kernel)
set_option maxRecDepth 20000 in
theorem gX10_about_X4_hasGleaner : GoodIn wsX10_about (wsV RX10 167 RX4 yX4_hasGleaner wsX4_hasGleaner) := goodIn_app (goodIn_of _ (by decide +kernel)) ggX10_about_X4_hasGleaner
set_option maxRecDepth 20000 in
theorem ggX10_about_X10_refuseBad : GoodIn wsX10_about wsX10_refuseBad := goodIn_r _ [18, 19, 86, 87, 88, 89, 90, 91, 92, 93, 94, 95, 96, 97] (by decide +kernel) (by decide +kernel)
set_option maxRecDepth 20000 in
theorem gX10_about_X10_refuseBad : GoodIn wsX10_about (wsV RX10 90 RX10 yX10_refuseBad wsX10_refuseBad) := goodIn_app (goodIn_of _ (by decide +kernel)) ggX10_about_X10_refuseBad
theorem dX10_about_0 : decode cX10_about 0 = .ok (.aload_n 0, 1) := by decide +kernel
theorem dX10_about_1 : decode cX10_about 1 = .ok (.getfield 36, 3) := by decide +kernel
theorem dX10_about_4 : decode cX10_about 4 = .ok (.iload_n 1, 1) := by decide +kernel
theorem dX10_about_5 : decode cX10_about 5 = .ok (.invokevirtual 167, 3) := by decide +kernel
theorem dX10_about_8 : decode cX10_about 8 = .ok (.ifCond .eq 11, 3) := by decide +kernel
theorem dX10_about_19 : decode cX10_about 19 = .ok (.aload_n 0, 1) := by decide +kernel
theorem dX10_about_20 : decode cX10_about 20 = .ok (.invokevirtual 90, 3) := by decide +kernel
theorem dX10_about_23 : decode cX10_about 23 = .ok (.ireturn, 1) := by decide +kernel
set_option maxRecDepth 20000 in
theorem ggX10_seen_X4_hasField : GoodIn wsX10_seen wsX4_hasField := goodIn_r _ [7, 8, 9, 10, 11, 86, 87, 88, 89, 90, 91, 92, 93, 94, 95, 96] (by decide +kernel) (by decide +kernel)
set_option maxRecDepth 20000 in
theorem gX10_seen_X4_hasField : GoodIn wsX10_seen (wsV RX10 112 RX4 yX4_hasField wsX4_hasField) := goodIn_app (goodIn_of _ (by decide +kernel)) ggX10_seen_X4_hasField
set_option maxRecDepth 20000 in
theorem ggX10_seen_X10_refuseBad : GoodIn wsX10_seen wsX10_refuseBad := goodIn_r _ [16, 17, 74, 75, 76, 77, 78, 79, 80, 81, 82, 83, 84, 85] (by decide +kernel) (by decide +kernel)
set_option maxRecDepth 20000 in
theorem gX10_seen_X10_refuseBad : GoodIn wsX10_seen (wsV RX10 90 RX10 yX10_refuseBad wsX10_refuseBad) := goodIn_app (goodIn_of _ (by decide +kernel)) ggX10_seen_X10_refuseBad
theorem dX10_seen_0 : decode cX10_seen 0 = .ok (.aload_n 0, 1) := by decide +kernel
theorem dX10_seen_1 : decode cX10_seen 1 = .ok (.getfield 36, 3) := by decide +kernel
theorem dX10_seen_4 : decode cX10_seen 4 = .ok (.iload_n 1, 1) := by decide +kernel
theorem dX10_seen_5 : decode cX10_seen 5 = .ok (.invokevirtual 112, 3) := by decide +kernel
theorem dX10_seen_8 : decode cX10_seen 8 = .ok (.ifCond .eq 12, 3) := by decide +kernel
theorem dX10_seen_20 : decode cX10_seen 20 = .ok (.aload_n 0, 1) := by decide +kernel
theorem dX10_seen_21 : decode cX10_seen 21 = .ok (.invokevirtual 90, 3) := by decide +kernel
theorem dX10_seen_24 : decode cX10_seen 24 = .ok (.ireturn, 1) := by decide +kernel
set_option maxRecDepth 20000 in
theorem ggX10_then_X4_hasGleaner : GoodIn wsX10_then wsX4_hasGleaner := goodIn_r _ [14, 15, 16, 17, 18, 129, 130, 131, 132, 133, 134, 135, 136, 137, 138, 139] (by decide +kernel) (by decide +kernel)
set_option maxRecDepth 20000 in
theorem gX10_then_X4_hasGleaner : GoodIn wsX10_then (wsV RX10 167 RX4 yX4_hasGleaner wsX4_hasGleaner) := goodIn_app (goodIn_of _ (by decide +kernel)) ggX10_then_X4_hasGleaner
set_option maxRecDepth 20000 in
theorem ggX10_then_X10_refuseBad : GoodIn wsX10_then wsX10_refuseBad := goodIn_r _ [25, 26, 117, 118, 119, 120, 121, 122, 123, 124, 125, 126, 127, 128] (by decide +kernel) (by decide +kernel)
set_option maxRecDepth 20000 in
theorem gX10_then_X10_refuseBad : GoodIn wsX10_then (wsV RX10 90 RX10 yX10_refuseBad wsX10_refuseBad) := goodIn_app (goodIn_of _ (by decide +kernel)) ggX10_then_X10_refuseBad
theorem dX10_then_0 : decode cX10_then 0 = .ok (.aload_n 0, 1) := by decide +kernel
theorem dX10_then_1 : decode cX10_then 1 = .ok (.getfield 36, 3) := by decide +kernel
theorem dX10_then_4 : decode cX10_then 4 = .ok (.iload_n 1, 1) := by decide +kernel
theorem dX10_then_5 : decode cX10_then 5 = .ok (.invokevirtual 167, 3) := by decide +kernel
theorem dX10_then_8 : decode cX10_then 8 = .ok (.ifCond .eq 13, 3) := by decide +kernel
theorem dX10_then_21 : decode cX10_then 21 = .ok (.aload_n 0, 1) := by decide +kernel
theorem dX10_then_22 : decode cX10_then 22 = .ok (.invokevirtual 90, 3) := by decide +kernel
theorem dX10_then_25 : decode cX10_then 25 = .ok (.ireturn, 1) := by decide +kernel
set_option maxRecDepth 20000 in
theorem ggX10_round_X4_hasGleaner : GoodIn wsX10_round wsX4_hasGleaner := goodIn_r _ [12, 13, 14, 15, 16, 139, 140, 141, 142, 143, 144, 145, 146, 147, 148, 149] (by decide +kernel) (by decide +kernel)
set_option maxRecDepth 20000 in
theorem gX10_round_X4_hasGleaner : GoodIn wsX10_round (wsV RX10 167 RX4 yX4_hasGleaner wsX4_hasGleaner) := goodIn_app (goodIn_of _ (by decide +kernel)) ggX10_round_X4_hasGleaner
set_option maxRecDepth 20000 in
theorem ggX10_round_X10_refuseTen : GoodIn wsX10_round wsX10_refuseTen := goodIn_r _ [23, 24, 127, 128, 129, 130, 131, 132, 133, 134, 135, 136, 137, 138] (by decide +kernel) (by decide +kernel)
set_option maxRecDepth 20000 in
theorem gX10_round_X10_refuseTen : GoodIn wsX10_round (wsV RX10 209 RX10 yX10_refuseTen wsX10_refuseTen) := goodIn_app (goodIn_of _ (by decide +kernel)) ggX10_round_X10_refuseTen
theorem dX10_round_0 : decode cX10_round 0 = .ok (.aload_n 0, 1) := by decide +kernel
theorem dX10_round_1 : decode cX10_round 1 = .ok (.getfield 36, 3) := by decide +kernel
theorem dX10_round_4 : decode cX10_round 4 = .ok (.iload_n 1, 1) := by decide +kernel
theorem dX10_round_5 : decode cX10_round 5 = .ok (.invokevirtual 167, 3) := by decide +kernel
theorem dX10_round_8 : decode cX10_round 8 = .ok (.ifCond .eq 18, 3) := by decide +kernel
theorem dX10_round_26 : decode cX10_round 26 = .ok (.aload_n 0, 1) := by decide +kernel
theorem dX10_round_27 : decode cX10_round 27 = .ok (.invokevirtual 209, 3) := by decide +kernel
theorem dX10_round_30 : decode cX10_round 30 = .ok (.ireturn, 1) := by decide +kernel
set_option maxRecDepth 20000 in
theorem ggX10_places_X10_isBelow : GoodIn wsX10_places wsX10_isBelow := goodIn_r _ [11] (by decide +kernel) (by decide +kernel)
set_option maxRecDepth 20000 in
theorem gX10_places_X10_isBelow : GoodIn wsX10_places (va_wsS RX10 86 yX10_isBelow wsX10_isBelow) := goodIn_app (goodIn_of _ (by decide +kernel)) ggX10_places_X10_isBelow
set_option maxRecDepth 20000 in
theorem ggX10_places_X4_hasGleaner : GoodIn wsX10_places wsX4_hasGleaner := goodIn_r _ [16, 17, 9, 10, 11, 130, 131, 132, 133, 134, 135, 136, 137, 138, 139, 140] (by decide +kernel) (by decide +kernel)
set_option maxRecDepth 20000 in
theorem gX10_places_X4_hasGleaner : GoodIn wsX10_places (wsV RX10 167 RX4 yX4_hasGleaner wsX4_hasGleaner) := goodIn_app (goodIn_of _ (by decide +kernel)) ggX10_places_X4_hasGleaner
set_option maxRecDepth 20000 in
theorem ggX10_places_X10_refuseTen : GoodIn wsX10_places wsX10_refuseTen := goodIn_r _ [21, 22, 118, 119, 120, 121, 122, 123, 124, 125, 126, 127, 128, 129] (by decide +kernel) (by decide +kernel)
set_option maxRecDepth 20000 in
theorem gX10_places_X10_refuseTen : GoodIn wsX10_places (wsV RX10 209 RX10 yX10_refuseTen wsX10_refuseTen) := goodIn_app (goodIn_of _ (by decide +kernel)) ggX10_places_X10_refuseTen
theorem dX10_places_0 : decode cX10_places 0 = .ok (.iload_n 1, 1) := by decide +kernel
theorem dX10_places_1 : decode cX10_places 1 = .ok (.iconst 2, 1) := by decide +kernel
theorem dX10_places_2 : decode cX10_places 2 = .ok (.invokestatic 86, 3) := by decide +kernel
theorem dX10_places_5 : decode cX10_places 5 = .ok (.ifCond .eq 19, 3) := by decide +kernel
theorem dX10_places_8 : decode cX10_places 8 = .ok (.iload_n 2, 1) := by decide +kernel
theorem dX10_places_9 : decode cX10_places 9 = .ok (.iconst (-1), 1) := by decide +kernel
theorem dX10_places_10 : decode cX10_places 10 = .ok (.if_icmp .eq 19, 3) := by decide +kernel
theorem dX10_places_13 : decode cX10_places 13 = .ok (.aload_n 0, 1) := by decide +kernel
theorem dX10_places_14 : decode cX10_places 14 = .ok (.getfield 36, 3) := by decide +kernel
theorem dX10_places_17 : decode cX10_places 17 = .ok (.iload_n 2, 1) := by decide +kernel
theorem dX10_places_18 : decode cX10_places 18 = .ok (.invokevirtual 167, 3) := by decide +kernel
theorem dX10_places_21 : decode cX10_places 21 = .ok (.ifCond .ne 8, 3) := by decide +kernel
theorem dX10_places_24 : decode cX10_places 24 = .ok (.aload_n 0, 1) := by decide +kernel
theorem dX10_places_25 : decode cX10_places 25 = .ok (.invokevirtual 209, 3) := by decide +kernel
theorem dX10_places_28 : decode cX10_places 28 = .ok (.ireturn, 1) := by decide +kernel
theorem dX10_places_29 : decode cX10_places 29 = .ok (.aload_n 0, 1) := by decide +kernel
theorem dX10_places_30 : decode cX10_places 30 = .ok (.getfield 36, 3) := by decide +kernel
theorem dX10_places_33 : decode cX10_places 33 = .ok (.getfield 115, 3) := by decide +kernel
theorem dX10_places_36 : decode cX10_places 36 = .ok (.ifCond .ne 5, 3) := by decide +kernel
theorem dX10_places_39 : decode cX10_places 39 = .ok (.iconst 0, 1) := by decide +kernel
theorem dX10_places_40 : decode cX10_places 40 = .ok (.ireturn, 1) := by decide +kernel
set_option maxRecDepth 20000 in
theorem ggX10_which_X10_isBelow : GoodIn wsX10_which wsX10_isBelow := goodIn_r _ [7] (by decide +kernel) (by decide +kernel)
set_option maxRecDepth 20000 in
theorem gX10_which_X10_isBelow : GoodIn wsX10_which (va_wsS RX10 86 yX10_isBelow wsX10_isBelow) := goodIn_app (goodIn_of _ (by decide +kernel)) ggX10_which_X10_isBelow
set_option maxRecDepth 20000 in
theorem ggX10_which_X10_refuseBad : GoodIn wsX10_which wsX10_refuseBad := goodIn_r _ [11, 12, 75, 76, 77, 78, 79, 80, 81, 82, 83, 84, 85, 86] (by decide +kernel) (by decide +kernel)
set_option maxRecDepth 20000 in
theorem gX10_which_X10_refuseBad : GoodIn wsX10_which (wsV RX10 90 RX10 yX10_refuseBad wsX10_refuseBad) := goodIn_app (goodIn_of _ (by decide +kernel)) ggX10_which_X10_refuseBad
set_option maxRecDepth 20000 in
theorem ggX10_which_X10_showAll : GoodIn wsX10_which wsX10_showAll := goodIn_r _ [16, 1, 2, 3, 17, 18, 19, 20, 21, 22, 23, 24, 25, 26, 27, 28, 29, 30, 31, 32, 33, 34, 35, 36, 37, 38, 39, 40, 41, 42, 43, 44, 45, 46, 47, 48, 49, 50, 51, 52, 53, 54, 55, 56, 57, 58, 59, 60, 61, 62, 63, 64, 65, 66, 67, 68, 69, 70, 71, 72, 73, 74, 75, 76, 77, 78, 79, 80, 81, 82, 83, 84, 85, 86, 87, 88, 89, 90, 91, 92, 93, 94, 95, 96, 97, 98, 99, 100, 101, 102, 103] (by decide +kernel) (by decide +kernel)
set_option maxRecDepth 20000 in
theorem gX10_which_X10_showAll : GoodIn wsX10_which (wsV RX10 222 RX10 yX10_showAll wsX10_showAll) := goodIn_app (goodIn_of _ (by decide +kernel)) ggX10_which_X10_showAll
theorem dX10_which_0 : decode cX10_which 0 = .ok (.iload_n 1, 1) := by decide +kernel
theorem dX10_which_1 : decode cX10_which 1 = .ok (.bipush 12, 2) := by decide +kernel
theorem dX10_which_3 : decode cX10_which 3 = .ok (.invokestatic 86, 3) := by decide +kernel
theorem dX10_which_6 : decode cX10_which 6 = .ok (.ifCond .ne 8, 3) := by decide +kernel
theorem dX10_which_9 : decode cX10_which 9 = .ok (.aload_n 0, 1) := by decide +kernel
theorem dX10_which_10 : decode cX10_which 10 = .ok (.invokevirtual 90, 3) := by decide +kernel
theorem dX10_which_13 : decode cX10_which 13 = .ok (.ireturn, 1) := by decide +kernel
theorem dX10_which_14 : decode cX10_which 14 = .ok (.aload_n 0, 1) := by decide +kernel
theorem dX10_which_15 : decode cX10_which 15 = .ok (.iload_n 1, 1) := by decide +kernel
theorem dX10_which_16 : decode cX10_which 16 = .ok (.invokevirtual 222, 3) := by decide +kernel
theorem dX10_which_19 : decode cX10_which 19 = .ok (.iconst (-1), 1) := by decide +kernel
theorem dX10_which_20 : decode cX10_which 20 = .ok (.istore_n 2, 1) := by decide +kernel
theorem dX10_which_21 : decode cX10_which 21 = .ok (.iconst 0, 1) := by decide +kernel
theorem dX10_which_22 : decode cX10_which 22 = .ok (.istore_n 3, 1) := by decide +kernel
theorem dX10_which_23 : decode cX10_which 23 = .ok (.iload_n 3, 1) := by decide +kernel
theorem dX10_which_24 : decode cX10_which 24 = .ok (.aload_n 0, 1) := by decide +kernel
theorem dX10_which_25 : decode cX10_which 25 = .ok (.getfield 36, 3) := by decide +kernel
theorem dX10_which_28 : decode cX10_which 28 = .ok (.getfield 94, 3) := by decide +kernel
theorem dX10_which_31 : decode cX10_which 31 = .ok (.if_icmp .ge 31, 3) := by decide +kernel
theorem dX10_which_62 : decode cX10_which 62 = .ok (.iload_n 2, 1) := by decide +kernel
theorem dX10_which_63 : decode cX10_which 63 = .ok (.ireturn, 1) := by decide +kernel
set_option maxRecDepth 20000 in
theorem ggX10_lasts_X4_hasGleaner : GoodIn wsX10_lasts wsX4_hasGleaner := goodIn_r _ [8, 9, 10, 11, 12, 36, 37, 38, 39, 40, 41, 42, 43, 44, 45, 46] (by decide +kernel) (by decide +kernel)
set_option maxRecDepth 20000 in
theorem gX10_lasts_X4_hasGleaner : GoodIn wsX10_lasts (wsV RX10 167 RX4 yX4_hasGleaner wsX4_hasGleaner) := goodIn_app (goodIn_of _ (by decide +kernel)) ggX10_lasts_X4_hasGleaner
set_option maxRecDepth 20000 in
theorem ggX10_lasts_X10_refuseBad : GoodIn wsX10_lasts wsX10_refuseBad := goodIn_r _ [19, 20, 24, 25, 26, 27, 28, 29, 30, 31, 32, 33, 34, 35] (by decide +kernel) (by decide +kernel)
set_option maxRecDepth 20000 in
theorem gX10_lasts_X10_refuseBad : GoodIn wsX10_lasts (wsV RX10 90 RX10 yX10_refuseBad wsX10_refuseBad) := goodIn_app (goodIn_of _ (by decide +kernel)) ggX10_lasts_X10_refuseBad
theorem dX10_lasts_0 : decode cX10_lasts 0 = .ok (.aload_n 0, 1) := by decide +kernel
theorem dX10_lasts_1 : decode cX10_lasts 1 = .ok (.getfield 36, 3) := by decide +kernel
theorem dX10_lasts_4 : decode cX10_lasts 4 = .ok (.iload_n 1, 1) := by decide +kernel
theorem dX10_lasts_5 : decode cX10_lasts 5 = .ok (.invokevirtual 167, 3) := by decide +kernel
theorem dX10_lasts_8 : decode cX10_lasts 8 = .ok (.ifCond .eq 14, 3) := by decide +kernel
theorem dX10_lasts_22 : decode cX10_lasts 22 = .ok (.aload_n 0, 1) := by decide +kernel
theorem dX10_lasts_23 : decode cX10_lasts 23 = .ok (.invokevirtual 90, 3) := by decide +kernel
theorem dX10_lasts_26 : decode cX10_lasts 26 = .ok (.ireturn, 1) := by decide +kernel
set_option maxRecDepth 20000 in
theorem ggX10_enough_X10_isIn : GoodIn wsX10_enough wsX10_isIn := goodIn_r _ [6] (by decide +kernel) (by decide +kernel)
set_option maxRecDepth 20000 in
theorem gX10_enough_X10_isIn : GoodIn wsX10_enough (va_wsS RX10 147 yX10_isIn wsX10_isIn) := goodIn_app (goodIn_of _ (by decide +kernel)) ggX10_enough_X10_isIn
set_option maxRecDepth 20000 in
theorem ggX10_enough_X10_refuseBad : GoodIn wsX10_enough wsX10_refuseBad := goodIn_r _ [10, 11, 27, 28, 29, 30, 31, 32, 33, 34, 35, 36, 37, 38] (by decide +kernel) (by decide +kernel)
set_option maxRecDepth 20000 in
theorem gX10_enough_X10_refuseBad : GoodIn wsX10_enough (wsV RX10 90 RX10 yX10_refuseBad wsX10_refuseBad) := goodIn_app (goodIn_of _ (by decide +kernel)) ggX10_enough_X10_refuseBad
set_option maxRecDepth 20000 in
theorem ggX10_enough_X4_storesOf : GoodIn wsX10_enough wsX4_storesOf := goodIn_r _ [23, 24, 25, 26, 39, 40, 41, 42, 43, 44, 45, 46, 47, 48, 49, 50, 51, 52, 53, 54, 55] (by decide +kernel) (by decide +kernel)
set_option maxRecDepth 20000 in
theorem gX10_enough_X4_storesOf : GoodIn wsX10_enough (wsV RX10 237 RX4 yX4_storesOf wsX4_storesOf) := goodIn_app (goodIn_of _ (by decide +kernel)) ggX10_enough_X4_storesOf
theorem dX10_enough_0 : decode cX10_enough 0 = .ok (.iload_n 1, 1) := by decide +kernel
theorem dX10_enough_1 : decode cX10_enough 1 = .ok (.iconst 0, 1) := by decide +kernel
theorem dX10_enough_2 : decode cX10_enough 2 = .ok (.sipush 999, 3) := by decide +kernel
theorem dX10_enough_5 : decode cX10_enough 5 = .ok (.invokestatic 147, 3) := by decide +kernel
theorem dX10_enough_8 : decode cX10_enough 8 = .ok (.ifCond .ne 8, 3) := by decide +kernel
theorem dX10_enough_11 : decode cX10_enough 11 = .ok (.aload_n 0, 1) := by decide +kernel
theorem dX10_enough_12 : decode cX10_enough 12 = .ok (.invokevirtual 90, 3) := by decide +kernel
theorem dX10_enough_15 : decode cX10_enough 15 = .ok (.ireturn, 1) := by decide +kernel
theorem dX10_enough_16 : decode cX10_enough 16 = .ok (.iconst (-1), 1) := by decide +kernel
theorem dX10_enough_17 : decode cX10_enough 17 = .ok (.istore_n 2, 1) := by decide +kernel
theorem dX10_enough_18 : decode cX10_enough 18 = .ok (.iconst 0, 1) := by decide +kernel
theorem dX10_enough_19 : decode cX10_enough 19 = .ok (.istore_n 3, 1) := by decide +kernel
theorem dX10_enough_20 : decode cX10_enough 20 = .ok (.iload_n 3, 1) := by decide +kernel
theorem dX10_enough_21 : decode cX10_enough 21 = .ok (.iconst 1, 1) := by decide +kernel
theorem dX10_enough_22 : decode cX10_enough 22 = .ok (.aload_n 0, 1) := by decide +kernel
theorem dX10_enough_23 : decode cX10_enough 23 = .ok (.getfield 36, 3) := by decide +kernel
theorem dX10_enough_26 : decode cX10_enough 26 = .ok (.getfield 115, 3) := by decide +kernel
theorem dX10_enough_29 : decode cX10_enough 29 = .ok (.ishl, 1) := by decide +kernel
theorem dX10_enough_30 : decode cX10_enough 30 = .ok (.if_icmp .ge 51, 3) := by decide +kernel
theorem dX10_enough_33 : decode cX10_enough 33 = .ok (.iload_n 2, 1) := by decide +kernel
theorem dX10_enough_34 : decode cX10_enough 34 = .ok (.iconst (-1), 1) := by decide +kernel
theorem dX10_enough_35 : decode cX10_enough 35 = .ok (.if_icmp .eq 14, 3) := by decide +kernel
theorem dX10_enough_49 : decode cX10_enough 49 = .ok (.iconst 1, 1) := by decide +kernel
theorem dX10_enough_50 : decode cX10_enough 50 = .ok (.goto 4, 3) := by decide +kernel
theorem dX10_enough_54 : decode cX10_enough 54 = .ok (.istore 4, 2) := by decide +kernel
theorem dX10_enough_56 : decode cX10_enough 56 = .ok (.iload 4, 2) := by decide +kernel
theorem dX10_enough_58 : decode cX10_enough 58 = .ok (.ifCond .eq 17, 3) := by decide +kernel
theorem dX10_enough_61 : decode cX10_enough 61 = .ok (.aload_n 0, 1) := by decide +kernel
theorem dX10_enough_62 : decode cX10_enough 62 = .ok (.getfield 36, 3) := by decide +kernel
theorem dX10_enough_65 : decode cX10_enough 65 = .ok (.iload_n 3, 1) := by decide +kernel
theorem dX10_enough_66 : decode cX10_enough 66 = .ok (.invokevirtual 237, 3) := by decide +kernel
theorem dX10_enough_69 : decode cX10_enough 69 = .ok (.iload_n 1, 1) := by decide +kernel
theorem dX10_enough_70 : decode cX10_enough 70 = .ok (.if_icmp .lt 5, 3) := by decide +kernel
theorem dX10_enough_73 : decode cX10_enough 73 = .ok (.iload_n 3, 1) := by decide +kernel
theorem dX10_enough_74 : decode cX10_enough 74 = .ok (.istore_n 2, 1) := by decide +kernel
theorem dX10_enough_75 : decode cX10_enough 75 = .ok (.iinc 3 1, 3) := by decide +kernel
theorem dX10_enough_78 : decode cX10_enough 78 = .ok (.goto (-58), 3) := by decide +kernel
theorem dX10_enough_81 : decode cX10_enough 81 = .ok (.iload_n 2, 1) := by decide +kernel
theorem dX10_enough_82 : decode cX10_enough 82 = .ok (.ireturn, 1) := by decide +kernel
set_option maxRecDepth 20000 in
theorem ggX10_missed_X4_hasField : GoodIn wsX10_missed wsX4_hasField := goodIn_r _ [7, 8, 9, 10, 11, 46, 47, 48, 49, 50, 51, 52, 53, 54, 55, 56] (by decide +kernel) (by decide +kernel)
set_option maxRecDepth 20000 in
theorem gX10_missed_X4_hasField : GoodIn wsX10_missed (wsV RX10 112 RX4 yX4_hasField wsX4_hasField) := goodIn_app (goodIn_of _ (by decide +kernel)) ggX10_missed_X4_hasField
set_option maxRecDepth 20000 in
theorem ggX10_missed_X10_refuseBad : GoodIn wsX10_missed wsX10_refuseBad := goodIn_r _ [22, 23, 34, 35, 36, 37, 38, 39, 40, 41, 42, 43, 44, 45] (by decide +kernel) (by decide +kernel)
set_option maxRecDepth 20000 in
theorem gX10_missed_X10_refuseBad : GoodIn wsX10_missed (wsV RX10 90 RX10 yX10_refuseBad wsX10_refuseBad) := goodIn_app (goodIn_of _ (by decide +kernel)) ggX10_missed_X10_refuseBad
theorem dX10_missed_0 : decode cX10_missed 0 = .ok (.aload_n 0, 1) := by decide +kernel
theorem dX10_missed_1 : decode cX10_missed 1 = .ok (.getfield 36, 3) := by decide +kernel
theorem dX10_missed_4 : decode cX10_missed 4 = .ok (.iload_n 1, 1) := by decide +kernel
theorem dX10_missed_5 : decode cX10_missed 5 = .ok (.invokevirtual 112, 3) := by decide +kernel
theorem dX10_missed_8 : decode cX10_missed 8 = .ok (.ifCond .eq 30, 3) := by decide +kernel
theorem dX10_missed_38 : decode cX10_missed 38 = .ok (.aload_n 0, 1) := by decide +kernel
theorem dX10_missed_39 : decode cX10_missed 39 = .ok (.invokevirtual 90, 3) := by decide +kernel
theorem dX10_missed_42 : decode cX10_missed 42 = .ok (.ireturn, 1) := by decide +kernel
set_option maxRecDepth 20000 in
theorem ggX10_clouds_X4_missedFit : GoodIn wsX10_clouds wsX4_missedFit := goodIn_r _ [6, 7, 8, 9, 10, 11, 12, 13, 14, 15, 16, 17, 18, 19, 20, 21, 22, 23, 24, 25, 26, 27, 28, 29, 30, 31, 32, 33, 34, 35, 36, 37, 38, 39, 40, 41, 42, 43, 44, 45, 46, 47, 48, 49, 50, 51, 52, 53, 54, 55, 56, 57, 58, 71, 72, 73, 74, 75, 76, 77, 78, 79, 80, 81] (by decide +kernel) (by decide +kernel)
set_option maxRecDepth 20000 in
theorem gX10_clouds_X4_missedFit : GoodIn wsX10_clouds (wsV RX10 247 RX4 yX4_missedFit wsX4_missedFit) := goodIn_app (goodIn_of _ (by decide +kernel)) ggX10_clouds_X4_missedFit
theorem dX10_clouds_0 : decode cX10_clouds 0 = .ok (.iconst 0, 1) := by decide +kernel
theorem dX10_clouds_1 : decode cX10_clouds 1 = .ok (.istore_n 1, 1) := by decide +kernel
theorem dX10_clouds_2 : decode cX10_clouds 2 = .ok (.iconst 0, 1) := by decide +kernel
theorem dX10_clouds_3 : decode cX10_clouds 3 = .ok (.istore_n 2, 1) := by decide +kernel
theorem dX10_clouds_4 : decode cX10_clouds 4 = .ok (.iload_n 2, 1) := by decide +kernel
theorem dX10_clouds_5 : decode cX10_clouds 5 = .ok (.bipush 10, 2) := by decide +kernel
theorem dX10_clouds_7 : decode cX10_clouds 7 = .ok (.if_icmp .ge 26, 3) := by decide +kernel
theorem dX10_clouds_10 : decode cX10_clouds 10 = .ok (.aload_n 0, 1) := by decide +kernel
theorem dX10_clouds_11 : decode cX10_clouds 11 = .ok (.getfield 36, 3) := by decide +kernel
theorem dX10_clouds_14 : decode cX10_clouds 14 = .ok (.iload_n 2, 1) := by decide +kernel
theorem dX10_clouds_15 : decode cX10_clouds 15 = .ok (.invokevirtual 247, 3) := by decide +kernel
theorem dX10_clouds_18 : decode cX10_clouds 18 = .ok (.ifCond .eq 9, 3) := by decide +kernel
theorem dX10_clouds_21 : decode cX10_clouds 21 = .ok (.iload_n 1, 1) := by decide +kernel
theorem dX10_clouds_22 : decode cX10_clouds 22 = .ok (.iconst 1, 1) := by decide +kernel
theorem dX10_clouds_23 : decode cX10_clouds 23 = .ok (.iload_n 2, 1) := by decide +kernel
theorem dX10_clouds_24 : decode cX10_clouds 24 = .ok (.ishl, 1) := by decide +kernel
theorem dX10_clouds_25 : decode cX10_clouds 25 = .ok (.ior, 1) := by decide +kernel
theorem dX10_clouds_26 : decode cX10_clouds 26 = .ok (.istore_n 1, 1) := by decide +kernel
theorem dX10_clouds_27 : decode cX10_clouds 27 = .ok (.iinc 2 1, 3) := by decide +kernel
theorem dX10_clouds_30 : decode cX10_clouds 30 = .ok (.goto (-26), 3) := by decide +kernel
theorem dX10_clouds_33 : decode cX10_clouds 33 = .ok (.iload_n 1, 1) := by decide +kernel
theorem dX10_clouds_34 : decode cX10_clouds 34 = .ok (.ireturn, 1) := by decide +kernel
set_option maxRecDepth 20000 in
theorem ggX10_note_X4_hasField : GoodIn wsX10_note wsX4_hasField := goodIn_r _ [7, 8, 9, 10, 11, 46, 47, 48, 49, 50, 51, 52, 53, 54, 55, 56] (by decide +kernel) (by decide +kernel)
set_option maxRecDepth 20000 in
theorem gX10_note_X4_hasField : GoodIn wsX10_note (wsV RX10 112 RX4 yX4_hasField wsX4_hasField) := goodIn_app (goodIn_of _ (by decide +kernel)) ggX10_note_X4_hasField
set_option maxRecDepth 20000 in
theorem ggX10_note_X10_refuseBad : GoodIn wsX10_note wsX10_refuseBad := goodIn_r _ [22, 23, 34, 35, 36, 37, 38, 39, 40, 41, 42, 43, 44, 45] (by decide +kernel) (by decide +kernel)
set_option maxRecDepth 20000 in
theorem gX10_note_X10_refuseBad : GoodIn wsX10_note (wsV RX10 90 RX10 yX10_refuseBad wsX10_refuseBad) := goodIn_app (goodIn_of _ (by decide +kernel)) ggX10_note_X10_refuseBad
theorem dX10_note_0 : decode cX10_note 0 = .ok (.aload_n 0, 1) := by decide +kernel
theorem dX10_note_1 : decode cX10_note 1 = .ok (.getfield 36, 3) := by decide +kernel
theorem dX10_note_4 : decode cX10_note 4 = .ok (.iload_n 1, 1) := by decide +kernel
theorem dX10_note_5 : decode cX10_note 5 = .ok (.invokevirtual 112, 3) := by decide +kernel
theorem dX10_note_8 : decode cX10_note 8 = .ok (.ifCond .eq 19, 3) := by decide +kernel
theorem dX10_note_27 : decode cX10_note 27 = .ok (.aload_n 0, 1) := by decide +kernel
theorem dX10_note_28 : decode cX10_note 28 = .ok (.invokevirtual 90, 3) := by decide +kernel
theorem dX10_note_31 : decode cX10_note 31 = .ok (.ireturn, 1) := by decide +kernel
set_option maxRecDepth 20000 in
theorem ggX10_forget_X10_isBelow : GoodIn wsX10_forget wsX10_isBelow := goodIn_r _ [7] (by decide +kernel) (by decide +kernel)
set_option maxRecDepth 20000 in
theorem gX10_forget_X10_isBelow : GoodIn wsX10_forget (va_wsS RX10 86 yX10_isBelow wsX10_isBelow) := goodIn_app (goodIn_of _ (by decide +kernel)) ggX10_forget_X10_isBelow
set_option maxRecDepth 20000 in
theorem ggX10_forget_X10_refuseBad : GoodIn wsX10_forget wsX10_refuseBad := goodIn_r _ [11, 12, 13, 14, 15, 16, 17, 18, 19, 20, 21, 22, 23, 24] (by decide +kernel) (by decide +kernel)
set_option maxRecDepth 20000 in
theorem gX10_forget_X10_refuseBad : GoodIn wsX10_forget (wsV RX10 90 RX10 yX10_refuseBad wsX10_refuseBad) := goodIn_app (goodIn_of _ (by decide +kernel)) ggX10_forget_X10_refuseBad
theorem dX10_forget_0 : decode cX10_forget 0 = .ok (.iload_n 1, 1) := by decide +kernel
theorem dX10_forget_1 : decode cX10_forget 1 = .ok (.iconst 2, 1) := by decide +kernel
theorem dX10_forget_2 : decode cX10_forget 2 = .ok (.invokestatic 86, 3) := by decide +kernel
theorem dX10_forget_5 : decode cX10_forget 5 = .ok (.ifCond .ne 8, 3) := by decide +kernel
theorem dX10_forget_8 : decode cX10_forget 8 = .ok (.aload_n 0, 1) := by decide +kernel
theorem dX10_forget_9 : decode cX10_forget 9 = .ok (.invokevirtual 90, 3) := by decide +kernel
theorem dX10_forget_12 : decode cX10_forget 12 = .ok (.ireturn, 1) := by decide +kernel
theorem dX10_forget_13 : decode cX10_forget 13 = .ok (.iload_n 1, 1) := by decide +kernel
theorem dX10_forget_14 : decode cX10_forget 14 = .ok (.ifCond .ne 13, 3) := by decide +kernel
theorem dX10_forget_17 : decode cX10_forget 17 = .ok (.aload_n 0, 1) := by decide +kernel
theorem dX10_forget_18 : decode cX10_forget 18 = .ok (.getfield 36, 3) := by decide +kernel
theorem dX10_forget_21 : decode cX10_forget 21 = .ok (.getfield 240, 3) := by decide +kernel
theorem dX10_forget_24 : decode cX10_forget 24 = .ok (.goto 10, 3) := by decide +kernel
theorem dX10_forget_27 : decode cX10_forget 27 = .ok (.aload_n 0, 1) := by decide +kernel
theorem dX10_forget_28 : decode cX10_forget 28 = .ok (.getfield 36, 3) := by decide +kernel
theorem dX10_forget_31 : decode cX10_forget 31 = .ok (.getfield 250, 3) := by decide +kernel
theorem dX10_forget_34 : decode cX10_forget 34 = .ok (.istore_n 2, 1) := by decide +kernel
theorem dX10_forget_35 : decode cX10_forget 35 = .ok (.iload_n 1, 1) := by decide +kernel
theorem dX10_forget_36 : decode cX10_forget 36 = .ok (.ifCond .ne 14, 3) := by decide +kernel
theorem dX10_forget_39 : decode cX10_forget 39 = .ok (.aload_n 0, 1) := by decide +kernel
theorem dX10_forget_40 : decode cX10_forget 40 = .ok (.getfield 36, 3) := by decide +kernel
theorem dX10_forget_43 : decode cX10_forget 43 = .ok (.iconst 0, 1) := by decide +kernel
theorem dX10_forget_44 : decode cX10_forget 44 = .ok (.putfield 240, 3) := by decide +kernel
theorem dX10_forget_47 : decode cX10_forget 47 = .ok (.goto 11, 3) := by decide +kernel
theorem dX10_forget_50 : decode cX10_forget 50 = .ok (.aload_n 0, 1) := by decide +kernel
theorem dX10_forget_51 : decode cX10_forget 51 = .ok (.getfield 36, 3) := by decide +kernel
theorem dX10_forget_54 : decode cX10_forget 54 = .ok (.iconst 0, 1) := by decide +kernel
theorem dX10_forget_55 : decode cX10_forget 55 = .ok (.putfield 250, 3) := by decide +kernel
theorem dX10_forget_58 : decode cX10_forget 58 = .ok (.iload_n 2, 1) := by decide +kernel
theorem dX10_forget_59 : decode cX10_forget 59 = .ok (.ireturn, 1) := by decide +kernel
set_option maxRecDepth 20000 in
theorem ggX10_is_X4_hasField : GoodIn wsX10_is wsX4_hasField := goodIn_r _ [6, 7, 8, 9, 10, 87, 88, 89, 90, 91, 92, 93, 94, 95, 96, 97] (by decide +kernel) (by decide +kernel)
set_option maxRecDepth 20000 in
theorem gX10_is_X4_hasField : GoodIn wsX10_is (wsV RX10 112 RX4 yX4_hasField wsX4_hasField) := goodIn_app (goodIn_of _ (by decide +kernel)) ggX10_is_X4_hasField
set_option maxRecDepth 20000 in
theorem ggX10_is_X10_refuseBad : GoodIn wsX10_is wsX10_refuseBad := goodIn_r _ [14, 15, 75, 76, 77, 78, 79, 80, 81, 82, 83, 84, 85, 86] (by decide +kernel) (by decide +kernel)
set_option maxRecDepth 20000 in
theorem gX10_is_X10_refuseBad : GoodIn wsX10_is (wsV RX10 90 RX10 yX10_refuseBad wsX10_refuseBad) := goodIn_app (goodIn_of _ (by decide +kernel)) ggX10_is_X10_refuseBad
theorem dX10_is_0 : decode cX10_is 0 = .ok (.aload_n 0, 1) := by decide +kernel
theorem dX10_is_1 : decode cX10_is 1 = .ok (.getfield 36, 3) := by decide +kernel
theorem dX10_is_4 : decode cX10_is 4 = .ok (.iload_n 1, 1) := by decide +kernel
theorem dX10_is_5 : decode cX10_is 5 = .ok (.invokevirtual 112, 3) := by decide +kernel
theorem dX10_is_8 : decode cX10_is 8 = .ok (.ifCond .ne 8, 3) := by decide +kernel
theorem dX10_is_11 : decode cX10_is 11 = .ok (.aload_n 0, 1) := by decide +kernel
theorem dX10_is_12 : decode cX10_is 12 = .ok (.invokevirtual 90, 3) := by decide +kernel
theorem dX10_is_15 : decode cX10_is 15 = .ok (.ireturn, 1) := by decide +kernel
set_option maxRecDepth 20000 in
theorem ggX10_look_X4_hasField : GoodIn wsX10_look wsX4_hasField := goodIn_r _ [8, 9, 10, 11, 12, 97, 98, 99, 100, 101, 102, 103, 104, 105, 106, 107] (by decide +kernel) (by decide +kernel)
set_option maxRecDepth 20000 in
theorem gX10_look_X4_hasField : GoodIn wsX10_look (wsV RX10 112 RX4 yX4_hasField wsX4_hasField) := goodIn_app (goodIn_of _ (by decide +kernel)) ggX10_look_X4_hasField
set_option maxRecDepth 20000 in
theorem ggX10_look_X10_refuseBad : GoodIn wsX10_look wsX10_refuseBad := goodIn_r _ [16, 17, 85, 86, 87, 88, 89, 90, 91, 92, 93, 94, 95, 96] (by decide +kernel) (by decide +kernel)
set_option maxRecDepth 20000 in
theorem gX10_look_X10_refuseBad : GoodIn wsX10_look (wsV RX10 90 RX10 yX10_refuseBad wsX10_refuseBad) := goodIn_app (goodIn_of _ (by decide +kernel)) ggX10_look_X10_refuseBad
end
section
theorem dX10_look_0 : decode cX10_look 0 = .ok (.aload_n 0, 1) := by decide +kernel
theorem dX10_look_1 : decode cX10_look 1 = .ok (.getfield 36, 3) := by decide +kernel
theorem dX10_look_4 : decode cX10_look 4 = .ok (.iload_n 1, 1) := by decide +kernel
theorem dX10_look_5 : decode cX10_look 5 = .ok (.invokevirtual 112, 3) := by decide +kernel
theorem dX10_look_8 : decode cX10_look 8 = .ok (.ifCond .ne 8, 3) := by decide +kernel
theorem dX10_look_11 : decode cX10_look 11 = .ok (.aload_n 0, 1) := by decide +kernel
theorem dX10_look_12 : decode cX10_look 12 = .ok (.invokevirtual 90, 3) := by decide +kernel
theorem dX10_look_15 : decode cX10_look 15 = .ok (.ireturn, 1) := by decide +kernel
set_option maxRecDepth 20000 in
theorem ggX10_two_X4_hasGleaner : GoodIn wsX10_two wsX4_hasGleaner := goodIn_r _ [10, 11, 12, 13, 14, 104, 105, 106, 107, 108, 109, 110, 111, 112, 113, 114] (by decide +kernel) (by decide +kernel)
set_option maxRecDepth 20000 in
theorem gX10_two_X4_hasGleaner : GoodIn wsX10_two (wsV RX10 167 RX4 yX4_hasGleaner wsX4_hasGleaner) := goodIn_app (goodIn_of _ (by decide +kernel)) ggX10_two_X4_hasGleaner
set_option maxRecDepth 20000 in
theorem ggX10_two_X10_refuseTen : GoodIn wsX10_two wsX10_refuseTen := goodIn_r _ [18, 19, 92, 93, 94, 95, 96, 97, 98, 99, 100, 101, 102, 103] (by decide +kernel) (by decide +kernel)
set_option maxRecDepth 20000 in
theorem gX10_two_X10_refuseTen : GoodIn wsX10_two (wsV RX10 209 RX10 yX10_refuseTen wsX10_refuseTen) := goodIn_app (goodIn_of _ (by decide +kernel)) ggX10_two_X10_refuseTen
theorem dX10_two_0 : decode cX10_two 0 = .ok (.aload_n 0, 1) := by decide +kernel
theorem dX10_two_1 : decode cX10_two 1 = .ok (.getfield 36, 3) := by decide +kernel
theorem dX10_two_4 : decode cX10_two 4 = .ok (.iload_n 1, 1) := by decide +kernel
theorem dX10_two_5 : decode cX10_two 5 = .ok (.invokevirtual 167, 3) := by decide +kernel
theorem dX10_two_8 : decode cX10_two 8 = .ok (.ifCond .eq 24, 3) := by decide +kernel
theorem dX10_two_32 : decode cX10_two 32 = .ok (.aload_n 0, 1) := by decide +kernel
theorem dX10_two_33 : decode cX10_two 33 = .ok (.invokevirtual 209, 3) := by decide +kernel
theorem dX10_two_36 : decode cX10_two 36 = .ok (.ireturn, 1) := by decide +kernel
set_option maxRecDepth 20000 in
theorem ggX10_rains_X4_hasField : GoodIn wsX10_rains wsX4_hasField := goodIn_r _ [16, 17, 18, 19, 20, 112, 113, 114, 115, 116, 117, 118, 119, 120, 121, 122] (by decide +kernel) (by decide +kernel)
set_option maxRecDepth 20000 in
theorem gX10_rains_X4_hasField : GoodIn wsX10_rains (wsV RX10 112 RX4 yX4_hasField wsX4_hasField) := goodIn_app (goodIn_of _ (by decide +kernel)) ggX10_rains_X4_hasField
set_option maxRecDepth 20000 in
theorem ggX10_rains_X10_refuseBad : GoodIn wsX10_rains wsX10_refuseBad := goodIn_r _ [27, 28, 100, 101, 102, 103, 104, 105, 106, 107, 108, 109, 110, 111] (by decide +kernel) (by decide +kernel)
set_option maxRecDepth 20000 in
theorem gX10_rains_X10_refuseBad : GoodIn wsX10_rains (wsV RX10 90 RX10 yX10_refuseBad wsX10_refuseBad) := goodIn_app (goodIn_of _ (by decide +kernel)) ggX10_rains_X10_refuseBad
theorem dX10_rains_0 : decode cX10_rains 0 = .ok (.aload_n 0, 1) := by decide +kernel
theorem dX10_rains_1 : decode cX10_rains 1 = .ok (.getfield 36, 3) := by decide +kernel
theorem dX10_rains_4 : decode cX10_rains 4 = .ok (.iload_n 1, 1) := by decide +kernel
theorem dX10_rains_5 : decode cX10_rains 5 = .ok (.invokevirtual 112, 3) := by decide +kernel
theorem dX10_rains_8 : decode cX10_rains 8 = .ok (.ifCond .eq 13, 3) := by decide +kernel
theorem dX10_rains_21 : decode cX10_rains 21 = .ok (.aload_n 0, 1) := by decide +kernel
theorem dX10_rains_22 : decode cX10_rains 22 = .ok (.invokevirtual 90, 3) := by decide +kernel
theorem dX10_rains_25 : decode cX10_rains 25 = .ok (.ireturn, 1) := by decide +kernel
set_option maxRecDepth 20000 in
theorem ggX10_summers_X10_isBelow : GoodIn wsX10_summers wsX10_isBelow := goodIn_r _ [15] (by decide +kernel) (by decide +kernel)
set_option maxRecDepth 20000 in
theorem gX10_summers_X10_isBelow : GoodIn wsX10_summers (va_wsS RX10 86 yX10_isBelow wsX10_isBelow) := goodIn_app (goodIn_of _ (by decide +kernel)) ggX10_summers_X10_isBelow
set_option maxRecDepth 20000 in
theorem ggX10_summers_X10_isIn : GoodIn wsX10_summers wsX10_isIn := goodIn_r _ [18] (by decide +kernel) (by decide +kernel)
set_option maxRecDepth 20000 in
theorem gX10_summers_X10_isIn : GoodIn wsX10_summers (va_wsS RX10 147 yX10_isIn wsX10_isIn) := goodIn_app (goodIn_of _ (by decide +kernel)) ggX10_summers_X10_isIn
set_option maxRecDepth 20000 in
theorem ggX10_summers_X10_refuseBad : GoodIn wsX10_summers wsX10_refuseBad := goodIn_r _ [22, 23, 126, 127, 128, 129, 130, 131, 132, 133, 134, 135, 136, 137] (by decide +kernel) (by decide +kernel)
set_option maxRecDepth 20000 in
theorem gX10_summers_X10_refuseBad : GoodIn wsX10_summers (wsV RX10 90 RX10 yX10_refuseBad wsX10_refuseBad) := goodIn_app (goodIn_of _ (by decide +kernel)) ggX10_summers_X10_refuseBad
set_option maxRecDepth 20000 in
theorem ggX10_summers_X1_become : GoodIn wsX10_summers wsX1_become := goodIn_r _ [28, 29, 30, 31, 32, 33, 34, 35, 36, 37, 38, 149, 150, 151, 152, 153, 154] (by decide +kernel) (by decide +kernel)
set_option maxRecDepth 20000 in
theorem gX10_summers_X1_become : GoodIn wsX10_summers (wsV RX10 201 RX1 yX1_become wsX1_become) := goodIn_app (goodIn_of _ (by decide +kernel)) ggX10_summers_X1_become
set_option maxRecDepth 20000 in
theorem ggX10_summers_X4_fade : GoodIn wsX10_summers wsX4_fade := goodIn_r _ [43, 44, 45, 46, 47, 48, 49, 50, 51, 52, 53, 54, 14, 55, 138, 139, 140, 141, 142, 143, 144, 145, 146, 147, 148, 149, 150, 151, 152, 153, 154] (by decide +kernel) (by decide +kernel)
set_option maxRecDepth 20000 in
theorem gX10_summers_X4_fade : GoodIn wsX10_summers (wsV RX10 160 RX4 yX4_fade wsX4_fade) := goodIn_app (goodIn_of _ (by decide +kernel)) ggX10_summers_X4_fade
set_option maxRecDepth 20000 in
theorem ggX10_summers_X4_gather : GoodIn wsX10_summers wsX4_gather := goodIn_r _ [59, 46, 53, 60, 61, 62, 42, 63, 64, 65, 66, 67, 44, 68, 69, 70, 71, 72, 73, 74, 47, 75, 76, 77, 78, 79, 80, 81, 82, 83, 84, 50, 85, 86, 87, 88, 89, 90, 91, 92, 93, 94, 95, 96, 97, 98, 99, 100, 101, 102, 103, 104, 105, 106, 107, 108, 109, 110, 111, 112, 113, 114, 115, 116, 49, 51, 117, 118, 119, 120, 121, 122, 123, 124, 45, 48, 125, 138, 139, 140, 141, 142, 143, 144, 145, 146, 147, 148, 149, 150, 151, 152, 153, 154] (by decide +kernel) (by decide +kernel)
set_option maxRecDepth 20000 in
theorem gX10_summers_X4_gather : GoodIn wsX10_summers (wsV RX10 143 RX4 yX4_gather wsX4_gather) := goodIn_app (goodIn_of _ (by decide +kernel)) ggX10_summers_X4_gather
theorem dX10_summers_0 : decode cX10_summers 0 = .ok (.iload_n 1, 1) := by decide +kernel
theorem dX10_summers_1 : decode cX10_summers 1 = .ok (.ldc_w 269, 3) := by decide +kernel
theorem dX10_summers_4 : decode cX10_summers 4 = .ok (.invokestatic 86, 3) := by decide +kernel
theorem dX10_summers_7 : decode cX10_summers 7 = .ok (.ifCond .eq 13, 3) := by decide +kernel
theorem dX10_summers_10 : decode cX10_summers 10 = .ok (.iload_n 2, 1) := by decide +kernel
theorem dX10_summers_11 : decode cX10_summers 11 = .ok (.iconst 0, 1) := by decide +kernel
theorem dX10_summers_12 : decode cX10_summers 12 = .ok (.bipush 60, 2) := by decide +kernel
theorem dX10_summers_14 : decode cX10_summers 14 = .ok (.invokestatic 147, 3) := by decide +kernel
theorem dX10_summers_17 : decode cX10_summers 17 = .ok (.ifCond .ne 8, 3) := by decide +kernel
theorem dX10_summers_20 : decode cX10_summers 20 = .ok (.aload_n 0, 1) := by decide +kernel
theorem dX10_summers_21 : decode cX10_summers 21 = .ok (.invokevirtual 90, 3) := by decide +kernel
theorem dX10_summers_24 : decode cX10_summers 24 = .ok (.ireturn, 1) := by decide +kernel
theorem dX10_summers_25 : decode cX10_summers 25 = .ok (.aload_n 0, 1) := by decide +kernel
theorem dX10_summers_26 : decode cX10_summers 26 = .ok (.getfield 58, 3) := by decide +kernel
theorem dX10_summers_29 : decode cX10_summers 29 = .ok (.aload_n 0, 1) := by decide +kernel
theorem dX10_summers_30 : decode cX10_summers 30 = .ok (.getfield 36, 3) := by decide +kernel
theorem dX10_summers_33 : decode cX10_summers 33 = .ok (.getfield 140, 3) := by decide +kernel
theorem dX10_summers_36 : decode cX10_summers 36 = .ok (.invokevirtual 201, 3) := by decide +kernel
theorem dX10_summers_39 : decode cX10_summers 39 = .ok (.iload_n 1, 1) := by decide +kernel
theorem dX10_summers_40 : decode cX10_summers 40 = .ok (.i2l, 1) := by decide +kernel
theorem dX10_summers_41 : decode cX10_summers 41 = .ok (.lstore_n 3, 1) := by decide +kernel
theorem dX10_summers_42 : decode cX10_summers 42 = .ok (.iconst 0, 1) := by decide +kernel
theorem dX10_summers_43 : decode cX10_summers 43 = .ok (.istore 5, 2) := by decide +kernel
theorem dX10_summers_45 : decode cX10_summers 45 = .ok (.iconst 0, 1) := by decide +kernel
theorem dX10_summers_46 : decode cX10_summers 46 = .ok (.istore 6, 2) := by decide +kernel
theorem dX10_summers_48 : decode cX10_summers 48 = .ok (.iload 6, 2) := by decide +kernel
theorem dX10_summers_50 : decode cX10_summers 50 = .ok (.iload_n 2, 1) := by decide +kernel
theorem dX10_summers_51 : decode cX10_summers 51 = .ok (.if_icmp .ge 80, 3) := by decide +kernel
theorem dX10_summers_54 : decode cX10_summers 54 = .ok (.lload_n 3, 1) := by decide +kernel
theorem dX10_summers_55 : decode cX10_summers 55 = .ok (.ldc2_w 270, 3) := by decide +kernel
theorem dX10_summers_58 : decode cX10_summers 58 = .ok (.lmul, 1) := by decide +kernel
theorem dX10_summers_59 : decode cX10_summers 59 = .ok (.ldc2_w 272, 3) := by decide +kernel
theorem dX10_summers_62 : decode cX10_summers 62 = .ok (.ladd, 1) := by decide +kernel
theorem dX10_summers_63 : decode cX10_summers 63 = .ok (.ldc2_w 274, 3) := by decide +kernel
theorem dX10_summers_66 : decode cX10_summers 66 = .ok (.lrem, 1) := by decide +kernel
theorem dX10_summers_67 : decode cX10_summers 67 = .ok (.lstore_n 3, 1) := by decide +kernel
theorem dX10_summers_68 : decode cX10_summers 68 = .ok (.aload_n 0, 1) := by decide +kernel
theorem dX10_summers_69 : decode cX10_summers 69 = .ok (.getfield 58, 3) := by decide +kernel
theorem dX10_summers_72 : decode cX10_summers 72 = .ok (.getfield 151, 3) := by decide +kernel
theorem dX10_summers_75 : decode cX10_summers 75 = .ok (.bipush 12, 2) := by decide +kernel
theorem dX10_summers_77 : decode cX10_summers 77 = .ok (.if_icmp .lt 14, 3) := by decide +kernel
theorem dX10_summers_80 : decode cX10_summers 80 = .ok (.aload_n 0, 1) := by decide +kernel
theorem dX10_summers_81 : decode cX10_summers 81 = .ok (.getfield 36, 3) := by decide +kernel
theorem dX10_summers_84 : decode cX10_summers 84 = .ok (.aload_n 0, 1) := by decide +kernel
theorem dX10_summers_85 : decode cX10_summers 85 = .ok (.getfield 58, 3) := by decide +kernel
theorem dX10_summers_88 : decode cX10_summers 88 = .ok (.invokevirtual 160, 3) := by decide +kernel
theorem dX10_summers_91 : decode cX10_summers 91 = .ok (.aload_n 0, 1) := by decide +kernel
theorem dX10_summers_92 : decode cX10_summers 92 = .ok (.getfield 58, 3) := by decide +kernel
theorem dX10_summers_95 : decode cX10_summers 95 = .ok (.lload_n 3, 1) := by decide +kernel
theorem dX10_summers_96 : decode cX10_summers 96 = .ok (.ldc2_w 276, 3) := by decide +kernel
theorem dX10_summers_99 : decode cX10_summers 99 = .ok (.ldiv, 1) := by decide +kernel
theorem dX10_summers_100 : decode cX10_summers 100 = .ok (.ldc2_w 278, 3) := by decide +kernel
theorem dX10_summers_103 : decode cX10_summers 103 = .ok (.lrem, 1) := by decide +kernel
theorem dX10_summers_104 : decode cX10_summers 104 = .ok (.l2i, 1) := by decide +kernel
theorem dX10_summers_105 : decode cX10_summers 105 = .ok (.putfield 173, 3) := by decide +kernel
theorem dX10_summers_108 : decode cX10_summers 108 = .ok (.iload 5, 2) := by decide +kernel
theorem dX10_summers_110 : decode cX10_summers 110 = .ok (.aload_n 0, 1) := by decide +kernel
theorem dX10_summers_111 : decode cX10_summers 111 = .ok (.getfield 36, 3) := by decide +kernel
theorem dX10_summers_114 : decode cX10_summers 114 = .ok (.aload_n 0, 1) := by decide +kernel
theorem dX10_summers_115 : decode cX10_summers 115 = .ok (.getfield 58, 3) := by decide +kernel
theorem dX10_summers_118 : decode cX10_summers 118 = .ok (.iconst 1, 1) := by decide +kernel
theorem dX10_summers_119 : decode cX10_summers 119 = .ok (.invokevirtual 143, 3) := by decide +kernel
theorem dX10_summers_122 : decode cX10_summers 122 = .ok (.iadd, 1) := by decide +kernel
theorem dX10_summers_123 : decode cX10_summers 123 = .ok (.istore 5, 2) := by decide +kernel
theorem dX10_summers_125 : decode cX10_summers 125 = .ok (.iinc 6 1, 3) := by decide +kernel
theorem dX10_summers_128 : decode cX10_summers 128 = .ok (.goto (-80), 3) := by decide +kernel
theorem dX10_summers_131 : decode cX10_summers 131 = .ok (.iload 5, 2) := by decide +kernel
theorem dX10_summers_133 : decode cX10_summers 133 = .ok (.ireturn, 1) := by decide +kernel
set_option maxRecDepth 20000 in
theorem ggX10_part_X10_isBelow : GoodIn wsX10_part wsX10_isBelow := goodIn_r _ [6] (by decide +kernel) (by decide +kernel)
set_option maxRecDepth 20000 in
theorem gX10_part_X10_isBelow : GoodIn wsX10_part (va_wsS RX10 86 yX10_isBelow wsX10_isBelow) := goodIn_app (goodIn_of _ (by decide +kernel)) ggX10_part_X10_isBelow
set_option maxRecDepth 20000 in
theorem ggX10_part_X10_refuseBad : GoodIn wsX10_part wsX10_refuseBad := goodIn_r _ [10, 11, 12, 13, 14, 15, 16, 17, 18, 19, 20, 21, 22, 23] (by decide +kernel) (by decide +kernel)
set_option maxRecDepth 20000 in
theorem gX10_part_X10_refuseBad : GoodIn wsX10_part (wsV RX10 90 RX10 yX10_refuseBad wsX10_refuseBad) := goodIn_app (goodIn_of _ (by decide +kernel)) ggX10_part_X10_refuseBad
theorem dX10_part_0 : decode cX10_part 0 = .ok (.iload_n 1, 1) := by decide +kernel
theorem dX10_part_1 : decode cX10_part 1 = .ok (.iconst 2, 1) := by decide +kernel
theorem dX10_part_2 : decode cX10_part 2 = .ok (.invokestatic 86, 3) := by decide +kernel
theorem dX10_part_5 : decode cX10_part 5 = .ok (.ifCond .ne 9, 3) := by decide +kernel
theorem dX10_part_8 : decode cX10_part 8 = .ok (.aload_n 0, 1) := by decide +kernel
theorem dX10_part_9 : decode cX10_part 9 = .ok (.invokevirtual 90, 3) := by decide +kernel
theorem dX10_part_12 : decode cX10_part 12 = .ok (.i2l, 1) := by decide +kernel
theorem dX10_part_13 : decode cX10_part 13 = .ok (.lreturn, 1) := by decide +kernel
theorem dX10_part_14 : decode cX10_part 14 = .ok (.iload_n 1, 1) := by decide +kernel
theorem dX10_part_15 : decode cX10_part 15 = .ok (.ifCond .ne 11, 3) := by decide +kernel
theorem dX10_part_18 : decode cX10_part 18 = .ok (.aload_n 0, 1) := by decide +kernel
theorem dX10_part_19 : decode cX10_part 19 = .ok (.getfield 79, 3) := by decide +kernel
theorem dX10_part_22 : decode cX10_part 22 = .ok (.i2l, 1) := by decide +kernel
theorem dX10_part_23 : decode cX10_part 23 = .ok (.goto 8, 3) := by decide +kernel
theorem dX10_part_26 : decode cX10_part 26 = .ok (.aload_n 0, 1) := by decide +kernel
theorem dX10_part_27 : decode cX10_part 27 = .ok (.getfield 83, 3) := by decide +kernel
theorem dX10_part_30 : decode cX10_part 30 = .ok (.i2l, 1) := by decide +kernel
theorem dX10_part_31 : decode cX10_part 31 = .ok (.lreturn, 1) := by decide +kernel
set_option maxRecDepth 20000 in
theorem ggX10_image_X10_isBelow : GoodIn wsX10_image wsX10_isBelow := goodIn_r _ [7] (by decide +kernel) (by decide +kernel)
set_option maxRecDepth 20000 in
theorem gX10_image_X10_isBelow : GoodIn wsX10_image (va_wsS RX10 86 yX10_isBelow wsX10_isBelow) := goodIn_app (goodIn_of _ (by decide +kernel)) ggX10_image_X10_isBelow
set_option maxRecDepth 20000 in
theorem ggX10_image_X10_refuseBad : GoodIn wsX10_image wsX10_refuseBad := goodIn_r _ [11, 12, 44, 45, 46, 47, 48, 49, 50, 51, 52, 53, 54, 55] (by decide +kernel) (by decide +kernel)
set_option maxRecDepth 20000 in
theorem gX10_image_X10_refuseBad : GoodIn wsX10_image (wsV RX10 90 RX10 yX10_refuseBad wsX10_refuseBad) := goodIn_app (goodIn_of _ (by decide +kernel)) ggX10_image_X10_refuseBad
set_option maxRecDepth 20000 in
theorem ggX10_image_X4_become : GoodIn wsX10_image wsX4_become := goodIn_r _ [17, 18, 19, 20, 21, 22, 23, 24, 25, 26, 27, 28, 29, 30, 31, 32, 33, 34, 35, 36, 37, 38, 39, 40, 41, 42, 43, 56, 57, 58, 59, 60, 61, 62, 63, 64, 65, 66, 67, 68, 69, 70, 71, 72] (by decide +kernel) (by decide +kernel)
set_option maxRecDepth 20000 in
theorem gX10_image_X4_become : GoodIn wsX10_image (wsV RX10 280 RX4 yX4_become wsX4_become) := goodIn_app (goodIn_of _ (by decide +kernel)) ggX10_image_X4_become
theorem dX10_image_0 : decode cX10_image 0 = .ok (.iload_n 1, 1) := by decide +kernel
theorem dX10_image_1 : decode cX10_image 1 = .ok (.iconst 2, 1) := by decide +kernel
theorem dX10_image_2 : decode cX10_image 2 = .ok (.invokestatic 86, 3) := by decide +kernel
theorem dX10_image_5 : decode cX10_image 5 = .ok (.ifCond .ne 8, 3) := by decide +kernel
theorem dX10_image_8 : decode cX10_image 8 = .ok (.aload_n 0, 1) := by decide +kernel
theorem dX10_image_9 : decode cX10_image 9 = .ok (.invokevirtual 90, 3) := by decide +kernel
theorem dX10_image_12 : decode cX10_image 12 = .ok (.ireturn, 1) := by decide +kernel
theorem dX10_image_13 : decode cX10_image 13 = .ok (.aload_n 0, 1) := by decide +kernel
theorem dX10_image_14 : decode cX10_image 14 = .ok (.getfield 40, 3) := by decide +kernel
theorem dX10_image_17 : decode cX10_image 17 = .ok (.iload_n 1, 1) := by decide +kernel
theorem dX10_image_18 : decode cX10_image 18 = .ok (.aaload, 1) := by decide +kernel
theorem dX10_image_19 : decode cX10_image 19 = .ok (.aload_n 0, 1) := by decide +kernel
theorem dX10_image_20 : decode cX10_image 20 = .ok (.getfield 36, 3) := by decide +kernel
theorem dX10_image_23 : decode cX10_image 23 = .ok (.invokevirtual 280, 3) := by decide +kernel
theorem dX10_image_26 : decode cX10_image 26 = .ok (.aload_n 0, 1) := by decide +kernel
theorem dX10_image_27 : decode cX10_image 27 = .ok (.getfield 44, 3) := by decide +kernel
theorem dX10_image_30 : decode cX10_image 30 = .ok (.iload_n 1, 1) := by decide +kernel
theorem dX10_image_31 : decode cX10_image 31 = .ok (.iconst 1, 1) := by decide +kernel
theorem dX10_image_32 : decode cX10_image 32 = .ok (.bastore, 1) := by decide +kernel
theorem dX10_image_33 : decode cX10_image 33 = .ok (.iconst 1, 1) := by decide +kernel
theorem dX10_image_34 : decode cX10_image 34 = .ok (.ireturn, 1) := by decide +kernel
set_option maxRecDepth 20000 in
theorem ggX10_from_X10_isBelow : GoodIn wsX10_from wsX10_isBelow := goodIn_r _ [7] (by decide +kernel) (by decide +kernel)
set_option maxRecDepth 20000 in
theorem gX10_from_X10_isBelow : GoodIn wsX10_from (va_wsS RX10 86 yX10_isBelow wsX10_isBelow) := goodIn_app (goodIn_of _ (by decide +kernel)) ggX10_from_X10_isBelow
set_option maxRecDepth 20000 in
theorem ggX10_from_X10_refuseBad : GoodIn wsX10_from wsX10_refuseBad := goodIn_r _ [11, 12, 48, 49, 50, 51, 52, 53, 54, 55, 56, 57, 58, 59] (by decide +kernel) (by decide +kernel)
set_option maxRecDepth 20000 in
theorem gX10_from_X10_refuseBad : GoodIn wsX10_from (wsV RX10 90 RX10 yX10_refuseBad wsX10_refuseBad) := goodIn_app (goodIn_of _ (by decide +kernel)) ggX10_from_X10_refuseBad
set_option maxRecDepth 20000 in
theorem ggX10_from_X10_refuseNo : GoodIn wsX10_from wsX10_refuseNo := goodIn_r _ [16, 12, 48, 49, 50, 51, 52, 53, 54, 55, 56, 57, 58, 59] (by decide +kernel) (by decide +kernel)
set_option maxRecDepth 20000 in
theorem gX10_from_X10_refuseNo : GoodIn wsX10_from (wsV RX10 154 RX10 yX10_refuseNo wsX10_refuseNo) := goodIn_app (goodIn_of _ (by decide +kernel)) ggX10_from_X10_refuseNo
theorem dX10_from_0 : decode cX10_from 0 = .ok (.iload_n 1, 1) := by decide +kernel
theorem dX10_from_1 : decode cX10_from 1 = .ok (.iconst 2, 1) := by decide +kernel
theorem dX10_from_2 : decode cX10_from 2 = .ok (.invokestatic 86, 3) := by decide +kernel
theorem dX10_from_5 : decode cX10_from 5 = .ok (.ifCond .ne 8, 3) := by decide +kernel
theorem dX10_from_8 : decode cX10_from 8 = .ok (.aload_n 0, 1) := by decide +kernel
theorem dX10_from_9 : decode cX10_from 9 = .ok (.invokevirtual 90, 3) := by decide +kernel
theorem dX10_from_12 : decode cX10_from 12 = .ok (.ireturn, 1) := by decide +kernel
theorem dX10_from_13 : decode cX10_from 13 = .ok (.aload_n 0, 1) := by decide +kernel
theorem dX10_from_14 : decode cX10_from 14 = .ok (.getfield 44, 3) := by decide +kernel
theorem dX10_from_17 : decode cX10_from 17 = .ok (.iload_n 1, 1) := by decide +kernel
theorem dX10_from_18 : decode cX10_from 18 = .ok (.baload, 1) := by decide +kernel
theorem dX10_from_19 : decode cX10_from 19 = .ok (.ifCond .ne 8, 3) := by decide +kernel
theorem dX10_from_22 : decode cX10_from 22 = .ok (.aload_n 0, 1) := by decide +kernel
theorem dX10_from_23 : decode cX10_from 23 = .ok (.invokevirtual 154, 3) := by decide +kernel
theorem dX10_from_26 : decode cX10_from 26 = .ok (.ireturn, 1) := by decide +kernel
set_option maxRecDepth 20000 in
theorem ggX10_status_X10_isBelow : GoodIn wsX10_status wsX10_isBelow := goodIn_r _ [5] (by decide +kernel) (by decide +kernel)
set_option maxRecDepth 20000 in
theorem gX10_status_X10_isBelow : GoodIn wsX10_status (va_wsS RX10 86 yX10_isBelow wsX10_isBelow) := goodIn_app (goodIn_of _ (by decide +kernel)) ggX10_status_X10_isBelow
set_option maxRecDepth 20000 in
theorem ggX10_status_X10_refuseBad : GoodIn wsX10_status wsX10_refuseBad := goodIn_r _ [9, 1, 10, 11, 12, 13, 14, 15, 16, 17, 18, 19, 20, 21] (by decide +kernel) (by decide +kernel)
set_option maxRecDepth 20000 in
theorem gX10_status_X10_refuseBad : GoodIn wsX10_status (wsV RX10 90 RX10 yX10_refuseBad wsX10_refuseBad) := goodIn_app (goodIn_of _ (by decide +kernel)) ggX10_status_X10_refuseBad
theorem dX10_status_0 : decode cX10_status 0 = .ok (.iload_n 1, 1) := by decide +kernel
theorem dX10_status_1 : decode cX10_status 1 = .ok (.iconst 3, 1) := by decide +kernel
theorem dX10_status_2 : decode cX10_status 2 = .ok (.invokestatic 86, 3) := by decide +kernel
theorem dX10_status_5 : decode cX10_status 5 = .ok (.ifCond .ne 10, 3) := by decide +kernel
theorem dX10_status_8 : decode cX10_status 8 = .ok (.aload_n 0, 1) := by decide +kernel
theorem dX10_status_9 : decode cX10_status 9 = .ok (.invokevirtual 90, 3) := by decide +kernel
theorem dX10_status_12 : decode cX10_status 12 = .ok (.pop, 1) := by decide +kernel
theorem dX10_status_13 : decode cX10_status 13 = .ok (.iconst (-1), 1) := by decide +kernel
theorem dX10_status_14 : decode cX10_status 14 = .ok (.ireturn, 1) := by decide +kernel
theorem dX10_status_15 : decode cX10_status 15 = .ok (.aload_n 0, 1) := by decide +kernel
theorem dX10_status_16 : decode cX10_status 16 = .ok (.getfield 76, 3) := by decide +kernel
theorem dX10_status_19 : decode cX10_status 19 = .ok (.iload_n 1, 1) := by decide +kernel
theorem dX10_status_20 : decode cX10_status 20 = .ok (.iaload, 1) := by decide +kernel
theorem dX10_status_21 : decode cX10_status 21 = .ok (.ireturn, 1) := by decide +kernel
set_option maxRecDepth 20000 in
theorem ggX10_count_X10_isBelow : GoodIn wsX10_count wsX10_isBelow := goodIn_r _ [4] (by decide +kernel) (by decide +kernel)
set_option maxRecDepth 20000 in
theorem gX10_count_X10_isBelow : GoodIn wsX10_count (va_wsS RX10 86 yX10_isBelow wsX10_isBelow) := goodIn_app (goodIn_of _ (by decide +kernel)) ggX10_count_X10_isBelow
set_option maxRecDepth 20000 in
theorem ggX10_count_X10_refuseBad : GoodIn wsX10_count wsX10_refuseBad := goodIn_r _ [8, 9, 26, 27, 28, 29, 30, 31, 32, 33, 34, 35, 36, 37] (by decide +kernel) (by decide +kernel)
set_option maxRecDepth 20000 in
theorem gX10_count_X10_refuseBad : GoodIn wsX10_count (wsV RX10 90 RX10 yX10_refuseBad wsX10_refuseBad) := goodIn_app (goodIn_of _ (by decide +kernel)) ggX10_count_X10_refuseBad
set_option maxRecDepth 20000 in
theorem ggX10_count_X10_howMany : GoodIn wsX10_count wsX10_howMany := goodIn_r _ [13, 14, 15, 16, 17, 18, 19, 20, 21, 22, 23, 24, 25, 26, 27, 28, 29, 30, 31, 32, 33, 34, 35, 36, 37, 38, 39, 40, 41, 42, 43, 44, 45, 46, 47, 48, 49, 50, 51, 52, 53, 54, 55, 56, 57, 58, 59, 60, 61, 62, 63, 64, 65, 66] (by decide +kernel) (by decide +kernel)
set_option maxRecDepth 20000 in
theorem gX10_count_X10_howMany : GoodIn wsX10_count (wsV RX10 283 RX10 yX10_howMany wsX10_howMany) := goodIn_app (goodIn_of _ (by decide +kernel)) ggX10_count_X10_howMany
theorem dX10_count_0 : decode cX10_count 0 = .ok (.iload_n 1, 1) := by decide +kernel
theorem dX10_count_1 : decode cX10_count 1 = .ok (.bipush 9, 2) := by decide +kernel
theorem dX10_count_3 : decode cX10_count 3 = .ok (.invokestatic 86, 3) := by decide +kernel
theorem dX10_count_6 : decode cX10_count 6 = .ok (.ifCond .ne 8, 3) := by decide +kernel
theorem dX10_count_9 : decode cX10_count 9 = .ok (.aload_n 0, 1) := by decide +kernel
theorem dX10_count_10 : decode cX10_count 10 = .ok (.invokevirtual 90, 3) := by decide +kernel
theorem dX10_count_13 : decode cX10_count 13 = .ok (.ireturn, 1) := by decide +kernel
theorem dX10_count_14 : decode cX10_count 14 = .ok (.aload_n 0, 1) := by decide +kernel
theorem dX10_count_15 : decode cX10_count 15 = .ok (.iload_n 1, 1) := by decide +kernel
theorem dX10_count_16 : decode cX10_count 16 = .ok (.invokevirtual 283, 3) := by decide +kernel
theorem dX10_count_19 : decode cX10_count 19 = .ok (.ireturn, 1) := by decide +kernel
set_option maxRecDepth 20000 in
theorem ggX10_digest_X10_howMany : GoodIn wsX10_digest wsX10_howMany := goodIn_r _ [20, 2, 3, 7, 5, 21, 22, 23, 10, 12, 24, 25, 26, 34, 35, 36, 37, 38, 39, 40, 41, 42, 43, 44, 45, 46, 47, 48, 49, 50, 51, 52, 53, 54, 55, 56, 57, 58, 59, 60, 61, 62, 63, 64, 65, 66, 67, 68, 69, 70, 71, 72, 73, 74] (by decide +kernel) (by decide +kernel)
set_option maxRecDepth 20000 in
theorem gX10_digest_X10_howMany : GoodIn wsX10_digest (wsV RX10 283 RX10 yX10_howMany wsX10_howMany) := goodIn_app (goodIn_of _ (by decide +kernel)) ggX10_digest_X10_howMany
set_option maxRecDepth 20000 in
theorem ggX10_digest_X10_mix : GoodIn wsX10_digest wsX10_mix := goodIn_r _ [29, 30] (by decide +kernel) (by decide +kernel)
set_option maxRecDepth 20000 in
theorem gX10_digest_X10_mix : GoodIn wsX10_digest (va_wsS RX10 288 yX10_mix wsX10_mix) := goodIn_app (goodIn_of _ (by decide +kernel)) ggX10_digest_X10_mix
theorem dX10_digest_0 : decode cX10_digest 0 = .ok (.ldc2_w 286, 3) := by decide +kernel
theorem dX10_digest_3 : decode cX10_digest 3 = .ok (.lstore_n 1, 1) := by decide +kernel
theorem dX10_digest_4 : decode cX10_digest 4 = .ok (.iconst 0, 1) := by decide +kernel
theorem dX10_digest_5 : decode cX10_digest 5 = .ok (.istore_n 3, 1) := by decide +kernel
theorem dX10_digest_6 : decode cX10_digest 6 = .ok (.iload_n 3, 1) := by decide +kernel
theorem dX10_digest_7 : decode cX10_digest 7 = .ok (.bipush 9, 2) := by decide +kernel
theorem dX10_digest_9 : decode cX10_digest 9 = .ok (.if_icmp .ge 20, 3) := by decide +kernel
theorem dX10_digest_12 : decode cX10_digest 12 = .ok (.lload_n 1, 1) := by decide +kernel
theorem dX10_digest_13 : decode cX10_digest 13 = .ok (.aload_n 0, 1) := by decide +kernel
theorem dX10_digest_14 : decode cX10_digest 14 = .ok (.iload_n 3, 1) := by decide +kernel
theorem dX10_digest_15 : decode cX10_digest 15 = .ok (.invokevirtual 283, 3) := by decide +kernel
theorem dX10_digest_18 : decode cX10_digest 18 = .ok (.i2l, 1) := by decide +kernel
theorem dX10_digest_19 : decode cX10_digest 19 = .ok (.invokestatic 288, 3) := by decide +kernel
theorem dX10_digest_22 : decode cX10_digest 22 = .ok (.lstore_n 1, 1) := by decide +kernel
theorem dX10_digest_23 : decode cX10_digest 23 = .ok (.iinc 3 1, 3) := by decide +kernel
theorem dX10_digest_26 : decode cX10_digest 26 = .ok (.goto (-20), 3) := by decide +kernel
theorem dX10_digest_29 : decode cX10_digest 29 = .ok (.iconst 0, 1) := by decide +kernel
theorem dX10_digest_30 : decode cX10_digest 30 = .ok (.istore_n 3, 1) := by decide +kernel
theorem dX10_digest_31 : decode cX10_digest 31 = .ok (.iload_n 3, 1) := by decide +kernel
theorem dX10_digest_32 : decode cX10_digest 32 = .ok (.aload_n 0, 1) := by decide +kernel
theorem dX10_digest_33 : decode cX10_digest 33 = .ok (.getfield 36, 3) := by decide +kernel
theorem dX10_digest_36 : decode cX10_digest 36 = .ok (.getfield 94, 3) := by decide +kernel
theorem dX10_digest_39 : decode cX10_digest 39 = .ok (.if_icmp .ge 40, 3) := by decide +kernel
theorem dX10_digest_79 : decode cX10_digest 79 = .ok (.iconst 0, 1) := by decide +kernel
theorem dX10_digest_80 : decode cX10_digest 80 = .ok (.istore_n 3, 1) := by decide +kernel
theorem dX10_digest_81 : decode cX10_digest 81 = .ok (.iload_n 3, 1) := by decide +kernel
theorem dX10_digest_82 : decode cX10_digest 82 = .ok (.aload_n 0, 1) := by decide +kernel
theorem dX10_digest_83 : decode cX10_digest 83 = .ok (.getfield 36, 3) := by decide +kernel
theorem dX10_digest_86 : decode cX10_digest 86 = .ok (.getfield 115, 3) := by decide +kernel
theorem dX10_digest_89 : decode cX10_digest 89 = .ok (.if_icmp .ge 43, 3) := by decide +kernel
theorem dX10_digest_132 : decode cX10_digest 132 = .ok (.iconst 0, 1) := by decide +kernel
theorem dX10_digest_133 : decode cX10_digest 133 = .ok (.istore_n 3, 1) := by decide +kernel
theorem dX10_digest_134 : decode cX10_digest 134 = .ok (.iload_n 3, 1) := by decide +kernel
theorem dX10_digest_135 : decode cX10_digest 135 = .ok (.aload_n 0, 1) := by decide +kernel
theorem dX10_digest_136 : decode cX10_digest 136 = .ok (.getfield 36, 3) := by decide +kernel
theorem dX10_digest_139 : decode cX10_digest 139 = .ok (.getfield 240, 3) := by decide +kernel
theorem dX10_digest_142 : decode cX10_digest 142 = .ok (.if_icmp .ge 23, 3) := by decide +kernel
theorem dX10_digest_165 : decode cX10_digest 165 = .ok (.iconst 0, 1) := by decide +kernel
theorem dX10_digest_166 : decode cX10_digest 166 = .ok (.istore_n 3, 1) := by decide +kernel
theorem dX10_digest_167 : decode cX10_digest 167 = .ok (.iload_n 3, 1) := by decide +kernel
theorem dX10_digest_168 : decode cX10_digest 168 = .ok (.aload_n 0, 1) := by decide +kernel
theorem dX10_digest_169 : decode cX10_digest 169 = .ok (.getfield 36, 3) := by decide +kernel
theorem dX10_digest_172 : decode cX10_digest 172 = .ok (.getfield 250, 3) := by decide +kernel
theorem dX10_digest_175 : decode cX10_digest 175 = .ok (.if_icmp .ge 23, 3) := by decide +kernel
theorem dX10_digest_198 : decode cX10_digest 198 = .ok (.lload_n 1, 1) := by decide +kernel
theorem dX10_digest_199 : decode cX10_digest 199 = .ok (.aload_n 0, 1) := by decide +kernel
theorem dX10_digest_200 : decode cX10_digest 200 = .ok (.getfield 79, 3) := by decide +kernel
theorem dX10_digest_203 : decode cX10_digest 203 = .ok (.i2l, 1) := by decide +kernel
theorem dX10_digest_204 : decode cX10_digest 204 = .ok (.invokestatic 288, 3) := by decide +kernel
theorem dX10_digest_207 : decode cX10_digest 207 = .ok (.aload_n 0, 1) := by decide +kernel
theorem dX10_digest_208 : decode cX10_digest 208 = .ok (.getfield 83, 3) := by decide +kernel
theorem dX10_digest_211 : decode cX10_digest 211 = .ok (.i2l, 1) := by decide +kernel
theorem dX10_digest_212 : decode cX10_digest 212 = .ok (.invokestatic 288, 3) := by decide +kernel
theorem dX10_digest_215 : decode cX10_digest 215 = .ok (.lreturn, 1) := by decide +kernel
theorem dX10_refuseBad_0 : decode cX10_refuseBad 0 = .ok (.aload_n 0, 1) := by decide +kernel
theorem dX10_refuseBad_1 : decode cX10_refuseBad 1 = .ok (.getfield 76, 3) := by decide +kernel
theorem dX10_refuseBad_4 : decode cX10_refuseBad 4 = .ok (.iconst 0, 1) := by decide +kernel
theorem dX10_refuseBad_5 : decode cX10_refuseBad 5 = .ok (.dup2, 1) := by decide +kernel
theorem dX10_refuseBad_6 : decode cX10_refuseBad 6 = .ok (.iaload, 1) := by decide +kernel
theorem dX10_refuseBad_7 : decode cX10_refuseBad 7 = .ok (.iconst 1, 1) := by decide +kernel
theorem dX10_refuseBad_8 : decode cX10_refuseBad 8 = .ok (.iadd, 1) := by decide +kernel
theorem dX10_refuseBad_9 : decode cX10_refuseBad 9 = .ok (.iastore, 1) := by decide +kernel
theorem dX10_refuseBad_10 : decode cX10_refuseBad 10 = .ok (.bipush (-2), 2) := by decide +kernel
theorem dX10_refuseBad_12 : decode cX10_refuseBad 12 = .ok (.ireturn, 1) := by decide +kernel
theorem dX10_refuseNo_0 : decode cX10_refuseNo 0 = .ok (.aload_n 0, 1) := by decide +kernel
theorem dX10_refuseNo_1 : decode cX10_refuseNo 1 = .ok (.getfield 76, 3) := by decide +kernel
theorem dX10_refuseNo_4 : decode cX10_refuseNo 4 = .ok (.iconst 1, 1) := by decide +kernel
theorem dX10_refuseNo_5 : decode cX10_refuseNo 5 = .ok (.dup2, 1) := by decide +kernel
theorem dX10_refuseNo_6 : decode cX10_refuseNo 6 = .ok (.iaload, 1) := by decide +kernel
theorem dX10_refuseNo_7 : decode cX10_refuseNo 7 = .ok (.iconst 1, 1) := by decide +kernel
theorem dX10_refuseNo_8 : decode cX10_refuseNo 8 = .ok (.iadd, 1) := by decide +kernel
theorem dX10_refuseNo_9 : decode cX10_refuseNo 9 = .ok (.iastore, 1) := by decide +kernel
theorem dX10_refuseNo_10 : decode cX10_refuseNo 10 = .ok (.bipush (-3), 2) := by decide +kernel
theorem dX10_refuseNo_12 : decode cX10_refuseNo 12 = .ok (.ireturn, 1) := by decide +kernel
theorem dX10_refuseFull_0 : decode cX10_refuseFull 0 = .ok (.aload_n 0, 1) := by decide +kernel
theorem dX10_refuseFull_1 : decode cX10_refuseFull 1 = .ok (.getfield 76, 3) := by decide +kernel
theorem dX10_refuseFull_4 : decode cX10_refuseFull 4 = .ok (.iconst 2, 1) := by decide +kernel
theorem dX10_refuseFull_5 : decode cX10_refuseFull 5 = .ok (.dup2, 1) := by decide +kernel
theorem dX10_refuseFull_6 : decode cX10_refuseFull 6 = .ok (.iaload, 1) := by decide +kernel
theorem dX10_refuseFull_7 : decode cX10_refuseFull 7 = .ok (.iconst 1, 1) := by decide +kernel
theorem dX10_refuseFull_8 : decode cX10_refuseFull 8 = .ok (.iadd, 1) := by decide +kernel
theorem dX10_refuseFull_9 : decode cX10_refuseFull 9 = .ok (.iastore, 1) := by decide +kernel
theorem dX10_refuseFull_10 : decode cX10_refuseFull 10 = .ok (.bipush (-4), 2) := by decide +kernel
theorem dX10_refuseFull_12 : decode cX10_refuseFull 12 = .ok (.ireturn, 1) := by decide +kernel
theorem dX10_refuseTen_0 : decode cX10_refuseTen 0 = .ok (.aload_n 0, 1) := by decide +kernel
theorem dX10_refuseTen_1 : decode cX10_refuseTen 1 = .ok (.getfield 76, 3) := by decide +kernel
theorem dX10_refuseTen_4 : decode cX10_refuseTen 4 = .ok (.iconst 0, 1) := by decide +kernel
theorem dX10_refuseTen_5 : decode cX10_refuseTen 5 = .ok (.dup2, 1) := by decide +kernel
theorem dX10_refuseTen_6 : decode cX10_refuseTen 6 = .ok (.iaload, 1) := by decide +kernel
theorem dX10_refuseTen_7 : decode cX10_refuseTen 7 = .ok (.iconst 1, 1) := by decide +kernel
theorem dX10_refuseTen_8 : decode cX10_refuseTen 8 = .ok (.iadd, 1) := by decide +kernel
theorem dX10_refuseTen_9 : decode cX10_refuseTen 9 = .ok (.iastore, 1) := by decide +kernel
theorem dX10_refuseTen_10 : decode cX10_refuseTen 10 = .ok (.bipush (-10), 2) := by decide +kernel
theorem dX10_refuseTen_12 : decode cX10_refuseTen 12 = .ok (.ireturn, 1) := by decide +kernel
theorem dX10_isIn_0 : decode cX10_isIn 0 = .ok (.iload_n 0, 1) := by decide +kernel
theorem dX10_isIn_1 : decode cX10_isIn 1 = .ok (.iload_n 1, 1) := by decide +kernel
theorem dX10_isIn_2 : decode cX10_isIn 2 = .ok (.if_icmp .lt 12, 3) := by decide +kernel
theorem dX10_isIn_5 : decode cX10_isIn 5 = .ok (.iload_n 0, 1) := by decide +kernel
theorem dX10_isIn_6 : decode cX10_isIn 6 = .ok (.iload_n 2, 1) := by decide +kernel
theorem dX10_isIn_7 : decode cX10_isIn 7 = .ok (.if_icmp .gt 7, 3) := by decide +kernel
theorem dX10_isIn_10 : decode cX10_isIn 10 = .ok (.iconst 1, 1) := by decide +kernel
theorem dX10_isIn_11 : decode cX10_isIn 11 = .ok (.goto 4, 3) := by decide +kernel
theorem dX10_isIn_14 : decode cX10_isIn 14 = .ok (.iconst 0, 1) := by decide +kernel
theorem dX10_isIn_15 : decode cX10_isIn 15 = .ok (.ireturn, 1) := by decide +kernel
theorem dX10_isBelow_0 : decode cX10_isBelow 0 = .ok (.iload_n 0, 1) := by decide +kernel
theorem dX10_isBelow_1 : decode cX10_isBelow 1 = .ok (.ifCond .lt 12, 3) := by decide +kernel
theorem dX10_isBelow_4 : decode cX10_isBelow 4 = .ok (.iload_n 0, 1) := by decide +kernel
theorem dX10_isBelow_5 : decode cX10_isBelow 5 = .ok (.iload_n 1, 1) := by decide +kernel
theorem dX10_isBelow_6 : decode cX10_isBelow 6 = .ok (.if_icmp .ge 7, 3) := by decide +kernel
theorem dX10_isBelow_9 : decode cX10_isBelow 9 = .ok (.iconst 1, 1) := by decide +kernel
theorem dX10_isBelow_10 : decode cX10_isBelow 10 = .ok (.goto 4, 3) := by decide +kernel
theorem dX10_isBelow_13 : decode cX10_isBelow 13 = .ok (.iconst 0, 1) := by decide +kernel
theorem dX10_isBelow_14 : decode cX10_isBelow 14 = .ok (.ireturn, 1) := by decide +kernel
set_option maxRecDepth 20000 in
theorem ggX10_isLight_X10_isIn : GoodIn wsX10_isLight wsX10_isIn := goodIn_r _ [4] (by decide +kernel) (by decide +kernel)
set_option maxRecDepth 20000 in
theorem gX10_isLight_X10_isIn : GoodIn wsX10_isLight (va_wsS RX10 147 yX10_isIn wsX10_isIn) := goodIn_app (goodIn_of _ (by decide +kernel)) ggX10_isLight_X10_isIn
theorem dX10_isLight_0 : decode cX10_isLight 0 = .ok (.iload_n 0, 1) := by decide +kernel
theorem dX10_isLight_1 : decode cX10_isLight 1 = .ok (.iconst 0, 1) := by decide +kernel
theorem dX10_isLight_2 : decode cX10_isLight 2 = .ok (.bipush 60, 2) := by decide +kernel
theorem dX10_isLight_4 : decode cX10_isLight 4 = .ok (.invokestatic 147, 3) := by decide +kernel
theorem dX10_isLight_7 : decode cX10_isLight 7 = .ok (.ireturn, 1) := by decide +kernel
theorem dX10_howMany_0 : decode cX10_howMany 0 = .ok (.iload_n 1, 1) := by decide +kernel
theorem dX10_howMany_1 : decode cX10_howMany 1 = .ok (.tableswitch 120 0 7 #[47, 55, 63, 74, 85, 96, 104, 112], 47) := by decide +kernel
theorem dX10_howMany_48 : decode cX10_howMany 48 = .ok (.aload_n 0, 1) := by decide +kernel
theorem dX10_howMany_49 : decode cX10_howMany 49 = .ok (.getfield 36, 3) := by decide +kernel
theorem dX10_howMany_52 : decode cX10_howMany 52 = .ok (.getfield 94, 3) := by decide +kernel
theorem dX10_howMany_55 : decode cX10_howMany 55 = .ok (.ireturn, 1) := by decide +kernel
theorem dX10_howMany_56 : decode cX10_howMany 56 = .ok (.aload_n 0, 1) := by decide +kernel
theorem dX10_howMany_57 : decode cX10_howMany 57 = .ok (.getfield 36, 3) := by decide +kernel
theorem dX10_howMany_60 : decode cX10_howMany 60 = .ok (.getfield 115, 3) := by decide +kernel
theorem dX10_howMany_63 : decode cX10_howMany 63 = .ok (.ireturn, 1) := by decide +kernel
theorem dX10_howMany_64 : decode cX10_howMany 64 = .ok (.aload_n 0, 1) := by decide +kernel
theorem dX10_howMany_65 : decode cX10_howMany 65 = .ok (.getfield 36, 3) := by decide +kernel
theorem dX10_howMany_68 : decode cX10_howMany 68 = .ok (.getfield 140, 3) := by decide +kernel
theorem dX10_howMany_71 : decode cX10_howMany 71 = .ok (.getfield 151, 3) := by decide +kernel
theorem dX10_howMany_74 : decode cX10_howMany 74 = .ok (.ireturn, 1) := by decide +kernel
theorem dX10_howMany_75 : decode cX10_howMany 75 = .ok (.aload_n 0, 1) := by decide +kernel
theorem dX10_howMany_76 : decode cX10_howMany 76 = .ok (.getfield 36, 3) := by decide +kernel
theorem dX10_howMany_79 : decode cX10_howMany 79 = .ok (.getfield 140, 3) := by decide +kernel
theorem dX10_howMany_82 : decode cX10_howMany 82 = .ok (.getfield 173, 3) := by decide +kernel
theorem dX10_howMany_85 : decode cX10_howMany 85 = .ok (.ireturn, 1) := by decide +kernel
theorem dX10_howMany_86 : decode cX10_howMany 86 = .ok (.aload_n 0, 1) := by decide +kernel
theorem dX10_howMany_87 : decode cX10_howMany 87 = .ok (.getfield 36, 3) := by decide +kernel
theorem dX10_howMany_90 : decode cX10_howMany 90 = .ok (.getfield 140, 3) := by decide +kernel
theorem dX10_howMany_93 : decode cX10_howMany 93 = .ok (.getfield 164, 3) := by decide +kernel
theorem dX10_howMany_96 : decode cX10_howMany 96 = .ok (.ireturn, 1) := by decide +kernel
theorem dX10_howMany_97 : decode cX10_howMany 97 = .ok (.aload_n 0, 1) := by decide +kernel
theorem dX10_howMany_98 : decode cX10_howMany 98 = .ok (.getfield 36, 3) := by decide +kernel
theorem dX10_howMany_101 : decode cX10_howMany 101 = .ok (.getfield 240, 3) := by decide +kernel
theorem dX10_howMany_104 : decode cX10_howMany 104 = .ok (.ireturn, 1) := by decide +kernel
theorem dX10_howMany_105 : decode cX10_howMany 105 = .ok (.aload_n 0, 1) := by decide +kernel
theorem dX10_howMany_106 : decode cX10_howMany 106 = .ok (.getfield 36, 3) := by decide +kernel
theorem dX10_howMany_109 : decode cX10_howMany 109 = .ok (.getfield 250, 3) := by decide +kernel
theorem dX10_howMany_112 : decode cX10_howMany 112 = .ok (.ireturn, 1) := by decide +kernel
theorem dX10_howMany_113 : decode cX10_howMany 113 = .ok (.aload_n 0, 1) := by decide +kernel
theorem dX10_howMany_114 : decode cX10_howMany 114 = .ok (.getfield 36, 3) := by decide +kernel
theorem dX10_howMany_117 : decode cX10_howMany 117 = .ok (.getfield 176, 3) := by decide +kernel
theorem dX10_howMany_120 : decode cX10_howMany 120 = .ok (.ireturn, 1) := by decide +kernel
theorem dX10_howMany_121 : decode cX10_howMany 121 = .ok (.aload_n 0, 1) := by decide +kernel
theorem dX10_howMany_122 : decode cX10_howMany 122 = .ok (.getfield 51, 3) := by decide +kernel
theorem dX10_howMany_125 : decode cX10_howMany 125 = .ok (.getfield 122, 3) := by decide +kernel
theorem dX10_howMany_128 : decode cX10_howMany 128 = .ok (.ireturn, 1) := by decide +kernel
theorem dX10_mix_0 : decode cX10_mix 0 = .ok (.ldc2_w 303, 3) := by decide +kernel
theorem dX10_mix_3 : decode cX10_mix 3 = .ok (.lload_n 0, 1) := by decide +kernel
theorem dX10_mix_4 : decode cX10_mix 4 = .ok (.lmul, 1) := by decide +kernel
theorem dX10_mix_5 : decode cX10_mix 5 = .ok (.lload_n 2, 1) := by decide +kernel
theorem dX10_mix_6 : decode cX10_mix 6 = .ok (.ladd, 1) := by decide +kernel
theorem dX10_mix_7 : decode cX10_mix 7 = .ok (.lreturn, 1) := by decide +kernel
theorem dX10_showAll_0 : decode cX10_showAll 0 = .ok (.iconst 0, 1) := by decide +kernel
theorem dX10_showAll_1 : decode cX10_showAll 1 = .ok (.istore_n 2, 1) := by decide +kernel
theorem dX10_showAll_2 : decode cX10_showAll 2 = .ok (.iload_n 2, 1) := by decide +kernel
theorem dX10_showAll_3 : decode cX10_showAll 3 = .ok (.aload_n 0, 1) := by decide +kernel
theorem dX10_showAll_4 : decode cX10_showAll 4 = .ok (.getfield 36, 3) := by decide +kernel
theorem dX10_showAll_7 : decode cX10_showAll 7 = .ok (.getfield 94, 3) := by decide +kernel
theorem dX10_showAll_10 : decode cX10_showAll 10 = .ok (.if_icmp .ge 31, 3) := by decide +kernel
theorem dX10_showAll_41 : decode cX10_showAll 41 = .ok (.return_, 1) := by decide +kernel
set_option maxRecDepth 20000 in
theorem ggX11_init_X11_begin : GoodIn wsX11_init wsX11_begin := goodIn_r _ [21] (by decide +kernel) (by decide +kernel)
set_option maxRecDepth 20000 in
theorem gX11_init_X11_begin : GoodIn wsX11_init (va_wsS RX11 48 yX11_begin wsX11_begin) := goodIn_app (goodIn_of _ (by decide +kernel)) ggX11_init_X11_begin
theorem dX11_init_0 : decode cX11_init 0 = .ok (.aload_n 0, 1) := by decide +kernel
theorem dX11_init_1 : decode cX11_init 1 = .ok (.invokespecial 1, 3) := by decide +kernel
theorem dX11_init_4 : decode cX11_init 4 = .ok (.aload_n 0, 1) := by decide +kernel
theorem dX11_init_5 : decode cX11_init 5 = .ok (.sipush 228, 3) := by decide +kernel
theorem dX11_init_8 : decode cX11_init 8 = .ok (.newarray .int, 2) := by decide +kernel
theorem dX11_init_10 : decode cX11_init 10 = .ok (.putfield 7, 3) := by decide +kernel
theorem dX11_init_13 : decode cX11_init 13 = .ok (.aload_n 0, 1) := by decide +kernel
theorem dX11_init_14 : decode cX11_init 14 = .ok (.sipush 456, 3) := by decide +kernel
theorem dX11_init_17 : decode cX11_init 17 = .ok (.newarray .int, 2) := by decide +kernel
theorem dX11_init_19 : decode cX11_init 19 = .ok (.putfield 13, 3) := by decide +kernel
theorem dX11_init_22 : decode cX11_init 22 = .ok (.aload_n 0, 1) := by decide +kernel
theorem dX11_init_23 : decode cX11_init 23 = .ok (.iconst 2, 1) := by decide +kernel
theorem dX11_init_24 : decode cX11_init 24 = .ok (.newarray .boolean, 2) := by decide +kernel
theorem dX11_init_26 : decode cX11_init 26 = .ok (.putfield 16, 3) := by decide +kernel
theorem dX11_init_29 : decode cX11_init 29 = .ok (.aload_n 0, 1) := by decide +kernel
theorem dX11_init_30 : decode cX11_init 30 = .ok (.iconst 3, 1) := by decide +kernel
theorem dX11_init_31 : decode cX11_init 31 = .ok (.newarray .int, 2) := by decide +kernel
theorem dX11_init_33 : decode cX11_init 33 = .ok (.putfield 20, 3) := by decide +kernel
theorem dX11_init_36 : decode cX11_init 36 = .ok (.aload_n 0, 1) := by decide +kernel
theorem dX11_init_37 : decode cX11_init 37 = .ok (.lconst 1, 1) := by decide +kernel
theorem dX11_init_38 : decode cX11_init 38 = .ok (.putfield 23, 3) := by decide +kernel
theorem dX11_init_41 : decode cX11_init 41 = .ok (.aload_n 0, 1) := by decide +kernel
theorem dX11_init_42 : decode cX11_init 42 = .ok (.bipush 30, 2) := by decide +kernel
theorem dX11_init_44 : decode cX11_init 44 = .ok (.newarray .int, 2) := by decide +kernel
theorem dX11_init_46 : decode cX11_init 46 = .ok (.putfield 27, 3) := by decide +kernel
theorem dX11_init_49 : decode cX11_init 49 = .ok (.aload_n 0, 1) := by decide +kernel
theorem dX11_init_50 : decode cX11_init 50 = .ok (.bipush 6, 2) := by decide +kernel
theorem dX11_init_52 : decode cX11_init 52 = .ok (.newarray .int, 2) := by decide +kernel
theorem dX11_init_54 : decode cX11_init 54 = .ok (.putfield 30, 3) := by decide +kernel
theorem dX11_init_57 : decode cX11_init 57 = .ok (.aload_n 0, 1) := by decide +kernel
theorem dX11_init_58 : decode cX11_init 58 = .ok (.bipush 6, 2) := by decide +kernel
theorem dX11_init_60 : decode cX11_init 60 = .ok (.newarray .int, 2) := by decide +kernel
theorem dX11_init_62 : decode cX11_init 62 = .ok (.putfield 33, 3) := by decide +kernel
theorem dX11_init_65 : decode cX11_init 65 = .ok (.aload_n 0, 1) := by decide +kernel
theorem dX11_init_66 : decode cX11_init 66 = .ok (.iconst 5, 1) := by decide +kernel
theorem dX11_init_67 : decode cX11_init 67 = .ok (.newarray .int, 2) := by decide +kernel
theorem dX11_init_69 : decode cX11_init 69 = .ok (.putfield 36, 3) := by decide +kernel
theorem dX11_init_72 : decode cX11_init 72 = .ok (.aload_n 0, 1) := by decide +kernel
theorem dX11_init_73 : decode cX11_init 73 = .ok (.sipush 150, 3) := by decide +kernel
theorem dX11_init_76 : decode cX11_init 76 = .ok (.newarray .int, 2) := by decide +kernel
theorem dX11_init_78 : decode cX11_init 78 = .ok (.putfield 39, 3) := by decide +kernel
theorem dX11_init_81 : decode cX11_init 81 = .ok (.aload_n 0, 1) := by decide +kernel
theorem dX11_init_82 : decode cX11_init 82 = .ok (.bipush 76, 2) := by decide +kernel
theorem dX11_init_84 : decode cX11_init 84 = .ok (.newarray .int, 2) := by decide +kernel
theorem dX11_init_86 : decode cX11_init 86 = .ok (.putfield 42, 3) := by decide +kernel
theorem dX11_init_89 : decode cX11_init 89 = .ok (.aload_n 0, 1) := by decide +kernel
theorem dX11_init_90 : decode cX11_init 90 = .ok (.iconst 2, 1) := by decide +kernel
theorem dX11_init_91 : decode cX11_init 91 = .ok (.newarray .int, 2) := by decide +kernel
theorem dX11_init_93 : decode cX11_init 93 = .ok (.putfield 45, 3) := by decide +kernel
theorem dX11_init_96 : decode cX11_init 96 = .ok (.aload_n 0, 1) := by decide +kernel
theorem dX11_init_97 : decode cX11_init 97 = .ok (.getfield 7, 3) := by decide +kernel
theorem dX11_init_100 : decode cX11_init 100 = .ok (.iconst 0, 1) := by decide +kernel
theorem dX11_init_101 : decode cX11_init 101 = .ok (.invokestatic 48, 3) := by decide +kernel
theorem dX11_init_104 : decode cX11_init 104 = .ok (.return_, 1) := by decide +kernel
theorem dX11_in_0 : decode cX11_in 0 = .ok (.lload_n 0, 1) := by decide +kernel
theorem dX11_in_1 : decode cX11_in 1 = .ok (.lload_n 2, 1) := by decide +kernel
theorem dX11_in_2 : decode cX11_in 2 = .ok (.lcmp, 1) := by decide +kernel
theorem dX11_in_3 : decode cX11_in 3 = .ok (.ifCond .lt 14, 3) := by decide +kernel
theorem dX11_in_6 : decode cX11_in 6 = .ok (.lload_n 0, 1) := by decide +kernel
theorem dX11_in_7 : decode cX11_in 7 = .ok (.lload 4, 2) := by decide +kernel
theorem dX11_in_9 : decode cX11_in 9 = .ok (.lcmp, 1) := by decide +kernel
theorem dX11_in_10 : decode cX11_in 10 = .ok (.ifCond .gt 7, 3) := by decide +kernel
theorem dX11_in_13 : decode cX11_in 13 = .ok (.iconst 1, 1) := by decide +kernel
theorem dX11_in_14 : decode cX11_in 14 = .ok (.goto 4, 3) := by decide +kernel
theorem dX11_in_17 : decode cX11_in 17 = .ok (.iconst 0, 1) := by decide +kernel
theorem dX11_in_18 : decode cX11_in 18 = .ok (.ireturn, 1) := by decide +kernel
theorem dX11_bad_0 : decode cX11_bad 0 = .ok (.aload_n 0, 1) := by decide +kernel
theorem dX11_bad_1 : decode cX11_bad 1 = .ok (.getfield 20, 3) := by decide +kernel
theorem dX11_bad_4 : decode cX11_bad 4 = .ok (.iconst 0, 1) := by decide +kernel
theorem dX11_bad_5 : decode cX11_bad 5 = .ok (.dup2, 1) := by decide +kernel
theorem dX11_bad_6 : decode cX11_bad 6 = .ok (.iaload, 1) := by decide +kernel
theorem dX11_bad_7 : decode cX11_bad 7 = .ok (.iconst 1, 1) := by decide +kernel
theorem dX11_bad_8 : decode cX11_bad 8 = .ok (.iadd, 1) := by decide +kernel
theorem dX11_bad_9 : decode cX11_bad 9 = .ok (.iastore, 1) := by decide +kernel
theorem dX11_bad_10 : decode cX11_bad 10 = .ok (.iload_n 1, 1) := by decide +kernel
theorem dX11_bad_11 : decode cX11_bad 11 = .ok (.ireturn, 1) := by decide +kernel
theorem dX11_no_0 : decode cX11_no 0 = .ok (.aload_n 0, 1) := by decide +kernel
theorem dX11_no_1 : decode cX11_no 1 = .ok (.getfield 20, 3) := by decide +kernel
theorem dX11_no_4 : decode cX11_no 4 = .ok (.iconst 1, 1) := by decide +kernel
theorem dX11_no_5 : decode cX11_no 5 = .ok (.dup2, 1) := by decide +kernel
theorem dX11_no_6 : decode cX11_no 6 = .ok (.iaload, 1) := by decide +kernel
theorem dX11_no_7 : decode cX11_no 7 = .ok (.iconst 1, 1) := by decide +kernel
theorem dX11_no_8 : decode cX11_no 8 = .ok (.iadd, 1) := by decide +kernel
theorem dX11_no_9 : decode cX11_no 9 = .ok (.iastore, 1) := by decide +kernel
theorem dX11_no_10 : decode cX11_no 10 = .ok (.bipush (-3), 2) := by decide +kernel
theorem dX11_no_12 : decode cX11_no 12 = .ok (.ireturn, 1) := by decide +kernel
theorem dX11_full_0 : decode cX11_full 0 = .ok (.aload_n 0, 1) := by decide +kernel
theorem dX11_full_1 : decode cX11_full 1 = .ok (.getfield 20, 3) := by decide +kernel
theorem dX11_full_4 : decode cX11_full 4 = .ok (.iconst 2, 1) := by decide +kernel
theorem dX11_full_5 : decode cX11_full 5 = .ok (.dup2, 1) := by decide +kernel
theorem dX11_full_6 : decode cX11_full 6 = .ok (.iaload, 1) := by decide +kernel
theorem dX11_full_7 : decode cX11_full 7 = .ok (.iconst 1, 1) := by decide +kernel
theorem dX11_full_8 : decode cX11_full 8 = .ok (.iadd, 1) := by decide +kernel
theorem dX11_full_9 : decode cX11_full 9 = .ok (.iastore, 1) := by decide +kernel
theorem dX11_full_10 : decode cX11_full 10 = .ok (.bipush (-4), 2) := by decide +kernel
theorem dX11_full_12 : decode cX11_full 12 = .ok (.ireturn, 1) := by decide +kernel
theorem dX11_begin_0 : decode cX11_begin 0 = .ok (.iconst 0, 1) := by decide +kernel
theorem dX11_begin_1 : decode cX11_begin 1 = .ok (.istore_n 2, 1) := by decide +kernel
theorem dX11_begin_2 : decode cX11_begin 2 = .ok (.iload_n 2, 1) := by decide +kernel
theorem dX11_begin_3 : decode cX11_begin 3 = .ok (.bipush 76, 2) := by decide +kernel
theorem dX11_begin_5 : decode cX11_begin 5 = .ok (.if_icmp .ge 13, 3) := by decide +kernel
theorem dX11_begin_8 : decode cX11_begin 8 = .ok (.aload_n 0, 1) := by decide +kernel
theorem dX11_begin_9 : decode cX11_begin 9 = .ok (.iload_n 2, 1) := by decide +kernel
theorem dX11_begin_10 : decode cX11_begin 10 = .ok (.iconst 0, 1) := by decide +kernel
theorem dX11_begin_11 : decode cX11_begin 11 = .ok (.iastore, 1) := by decide +kernel
theorem dX11_begin_12 : decode cX11_begin 12 = .ok (.iinc 2 1, 3) := by decide +kernel
theorem dX11_begin_15 : decode cX11_begin 15 = .ok (.goto (-13), 3) := by decide +kernel
theorem dX11_begin_18 : decode cX11_begin 18 = .ok (.aload_n 0, 1) := by decide +kernel
theorem dX11_begin_19 : decode cX11_begin 19 = .ok (.bipush 22, 2) := by decide +kernel
theorem dX11_begin_21 : decode cX11_begin 21 = .ok (.iload_n 1, 1) := by decide +kernel
theorem dX11_begin_22 : decode cX11_begin 22 = .ok (.iastore, 1) := by decide +kernel
theorem dX11_begin_23 : decode cX11_begin 23 = .ok (.return_, 1) := by decide +kernel
theorem dX11_many_0 : decode cX11_many 0 = .ok (.aload_n 0, 1) := by decide +kernel
theorem dX11_many_1 : decode cX11_many 1 = .ok (.getfield 7, 3) := by decide +kernel
theorem dX11_many_4 : decode cX11_many 4 = .ok (.iconst 0, 1) := by decide +kernel
theorem dX11_many_5 : decode cX11_many 5 = .ok (.iaload, 1) := by decide +kernel
theorem dX11_many_6 : decode cX11_many 6 = .ok (.ireturn, 1) := by decide +kernel
theorem dX11_manyGleaners_0 : decode cX11_manyGleaners 0 = .ok (.aload_n 0, 1) := by decide +kernel
theorem dX11_manyGleaners_1 : decode cX11_manyGleaners 1 = .ok (.getfield 7, 3) := by decide +kernel
theorem dX11_manyGleaners_4 : decode cX11_manyGleaners 4 = .ok (.iconst 1, 1) := by decide +kernel
theorem dX11_manyGleaners_5 : decode cX11_manyGleaners 5 = .ok (.iaload, 1) := by decide +kernel
theorem dX11_manyGleaners_6 : decode cX11_manyGleaners 6 = .ok (.ireturn, 1) := by decide +kernel
set_option maxRecDepth 20000 in
theorem ggX11_isField_X11_many : GoodIn wsX11_isField wsX11_many := goodIn_r _ [5, 6, 10, 11, 12, 13, 14, 15, 16, 17, 18, 19, 20, 21, 22, 23, 24, 25, 26, 27] (by decide +kernel) (by decide +kernel)
set_option maxRecDepth 20000 in
theorem gX11_isField_X11_many : GoodIn wsX11_isField (wsV RX11 52 RX11 yX11_many wsX11_many) := goodIn_app (goodIn_of _ (by decide +kernel)) ggX11_isField_X11_many
set_option maxRecDepth 20000 in
theorem ggX11_isField_X11_in : GoodIn wsX11_isField wsX11_in := goodIn_r _ [9] (by decide +kernel) (by decide +kernel)
set_option maxRecDepth 20000 in
theorem gX11_isField_X11_in : GoodIn wsX11_isField (va_wsS RX11 56 yX11_in wsX11_in) := goodIn_app (goodIn_of _ (by decide +kernel)) ggX11_isField_X11_in
theorem dX11_isField_0 : decode cX11_isField 0 = .ok (.iload_n 1, 1) := by decide +kernel
theorem dX11_isField_1 : decode cX11_isField 1 = .ok (.i2l, 1) := by decide +kernel
theorem dX11_isField_2 : decode cX11_isField 2 = .ok (.lconst 0, 1) := by decide +kernel
theorem dX11_isField_3 : decode cX11_isField 3 = .ok (.aload_n 0, 1) := by decide +kernel
theorem dX11_isField_4 : decode cX11_isField 4 = .ok (.invokevirtual 52, 3) := by decide +kernel
theorem dX11_isField_7 : decode cX11_isField 7 = .ok (.iconst 1, 1) := by decide +kernel
theorem dX11_isField_8 : decode cX11_isField 8 = .ok (.isub, 1) := by decide +kernel
theorem dX11_isField_9 : decode cX11_isField 9 = .ok (.i2l, 1) := by decide +kernel
theorem dX11_isField_10 : decode cX11_isField 10 = .ok (.invokestatic 56, 3) := by decide +kernel
theorem dX11_isField_13 : decode cX11_isField 13 = .ok (.ireturn, 1) := by decide +kernel
set_option maxRecDepth 20000 in
theorem ggX11_isGleaner_X11_manyGleaners : GoodIn wsX11_isGleaner wsX11_manyGleaners := goodIn_r _ [5, 6, 10, 11, 12, 13, 14, 15, 16, 17, 18, 19, 20, 21, 22, 23, 24, 25, 26, 27] (by decide +kernel) (by decide +kernel)
set_option maxRecDepth 20000 in
theorem gX11_isGleaner_X11_manyGleaners : GoodIn wsX11_isGleaner (wsV RX11 60 RX11 yX11_manyGleaners wsX11_manyGleaners) := goodIn_app (goodIn_of _ (by decide +kernel)) ggX11_isGleaner_X11_manyGleaners
set_option maxRecDepth 20000 in
theorem ggX11_isGleaner_X11_in : GoodIn wsX11_isGleaner wsX11_in := goodIn_r _ [9] (by decide +kernel) (by decide +kernel)
set_option maxRecDepth 20000 in
theorem gX11_isGleaner_X11_in : GoodIn wsX11_isGleaner (va_wsS RX11 56 yX11_in wsX11_in) := goodIn_app (goodIn_of _ (by decide +kernel)) ggX11_isGleaner_X11_in
theorem dX11_isGleaner_0 : decode cX11_isGleaner 0 = .ok (.iload_n 1, 1) := by decide +kernel
theorem dX11_isGleaner_1 : decode cX11_isGleaner 1 = .ok (.i2l, 1) := by decide +kernel
theorem dX11_isGleaner_2 : decode cX11_isGleaner 2 = .ok (.lconst 0, 1) := by decide +kernel
theorem dX11_isGleaner_3 : decode cX11_isGleaner 3 = .ok (.aload_n 0, 1) := by decide +kernel
theorem dX11_isGleaner_4 : decode cX11_isGleaner 4 = .ok (.invokevirtual 60, 3) := by decide +kernel
theorem dX11_isGleaner_7 : decode cX11_isGleaner 7 = .ok (.iconst 1, 1) := by decide +kernel
theorem dX11_isGleaner_8 : decode cX11_isGleaner 8 = .ok (.isub, 1) := by decide +kernel
theorem dX11_isGleaner_9 : decode cX11_isGleaner 9 = .ok (.i2l, 1) := by decide +kernel
theorem dX11_isGleaner_10 : decode cX11_isGleaner 10 = .ok (.invokestatic 56, 3) := by decide +kernel
theorem dX11_isGleaner_13 : decode cX11_isGleaner 13 = .ok (.ireturn, 1) := by decide +kernel
set_option maxRecDepth 20000 in
theorem ggX11_isStep_X11_in : GoodIn wsX11_isStep wsX11_in := goodIn_r _ [5] (by decide +kernel) (by decide +kernel)
set_option maxRecDepth 20000 in
theorem gX11_isStep_X11_in : GoodIn wsX11_isStep (va_wsS RX11 56 yX11_in wsX11_in) := goodIn_app (goodIn_of _ (by decide +kernel)) ggX11_isStep_X11_in
theorem dX11_isStep_0 : decode cX11_isStep 0 = .ok (.iload_n 0, 1) := by decide +kernel
theorem dX11_isStep_1 : decode cX11_isStep 1 = .ok (.i2l, 1) := by decide +kernel
theorem dX11_isStep_2 : decode cX11_isStep 2 = .ok (.lconst 0, 1) := by decide +kernel
theorem dX11_isStep_3 : decode cX11_isStep 3 = .ok (.ldc2_w 63, 3) := by decide +kernel
theorem dX11_isStep_6 : decode cX11_isStep 6 = .ok (.invokestatic 56, 3) := by decide +kernel
theorem dX11_isStep_9 : decode cX11_isStep 9 = .ok (.ireturn, 1) := by decide +kernel
set_option maxRecDepth 20000 in
theorem ggX11_isCloud_X11_in : GoodIn wsX11_isCloud wsX11_in := goodIn_r _ [5] (by decide +kernel) (by decide +kernel)
set_option maxRecDepth 20000 in
theorem gX11_isCloud_X11_in : GoodIn wsX11_isCloud (va_wsS RX11 56 yX11_in wsX11_in) := goodIn_app (goodIn_of _ (by decide +kernel)) ggX11_isCloud_X11_in
theorem dX11_isCloud_0 : decode cX11_isCloud 0 = .ok (.iload_n 0, 1) := by decide +kernel
theorem dX11_isCloud_1 : decode cX11_isCloud 1 = .ok (.i2l, 1) := by decide +kernel
theorem dX11_isCloud_2 : decode cX11_isCloud 2 = .ok (.lconst 0, 1) := by decide +kernel
theorem dX11_isCloud_3 : decode cX11_isCloud 3 = .ok (.ldc2_w 65, 3) := by decide +kernel
theorem dX11_isCloud_6 : decode cX11_isCloud 6 = .ok (.invokestatic 56, 3) := by decide +kernel
theorem dX11_isCloud_9 : decode cX11_isCloud 9 = .ok (.ireturn, 1) := by decide +kernel
set_option maxRecDepth 20000 in
theorem ggX11_isLight_X11_in : GoodIn wsX11_isLight wsX11_in := goodIn_r _ [5] (by decide +kernel) (by decide +kernel)
set_option maxRecDepth 20000 in
theorem gX11_isLight_X11_in : GoodIn wsX11_isLight (va_wsS RX11 56 yX11_in wsX11_in) := goodIn_app (goodIn_of _ (by decide +kernel)) ggX11_isLight_X11_in
theorem dX11_isLight_0 : decode cX11_isLight 0 = .ok (.iload_n 0, 1) := by decide +kernel
theorem dX11_isLight_1 : decode cX11_isLight 1 = .ok (.i2l, 1) := by decide +kernel
theorem dX11_isLight_2 : decode cX11_isLight 2 = .ok (.lconst 0, 1) := by decide +kernel
theorem dX11_isLight_3 : decode cX11_isLight 3 = .ok (.ldc2_w 67, 3) := by decide +kernel
theorem dX11_isLight_6 : decode cX11_isLight 6 = .ok (.invokestatic 56, 3) := by decide +kernel
theorem dX11_isLight_9 : decode cX11_isLight 9 = .ok (.ireturn, 1) := by decide +kernel
set_option maxRecDepth 20000 in
theorem ggX11_parish_X11_isCloud : GoodIn wsX11_parish wsX11_isCloud := goodIn_r _ [5, 6, 7, 8, 4, 9] (by decide +kernel) (by decide +kernel)
set_option maxRecDepth 20000 in
theorem gX11_parish_X11_isCloud : GoodIn wsX11_parish (va_wsS RX11 69 yX11_isCloud wsX11_isCloud) := goodIn_app (goodIn_of _ (by decide +kernel)) ggX11_parish_X11_isCloud
set_option maxRecDepth 20000 in
theorem ggX11_parish_X11_bad : GoodIn wsX11_parish wsX11_bad := goodIn_r _ [13, 14, 22, 23, 24, 25, 26, 27, 28, 29, 30, 31, 32, 33, 34, 35, 36, 37, 38, 39] (by decide +kernel) (by decide +kernel)
set_option maxRecDepth 20000 in
theorem gX11_parish_X11_bad : GoodIn wsX11_parish (wsV RX11 73 RX11 yX11_bad wsX11_bad) := goodIn_app (goodIn_of _ (by decide +kernel)) ggX11_parish_X11_bad
set_option maxRecDepth 20000 in
theorem ggX11_parish_X11_many : GoodIn wsX11_parish wsX11_many := goodIn_r _ [18, 1, 22, 23, 24, 25, 26, 27, 28, 29, 30, 31, 32, 33, 34, 35, 36, 37, 38, 39] (by decide +kernel) (by decide +kernel)
set_option maxRecDepth 20000 in
theorem gX11_parish_X11_many : GoodIn wsX11_parish (wsV RX11 52 RX11 yX11_many wsX11_many) := goodIn_app (goodIn_of _ (by decide +kernel)) ggX11_parish_X11_many
set_option maxRecDepth 20000 in
theorem ggX11_parish_X11_begin : GoodIn wsX11_parish wsX11_begin := goodIn_r _ [21] (by decide +kernel) (by decide +kernel)
set_option maxRecDepth 20000 in
theorem gX11_parish_X11_begin : GoodIn wsX11_parish (va_wsS RX11 48 yX11_begin wsX11_begin) := goodIn_app (goodIn_of _ (by decide +kernel)) ggX11_parish_X11_begin
theorem dX11_parish_0 : decode cX11_parish 0 = .ok (.iload_n 1, 1) := by decide +kernel
theorem dX11_parish_1 : decode cX11_parish 1 = .ok (.invokestatic 69, 3) := by decide +kernel
theorem dX11_parish_4 : decode cX11_parish 4 = .ok (.ifCond .ne 10, 3) := by decide +kernel
theorem dX11_parish_7 : decode cX11_parish 7 = .ok (.aload_n 0, 1) := by decide +kernel
theorem dX11_parish_8 : decode cX11_parish 8 = .ok (.bipush (-2), 2) := by decide +kernel
theorem dX11_parish_10 : decode cX11_parish 10 = .ok (.invokevirtual 73, 3) := by decide +kernel
theorem dX11_parish_13 : decode cX11_parish 13 = .ok (.ireturn, 1) := by decide +kernel
theorem dX11_parish_14 : decode cX11_parish 14 = .ok (.aload_n 0, 1) := by decide +kernel
theorem dX11_parish_15 : decode cX11_parish 15 = .ok (.invokevirtual 52, 3) := by decide +kernel
theorem dX11_parish_18 : decode cX11_parish 18 = .ok (.istore_n 2, 1) := by decide +kernel
theorem dX11_parish_19 : decode cX11_parish 19 = .ok (.aload_n 0, 1) := by decide +kernel
theorem dX11_parish_20 : decode cX11_parish 20 = .ok (.getfield 7, 3) := by decide +kernel
theorem dX11_parish_23 : decode cX11_parish 23 = .ok (.iload_n 1, 1) := by decide +kernel
theorem dX11_parish_24 : decode cX11_parish 24 = .ok (.invokestatic 48, 3) := by decide +kernel
theorem dX11_parish_27 : decode cX11_parish 27 = .ok (.iload_n 2, 1) := by decide +kernel
theorem dX11_parish_28 : decode cX11_parish 28 = .ok (.ireturn, 1) := by decide +kernel
theorem dX11_layField_0 : decode cX11_layField 0 = .ok (.aload_n 0, 1) := by decide +kernel
theorem dX11_layField_1 : decode cX11_layField 1 = .ok (.bipush 24, 2) := by decide +kernel
theorem dX11_layField_3 : decode cX11_layField 3 = .ok (.aload_n 0, 1) := by decide +kernel
theorem dX11_layField_4 : decode cX11_layField 4 = .ok (.iconst 0, 1) := by decide +kernel
theorem dX11_layField_5 : decode cX11_layField 5 = .ok (.iaload, 1) := by decide +kernel
theorem dX11_layField_6 : decode cX11_layField 6 = .ok (.iadd, 1) := by decide +kernel
theorem dX11_layField_7 : decode cX11_layField 7 = .ok (.iload_n 1, 1) := by decide +kernel
theorem dX11_layField_8 : decode cX11_layField 8 = .ok (.iastore, 1) := by decide +kernel
theorem dX11_layField_9 : decode cX11_layField 9 = .ok (.aload_n 0, 1) := by decide +kernel
theorem dX11_layField_10 : decode cX11_layField 10 = .ok (.iconst 5, 1) := by decide +kernel
theorem dX11_layField_11 : decode cX11_layField 11 = .ok (.aload_n 0, 1) := by decide +kernel
theorem dX11_layField_12 : decode cX11_layField 12 = .ok (.iconst 0, 1) := by decide +kernel
theorem dX11_layField_13 : decode cX11_layField 13 = .ok (.iaload, 1) := by decide +kernel
theorem dX11_layField_14 : decode cX11_layField 14 = .ok (.iadd, 1) := by decide +kernel
theorem dX11_layField_15 : decode cX11_layField 15 = .ok (.iload_n 2, 1) := by decide +kernel
theorem dX11_layField_16 : decode cX11_layField 16 = .ok (.iastore, 1) := by decide +kernel
theorem dX11_layField_17 : decode cX11_layField 17 = .ok (.aload_n 0, 1) := by decide +kernel
theorem dX11_layField_18 : decode cX11_layField 18 = .ok (.iconst 0, 1) := by decide +kernel
theorem dX11_layField_19 : decode cX11_layField 19 = .ok (.dup2, 1) := by decide +kernel
theorem dX11_layField_20 : decode cX11_layField 20 = .ok (.iaload, 1) := by decide +kernel
theorem dX11_layField_21 : decode cX11_layField 21 = .ok (.iconst 1, 1) := by decide +kernel
theorem dX11_layField_22 : decode cX11_layField 22 = .ok (.iadd, 1) := by decide +kernel
theorem dX11_layField_23 : decode cX11_layField 23 = .ok (.iastore, 1) := by decide +kernel
theorem dX11_layField_24 : decode cX11_layField 24 = .ok (.return_, 1) := by decide +kernel
set_option maxRecDepth 20000 in
theorem ggX11_field_X11_in : GoodIn wsX11_field wsX11_in := goodIn_r _ [6] (by decide +kernel) (by decide +kernel)
set_option maxRecDepth 20000 in
theorem gX11_field_X11_in : GoodIn wsX11_field (va_wsS RX11 56 yX11_in wsX11_in) := goodIn_app (goodIn_of _ (by decide +kernel)) ggX11_field_X11_in
set_option maxRecDepth 20000 in
theorem ggX11_field_X11_isLight : GoodIn wsX11_field wsX11_isLight := goodIn_r _ [9, 10, 3, 4, 5, 6] (by decide +kernel) (by decide +kernel)
set_option maxRecDepth 20000 in
theorem gX11_field_X11_isLight : GoodIn wsX11_field (va_wsS RX11 79 yX11_isLight wsX11_isLight) := goodIn_app (goodIn_of _ (by decide +kernel)) ggX11_field_X11_isLight
set_option maxRecDepth 20000 in
theorem ggX11_field_X11_bad : GoodIn wsX11_field wsX11_bad := goodIn_r _ [14, 15, 27, 28, 29, 30, 31, 32, 33, 34, 35, 36, 37, 38, 39, 40, 41, 42, 43, 44] (by decide +kernel) (by decide +kernel)
set_option maxRecDepth 20000 in
theorem gX11_field_X11_bad : GoodIn wsX11_field (wsV RX11 73 RX11 yX11_bad wsX11_bad) := goodIn_app (goodIn_of _ (by decide +kernel)) ggX11_field_X11_bad
set_option maxRecDepth 20000 in
theorem ggX11_field_X11_many : GoodIn wsX11_field wsX11_many := goodIn_r _ [19, 2, 27, 28, 29, 30, 31, 32, 33, 34, 35, 36, 37, 38, 39, 40, 41, 42, 43, 44] (by decide +kernel) (by decide +kernel)
set_option maxRecDepth 20000 in
theorem gX11_field_X11_many : GoodIn wsX11_field (wsV RX11 52 RX11 yX11_many wsX11_many) := goodIn_app (goodIn_of _ (by decide +kernel)) ggX11_field_X11_many
set_option maxRecDepth 20000 in
theorem ggX11_field_X11_layField : GoodIn wsX11_field wsX11_layField := goodIn_r _ [26] (by decide +kernel) (by decide +kernel)
set_option maxRecDepth 20000 in
theorem gX11_field_X11_layField : GoodIn wsX11_field (va_wsS RX11 85 yX11_layField wsX11_layField) := goodIn_app (goodIn_of _ (by decide +kernel)) ggX11_field_X11_layField
theorem dX11_field_0 : decode cX11_field 0 = .ok (.iload_n 1, 1) := by decide +kernel
theorem dX11_field_1 : decode cX11_field 1 = .ok (.i2l, 1) := by decide +kernel
theorem dX11_field_2 : decode cX11_field 2 = .ok (.lconst 0, 1) := by decide +kernel
theorem dX11_field_3 : decode cX11_field 3 = .ok (.ldc2_w 77, 3) := by decide +kernel
theorem dX11_field_6 : decode cX11_field 6 = .ok (.invokestatic 56, 3) := by decide +kernel
theorem dX11_field_9 : decode cX11_field 9 = .ok (.ifCond .eq 10, 3) := by decide +kernel
theorem dX11_field_12 : decode cX11_field 12 = .ok (.iload_n 2, 1) := by decide +kernel
theorem dX11_field_13 : decode cX11_field 13 = .ok (.invokestatic 79, 3) := by decide +kernel
theorem dX11_field_16 : decode cX11_field 16 = .ok (.ifCond .ne 10, 3) := by decide +kernel
theorem dX11_field_19 : decode cX11_field 19 = .ok (.aload_n 0, 1) := by decide +kernel
theorem dX11_field_20 : decode cX11_field 20 = .ok (.bipush (-2), 2) := by decide +kernel
theorem dX11_field_22 : decode cX11_field 22 = .ok (.invokevirtual 73, 3) := by decide +kernel
theorem dX11_field_25 : decode cX11_field 25 = .ok (.ireturn, 1) := by decide +kernel
theorem dX11_field_26 : decode cX11_field 26 = .ok (.aload_n 0, 1) := by decide +kernel
theorem dX11_field_27 : decode cX11_field 27 = .ok (.invokevirtual 52, 3) := by decide +kernel
theorem dX11_field_30 : decode cX11_field 30 = .ok (.bipush 6, 2) := by decide +kernel
theorem dX11_field_32 : decode cX11_field 32 = .ok (.if_icmp .ne 8, 3) := by decide +kernel
theorem dX11_field_40 : decode cX11_field 40 = .ok (.aload_n 0, 1) := by decide +kernel
theorem dX11_field_41 : decode cX11_field 41 = .ok (.getfield 7, 3) := by decide +kernel
theorem dX11_field_44 : decode cX11_field 44 = .ok (.iload_n 1, 1) := by decide +kernel
theorem dX11_field_45 : decode cX11_field 45 = .ok (.iload_n 2, 1) := by decide +kernel
theorem dX11_field_46 : decode cX11_field 46 = .ok (.invokestatic 85, 3) := by decide +kernel
theorem dX11_field_49 : decode cX11_field 49 = .ok (.aload_n 0, 1) := by decide +kernel
theorem dX11_field_50 : decode cX11_field 50 = .ok (.getfield 7, 3) := by decide +kernel
theorem dX11_field_53 : decode cX11_field 53 = .ok (.iconst 4, 1) := by decide +kernel
theorem dX11_field_54 : decode cX11_field 54 = .ok (.iconst 0, 1) := by decide +kernel
theorem dX11_field_55 : decode cX11_field 55 = .ok (.iastore, 1) := by decide +kernel
theorem dX11_field_56 : decode cX11_field 56 = .ok (.aload_n 0, 1) := by decide +kernel
theorem dX11_field_57 : decode cX11_field 57 = .ok (.invokevirtual 52, 3) := by decide +kernel
theorem dX11_field_60 : decode cX11_field 60 = .ok (.iconst 1, 1) := by decide +kernel
theorem dX11_field_61 : decode cX11_field 61 = .ok (.isub, 1) := by decide +kernel
theorem dX11_field_62 : decode cX11_field 62 = .ok (.ireturn, 1) := by decide +kernel
set_option maxRecDepth 20000 in
theorem ggX11_gleaner_X11_isField : GoodIn wsX11_gleaner wsX11_isField := goodIn_r _ [6, 7, 8, 9, 5, 10, 1, 11, 12, 13, 30, 31, 32, 33, 34, 35, 36, 37, 38, 39, 40, 41, 42, 43, 44, 45, 46, 47] (by decide +kernel) (by decide +kernel)
set_option maxRecDepth 20000 in
theorem gX11_gleaner_X11_isField : GoodIn wsX11_gleaner (wsV RX11 89 RX11 yX11_isField wsX11_isField) := goodIn_app (goodIn_of _ (by decide +kernel)) ggX11_gleaner_X11_isField
set_option maxRecDepth 20000 in
theorem ggX11_gleaner_X11_bad : GoodIn wsX11_gleaner wsX11_bad := goodIn_r _ [17, 18, 30, 31, 32, 33, 34, 35, 36, 37, 38, 39, 40, 41, 42, 43, 44, 45, 46, 47] (by decide +kernel) (by decide +kernel)
set_option maxRecDepth 20000 in
theorem gX11_gleaner_X11_bad : GoodIn wsX11_gleaner (wsV RX11 73 RX11 yX11_bad wsX11_bad) := goodIn_app (goodIn_of _ (by decide +kernel)) ggX11_gleaner_X11_bad
theorem dX11_gleaner_0 : decode cX11_gleaner 0 = .ok (.aload_n 0, 1) := by decide +kernel
theorem dX11_gleaner_1 : decode cX11_gleaner 1 = .ok (.iload_n 1, 1) := by decide +kernel
theorem dX11_gleaner_2 : decode cX11_gleaner 2 = .ok (.invokevirtual 89, 3) := by decide +kernel
theorem dX11_gleaner_5 : decode cX11_gleaner 5 = .ok (.ifCond .ne 10, 3) := by decide +kernel
theorem dX11_gleaner_8 : decode cX11_gleaner 8 = .ok (.aload_n 0, 1) := by decide +kernel
theorem dX11_gleaner_9 : decode cX11_gleaner 9 = .ok (.bipush (-2), 2) := by decide +kernel
theorem dX11_gleaner_11 : decode cX11_gleaner 11 = .ok (.invokevirtual 73, 3) := by decide +kernel
theorem dX11_gleaner_14 : decode cX11_gleaner 14 = .ok (.ireturn, 1) := by decide +kernel
theorem dX11_layHand_0 : decode cX11_layHand 0 = .ok (.iconst 0, 1) := by decide +kernel
theorem dX11_layHand_1 : decode cX11_layHand 1 = .ok (.istore_n 1, 1) := by decide +kernel
theorem dX11_layHand_2 : decode cX11_layHand 2 = .ok (.iload_n 1, 1) := by decide +kernel
theorem dX11_layHand_3 : decode cX11_layHand 3 = .ok (.bipush 30, 2) := by decide +kernel
theorem dX11_layHand_5 : decode cX11_layHand 5 = .ok (.if_icmp .ge 21, 3) := by decide +kernel
theorem dX11_layHand_8 : decode cX11_layHand 8 = .ok (.aload_n 0, 1) := by decide +kernel
theorem dX11_layHand_9 : decode cX11_layHand 9 = .ok (.getfield 27, 3) := by decide +kernel
theorem dX11_layHand_12 : decode cX11_layHand 12 = .ok (.iload_n 1, 1) := by decide +kernel
theorem dX11_layHand_13 : decode cX11_layHand 13 = .ok (.aload_n 0, 1) := by decide +kernel
theorem dX11_layHand_14 : decode cX11_layHand 14 = .ok (.getfield 7, 3) := by decide +kernel
theorem dX11_layHand_17 : decode cX11_layHand 17 = .ok (.iload_n 1, 1) := by decide +kernel
theorem dX11_layHand_18 : decode cX11_layHand 18 = .ok (.iaload, 1) := by decide +kernel
theorem dX11_layHand_19 : decode cX11_layHand 19 = .ok (.iastore, 1) := by decide +kernel
theorem dX11_layHand_20 : decode cX11_layHand 20 = .ok (.iinc 1 1, 3) := by decide +kernel
theorem dX11_layHand_23 : decode cX11_layHand 23 = .ok (.goto (-21), 3) := by decide +kernel
theorem dX11_layHand_26 : decode cX11_layHand 26 = .ok (.return_, 1) := by decide +kernel
theorem dX11_goStep_0 : decode cX11_goStep 0 = .ok (.iconst 0, 1) := by decide +kernel
theorem dX11_goStep_1 : decode cX11_goStep 1 = .ok (.istore_n 1, 1) := by decide +kernel
theorem dX11_goStep_2 : decode cX11_goStep 2 = .ok (.iconst 0, 1) := by decide +kernel
theorem dX11_goStep_3 : decode cX11_goStep 3 = .ok (.istore_n 2, 1) := by decide +kernel
theorem dX11_goStep_4 : decode cX11_goStep 4 = .ok (.iload_n 2, 1) := by decide +kernel
theorem dX11_goStep_5 : decode cX11_goStep 5 = .ok (.aload_n 0, 1) := by decide +kernel
theorem dX11_goStep_6 : decode cX11_goStep 6 = .ok (.iconst 0, 1) := by decide +kernel
theorem dX11_goStep_7 : decode cX11_goStep 7 = .ok (.iaload, 1) := by decide +kernel
theorem dX11_goStep_8 : decode cX11_goStep 8 = .ok (.if_icmp .ge 144, 3) := by decide +kernel
theorem dX11_goStep_152 : decode cX11_goStep 152 = .ok (.aload_n 0, 1) := by decide +kernel
theorem dX11_goStep_153 : decode cX11_goStep 153 = .ok (.bipush 21, 2) := by decide +kernel
theorem dX11_goStep_155 : decode cX11_goStep 155 = .ok (.dup2, 1) := by decide +kernel
theorem dX11_goStep_156 : decode cX11_goStep 156 = .ok (.iaload, 1) := by decide +kernel
theorem dX11_goStep_157 : decode cX11_goStep 157 = .ok (.iconst 1, 1) := by decide +kernel
theorem dX11_goStep_158 : decode cX11_goStep 158 = .ok (.iadd, 1) := by decide +kernel
theorem dX11_goStep_159 : decode cX11_goStep 159 = .ok (.iastore, 1) := by decide +kernel
theorem dX11_goStep_160 : decode cX11_goStep 160 = .ok (.iload_n 1, 1) := by decide +kernel
theorem dX11_goStep_161 : decode cX11_goStep 161 = .ok (.ireturn, 1) := by decide +kernel
theorem dX11_goNight_0 : decode cX11_goNight 0 = .ok (.iconst 0, 1) := by decide +kernel
theorem dX11_goNight_1 : decode cX11_goNight 1 = .ok (.istore_n 1, 1) := by decide +kernel
theorem dX11_goNight_2 : decode cX11_goNight 2 = .ok (.iload_n 1, 1) := by decide +kernel
theorem dX11_goNight_3 : decode cX11_goNight 3 = .ok (.aload_n 0, 1) := by decide +kernel
theorem dX11_goNight_4 : decode cX11_goNight 4 = .ok (.iconst 1, 1) := by decide +kernel
theorem dX11_goNight_5 : decode cX11_goNight 5 = .ok (.iaload, 1) := by decide +kernel
theorem dX11_goNight_6 : decode cX11_goNight 6 = .ok (.if_icmp .ge 24, 3) := by decide +kernel
theorem dX11_goNight_30 : decode cX11_goNight 30 = .ok (.iconst 0, 1) := by decide +kernel
theorem dX11_goNight_31 : decode cX11_goNight 31 = .ok (.istore_n 1, 1) := by decide +kernel
theorem dX11_goNight_32 : decode cX11_goNight 32 = .ok (.iload_n 1, 1) := by decide +kernel
theorem dX11_goNight_33 : decode cX11_goNight 33 = .ok (.aload_n 0, 1) := by decide +kernel
theorem dX11_goNight_34 : decode cX11_goNight 34 = .ok (.iconst 0, 1) := by decide +kernel
theorem dX11_goNight_35 : decode cX11_goNight 35 = .ok (.iaload, 1) := by decide +kernel
theorem dX11_goNight_36 : decode cX11_goNight 36 = .ok (.if_icmp .ge 35, 3) := by decide +kernel
theorem dX11_goNight_71 : decode cX11_goNight 71 = .ok (.aload_n 0, 1) := by decide +kernel
theorem dX11_goNight_72 : decode cX11_goNight 72 = .ok (.bipush 23, 2) := by decide +kernel
theorem dX11_goNight_74 : decode cX11_goNight 74 = .ok (.dup2, 1) := by decide +kernel
theorem dX11_goNight_75 : decode cX11_goNight 75 = .ok (.iaload, 1) := by decide +kernel
theorem dX11_goNight_76 : decode cX11_goNight 76 = .ok (.aload_n 0, 1) := by decide +kernel
theorem dX11_goNight_77 : decode cX11_goNight 77 = .ok (.bipush 23, 2) := by decide +kernel
theorem dX11_goNight_79 : decode cX11_goNight 79 = .ok (.iaload, 1) := by decide +kernel
theorem dX11_goNight_80 : decode cX11_goNight 80 = .ok (.sipush 999, 3) := by decide +kernel
theorem dX11_goNight_83 : decode cX11_goNight 83 = .ok (.if_icmp .ge 7, 3) := by decide +kernel
theorem dX11_goNight_86 : decode cX11_goNight 86 = .ok (.iconst 1, 1) := by decide +kernel
theorem dX11_goNight_87 : decode cX11_goNight 87 = .ok (.goto 4, 3) := by decide +kernel
theorem dX11_goNight_90 : decode cX11_goNight 90 = .ok (.iconst 0, 1) := by decide +kernel
theorem dX11_goNight_91 : decode cX11_goNight 91 = .ok (.iadd, 1) := by decide +kernel
theorem dX11_goNight_92 : decode cX11_goNight 92 = .ok (.iastore, 1) := by decide +kernel
theorem dX11_goNight_93 : decode cX11_goNight 93 = .ok (.aload_n 0, 1) := by decide +kernel
theorem dX11_goNight_94 : decode cX11_goNight 94 = .ok (.bipush 21, 2) := by decide +kernel
theorem dX11_goNight_96 : decode cX11_goNight 96 = .ok (.iconst 0, 1) := by decide +kernel
theorem dX11_goNight_97 : decode cX11_goNight 97 = .ok (.iastore, 1) := by decide +kernel
theorem dX11_goNight_98 : decode cX11_goNight 98 = .ok (.return_, 1) := by decide +kernel
theorem dX11_keep_0 : decode cX11_keep 0 = .ok (.aload_n 0, 1) := by decide +kernel
theorem dX11_keep_1 : decode cX11_keep 1 = .ok (.getfield 7, 3) := by decide +kernel
theorem dX11_keep_4 : decode cX11_keep 4 = .ok (.iconst 4, 1) := by decide +kernel
theorem dX11_keep_5 : decode cX11_keep 5 = .ok (.iaload, 1) := by decide +kernel
theorem dX11_keep_6 : decode cX11_keep 6 = .ok (.bipush 8, 2) := by decide +kernel
theorem dX11_keep_8 : decode cX11_keep 8 = .ok (.if_icmp .ne 44, 3) := by decide +kernel
theorem dX11_keep_52 : decode cX11_keep 52 = .ok (.iconst 0, 1) := by decide +kernel
theorem dX11_keep_53 : decode cX11_keep 53 = .ok (.istore_n 1, 1) := by decide +kernel
theorem dX11_keep_54 : decode cX11_keep 54 = .ok (.iload_n 1, 1) := by decide +kernel
theorem dX11_keep_55 : decode cX11_keep 55 = .ok (.bipush 19, 2) := by decide +kernel
theorem dX11_keep_57 : decode cX11_keep 57 = .ok (.if_icmp .ge 36, 3) := by decide +kernel
theorem dX11_keep_60 : decode cX11_keep 60 = .ok (.aload_n 0, 1) := by decide +kernel
theorem dX11_keep_61 : decode cX11_keep 61 = .ok (.getfield 7, 3) := by decide +kernel
theorem dX11_keep_64 : decode cX11_keep 64 = .ok (.bipush 76, 2) := by decide +kernel
theorem dX11_keep_66 : decode cX11_keep 66 = .ok (.bipush 19, 2) := by decide +kernel
theorem dX11_keep_68 : decode cX11_keep 68 = .ok (.aload_n 0, 1) := by decide +kernel
theorem dX11_keep_69 : decode cX11_keep 69 = .ok (.getfield 7, 3) := by decide +kernel
theorem dX11_keep_72 : decode cX11_keep 72 = .ok (.iconst 4, 1) := by decide +kernel
theorem dX11_keep_73 : decode cX11_keep 73 = .ok (.iaload, 1) := by decide +kernel
theorem dX11_keep_74 : decode cX11_keep 74 = .ok (.imul, 1) := by decide +kernel
theorem dX11_keep_75 : decode cX11_keep 75 = .ok (.iadd, 1) := by decide +kernel
theorem dX11_keep_76 : decode cX11_keep 76 = .ok (.iload_n 1, 1) := by decide +kernel
theorem dX11_keep_77 : decode cX11_keep 77 = .ok (.iadd, 1) := by decide +kernel
theorem dX11_keep_78 : decode cX11_keep 78 = .ok (.aload_n 0, 1) := by decide +kernel
theorem dX11_keep_79 : decode cX11_keep 79 = .ok (.getfield 7, 3) := by decide +kernel
theorem dX11_keep_82 : decode cX11_keep 82 = .ok (.iconst 5, 1) := by decide +kernel
theorem dX11_keep_83 : decode cX11_keep 83 = .ok (.iload_n 1, 1) := by decide +kernel
theorem dX11_keep_84 : decode cX11_keep 84 = .ok (.iadd, 1) := by decide +kernel
theorem dX11_keep_85 : decode cX11_keep 85 = .ok (.iaload, 1) := by decide +kernel
theorem dX11_keep_86 : decode cX11_keep 86 = .ok (.iastore, 1) := by decide +kernel
theorem dX11_keep_87 : decode cX11_keep 87 = .ok (.iinc 1 1, 3) := by decide +kernel
theorem dX11_keep_90 : decode cX11_keep 90 = .ok (.goto (-36), 3) := by decide +kernel
theorem dX11_keep_93 : decode cX11_keep 93 = .ok (.aload_n 0, 1) := by decide +kernel
theorem dX11_keep_94 : decode cX11_keep 94 = .ok (.getfield 7, 3) := by decide +kernel
theorem dX11_keep_97 : decode cX11_keep 97 = .ok (.iconst 4, 1) := by decide +kernel
theorem dX11_keep_98 : decode cX11_keep 98 = .ok (.dup2, 1) := by decide +kernel
theorem dX11_keep_99 : decode cX11_keep 99 = .ok (.iaload, 1) := by decide +kernel
theorem dX11_keep_100 : decode cX11_keep 100 = .ok (.iconst 1, 1) := by decide +kernel
theorem dX11_keep_101 : decode cX11_keep 101 = .ok (.iadd, 1) := by decide +kernel
theorem dX11_keep_102 : decode cX11_keep 102 = .ok (.iastore, 1) := by decide +kernel
theorem dX11_keep_103 : decode cX11_keep 103 = .ok (.return_, 1) := by decide +kernel
set_option maxRecDepth 20000 in
theorem ggX11_glean_X11_in : GoodIn wsX11_glean wsX11_in := goodIn_r _ [6] (by decide +kernel) (by decide +kernel)
set_option maxRecDepth 20000 in
theorem gX11_glean_X11_in : GoodIn wsX11_glean (va_wsS RX11 56 yX11_in wsX11_in) := goodIn_app (goodIn_of _ (by decide +kernel)) ggX11_glean_X11_in
set_option maxRecDepth 20000 in
theorem ggX11_glean_X11_bad : GoodIn wsX11_glean wsX11_bad := goodIn_r _ [10, 11, 38, 39, 40, 41, 42, 43, 44, 45, 46, 47, 48, 49, 50, 51, 52, 53, 54, 55] (by decide +kernel) (by decide +kernel)
set_option maxRecDepth 20000 in
theorem gX11_glean_X11_bad : GoodIn wsX11_glean (wsV RX11 73 RX11 yX11_bad wsX11_bad) := goodIn_app (goodIn_of _ (by decide +kernel)) ggX11_glean_X11_bad
set_option maxRecDepth 20000 in
theorem ggX11_glean_X11_no : GoodIn wsX11_glean wsX11_no := goodIn_r _ [15, 11, 38, 39, 40, 41, 42, 43, 44, 45, 46, 47, 48, 49, 50, 51, 52, 53, 54, 55] (by decide +kernel) (by decide +kernel)
set_option maxRecDepth 20000 in
theorem gX11_glean_X11_no : GoodIn wsX11_glean (wsV RX11 119 RX11 yX11_no wsX11_no) := goodIn_app (goodIn_of _ (by decide +kernel)) ggX11_glean_X11_no
set_option maxRecDepth 20000 in
theorem ggX11_glean_X11_keep : GoodIn wsX11_glean wsX11_keep := goodIn_r _ [19, 2, 38, 39, 40, 41, 42, 43, 44, 45, 46, 47, 48, 49, 50, 51, 52, 53, 54, 55] (by decide +kernel) (by decide +kernel)
set_option maxRecDepth 20000 in
theorem gX11_glean_X11_keep : GoodIn wsX11_glean (wsV RX11 122 RX11 yX11_keep wsX11_keep) := goodIn_app (goodIn_of _ (by decide +kernel)) ggX11_glean_X11_keep
set_option maxRecDepth 20000 in
theorem ggX11_glean_X11_goStep : GoodIn wsX11_glean wsX11_goStep := goodIn_r _ [22, 23, 24, 5, 25, 26, 27, 28, 29, 30, 31, 32, 33, 34, 35, 36, 37] (by decide +kernel) (by decide +kernel)
set_option maxRecDepth 20000 in
theorem gX11_glean_X11_goStep : GoodIn wsX11_glean (va_wsS RX11 125 yX11_goStep wsX11_goStep) := goodIn_app (goodIn_of _ (by decide +kernel)) ggX11_glean_X11_goStep
theorem dX11_glean_0 : decode cX11_glean 0 = .ok (.iload_n 1, 1) := by decide +kernel
theorem dX11_glean_1 : decode cX11_glean 1 = .ok (.i2l, 1) := by decide +kernel
theorem dX11_glean_2 : decode cX11_glean 2 = .ok (.lconst 1, 1) := by decide +kernel
theorem dX11_glean_3 : decode cX11_glean 3 = .ok (.ldc2_w 117, 3) := by decide +kernel
theorem dX11_glean_6 : decode cX11_glean 6 = .ok (.invokestatic 56, 3) := by decide +kernel
theorem dX11_glean_9 : decode cX11_glean 9 = .ok (.ifCond .ne 10, 3) := by decide +kernel
theorem dX11_glean_12 : decode cX11_glean 12 = .ok (.aload_n 0, 1) := by decide +kernel
theorem dX11_glean_13 : decode cX11_glean 13 = .ok (.bipush (-2), 2) := by decide +kernel
theorem dX11_glean_15 : decode cX11_glean 15 = .ok (.invokevirtual 73, 3) := by decide +kernel
theorem dX11_glean_18 : decode cX11_glean 18 = .ok (.ireturn, 1) := by decide +kernel
theorem dX11_glean_19 : decode cX11_glean 19 = .ok (.aload_n 0, 1) := by decide +kernel
theorem dX11_glean_20 : decode cX11_glean 20 = .ok (.getfield 7, 3) := by decide +kernel
theorem dX11_glean_23 : decode cX11_glean 23 = .ok (.bipush 21, 2) := by decide +kernel
theorem dX11_glean_25 : decode cX11_glean 25 = .ok (.iaload, 1) := by decide +kernel
theorem dX11_glean_26 : decode cX11_glean 26 = .ok (.iload_n 1, 1) := by decide +kernel
theorem dX11_glean_27 : decode cX11_glean 27 = .ok (.iadd, 1) := by decide +kernel
theorem dX11_glean_28 : decode cX11_glean 28 = .ok (.bipush 12, 2) := by decide +kernel
theorem dX11_glean_30 : decode cX11_glean 30 = .ok (.if_icmp .le 8, 3) := by decide +kernel
theorem dX11_glean_33 : decode cX11_glean 33 = .ok (.aload_n 0, 1) := by decide +kernel
theorem dX11_glean_34 : decode cX11_glean 34 = .ok (.invokevirtual 119, 3) := by decide +kernel
theorem dX11_glean_37 : decode cX11_glean 37 = .ok (.ireturn, 1) := by decide +kernel
theorem dX11_glean_38 : decode cX11_glean 38 = .ok (.iconst 0, 1) := by decide +kernel
theorem dX11_glean_39 : decode cX11_glean 39 = .ok (.istore_n 2, 1) := by decide +kernel
theorem dX11_glean_40 : decode cX11_glean 40 = .ok (.aload_n 0, 1) := by decide +kernel
theorem dX11_glean_41 : decode cX11_glean 41 = .ok (.invokevirtual 122, 3) := by decide +kernel
theorem dX11_glean_44 : decode cX11_glean 44 = .ok (.iconst 0, 1) := by decide +kernel
theorem dX11_glean_45 : decode cX11_glean 45 = .ok (.istore_n 3, 1) := by decide +kernel
theorem dX11_glean_46 : decode cX11_glean 46 = .ok (.iload_n 3, 1) := by decide +kernel
theorem dX11_glean_47 : decode cX11_glean 47 = .ok (.iload_n 1, 1) := by decide +kernel
theorem dX11_glean_48 : decode cX11_glean 48 = .ok (.if_icmp .ge 19, 3) := by decide +kernel
theorem dX11_glean_51 : decode cX11_glean 51 = .ok (.iload_n 2, 1) := by decide +kernel
theorem dX11_glean_52 : decode cX11_glean 52 = .ok (.aload_n 0, 1) := by decide +kernel
theorem dX11_glean_53 : decode cX11_glean 53 = .ok (.getfield 7, 3) := by decide +kernel
theorem dX11_glean_56 : decode cX11_glean 56 = .ok (.invokestatic 125, 3) := by decide +kernel
theorem dX11_glean_59 : decode cX11_glean 59 = .ok (.iadd, 1) := by decide +kernel
theorem dX11_glean_60 : decode cX11_glean 60 = .ok (.istore_n 2, 1) := by decide +kernel
theorem dX11_glean_61 : decode cX11_glean 61 = .ok (.iinc 3 1, 3) := by decide +kernel
theorem dX11_glean_64 : decode cX11_glean 64 = .ok (.goto (-18), 3) := by decide +kernel
theorem dX11_glean_67 : decode cX11_glean 67 = .ok (.iload_n 2, 1) := by decide +kernel
theorem dX11_glean_68 : decode cX11_glean 68 = .ok (.ireturn, 1) := by decide +kernel
set_option maxRecDepth 20000 in
theorem ggX11_night_X11_keep : GoodIn wsX11_night wsX11_keep := goodIn_r _ [6, 1, 13, 14, 15, 16, 17, 18, 19, 20, 21, 22, 23, 24, 25, 26, 27, 28, 29, 30] (by decide +kernel) (by decide +kernel)
set_option maxRecDepth 20000 in
theorem gX11_night_X11_keep : GoodIn wsX11_night (wsV RX11 122 RX11 yX11_keep wsX11_keep) := goodIn_app (goodIn_of _ (by decide +kernel)) ggX11_night_X11_keep
set_option maxRecDepth 20000 in
theorem ggX11_night_X11_goNight : GoodIn wsX11_night wsX11_goNight := goodIn_r _ [9, 10, 11, 5, 12] (by decide +kernel) (by decide +kernel)
set_option maxRecDepth 20000 in
theorem gX11_night_X11_goNight : GoodIn wsX11_night (va_wsS RX11 129 yX11_goNight wsX11_goNight) := goodIn_app (goodIn_of _ (by decide +kernel)) ggX11_night_X11_goNight
theorem dX11_night_0 : decode cX11_night 0 = .ok (.aload_n 0, 1) := by decide +kernel
theorem dX11_night_1 : decode cX11_night 1 = .ok (.invokevirtual 122, 3) := by decide +kernel
theorem dX11_night_4 : decode cX11_night 4 = .ok (.aload_n 0, 1) := by decide +kernel
theorem dX11_night_5 : decode cX11_night 5 = .ok (.getfield 7, 3) := by decide +kernel
theorem dX11_night_8 : decode cX11_night 8 = .ok (.invokestatic 129, 3) := by decide +kernel
theorem dX11_night_11 : decode cX11_night 11 = .ok (.aload_n 0, 1) := by decide +kernel
theorem dX11_night_12 : decode cX11_night 12 = .ok (.getfield 7, 3) := by decide +kernel
theorem dX11_night_15 : decode cX11_night 15 = .ok (.bipush 23, 2) := by decide +kernel
theorem dX11_night_17 : decode cX11_night 17 = .ok (.iaload, 1) := by decide +kernel
theorem dX11_night_18 : decode cX11_night 18 = .ok (.ireturn, 1) := by decide +kernel
set_option maxRecDepth 20000 in
theorem ggX11_goes_X11_isGleaner : GoodIn wsX11_goes wsX11_isGleaner := goodIn_r _ [6, 7, 8, 9, 5, 10, 1, 11, 12, 13, 31, 32, 33, 34, 35, 36, 37, 38, 39, 40, 41, 42, 43, 44, 45, 46, 47, 48] (by decide +kernel) (by decide +kernel)
set_option maxRecDepth 20000 in
theorem gX11_goes_X11_isGleaner : GoodIn wsX11_goes (wsV RX11 133 RX11 yX11_isGleaner wsX11_isGleaner) := goodIn_app (goodIn_of _ (by decide +kernel)) ggX11_goes_X11_isGleaner
set_option maxRecDepth 20000 in
theorem ggX11_goes_X11_bad : GoodIn wsX11_goes wsX11_bad := goodIn_r _ [25, 26, 31, 32, 33, 34, 35, 36, 37, 38, 39, 40, 41, 42, 43, 44, 45, 46, 47, 48] (by decide +kernel) (by decide +kernel)
set_option maxRecDepth 20000 in
theorem gX11_goes_X11_bad : GoodIn wsX11_goes (wsV RX11 73 RX11 yX11_bad wsX11_bad) := goodIn_app (goodIn_of _ (by decide +kernel)) ggX11_goes_X11_bad
theorem dX11_goes_0 : decode cX11_goes 0 = .ok (.aload_n 0, 1) := by decide +kernel
theorem dX11_goes_1 : decode cX11_goes 1 = .ok (.iload_n 1, 1) := by decide +kernel
theorem dX11_goes_2 : decode cX11_goes 2 = .ok (.invokevirtual 133, 3) := by decide +kernel
theorem dX11_goes_5 : decode cX11_goes 5 = .ok (.ifCond .eq 11, 3) := by decide +kernel
theorem dX11_goes_16 : decode cX11_goes 16 = .ok (.aload_n 0, 1) := by decide +kernel
theorem dX11_goes_17 : decode cX11_goes 17 = .ok (.bipush (-2), 2) := by decide +kernel
theorem dX11_goes_19 : decode cX11_goes 19 = .ok (.invokevirtual 73, 3) := by decide +kernel
theorem dX11_goes_22 : decode cX11_goes 22 = .ok (.ireturn, 1) := by decide +kernel
set_option maxRecDepth 20000 in
theorem ggX11_cloud_X11_isCloud : GoodIn wsX11_cloud wsX11_isCloud := goodIn_r _ [5, 6, 7, 8, 4, 9] (by decide +kernel) (by decide +kernel)
set_option maxRecDepth 20000 in
theorem gX11_cloud_X11_isCloud : GoodIn wsX11_cloud (va_wsS RX11 69 yX11_isCloud wsX11_isCloud) := goodIn_app (goodIn_of _ (by decide +kernel)) ggX11_cloud_X11_isCloud
set_option maxRecDepth 20000 in
theorem ggX11_cloud_X11_bad : GoodIn wsX11_cloud wsX11_bad := goodIn_r _ [13, 14, 19, 20, 21, 22, 23, 24, 25, 26, 27, 28, 29, 30, 31, 32, 33, 34, 35, 36] (by decide +kernel) (by decide +kernel)
set_option maxRecDepth 20000 in
theorem gX11_cloud_X11_bad : GoodIn wsX11_cloud (wsV RX11 73 RX11 yX11_bad wsX11_bad) := goodIn_app (goodIn_of _ (by decide +kernel)) ggX11_cloud_X11_bad
set_option maxRecDepth 20000 in
theorem ggX11_cloud_X11_keep : GoodIn wsX11_cloud wsX11_keep := goodIn_r _ [18, 1, 19, 20, 21, 22, 23, 24, 25, 26, 27, 28, 29, 30, 31, 32, 33, 34, 35, 36] (by decide +kernel) (by decide +kernel)
set_option maxRecDepth 20000 in
theorem gX11_cloud_X11_keep : GoodIn wsX11_cloud (wsV RX11 122 RX11 yX11_keep wsX11_keep) := goodIn_app (goodIn_of _ (by decide +kernel)) ggX11_cloud_X11_keep
theorem dX11_cloud_0 : decode cX11_cloud 0 = .ok (.iload_n 1, 1) := by decide +kernel
theorem dX11_cloud_1 : decode cX11_cloud 1 = .ok (.invokestatic 69, 3) := by decide +kernel
theorem dX11_cloud_4 : decode cX11_cloud 4 = .ok (.ifCond .ne 10, 3) := by decide +kernel
theorem dX11_cloud_7 : decode cX11_cloud 7 = .ok (.aload_n 0, 1) := by decide +kernel
theorem dX11_cloud_8 : decode cX11_cloud 8 = .ok (.bipush (-2), 2) := by decide +kernel
theorem dX11_cloud_10 : decode cX11_cloud 10 = .ok (.invokevirtual 73, 3) := by decide +kernel
theorem dX11_cloud_13 : decode cX11_cloud 13 = .ok (.ireturn, 1) := by decide +kernel
theorem dX11_cloud_14 : decode cX11_cloud 14 = .ok (.aload_n 0, 1) := by decide +kernel
theorem dX11_cloud_15 : decode cX11_cloud 15 = .ok (.getfield 7, 3) := by decide +kernel
theorem dX11_cloud_18 : decode cX11_cloud 18 = .ok (.bipush 22, 2) := by decide +kernel
theorem dX11_cloud_20 : decode cX11_cloud 20 = .ok (.iaload, 1) := by decide +kernel
theorem dX11_cloud_21 : decode cX11_cloud 21 = .ok (.istore_n 2, 1) := by decide +kernel
theorem dX11_cloud_22 : decode cX11_cloud 22 = .ok (.aload_n 0, 1) := by decide +kernel
theorem dX11_cloud_23 : decode cX11_cloud 23 = .ok (.invokevirtual 122, 3) := by decide +kernel
theorem dX11_cloud_26 : decode cX11_cloud 26 = .ok (.aload_n 0, 1) := by decide +kernel
theorem dX11_cloud_27 : decode cX11_cloud 27 = .ok (.getfield 7, 3) := by decide +kernel
theorem dX11_cloud_30 : decode cX11_cloud 30 = .ok (.bipush 22, 2) := by decide +kernel
theorem dX11_cloud_32 : decode cX11_cloud 32 = .ok (.iload_n 1, 1) := by decide +kernel
theorem dX11_cloud_33 : decode cX11_cloud 33 = .ok (.iastore, 1) := by decide +kernel
theorem dX11_cloud_34 : decode cX11_cloud 34 = .ok (.iload_n 2, 1) := by decide +kernel
theorem dX11_cloud_35 : decode cX11_cloud 35 = .ok (.ireturn, 1) := by decide +kernel
set_option maxRecDepth 20000 in
theorem ggX11_undo_X11_no : GoodIn wsX11_undo wsX11_no := goodIn_r _ [6, 7, 8, 9, 10, 11, 12, 13, 14, 15, 16, 17, 18, 19, 20, 21, 22, 23, 24, 25] (by decide +kernel) (by decide +kernel)
set_option maxRecDepth 20000 in
theorem gX11_undo_X11_no : GoodIn wsX11_undo (wsV RX11 119 RX11 yX11_no wsX11_no) := goodIn_app (goodIn_of _ (by decide +kernel)) ggX11_undo_X11_no
theorem dX11_undo_0 : decode cX11_undo 0 = .ok (.aload_n 0, 1) := by decide +kernel
theorem dX11_undo_1 : decode cX11_undo 1 = .ok (.getfield 7, 3) := by decide +kernel
theorem dX11_undo_4 : decode cX11_undo 4 = .ok (.iconst 4, 1) := by decide +kernel
theorem dX11_undo_5 : decode cX11_undo 5 = .ok (.iaload, 1) := by decide +kernel
theorem dX11_undo_6 : decode cX11_undo 6 = .ok (.ifCond .ne 8, 3) := by decide +kernel
theorem dX11_undo_9 : decode cX11_undo 9 = .ok (.aload_n 0, 1) := by decide +kernel
theorem dX11_undo_10 : decode cX11_undo 10 = .ok (.invokevirtual 119, 3) := by decide +kernel
theorem dX11_undo_13 : decode cX11_undo 13 = .ok (.ireturn, 1) := by decide +kernel
set_option maxRecDepth 20000 in
theorem ggX11_of_X11_isField : GoodIn wsX11_of wsX11_isField := goodIn_r _ [7, 8, 9, 10, 6, 11, 2, 12, 13, 14, 28, 29, 30, 31, 32, 33, 34, 35, 36, 37, 38, 39, 40, 41, 42, 43, 44, 45] (by decide +kernel) (by decide +kernel)
set_option maxRecDepth 20000 in
theorem gX11_of_X11_isField : GoodIn wsX11_of (wsV RX11 89 RX11 yX11_isField wsX11_isField) := goodIn_app (goodIn_of _ (by decide +kernel)) ggX11_of_X11_isField
set_option maxRecDepth 20000 in
theorem ggX11_of_X11_bad : GoodIn wsX11_of wsX11_bad := goodIn_r _ [18, 19, 28, 29, 30, 31, 32, 33, 34, 35, 36, 37, 38, 39, 40, 41, 42, 43, 44, 45] (by decide +kernel) (by decide +kernel)
set_option maxRecDepth 20000 in
theorem gX11_of_X11_bad : GoodIn wsX11_of (wsV RX11 73 RX11 yX11_bad wsX11_bad) := goodIn_app (goodIn_of _ (by decide +kernel)) ggX11_of_X11_bad
theorem dX11_of_0 : decode cX11_of 0 = .ok (.aload_n 0, 1) := by decide +kernel
theorem dX11_of_1 : decode cX11_of 1 = .ok (.iload_n 1, 1) := by decide +kernel
theorem dX11_of_2 : decode cX11_of 2 = .ok (.invokevirtual 89, 3) := by decide +kernel
theorem dX11_of_5 : decode cX11_of 5 = .ok (.ifCond .eq 15, 3) := by decide +kernel
theorem dX11_of_20 : decode cX11_of 20 = .ok (.aload_n 0, 1) := by decide +kernel
theorem dX11_of_21 : decode cX11_of 21 = .ok (.bipush (-2), 2) := by decide +kernel
theorem dX11_of_23 : decode cX11_of 23 = .ok (.invokevirtual 73, 3) := by decide +kernel
theorem dX11_of_26 : decode cX11_of 26 = .ok (.ireturn, 1) := by decide +kernel
set_option maxRecDepth 20000 in
theorem ggX11_about_X11_isGleaner : GoodIn wsX11_about wsX11_isGleaner := goodIn_r _ [7, 8, 9, 10, 6, 11, 2, 12, 13, 14, 38, 39, 40, 41, 42, 43, 44, 45, 46, 47, 48, 49, 50, 51, 52, 53, 54, 55] (by decide +kernel) (by decide +kernel)
set_option maxRecDepth 20000 in
theorem gX11_about_X11_isGleaner : GoodIn wsX11_about (wsV RX11 133 RX11 yX11_isGleaner wsX11_isGleaner) := goodIn_app (goodIn_of _ (by decide +kernel)) ggX11_about_X11_isGleaner
set_option maxRecDepth 20000 in
theorem ggX11_about_X11_bad : GoodIn wsX11_about wsX11_bad := goodIn_r _ [18, 19, 38, 39, 40, 41, 42, 43, 44, 45, 46, 47, 48, 49, 50, 51, 52, 53, 54, 55] (by decide +kernel) (by decide +kernel)
set_option maxRecDepth 20000 in
theorem gX11_about_X11_bad : GoodIn wsX11_about (wsV RX11 73 RX11 yX11_bad wsX11_bad) := goodIn_app (goodIn_of _ (by decide +kernel)) ggX11_about_X11_bad
theorem dX11_about_0 : decode cX11_about 0 = .ok (.aload_n 0, 1) := by decide +kernel
theorem dX11_about_1 : decode cX11_about 1 = .ok (.iload_n 1, 1) := by decide +kernel
theorem dX11_about_2 : decode cX11_about 2 = .ok (.invokevirtual 133, 3) := by decide +kernel
theorem dX11_about_5 : decode cX11_about 5 = .ok (.ifCond .eq 15, 3) := by decide +kernel
theorem dX11_about_20 : decode cX11_about 20 = .ok (.aload_n 0, 1) := by decide +kernel
theorem dX11_about_21 : decode cX11_about 21 = .ok (.bipush (-2), 2) := by decide +kernel
theorem dX11_about_23 : decode cX11_about 23 = .ok (.invokevirtual 73, 3) := by decide +kernel
theorem dX11_about_26 : decode cX11_about 26 = .ok (.ireturn, 1) := by decide +kernel
set_option maxRecDepth 20000 in
theorem ggX11_seen_X11_isField : GoodIn wsX11_seen wsX11_isField := goodIn_r _ [6, 7, 8, 9, 5, 10, 1, 11, 12, 13, 35, 36, 37, 38, 39, 40, 41, 42, 43, 44, 45, 46, 47, 48, 49, 50, 51, 52] (by decide +kernel) (by decide +kernel)
set_option maxRecDepth 20000 in
theorem gX11_seen_X11_isField : GoodIn wsX11_seen (wsV RX11 89 RX11 yX11_isField wsX11_isField) := goodIn_app (goodIn_of _ (by decide +kernel)) ggX11_seen_X11_isField
set_option maxRecDepth 20000 in
theorem ggX11_seen_X11_bad : GoodIn wsX11_seen wsX11_bad := goodIn_r _ [33, 34, 35, 36, 37, 38, 39, 40, 41, 42, 43, 44, 45, 46, 47, 48, 49, 50, 51, 52] (by decide +kernel) (by decide +kernel)
set_option maxRecDepth 20000 in
theorem gX11_seen_X11_bad : GoodIn wsX11_seen (wsV RX11 73 RX11 yX11_bad wsX11_bad) := goodIn_app (goodIn_of _ (by decide +kernel)) ggX11_seen_X11_bad
theorem dX11_seen_0 : decode cX11_seen 0 = .ok (.aload_n 0, 1) := by decide +kernel
theorem dX11_seen_1 : decode cX11_seen 1 = .ok (.iload_n 1, 1) := by decide +kernel
theorem dX11_seen_2 : decode cX11_seen 2 = .ok (.invokevirtual 89, 3) := by decide +kernel
theorem dX11_seen_5 : decode cX11_seen 5 = .ok (.ifCond .eq 22, 3) := by decide +kernel
theorem dX11_seen_27 : decode cX11_seen 27 = .ok (.aload_n 0, 1) := by decide +kernel
theorem dX11_seen_28 : decode cX11_seen 28 = .ok (.bipush (-2), 2) := by decide +kernel
theorem dX11_seen_30 : decode cX11_seen 30 = .ok (.invokevirtual 73, 3) := by decide +kernel
theorem dX11_seen_33 : decode cX11_seen 33 = .ok (.ireturn, 1) := by decide +kernel
set_option maxRecDepth 20000 in
theorem ggX11_then_X11_isGleaner : GoodIn wsX11_then wsX11_isGleaner := goodIn_r _ [7, 8, 9, 10, 6, 11, 12, 13, 14, 15, 43, 44, 45, 46, 47, 48, 49, 50, 51, 52, 53, 54, 55, 56, 57, 58, 59, 60] (by decide +kernel) (by decide +kernel)
set_option maxRecDepth 20000 in
theorem gX11_then_X11_isGleaner : GoodIn wsX11_then (wsV RX11 133 RX11 yX11_isGleaner wsX11_isGleaner) := goodIn_app (goodIn_of _ (by decide +kernel)) ggX11_then_X11_isGleaner
set_option maxRecDepth 20000 in
theorem ggX11_then_X11_bad : GoodIn wsX11_then wsX11_bad := goodIn_r _ [19, 20, 43, 44, 45, 46, 47, 48, 49, 50, 51, 52, 53, 54, 55, 56, 57, 58, 59, 60] (by decide +kernel) (by decide +kernel)
set_option maxRecDepth 20000 in
theorem gX11_then_X11_bad : GoodIn wsX11_then (wsV RX11 73 RX11 yX11_bad wsX11_bad) := goodIn_app (goodIn_of _ (by decide +kernel)) ggX11_then_X11_bad
theorem dX11_then_0 : decode cX11_then 0 = .ok (.aload_n 0, 1) := by decide +kernel
theorem dX11_then_1 : decode cX11_then 1 = .ok (.iload_n 1, 1) := by decide +kernel
theorem dX11_then_2 : decode cX11_then 2 = .ok (.invokevirtual 133, 3) := by decide +kernel
theorem dX11_then_5 : decode cX11_then 5 = .ok (.ifCond .eq 15, 3) := by decide +kernel
theorem dX11_then_20 : decode cX11_then 20 = .ok (.aload_n 0, 1) := by decide +kernel
theorem dX11_then_21 : decode cX11_then 21 = .ok (.bipush (-2), 2) := by decide +kernel
theorem dX11_then_23 : decode cX11_then 23 = .ok (.invokevirtual 73, 3) := by decide +kernel
theorem dX11_then_26 : decode cX11_then 26 = .ok (.ireturn, 1) := by decide +kernel
set_option maxRecDepth 20000 in
theorem ggX11_round_X11_isGleaner : GoodIn wsX11_round wsX11_isGleaner := goodIn_r _ [8, 9, 10, 11, 7, 12, 13, 14, 15, 16, 54, 55, 56, 57, 58, 59, 60, 61, 62, 63, 64, 65, 66, 67, 68, 69, 70, 71] (by decide +kernel) (by decide +kernel)
set_option maxRecDepth 20000 in
theorem gX11_round_X11_isGleaner : GoodIn wsX11_round (wsV RX11 133 RX11 yX11_isGleaner wsX11_isGleaner) := goodIn_app (goodIn_of _ (by decide +kernel)) ggX11_round_X11_isGleaner
set_option maxRecDepth 20000 in
theorem ggX11_round_X11_bad : GoodIn wsX11_round wsX11_bad := goodIn_r _ [20, 21, 54, 55, 56, 57, 58, 59, 60, 61, 62, 63, 64, 65, 66, 67, 68, 69, 70, 71] (by decide +kernel) (by decide +kernel)
set_option maxRecDepth 20000 in
theorem gX11_round_X11_bad : GoodIn wsX11_round (wsV RX11 73 RX11 yX11_bad wsX11_bad) := goodIn_app (goodIn_of _ (by decide +kernel)) ggX11_round_X11_bad
theorem dX11_round_0 : decode cX11_round 0 = .ok (.aload_n 0, 1) := by decide +kernel
theorem dX11_round_1 : decode cX11_round 1 = .ok (.iload_n 1, 1) := by decide +kernel
theorem dX11_round_2 : decode cX11_round 2 = .ok (.invokevirtual 133, 3) := by decide +kernel
theorem dX11_round_5 : decode cX11_round 5 = .ok (.ifCond .eq 20, 3) := by decide +kernel
theorem dX11_round_25 : decode cX11_round 25 = .ok (.aload_n 0, 1) := by decide +kernel
theorem dX11_round_26 : decode cX11_round 26 = .ok (.bipush (-10), 2) := by decide +kernel
theorem dX11_round_28 : decode cX11_round 28 = .ok (.invokevirtual 73, 3) := by decide +kernel
theorem dX11_round_31 : decode cX11_round 31 = .ok (.ireturn, 1) := by decide +kernel
set_option maxRecDepth 20000 in
theorem ggX11_places_X11_in : GoodIn wsX11_places wsX11_in := goodIn_r _ [7] (by decide +kernel) (by decide +kernel)
set_option maxRecDepth 20000 in
theorem gX11_places_X11_in : GoodIn wsX11_places (va_wsS RX11 56 yX11_in wsX11_in) := goodIn_app (goodIn_of _ (by decide +kernel)) ggX11_places_X11_in
set_option maxRecDepth 20000 in
theorem ggX11_places_X11_manyGleaners : GoodIn wsX11_places wsX11_manyGleaners := goodIn_r _ [11, 12, 49, 50, 51, 52, 53, 54, 55, 56, 57, 58, 59, 60, 61, 62, 63, 64, 65, 66] (by decide +kernel) (by decide +kernel)
set_option maxRecDepth 20000 in
theorem gX11_places_X11_manyGleaners : GoodIn wsX11_places (wsV RX11 60 RX11 yX11_manyGleaners wsX11_manyGleaners) := goodIn_app (goodIn_of _ (by decide +kernel)) ggX11_places_X11_manyGleaners
set_option maxRecDepth 20000 in
theorem ggX11_places_X11_bad : GoodIn wsX11_places wsX11_bad := goodIn_r _ [16, 17, 49, 50, 51, 52, 53, 54, 55, 56, 57, 58, 59, 60, 61, 62, 63, 64, 65, 66] (by decide +kernel) (by decide +kernel)
set_option maxRecDepth 20000 in
theorem gX11_places_X11_bad : GoodIn wsX11_places (wsV RX11 73 RX11 yX11_bad wsX11_bad) := goodIn_app (goodIn_of _ (by decide +kernel)) ggX11_places_X11_bad
set_option maxRecDepth 20000 in
theorem ggX11_places_X11_layHand : GoodIn wsX11_places wsX11_layHand := goodIn_r _ [21, 3, 12, 49, 50, 51, 52, 53, 54, 55, 56, 57, 58, 59, 60, 61, 62, 63, 64, 65, 66] (by decide +kernel) (by decide +kernel)
set_option maxRecDepth 20000 in
theorem gX11_places_X11_layHand : GoodIn wsX11_places (wsV RX11 147 RX11 yX11_layHand wsX11_layHand) := goodIn_app (goodIn_of _ (by decide +kernel)) ggX11_places_X11_layHand
theorem dX11_places_0 : decode cX11_places 0 = .ok (.iload_n 1, 1) := by decide +kernel
theorem dX11_places_1 : decode cX11_places 1 = .ok (.i2l, 1) := by decide +kernel
theorem dX11_places_2 : decode cX11_places 2 = .ok (.lconst 0, 1) := by decide +kernel
theorem dX11_places_3 : decode cX11_places 3 = .ok (.lconst 1, 1) := by decide +kernel
theorem dX11_places_4 : decode cX11_places 4 = .ok (.invokestatic 56, 3) := by decide +kernel
theorem dX11_places_7 : decode cX11_places 7 = .ok (.ifCond .eq 21, 3) := by decide +kernel
theorem dX11_places_10 : decode cX11_places 10 = .ok (.iload_n 2, 1) := by decide +kernel
theorem dX11_places_11 : decode cX11_places 11 = .ok (.i2l, 1) := by decide +kernel
theorem dX11_places_12 : decode cX11_places 12 = .ok (.ldc2_w 159, 3) := by decide +kernel
theorem dX11_places_15 : decode cX11_places 15 = .ok (.aload_n 0, 1) := by decide +kernel
theorem dX11_places_16 : decode cX11_places 16 = .ok (.invokevirtual 60, 3) := by decide +kernel
theorem dX11_places_19 : decode cX11_places 19 = .ok (.iconst 1, 1) := by decide +kernel
theorem dX11_places_20 : decode cX11_places 20 = .ok (.isub, 1) := by decide +kernel
theorem dX11_places_21 : decode cX11_places 21 = .ok (.i2l, 1) := by decide +kernel
theorem dX11_places_22 : decode cX11_places 22 = .ok (.invokestatic 56, 3) := by decide +kernel
theorem dX11_places_25 : decode cX11_places 25 = .ok (.ifCond .ne 10, 3) := by decide +kernel
theorem dX11_places_28 : decode cX11_places 28 = .ok (.aload_n 0, 1) := by decide +kernel
theorem dX11_places_29 : decode cX11_places 29 = .ok (.bipush (-10), 2) := by decide +kernel
theorem dX11_places_31 : decode cX11_places 31 = .ok (.invokevirtual 73, 3) := by decide +kernel
theorem dX11_places_34 : decode cX11_places 34 = .ok (.ireturn, 1) := by decide +kernel
theorem dX11_places_35 : decode cX11_places 35 = .ok (.iconst 1, 1) := by decide +kernel
theorem dX11_places_36 : decode cX11_places 36 = .ok (.istore_n 3, 1) := by decide +kernel
theorem dX11_places_37 : decode cX11_places 37 = .ok (.aload_n 0, 1) := by decide +kernel
theorem dX11_places_38 : decode cX11_places 38 = .ok (.invokevirtual 60, 3) := by decide +kernel
theorem dX11_places_41 : decode cX11_places 41 = .ok (.ifCond .ne 7, 3) := by decide +kernel
theorem dX11_places_44 : decode cX11_places 44 = .ok (.iconst 0, 1) := by decide +kernel
theorem dX11_places_45 : decode cX11_places 45 = .ok (.goto 4, 3) := by decide +kernel
theorem dX11_places_49 : decode cX11_places 49 = .ok (.istore 4, 2) := by decide +kernel
theorem dX11_places_51 : decode cX11_places 51 = .ok (.aload_n 0, 1) := by decide +kernel
theorem dX11_places_52 : decode cX11_places 52 = .ok (.invokevirtual 147, 3) := by decide +kernel
theorem dX11_places_55 : decode cX11_places 55 = .ok (.iconst 0, 1) := by decide +kernel
theorem dX11_places_56 : decode cX11_places 56 = .ok (.istore 5, 2) := by decide +kernel
theorem dX11_places_58 : decode cX11_places 58 = .ok (.iload 5, 2) := by decide +kernel
theorem dX11_places_60 : decode cX11_places 60 = .ok (.aload_n 0, 1) := by decide +kernel
theorem dX11_places_61 : decode cX11_places 61 = .ok (.invokevirtual 60, 3) := by decide +kernel
theorem dX11_places_64 : decode cX11_places 64 = .ok (.if_icmp .ge 16, 3) := by decide +kernel
theorem dX11_places_80 : decode cX11_places 80 = .ok (.iconst 0, 1) := by decide +kernel
theorem dX11_places_81 : decode cX11_places 81 = .ok (.istore 5, 2) := by decide +kernel
theorem dX11_places_83 : decode cX11_places 83 = .ok (.iload 5, 2) := by decide +kernel
theorem dX11_places_85 : decode cX11_places 85 = .ok (.iload_n 3, 1) := by decide +kernel
theorem dX11_places_86 : decode cX11_places 86 = .ok (.if_icmp .ge 83, 3) := by decide +kernel
theorem dX11_places_89 : decode cX11_places 89 = .ok (.aload_n 0, 1) := by decide +kernel
theorem dX11_places_90 : decode cX11_places 90 = .ok (.invokevirtual 60, 3) := by decide +kernel
theorem dX11_places_93 : decode cX11_places 93 = .ok (.ifCond .le 76, 3) := by decide +kernel
theorem dX11_places_169 : decode cX11_places 169 = .ok (.iload_n 2, 1) := by decide +kernel
theorem dX11_places_170 : decode cX11_places 170 = .ok (.iconst (-1), 1) := by decide +kernel
theorem dX11_places_171 : decode cX11_places 171 = .ok (.if_icmp .ne 8, 3) := by decide +kernel
theorem dX11_places_174 : decode cX11_places 174 = .ok (.iload 4, 2) := by decide +kernel
theorem dX11_places_176 : decode cX11_places 176 = .ok (.goto 9, 3) := by decide +kernel
theorem dX11_places_185 : decode cX11_places 185 = .ok (.ireturn, 1) := by decide +kernel
set_option maxRecDepth 20000 in
theorem ggX11_which_X11_isStep : GoodIn wsX11_which wsX11_isStep := goodIn_r _ [5, 6, 7, 8, 4, 9] (by decide +kernel) (by decide +kernel)
set_option maxRecDepth 20000 in
theorem gX11_which_X11_isStep : GoodIn wsX11_which (va_wsS RX11 144 yX11_isStep wsX11_isStep) := goodIn_app (goodIn_of _ (by decide +kernel)) ggX11_which_X11_isStep
set_option maxRecDepth 20000 in
theorem ggX11_which_X11_bad : GoodIn wsX11_which wsX11_bad := goodIn_r _ [13, 14, 31, 32, 33, 34, 35, 36, 37, 38, 39, 40, 41, 42, 43, 44, 45, 46, 47, 48] (by decide +kernel) (by decide +kernel)
set_option maxRecDepth 20000 in
theorem gX11_which_X11_bad : GoodIn wsX11_which (wsV RX11 73 RX11 yX11_bad wsX11_bad) := goodIn_app (goodIn_of _ (by decide +kernel)) ggX11_which_X11_bad
set_option maxRecDepth 20000 in
theorem ggX11_which_X11_many : GoodIn wsX11_which wsX11_many := goodIn_r _ [18, 1, 31, 32, 33, 34, 35, 36, 37, 38, 39, 40, 41, 42, 43, 44, 45, 46, 47, 48] (by decide +kernel) (by decide +kernel)
set_option maxRecDepth 20000 in
theorem gX11_which_X11_many : GoodIn wsX11_which (wsV RX11 52 RX11 yX11_many wsX11_many) := goodIn_app (goodIn_of _ (by decide +kernel)) ggX11_which_X11_many
theorem dX11_which_0 : decode cX11_which 0 = .ok (.iload_n 1, 1) := by decide +kernel
theorem dX11_which_1 : decode cX11_which 1 = .ok (.invokestatic 144, 3) := by decide +kernel
theorem dX11_which_4 : decode cX11_which 4 = .ok (.ifCond .ne 10, 3) := by decide +kernel
theorem dX11_which_7 : decode cX11_which 7 = .ok (.aload_n 0, 1) := by decide +kernel
theorem dX11_which_8 : decode cX11_which 8 = .ok (.bipush (-2), 2) := by decide +kernel
theorem dX11_which_10 : decode cX11_which 10 = .ok (.invokevirtual 73, 3) := by decide +kernel
theorem dX11_which_13 : decode cX11_which 13 = .ok (.ireturn, 1) := by decide +kernel
theorem dX11_which_14 : decode cX11_which 14 = .ok (.iconst (-1), 1) := by decide +kernel
theorem dX11_which_15 : decode cX11_which 15 = .ok (.istore_n 2, 1) := by decide +kernel
theorem dX11_which_16 : decode cX11_which 16 = .ok (.iconst 0, 1) := by decide +kernel
theorem dX11_which_17 : decode cX11_which 17 = .ok (.istore_n 3, 1) := by decide +kernel
theorem dX11_which_18 : decode cX11_which 18 = .ok (.iload_n 3, 1) := by decide +kernel
theorem dX11_which_19 : decode cX11_which 19 = .ok (.aload_n 0, 1) := by decide +kernel
theorem dX11_which_20 : decode cX11_which 20 = .ok (.invokevirtual 52, 3) := by decide +kernel
theorem dX11_which_23 : decode cX11_which 23 = .ok (.if_icmp .ge 41, 3) := by decide +kernel
theorem dX11_which_64 : decode cX11_which 64 = .ok (.iload_n 2, 1) := by decide +kernel
theorem dX11_which_65 : decode cX11_which 65 = .ok (.ireturn, 1) := by decide +kernel
set_option maxRecDepth 20000 in
theorem ggX11_lasts_X11_isGleaner : GoodIn wsX11_lasts wsX11_isGleaner := goodIn_r _ [7, 8, 9, 10, 6, 11, 2, 12, 13, 14, 23, 24, 25, 26, 27, 28, 29, 30, 31, 32, 33, 34, 35, 36, 37, 38, 39, 40] (by decide +kernel) (by decide +kernel)
set_option maxRecDepth 20000 in
theorem gX11_lasts_X11_isGleaner : GoodIn wsX11_lasts (wsV RX11 133 RX11 yX11_isGleaner wsX11_isGleaner) := goodIn_app (goodIn_of _ (by decide +kernel)) ggX11_lasts_X11_isGleaner
set_option maxRecDepth 20000 in
theorem ggX11_lasts_X11_bad : GoodIn wsX11_lasts wsX11_bad := goodIn_r _ [18, 19, 23, 24, 25, 26, 27, 28, 29, 30, 31, 32, 33, 34, 35, 36, 37, 38, 39, 40] (by decide +kernel) (by decide +kernel)
set_option maxRecDepth 20000 in
theorem gX11_lasts_X11_bad : GoodIn wsX11_lasts (wsV RX11 73 RX11 yX11_bad wsX11_bad) := goodIn_app (goodIn_of _ (by decide +kernel)) ggX11_lasts_X11_bad
theorem dX11_lasts_0 : decode cX11_lasts 0 = .ok (.aload_n 0, 1) := by decide +kernel
theorem dX11_lasts_1 : decode cX11_lasts 1 = .ok (.iload_n 1, 1) := by decide +kernel
end
section
theorem dX11_lasts_2 : decode cX11_lasts 2 = .ok (.invokevirtual 133, 3) := by decide +kernel
theorem dX11_lasts_5 : decode cX11_lasts 5 = .ok (.ifCond .eq 15, 3) := by decide +kernel
theorem dX11_lasts_20 : decode cX11_lasts 20 = .ok (.aload_n 0, 1) := by decide +kernel
theorem dX11_lasts_21 : decode cX11_lasts 21 = .ok (.bipush (-2), 2) := by decide +kernel
theorem dX11_lasts_23 : decode cX11_lasts 23 = .ok (.invokevirtual 73, 3) := by decide +kernel
theorem dX11_lasts_26 : decode cX11_lasts 26 = .ok (.ireturn, 1) := by decide +kernel
set_option maxRecDepth 20000 in
theorem ggX11_enough_X11_in : GoodIn wsX11_enough wsX11_in := goodIn_r _ [6] (by decide +kernel) (by decide +kernel)
set_option maxRecDepth 20000 in
theorem gX11_enough_X11_in : GoodIn wsX11_enough (va_wsS RX11 56 yX11_in wsX11_in) := goodIn_app (goodIn_of _ (by decide +kernel)) ggX11_enough_X11_in
set_option maxRecDepth 20000 in
theorem ggX11_enough_X11_bad : GoodIn wsX11_enough wsX11_bad := goodIn_r _ [10, 11, 22, 23, 24, 25, 26, 27, 28, 29, 30, 31, 32, 33, 34, 35, 36, 37, 38, 39] (by decide +kernel) (by decide +kernel)
set_option maxRecDepth 20000 in
theorem gX11_enough_X11_bad : GoodIn wsX11_enough (wsV RX11 73 RX11 yX11_bad wsX11_bad) := goodIn_app (goodIn_of _ (by decide +kernel)) ggX11_enough_X11_bad
set_option maxRecDepth 20000 in
theorem ggX11_enough_X11_manyGleaners : GoodIn wsX11_enough wsX11_manyGleaners := goodIn_r _ [15, 2, 22, 23, 24, 25, 26, 27, 28, 29, 30, 31, 32, 33, 34, 35, 36, 37, 38, 39] (by decide +kernel) (by decide +kernel)
set_option maxRecDepth 20000 in
theorem gX11_enough_X11_manyGleaners : GoodIn wsX11_enough (wsV RX11 60 RX11 yX11_manyGleaners wsX11_manyGleaners) := goodIn_app (goodIn_of _ (by decide +kernel)) ggX11_enough_X11_manyGleaners
theorem dX11_enough_0 : decode cX11_enough 0 = .ok (.iload_n 1, 1) := by decide +kernel
theorem dX11_enough_1 : decode cX11_enough 1 = .ok (.i2l, 1) := by decide +kernel
theorem dX11_enough_2 : decode cX11_enough 2 = .ok (.lconst 0, 1) := by decide +kernel
theorem dX11_enough_3 : decode cX11_enough 3 = .ok (.ldc2_w 165, 3) := by decide +kernel
theorem dX11_enough_6 : decode cX11_enough 6 = .ok (.invokestatic 56, 3) := by decide +kernel
theorem dX11_enough_9 : decode cX11_enough 9 = .ok (.ifCond .ne 10, 3) := by decide +kernel
theorem dX11_enough_12 : decode cX11_enough 12 = .ok (.aload_n 0, 1) := by decide +kernel
theorem dX11_enough_13 : decode cX11_enough 13 = .ok (.bipush (-2), 2) := by decide +kernel
theorem dX11_enough_15 : decode cX11_enough 15 = .ok (.invokevirtual 73, 3) := by decide +kernel
theorem dX11_enough_18 : decode cX11_enough 18 = .ok (.ireturn, 1) := by decide +kernel
theorem dX11_enough_19 : decode cX11_enough 19 = .ok (.iconst (-1), 1) := by decide +kernel
theorem dX11_enough_20 : decode cX11_enough 20 = .ok (.istore_n 2, 1) := by decide +kernel
theorem dX11_enough_21 : decode cX11_enough 21 = .ok (.iconst 0, 1) := by decide +kernel
theorem dX11_enough_22 : decode cX11_enough 22 = .ok (.istore_n 3, 1) := by decide +kernel
theorem dX11_enough_23 : decode cX11_enough 23 = .ok (.iload_n 3, 1) := by decide +kernel
theorem dX11_enough_24 : decode cX11_enough 24 = .ok (.iconst 1, 1) := by decide +kernel
theorem dX11_enough_25 : decode cX11_enough 25 = .ok (.aload_n 0, 1) := by decide +kernel
theorem dX11_enough_26 : decode cX11_enough 26 = .ok (.invokevirtual 60, 3) := by decide +kernel
theorem dX11_enough_29 : decode cX11_enough 29 = .ok (.ishl, 1) := by decide +kernel
theorem dX11_enough_30 : decode cX11_enough 30 = .ok (.if_icmp .ge 86, 3) := by decide +kernel
theorem dX11_enough_33 : decode cX11_enough 33 = .ok (.iconst 0, 1) := by decide +kernel
theorem dX11_enough_34 : decode cX11_enough 34 = .ok (.istore 4, 2) := by decide +kernel
theorem dX11_enough_36 : decode cX11_enough 36 = .ok (.iconst 0, 1) := by decide +kernel
theorem dX11_enough_37 : decode cX11_enough 37 = .ok (.istore 5, 2) := by decide +kernel
theorem dX11_enough_39 : decode cX11_enough 39 = .ok (.iload 5, 2) := by decide +kernel
theorem dX11_enough_41 : decode cX11_enough 41 = .ok (.aload_n 0, 1) := by decide +kernel
theorem dX11_enough_42 : decode cX11_enough 42 = .ok (.invokevirtual 60, 3) := by decide +kernel
theorem dX11_enough_45 : decode cX11_enough 45 = .ok (.if_icmp .ge 37, 3) := by decide +kernel
theorem dX11_enough_82 : decode cX11_enough 82 = .ok (.iload 4, 2) := by decide +kernel
theorem dX11_enough_84 : decode cX11_enough 84 = .ok (.iload_n 1, 1) := by decide +kernel
theorem dX11_enough_85 : decode cX11_enough 85 = .ok (.if_icmp .lt 23, 3) := by decide +kernel
theorem dX11_enough_88 : decode cX11_enough 88 = .ok (.iload_n 2, 1) := by decide +kernel
theorem dX11_enough_89 : decode cX11_enough 89 = .ok (.iconst (-1), 1) := by decide +kernel
theorem dX11_enough_90 : decode cX11_enough 90 = .ok (.if_icmp .eq 14, 3) := by decide +kernel
theorem dX11_enough_104 : decode cX11_enough 104 = .ok (.iload_n 3, 1) := by decide +kernel
theorem dX11_enough_105 : decode cX11_enough 105 = .ok (.goto 4, 3) := by decide +kernel
theorem dX11_enough_108 : decode cX11_enough 108 = .ok (.iload_n 2, 1) := by decide +kernel
theorem dX11_enough_109 : decode cX11_enough 109 = .ok (.istore_n 2, 1) := by decide +kernel
theorem dX11_enough_110 : decode cX11_enough 110 = .ok (.iinc 3 1, 3) := by decide +kernel
theorem dX11_enough_113 : decode cX11_enough 113 = .ok (.goto (-90), 3) := by decide +kernel
theorem dX11_enough_116 : decode cX11_enough 116 = .ok (.iload_n 2, 1) := by decide +kernel
theorem dX11_enough_117 : decode cX11_enough 117 = .ok (.ireturn, 1) := by decide +kernel
set_option maxRecDepth 20000 in
theorem ggX11_missed_X11_isField : GoodIn wsX11_missed wsX11_isField := goodIn_r _ [6, 7, 8, 9, 5, 10, 1, 11, 12, 13, 31, 32, 33, 34, 35, 36, 37, 38, 39, 40, 41, 42, 43, 44, 45, 46, 47, 48] (by decide +kernel) (by decide +kernel)
set_option maxRecDepth 20000 in
theorem gX11_missed_X11_isField : GoodIn wsX11_missed (wsV RX11 89 RX11 yX11_isField wsX11_isField) := goodIn_app (goodIn_of _ (by decide +kernel)) ggX11_missed_X11_isField
set_option maxRecDepth 20000 in
theorem ggX11_missed_X11_bad : GoodIn wsX11_missed wsX11_bad := goodIn_r _ [25, 26, 31, 32, 33, 34, 35, 36, 37, 38, 39, 40, 41, 42, 43, 44, 45, 46, 47, 48] (by decide +kernel) (by decide +kernel)
set_option maxRecDepth 20000 in
theorem gX11_missed_X11_bad : GoodIn wsX11_missed (wsV RX11 73 RX11 yX11_bad wsX11_bad) := goodIn_app (goodIn_of _ (by decide +kernel)) ggX11_missed_X11_bad
theorem dX11_missed_0 : decode cX11_missed 0 = .ok (.aload_n 0, 1) := by decide +kernel
theorem dX11_missed_1 : decode cX11_missed 1 = .ok (.iload_n 1, 1) := by decide +kernel
theorem dX11_missed_2 : decode cX11_missed 2 = .ok (.invokevirtual 89, 3) := by decide +kernel
theorem dX11_missed_5 : decode cX11_missed 5 = .ok (.ifCond .eq 25, 3) := by decide +kernel
theorem dX11_missed_30 : decode cX11_missed 30 = .ok (.aload_n 0, 1) := by decide +kernel
theorem dX11_missed_31 : decode cX11_missed 31 = .ok (.bipush (-2), 2) := by decide +kernel
theorem dX11_missed_33 : decode cX11_missed 33 = .ok (.invokevirtual 73, 3) := by decide +kernel
theorem dX11_missed_36 : decode cX11_missed 36 = .ok (.ireturn, 1) := by decide +kernel
theorem dX11_clouds_0 : decode cX11_clouds 0 = .ok (.iconst 0, 1) := by decide +kernel
theorem dX11_clouds_1 : decode cX11_clouds 1 = .ok (.istore_n 1, 1) := by decide +kernel
theorem dX11_clouds_2 : decode cX11_clouds 2 = .ok (.iconst 0, 1) := by decide +kernel
theorem dX11_clouds_3 : decode cX11_clouds 3 = .ok (.istore_n 2, 1) := by decide +kernel
theorem dX11_clouds_4 : decode cX11_clouds 4 = .ok (.iload_n 2, 1) := by decide +kernel
theorem dX11_clouds_5 : decode cX11_clouds 5 = .ok (.bipush 10, 2) := by decide +kernel
theorem dX11_clouds_7 : decode cX11_clouds 7 = .ok (.if_icmp .ge 113, 3) := by decide +kernel
theorem dX11_clouds_10 : decode cX11_clouds 10 = .ok (.iconst 1, 1) := by decide +kernel
theorem dX11_clouds_11 : decode cX11_clouds 11 = .ok (.istore_n 3, 1) := by decide +kernel
theorem dX11_clouds_12 : decode cX11_clouds 12 = .ok (.iconst 0, 1) := by decide +kernel
theorem dX11_clouds_13 : decode cX11_clouds 13 = .ok (.istore 4, 2) := by decide +kernel
theorem dX11_clouds_15 : decode cX11_clouds 15 = .ok (.iload 4, 2) := by decide +kernel
theorem dX11_clouds_17 : decode cX11_clouds 17 = .ok (.aload_n 0, 1) := by decide +kernel
theorem dX11_clouds_18 : decode cX11_clouds 18 = .ok (.getfield 7, 3) := by decide +kernel
theorem dX11_clouds_21 : decode cX11_clouds 21 = .ok (.iconst 2, 1) := by decide +kernel
theorem dX11_clouds_22 : decode cX11_clouds 22 = .ok (.iaload, 1) := by decide +kernel
theorem dX11_clouds_23 : decode cX11_clouds 23 = .ok (.if_icmp .ge 77, 3) := by decide +kernel
theorem dX11_clouds_100 : decode cX11_clouds 100 = .ok (.iload_n 1, 1) := by decide +kernel
theorem dX11_clouds_101 : decode cX11_clouds 101 = .ok (.iload_n 3, 1) := by decide +kernel
theorem dX11_clouds_102 : decode cX11_clouds 102 = .ok (.ifCond .eq 9, 3) := by decide +kernel
theorem dX11_clouds_105 : decode cX11_clouds 105 = .ok (.iconst 1, 1) := by decide +kernel
theorem dX11_clouds_106 : decode cX11_clouds 106 = .ok (.iload_n 2, 1) := by decide +kernel
theorem dX11_clouds_107 : decode cX11_clouds 107 = .ok (.ishl, 1) := by decide +kernel
theorem dX11_clouds_108 : decode cX11_clouds 108 = .ok (.goto 4, 3) := by decide +kernel
theorem dX11_clouds_112 : decode cX11_clouds 112 = .ok (.ior, 1) := by decide +kernel
theorem dX11_clouds_113 : decode cX11_clouds 113 = .ok (.istore_n 1, 1) := by decide +kernel
theorem dX11_clouds_114 : decode cX11_clouds 114 = .ok (.iinc 2 1, 3) := by decide +kernel
theorem dX11_clouds_117 : decode cX11_clouds 117 = .ok (.goto (-113), 3) := by decide +kernel
theorem dX11_clouds_120 : decode cX11_clouds 120 = .ok (.iload_n 1, 1) := by decide +kernel
theorem dX11_clouds_121 : decode cX11_clouds 121 = .ok (.ireturn, 1) := by decide +kernel
set_option maxRecDepth 20000 in
theorem ggX11_note_X11_isField : GoodIn wsX11_note wsX11_isField := goodIn_r _ [7, 8, 9, 10, 6, 11, 2, 12, 13, 14, 36, 37, 38, 39, 40, 41, 42, 43, 44, 45, 46, 47, 48, 49, 50, 51, 52, 53] (by decide +kernel) (by decide +kernel)
set_option maxRecDepth 20000 in
theorem gX11_note_X11_isField : GoodIn wsX11_note (wsV RX11 89 RX11 yX11_isField wsX11_isField) := goodIn_app (goodIn_of _ (by decide +kernel)) ggX11_note_X11_isField
set_option maxRecDepth 20000 in
theorem ggX11_note_X11_bad : GoodIn wsX11_note wsX11_bad := goodIn_r _ [30, 31, 36, 37, 38, 39, 40, 41, 42, 43, 44, 45, 46, 47, 48, 49, 50, 51, 52, 53] (by decide +kernel) (by decide +kernel)
set_option maxRecDepth 20000 in
theorem gX11_note_X11_bad : GoodIn wsX11_note (wsV RX11 73 RX11 yX11_bad wsX11_bad) := goodIn_app (goodIn_of _ (by decide +kernel)) ggX11_note_X11_bad
theorem dX11_note_0 : decode cX11_note 0 = .ok (.aload_n 0, 1) := by decide +kernel
theorem dX11_note_1 : decode cX11_note 1 = .ok (.iload_n 1, 1) := by decide +kernel
theorem dX11_note_2 : decode cX11_note 2 = .ok (.invokevirtual 89, 3) := by decide +kernel
theorem dX11_note_5 : decode cX11_note 5 = .ok (.ifCond .eq 38, 3) := by decide +kernel
theorem dX11_note_43 : decode cX11_note 43 = .ok (.aload_n 0, 1) := by decide +kernel
theorem dX11_note_44 : decode cX11_note 44 = .ok (.bipush (-2), 2) := by decide +kernel
theorem dX11_note_46 : decode cX11_note 46 = .ok (.invokevirtual 73, 3) := by decide +kernel
theorem dX11_note_49 : decode cX11_note 49 = .ok (.ireturn, 1) := by decide +kernel
set_option maxRecDepth 20000 in
theorem ggX11_forget_X11_in : GoodIn wsX11_forget wsX11_in := goodIn_r _ [5] (by decide +kernel) (by decide +kernel)
set_option maxRecDepth 20000 in
theorem gX11_forget_X11_in : GoodIn wsX11_forget (va_wsS RX11 56 yX11_in wsX11_in) := goodIn_app (goodIn_of _ (by decide +kernel)) ggX11_forget_X11_in
set_option maxRecDepth 20000 in
theorem ggX11_forget_X11_bad : GoodIn wsX11_forget wsX11_bad := goodIn_r _ [9, 10, 11, 12, 13, 14, 15, 16, 17, 18, 19, 20, 21, 22, 23, 24, 25, 26, 27, 28] (by decide +kernel) (by decide +kernel)
set_option maxRecDepth 20000 in
theorem gX11_forget_X11_bad : GoodIn wsX11_forget (wsV RX11 73 RX11 yX11_bad wsX11_bad) := goodIn_app (goodIn_of _ (by decide +kernel)) ggX11_forget_X11_bad
theorem dX11_forget_0 : decode cX11_forget 0 = .ok (.iload_n 1, 1) := by decide +kernel
theorem dX11_forget_1 : decode cX11_forget 1 = .ok (.i2l, 1) := by decide +kernel
theorem dX11_forget_2 : decode cX11_forget 2 = .ok (.lconst 0, 1) := by decide +kernel
theorem dX11_forget_3 : decode cX11_forget 3 = .ok (.lconst 1, 1) := by decide +kernel
theorem dX11_forget_4 : decode cX11_forget 4 = .ok (.invokestatic 56, 3) := by decide +kernel
theorem dX11_forget_7 : decode cX11_forget 7 = .ok (.ifCond .ne 10, 3) := by decide +kernel
theorem dX11_forget_10 : decode cX11_forget 10 = .ok (.aload_n 0, 1) := by decide +kernel
theorem dX11_forget_11 : decode cX11_forget 11 = .ok (.bipush (-2), 2) := by decide +kernel
theorem dX11_forget_13 : decode cX11_forget 13 = .ok (.invokevirtual 73, 3) := by decide +kernel
theorem dX11_forget_16 : decode cX11_forget 16 = .ok (.ireturn, 1) := by decide +kernel
theorem dX11_forget_17 : decode cX11_forget 17 = .ok (.aload_n 0, 1) := by decide +kernel
theorem dX11_forget_18 : decode cX11_forget 18 = .ok (.getfield 7, 3) := by decide +kernel
theorem dX11_forget_21 : decode cX11_forget 21 = .ok (.iconst 2, 1) := by decide +kernel
theorem dX11_forget_22 : decode cX11_forget 22 = .ok (.iload_n 1, 1) := by decide +kernel
theorem dX11_forget_23 : decode cX11_forget 23 = .ok (.iadd, 1) := by decide +kernel
theorem dX11_forget_24 : decode cX11_forget 24 = .ok (.iaload, 1) := by decide +kernel
theorem dX11_forget_25 : decode cX11_forget 25 = .ok (.istore_n 2, 1) := by decide +kernel
theorem dX11_forget_26 : decode cX11_forget 26 = .ok (.aload_n 0, 1) := by decide +kernel
theorem dX11_forget_27 : decode cX11_forget 27 = .ok (.getfield 7, 3) := by decide +kernel
theorem dX11_forget_30 : decode cX11_forget 30 = .ok (.iconst 2, 1) := by decide +kernel
theorem dX11_forget_31 : decode cX11_forget 31 = .ok (.iload_n 1, 1) := by decide +kernel
theorem dX11_forget_32 : decode cX11_forget 32 = .ok (.iadd, 1) := by decide +kernel
theorem dX11_forget_33 : decode cX11_forget 33 = .ok (.iconst 0, 1) := by decide +kernel
theorem dX11_forget_34 : decode cX11_forget 34 = .ok (.iastore, 1) := by decide +kernel
theorem dX11_forget_35 : decode cX11_forget 35 = .ok (.iload_n 2, 1) := by decide +kernel
theorem dX11_forget_36 : decode cX11_forget 36 = .ok (.ireturn, 1) := by decide +kernel
set_option maxRecDepth 20000 in
theorem ggX11_is_X11_isField : GoodIn wsX11_is wsX11_isField := goodIn_r _ [5, 6, 7, 8, 4, 9, 10, 11, 12, 13, 32, 33, 34, 35, 36, 37, 38, 39, 40, 41, 42, 43, 44, 45, 46, 47, 48, 49] (by decide +kernel) (by decide +kernel)
set_option maxRecDepth 20000 in
theorem gX11_is_X11_isField : GoodIn wsX11_is (wsV RX11 89 RX11 yX11_isField wsX11_isField) := goodIn_app (goodIn_of _ (by decide +kernel)) ggX11_is_X11_isField
set_option maxRecDepth 20000 in
theorem ggX11_is_X11_bad : GoodIn wsX11_is wsX11_bad := goodIn_r _ [30, 31, 32, 33, 34, 35, 36, 37, 38, 39, 40, 41, 42, 43, 44, 45, 46, 47, 48, 49] (by decide +kernel) (by decide +kernel)
set_option maxRecDepth 20000 in
theorem gX11_is_X11_bad : GoodIn wsX11_is (wsV RX11 73 RX11 yX11_bad wsX11_bad) := goodIn_app (goodIn_of _ (by decide +kernel)) ggX11_is_X11_bad
theorem dX11_is_0 : decode cX11_is 0 = .ok (.aload_n 0, 1) := by decide +kernel
theorem dX11_is_1 : decode cX11_is 1 = .ok (.iload_n 1, 1) := by decide +kernel
theorem dX11_is_2 : decode cX11_is 2 = .ok (.invokevirtual 89, 3) := by decide +kernel
theorem dX11_is_5 : decode cX11_is 5 = .ok (.ifCond .eq 11, 3) := by decide +kernel
theorem dX11_is_16 : decode cX11_is 16 = .ok (.aload_n 0, 1) := by decide +kernel
theorem dX11_is_17 : decode cX11_is 17 = .ok (.bipush (-2), 2) := by decide +kernel
theorem dX11_is_19 : decode cX11_is 19 = .ok (.invokevirtual 73, 3) := by decide +kernel
theorem dX11_is_22 : decode cX11_is 22 = .ok (.ireturn, 1) := by decide +kernel
set_option maxRecDepth 20000 in
theorem ggX11_look_X11_isField : GoodIn wsX11_look wsX11_isField := goodIn_r _ [7, 8, 9, 10, 6, 11, 2, 12, 13, 14, 36, 37, 38, 39, 40, 41, 42, 43, 44, 45, 46, 47, 48, 49, 50, 51, 52, 53] (by decide +kernel) (by decide +kernel)
set_option maxRecDepth 20000 in
theorem gX11_look_X11_isField : GoodIn wsX11_look (wsV RX11 89 RX11 yX11_isField wsX11_isField) := goodIn_app (goodIn_of _ (by decide +kernel)) ggX11_look_X11_isField
set_option maxRecDepth 20000 in
theorem ggX11_look_X11_bad : GoodIn wsX11_look wsX11_bad := goodIn_r _ [18, 19, 36, 37, 38, 39, 40, 41, 42, 43, 44, 45, 46, 47, 48, 49, 50, 51, 52, 53] (by decide +kernel) (by decide +kernel)
set_option maxRecDepth 20000 in
theorem gX11_look_X11_bad : GoodIn wsX11_look (wsV RX11 73 RX11 yX11_bad wsX11_bad) := goodIn_app (goodIn_of _ (by decide +kernel)) ggX11_look_X11_bad
theorem dX11_look_0 : decode cX11_look 0 = .ok (.aload_n 0, 1) := by decide +kernel
theorem dX11_look_1 : decode cX11_look 1 = .ok (.iload_n 1, 1) := by decide +kernel
theorem dX11_look_2 : decode cX11_look 2 = .ok (.invokevirtual 89, 3) := by decide +kernel
theorem dX11_look_5 : decode cX11_look 5 = .ok (.ifCond .ne 10, 3) := by decide +kernel
theorem dX11_look_8 : decode cX11_look 8 = .ok (.aload_n 0, 1) := by decide +kernel
theorem dX11_look_9 : decode cX11_look 9 = .ok (.bipush (-2), 2) := by decide +kernel
theorem dX11_look_11 : decode cX11_look 11 = .ok (.invokevirtual 73, 3) := by decide +kernel
theorem dX11_look_14 : decode cX11_look 14 = .ok (.ireturn, 1) := by decide +kernel
set_option maxRecDepth 20000 in
theorem ggX11_two_X11_isGleaner : GoodIn wsX11_two wsX11_isGleaner := goodIn_r _ [5, 6, 7, 8, 4, 9, 10, 11, 12, 13, 46, 47, 48, 49, 50, 51, 52, 53, 54, 55, 56, 57, 58, 59, 60, 61, 62, 63] (by decide +kernel) (by decide +kernel)
set_option maxRecDepth 20000 in
theorem gX11_two_X11_isGleaner : GoodIn wsX11_two (wsV RX11 133 RX11 yX11_isGleaner wsX11_isGleaner) := goodIn_app (goodIn_of _ (by decide +kernel)) ggX11_two_X11_isGleaner
set_option maxRecDepth 20000 in
theorem ggX11_two_X11_bad : GoodIn wsX11_two wsX11_bad := goodIn_r _ [17, 18, 46, 47, 48, 49, 50, 51, 52, 53, 54, 55, 56, 57, 58, 59, 60, 61, 62, 63] (by decide +kernel) (by decide +kernel)
set_option maxRecDepth 20000 in
theorem gX11_two_X11_bad : GoodIn wsX11_two (wsV RX11 73 RX11 yX11_bad wsX11_bad) := goodIn_app (goodIn_of _ (by decide +kernel)) ggX11_two_X11_bad
theorem dX11_two_0 : decode cX11_two 0 = .ok (.aload_n 0, 1) := by decide +kernel
theorem dX11_two_1 : decode cX11_two 1 = .ok (.iload_n 1, 1) := by decide +kernel
theorem dX11_two_2 : decode cX11_two 2 = .ok (.invokevirtual 133, 3) := by decide +kernel
theorem dX11_two_5 : decode cX11_two 5 = .ok (.ifCond .eq 21, 3) := by decide +kernel
theorem dX11_two_26 : decode cX11_two 26 = .ok (.aload_n 0, 1) := by decide +kernel
theorem dX11_two_27 : decode cX11_two 27 = .ok (.bipush (-10), 2) := by decide +kernel
theorem dX11_two_29 : decode cX11_two 29 = .ok (.invokevirtual 73, 3) := by decide +kernel
theorem dX11_two_32 : decode cX11_two 32 = .ok (.ireturn, 1) := by decide +kernel
set_option maxRecDepth 20000 in
theorem ggX11_rains_X11_isField : GoodIn wsX11_rains wsX11_isField := goodIn_r _ [8, 9, 10, 11, 7, 12, 3, 13, 14, 15, 43, 44, 45, 46, 47, 48, 49, 50, 51, 52, 53, 54, 55, 56, 57, 58, 59, 60] (by decide +kernel) (by decide +kernel)
set_option maxRecDepth 20000 in
theorem gX11_rains_X11_isField : GoodIn wsX11_rains (wsV RX11 89 RX11 yX11_isField wsX11_isField) := goodIn_app (goodIn_of _ (by decide +kernel)) ggX11_rains_X11_isField
set_option maxRecDepth 20000 in
theorem ggX11_rains_X11_bad : GoodIn wsX11_rains wsX11_bad := goodIn_r _ [19, 20, 43, 44, 45, 46, 47, 48, 49, 50, 51, 52, 53, 54, 55, 56, 57, 58, 59, 60] (by decide +kernel) (by decide +kernel)
set_option maxRecDepth 20000 in
theorem gX11_rains_X11_bad : GoodIn wsX11_rains (wsV RX11 73 RX11 yX11_bad wsX11_bad) := goodIn_app (goodIn_of _ (by decide +kernel)) ggX11_rains_X11_bad
theorem dX11_rains_0 : decode cX11_rains 0 = .ok (.aload_n 0, 1) := by decide +kernel
theorem dX11_rains_1 : decode cX11_rains 1 = .ok (.iload_n 1, 1) := by decide +kernel
theorem dX11_rains_2 : decode cX11_rains 2 = .ok (.invokevirtual 89, 3) := by decide +kernel
theorem dX11_rains_5 : decode cX11_rains 5 = .ok (.ifCond .eq 15, 3) := by decide +kernel
theorem dX11_rains_20 : decode cX11_rains 20 = .ok (.aload_n 0, 1) := by decide +kernel
theorem dX11_rains_21 : decode cX11_rains 21 = .ok (.bipush (-2), 2) := by decide +kernel
theorem dX11_rains_23 : decode cX11_rains 23 = .ok (.invokevirtual 73, 3) := by decide +kernel
theorem dX11_rains_26 : decode cX11_rains 26 = .ok (.ireturn, 1) := by decide +kernel
set_option maxRecDepth 20000 in
theorem ggX11_summers_X11_in : GoodIn wsX11_summers wsX11_in := goodIn_r _ [12] (by decide +kernel) (by decide +kernel)
set_option maxRecDepth 20000 in
theorem gX11_summers_X11_in : GoodIn wsX11_summers (va_wsS RX11 56 yX11_in wsX11_in) := goodIn_app (goodIn_of _ (by decide +kernel)) ggX11_summers_X11_in
set_option maxRecDepth 20000 in
theorem ggX11_summers_X11_bad : GoodIn wsX11_summers wsX11_bad := goodIn_r _ [16, 17, 47, 48, 49, 50, 51, 52, 53, 54, 55, 56, 57, 58, 59, 60, 61, 62, 63, 64] (by decide +kernel) (by decide +kernel)
set_option maxRecDepth 20000 in
theorem gX11_summers_X11_bad : GoodIn wsX11_summers (wsV RX11 73 RX11 yX11_bad wsX11_bad) := goodIn_app (goodIn_of _ (by decide +kernel)) ggX11_summers_X11_bad
set_option maxRecDepth 20000 in
theorem ggX11_summers_X11_layHand : GoodIn wsX11_summers wsX11_layHand := goodIn_r _ [21, 6, 22, 47, 48, 49, 50, 51, 52, 53, 54, 55, 56, 57, 58, 59, 60, 61, 62, 63, 64] (by decide +kernel) (by decide +kernel)
set_option maxRecDepth 20000 in
theorem gX11_summers_X11_layHand : GoodIn wsX11_summers (wsV RX11 147 RX11 yX11_layHand wsX11_layHand) := goodIn_app (goodIn_of _ (by decide +kernel)) ggX11_summers_X11_layHand
set_option maxRecDepth 20000 in
theorem ggX11_summers_X11_goNight : GoodIn wsX11_summers wsX11_goNight := goodIn_r _ [25, 26, 27, 11, 28] (by decide +kernel) (by decide +kernel)
set_option maxRecDepth 20000 in
theorem gX11_summers_X11_goNight : GoodIn wsX11_summers (va_wsS RX11 129 yX11_goNight wsX11_goNight) := goodIn_app (goodIn_of _ (by decide +kernel)) ggX11_summers_X11_goNight
set_option maxRecDepth 20000 in
theorem ggX11_summers_X11_goStep : GoodIn wsX11_summers wsX11_goStep := goodIn_r _ [31, 32, 33, 11, 34, 35, 36, 37, 38, 39, 40, 41, 42, 43, 44, 45, 46] (by decide +kernel) (by decide +kernel)
set_option maxRecDepth 20000 in
theorem gX11_summers_X11_goStep : GoodIn wsX11_summers (va_wsS RX11 125 yX11_goStep wsX11_goStep) := goodIn_app (goodIn_of _ (by decide +kernel)) ggX11_summers_X11_goStep
theorem dX11_summers_0 : decode cX11_summers 0 = .ok (.iload_n 1, 1) := by decide +kernel
theorem dX11_summers_1 : decode cX11_summers 1 = .ok (.i2l, 1) := by decide +kernel
theorem dX11_summers_2 : decode cX11_summers 2 = .ok (.lconst 0, 1) := by decide +kernel
theorem dX11_summers_3 : decode cX11_summers 3 = .ok (.ldc2_w 198, 3) := by decide +kernel
theorem dX11_summers_6 : decode cX11_summers 6 = .ok (.invokestatic 56, 3) := by decide +kernel
theorem dX11_summers_9 : decode cX11_summers 9 = .ok (.ifCond .eq 15, 3) := by decide +kernel
theorem dX11_summers_12 : decode cX11_summers 12 = .ok (.iload_n 2, 1) := by decide +kernel
theorem dX11_summers_13 : decode cX11_summers 13 = .ok (.i2l, 1) := by decide +kernel
theorem dX11_summers_14 : decode cX11_summers 14 = .ok (.lconst 0, 1) := by decide +kernel
theorem dX11_summers_15 : decode cX11_summers 15 = .ok (.ldc2_w 67, 3) := by decide +kernel
theorem dX11_summers_18 : decode cX11_summers 18 = .ok (.invokestatic 56, 3) := by decide +kernel
theorem dX11_summers_21 : decode cX11_summers 21 = .ok (.ifCond .ne 10, 3) := by decide +kernel
theorem dX11_summers_24 : decode cX11_summers 24 = .ok (.aload_n 0, 1) := by decide +kernel
theorem dX11_summers_25 : decode cX11_summers 25 = .ok (.bipush (-2), 2) := by decide +kernel
theorem dX11_summers_27 : decode cX11_summers 27 = .ok (.invokevirtual 73, 3) := by decide +kernel
theorem dX11_summers_30 : decode cX11_summers 30 = .ok (.ireturn, 1) := by decide +kernel
theorem dX11_summers_31 : decode cX11_summers 31 = .ok (.iload_n 1, 1) := by decide +kernel
theorem dX11_summers_32 : decode cX11_summers 32 = .ok (.i2l, 1) := by decide +kernel
theorem dX11_summers_33 : decode cX11_summers 33 = .ok (.lstore_n 3, 1) := by decide +kernel
theorem dX11_summers_34 : decode cX11_summers 34 = .ok (.iconst 0, 1) := by decide +kernel
theorem dX11_summers_35 : decode cX11_summers 35 = .ok (.istore 5, 2) := by decide +kernel
theorem dX11_summers_37 : decode cX11_summers 37 = .ok (.aload_n 0, 1) := by decide +kernel
theorem dX11_summers_38 : decode cX11_summers 38 = .ok (.invokevirtual 147, 3) := by decide +kernel
theorem dX11_summers_41 : decode cX11_summers 41 = .ok (.iconst 0, 1) := by decide +kernel
theorem dX11_summers_42 : decode cX11_summers 42 = .ok (.istore 6, 2) := by decide +kernel
theorem dX11_summers_44 : decode cX11_summers 44 = .ok (.iload 6, 2) := by decide +kernel
theorem dX11_summers_46 : decode cX11_summers 46 = .ok (.iload_n 2, 1) := by decide +kernel
theorem dX11_summers_47 : decode cX11_summers 47 = .ok (.if_icmp .ge 71, 3) := by decide +kernel
theorem dX11_summers_50 : decode cX11_summers 50 = .ok (.lload_n 3, 1) := by decide +kernel
theorem dX11_summers_51 : decode cX11_summers 51 = .ok (.ldc2_w 200, 3) := by decide +kernel
theorem dX11_summers_54 : decode cX11_summers 54 = .ok (.lmul, 1) := by decide +kernel
theorem dX11_summers_55 : decode cX11_summers 55 = .ok (.ldc2_w 202, 3) := by decide +kernel
theorem dX11_summers_58 : decode cX11_summers 58 = .ok (.ladd, 1) := by decide +kernel
theorem dX11_summers_59 : decode cX11_summers 59 = .ok (.ldc2_w 204, 3) := by decide +kernel
theorem dX11_summers_62 : decode cX11_summers 62 = .ok (.lrem, 1) := by decide +kernel
theorem dX11_summers_63 : decode cX11_summers 63 = .ok (.lstore_n 3, 1) := by decide +kernel
theorem dX11_summers_64 : decode cX11_summers 64 = .ok (.aload_n 0, 1) := by decide +kernel
theorem dX11_summers_65 : decode cX11_summers 65 = .ok (.getfield 27, 3) := by decide +kernel
theorem dX11_summers_68 : decode cX11_summers 68 = .ok (.bipush 21, 2) := by decide +kernel
theorem dX11_summers_70 : decode cX11_summers 70 = .ok (.iaload, 1) := by decide +kernel
theorem dX11_summers_71 : decode cX11_summers 71 = .ok (.bipush 12, 2) := by decide +kernel
theorem dX11_summers_73 : decode cX11_summers 73 = .ok (.if_icmp .ne 10, 3) := by decide +kernel
theorem dX11_summers_76 : decode cX11_summers 76 = .ok (.aload_n 0, 1) := by decide +kernel
theorem dX11_summers_77 : decode cX11_summers 77 = .ok (.getfield 27, 3) := by decide +kernel
theorem dX11_summers_80 : decode cX11_summers 80 = .ok (.invokestatic 129, 3) := by decide +kernel
theorem dX11_summers_83 : decode cX11_summers 83 = .ok (.aload_n 0, 1) := by decide +kernel
theorem dX11_summers_84 : decode cX11_summers 84 = .ok (.getfield 27, 3) := by decide +kernel
theorem dX11_summers_87 : decode cX11_summers 87 = .ok (.bipush 22, 2) := by decide +kernel
theorem dX11_summers_89 : decode cX11_summers 89 = .ok (.lload_n 3, 1) := by decide +kernel
theorem dX11_summers_90 : decode cX11_summers 90 = .ok (.ldc2_w 206, 3) := by decide +kernel
theorem dX11_summers_93 : decode cX11_summers 93 = .ok (.ldiv, 1) := by decide +kernel
theorem dX11_summers_94 : decode cX11_summers 94 = .ok (.ldc2_w 192, 3) := by decide +kernel
theorem dX11_summers_97 : decode cX11_summers 97 = .ok (.lrem, 1) := by decide +kernel
theorem dX11_summers_98 : decode cX11_summers 98 = .ok (.l2i, 1) := by decide +kernel
theorem dX11_summers_99 : decode cX11_summers 99 = .ok (.iastore, 1) := by decide +kernel
theorem dX11_summers_100 : decode cX11_summers 100 = .ok (.iload 5, 2) := by decide +kernel
theorem dX11_summers_102 : decode cX11_summers 102 = .ok (.aload_n 0, 1) := by decide +kernel
theorem dX11_summers_103 : decode cX11_summers 103 = .ok (.getfield 27, 3) := by decide +kernel
theorem dX11_summers_106 : decode cX11_summers 106 = .ok (.invokestatic 125, 3) := by decide +kernel
theorem dX11_summers_109 : decode cX11_summers 109 = .ok (.iadd, 1) := by decide +kernel
theorem dX11_summers_110 : decode cX11_summers 110 = .ok (.istore 5, 2) := by decide +kernel
theorem dX11_summers_112 : decode cX11_summers 112 = .ok (.iinc 6 1, 3) := by decide +kernel
theorem dX11_summers_115 : decode cX11_summers 115 = .ok (.goto (-71), 3) := by decide +kernel
theorem dX11_summers_118 : decode cX11_summers 118 = .ok (.iload 5, 2) := by decide +kernel
theorem dX11_summers_120 : decode cX11_summers 120 = .ok (.ireturn, 1) := by decide +kernel
set_option maxRecDepth 20000 in
theorem ggX11_type_X11_in : GoodIn wsX11_type wsX11_in := goodIn_r _ [7] (by decide +kernel) (by decide +kernel)
set_option maxRecDepth 20000 in
theorem gX11_type_X11_in : GoodIn wsX11_type (va_wsS RX11 56 yX11_in wsX11_in) := goodIn_app (goodIn_of _ (by decide +kernel)) ggX11_type_X11_in
set_option maxRecDepth 20000 in
theorem ggX11_type_X11_bad : GoodIn wsX11_type wsX11_bad := goodIn_r _ [11, 12, 17, 18, 19, 20, 21, 22, 23, 24, 25, 26, 27, 28, 29, 30, 31, 32, 33, 34] (by decide +kernel) (by decide +kernel)
set_option maxRecDepth 20000 in
theorem gX11_type_X11_bad : GoodIn wsX11_type (wsV RX11 73 RX11 yX11_bad wsX11_bad) := goodIn_app (goodIn_of _ (by decide +kernel)) ggX11_type_X11_bad
theorem dX11_type_0 : decode cX11_type 0 = .ok (.iload_n 1, 1) := by decide +kernel
theorem dX11_type_1 : decode cX11_type 1 = .ok (.i2l, 1) := by decide +kernel
theorem dX11_type_2 : decode cX11_type 2 = .ok (.lconst 0, 1) := by decide +kernel
theorem dX11_type_3 : decode cX11_type 3 = .ok (.ldc2_w 208, 3) := by decide +kernel
theorem dX11_type_6 : decode cX11_type 6 = .ok (.invokestatic 56, 3) := by decide +kernel
theorem dX11_type_9 : decode cX11_type 9 = .ok (.ifCond .ne 10, 3) := by decide +kernel
theorem dX11_type_12 : decode cX11_type 12 = .ok (.aload_n 0, 1) := by decide +kernel
theorem dX11_type_13 : decode cX11_type 13 = .ok (.bipush (-2), 2) := by decide +kernel
theorem dX11_type_15 : decode cX11_type 15 = .ok (.invokevirtual 73, 3) := by decide +kernel
theorem dX11_type_18 : decode cX11_type 18 = .ok (.ireturn, 1) := by decide +kernel
theorem dX11_type_19 : decode cX11_type 19 = .ok (.aload_n 0, 1) := by decide +kernel
theorem dX11_type_20 : decode cX11_type 20 = .ok (.getfield 210, 3) := by decide +kernel
theorem dX11_type_23 : decode cX11_type 23 = .ok (.sipush 150, 3) := by decide +kernel
theorem dX11_type_26 : decode cX11_type 26 = .ok (.if_icmp .ne 8, 3) := by decide +kernel
theorem dX11_type_34 : decode cX11_type 34 = .ok (.aload_n 0, 1) := by decide +kernel
theorem dX11_type_35 : decode cX11_type 35 = .ok (.getfield 39, 3) := by decide +kernel
theorem dX11_type_38 : decode cX11_type 38 = .ok (.aload_n 0, 1) := by decide +kernel
theorem dX11_type_39 : decode cX11_type 39 = .ok (.getfield 210, 3) := by decide +kernel
theorem dX11_type_42 : decode cX11_type 42 = .ok (.iload_n 1, 1) := by decide +kernel
theorem dX11_type_43 : decode cX11_type 43 = .ok (.iastore, 1) := by decide +kernel
theorem dX11_type_44 : decode cX11_type 44 = .ok (.aload_n 0, 1) := by decide +kernel
theorem dX11_type_45 : decode cX11_type 45 = .ok (.dup, 1) := by decide +kernel
theorem dX11_type_46 : decode cX11_type 46 = .ok (.getfield 210, 3) := by decide +kernel
theorem dX11_type_49 : decode cX11_type 49 = .ok (.iconst 1, 1) := by decide +kernel
theorem dX11_type_50 : decode cX11_type 50 = .ok (.iadd, 1) := by decide +kernel
theorem dX11_type_51 : decode cX11_type 51 = .ok (.putfield 210, 3) := by decide +kernel
theorem dX11_type_54 : decode cX11_type 54 = .ok (.aload_n 0, 1) := by decide +kernel
theorem dX11_type_55 : decode cX11_type 55 = .ok (.getfield 210, 3) := by decide +kernel
theorem dX11_type_58 : decode cX11_type 58 = .ok (.ireturn, 1) := by decide +kernel
theorem dX11_clear_0 : decode cX11_clear 0 = .ok (.aload_n 0, 1) := by decide +kernel
theorem dX11_clear_1 : decode cX11_clear 1 = .ok (.getfield 210, 3) := by decide +kernel
theorem dX11_clear_4 : decode cX11_clear 4 = .ok (.istore_n 1, 1) := by decide +kernel
theorem dX11_clear_5 : decode cX11_clear 5 = .ok (.aload_n 0, 1) := by decide +kernel
theorem dX11_clear_6 : decode cX11_clear 6 = .ok (.iconst 0, 1) := by decide +kernel
theorem dX11_clear_7 : decode cX11_clear 7 = .ok (.putfield 210, 3) := by decide +kernel
theorem dX11_clear_10 : decode cX11_clear 10 = .ok (.iload_n 1, 1) := by decide +kernel
theorem dX11_clear_11 : decode cX11_clear 11 = .ok (.ireturn, 1) := by decide +kernel
theorem dX11_lookAt_0 : decode cX11_lookAt 0 = .ok (.aload_n 0, 1) := by decide +kernel
theorem dX11_lookAt_1 : decode cX11_lookAt 1 = .ok (.iload_n 1, 1) := by decide +kernel
theorem dX11_lookAt_2 : decode cX11_lookAt 2 = .ok (.putfield 222, 3) := by decide +kernel
theorem dX11_lookAt_5 : decode cX11_lookAt 5 = .ok (.aload_n 0, 1) := by decide +kernel
theorem dX11_lookAt_6 : decode cX11_lookAt 6 = .ok (.getfield 222, 3) := by decide +kernel
theorem dX11_lookAt_9 : decode cX11_lookAt 9 = .ok (.aload_n 0, 1) := by decide +kernel
theorem dX11_lookAt_10 : decode cX11_lookAt 10 = .ok (.getfield 210, 3) := by decide +kernel
theorem dX11_lookAt_13 : decode cX11_lookAt 13 = .ok (.if_icmp .ge 30, 3) := by decide +kernel
theorem dX11_lookAt_43 : decode cX11_lookAt 43 = .ok (.aload_n 0, 1) := by decide +kernel
theorem dX11_lookAt_44 : decode cX11_lookAt 44 = .ok (.iconst 0, 1) := by decide +kernel
theorem dX11_lookAt_45 : decode cX11_lookAt 45 = .ok (.putfield 225, 3) := by decide +kernel
theorem dX11_lookAt_48 : decode cX11_lookAt 48 = .ok (.aload_n 0, 1) := by decide +kernel
theorem dX11_lookAt_49 : decode cX11_lookAt 49 = .ok (.iconst 0, 1) := by decide +kernel
theorem dX11_lookAt_50 : decode cX11_lookAt 50 = .ok (.putfield 228, 3) := by decide +kernel
theorem dX11_lookAt_53 : decode cX11_lookAt 53 = .ok (.aload_n 0, 1) := by decide +kernel
theorem dX11_lookAt_54 : decode cX11_lookAt 54 = .ok (.iconst 0, 1) := by decide +kernel
theorem dX11_lookAt_55 : decode cX11_lookAt 55 = .ok (.putfield 231, 3) := by decide +kernel
theorem dX11_lookAt_58 : decode cX11_lookAt 58 = .ok (.aload_n 0, 1) := by decide +kernel
theorem dX11_lookAt_59 : decode cX11_lookAt 59 = .ok (.getfield 222, 3) := by decide +kernel
theorem dX11_lookAt_62 : decode cX11_lookAt 62 = .ok (.aload_n 0, 1) := by decide +kernel
theorem dX11_lookAt_63 : decode cX11_lookAt 63 = .ok (.getfield 210, 3) := by decide +kernel
theorem dX11_lookAt_66 : decode cX11_lookAt 66 = .ok (.if_icmp .ne 4, 3) := by decide +kernel
theorem dX11_lookAt_69 : decode cX11_lookAt 69 = .ok (.return_, 1) := by decide +kernel
theorem dX11_spells_0 : decode cX11_spells 0 = .ok (.aload_n 0, 1) := by decide +kernel
theorem dX11_spells_1 : decode cX11_spells 1 = .ok (.getfield 228, 3) := by decide +kernel
theorem dX11_spells_4 : decode cX11_spells 4 = .ok (.iconst 1, 1) := by decide +kernel
theorem dX11_spells_5 : decode cX11_spells 5 = .ok (.if_icmp .ne 15, 3) := by decide +kernel
theorem dX11_spells_20 : decode cX11_spells 20 = .ok (.iconst 0, 1) := by decide +kernel
theorem dX11_spells_21 : decode cX11_spells 21 = .ok (.istore 8, 2) := by decide +kernel
theorem dX11_spells_23 : decode cX11_spells 23 = .ok (.iconst 0, 1) := by decide +kernel
theorem dX11_spells_24 : decode cX11_spells 24 = .ok (.istore 9, 2) := by decide +kernel
theorem dX11_spells_26 : decode cX11_spells 26 = .ok (.iload 9, 2) := by decide +kernel
theorem dX11_spells_28 : decode cX11_spells 28 = .ok (.iload_n 1, 1) := by decide +kernel
theorem dX11_spells_29 : decode cX11_spells 29 = .ok (.if_icmp .ge 90, 3) := by decide +kernel
theorem dX11_spells_32 : decode cX11_spells 32 = .ok (.iload 8, 2) := by decide +kernel
theorem dX11_spells_34 : decode cX11_spells 34 = .ok (.ifCond .eq 85, 3) := by decide +kernel
theorem dX11_spells_119 : decode cX11_spells 119 = .ok (.iload 8, 2) := by decide +kernel
theorem dX11_spells_121 : decode cX11_spells 121 = .ok (.ireturn, 1) := by decide +kernel
set_option maxRecDepth 20000 in
theorem ggX11_takesParish_X11_spells : GoodIn wsX11_takesParish wsX11_spells := goodIn_r _ [8, 3, 9, 10, 11, 42, 43, 44, 45, 46, 47, 48, 49, 50, 51, 52, 53, 54, 55, 56, 57, 58, 59] (by decide +kernel) (by decide +kernel)
set_option maxRecDepth 20000 in
theorem gX11_takesParish_X11_spells : GoodIn wsX11_takesParish (wsV RX11 247 RX11 yX11_spells wsX11_spells) := goodIn_app (goodIn_of _ (by decide +kernel)) ggX11_takesParish_X11_spells
theorem dX11_takesParish_0 : decode cX11_takesParish 0 = .ok (.aload_n 0, 1) := by decide +kernel
theorem dX11_takesParish_1 : decode cX11_takesParish 1 = .ok (.bipush 6, 2) := by decide +kernel
theorem dX11_takesParish_3 : decode cX11_takesParish 3 = .ok (.bipush 112, 2) := by decide +kernel
theorem dX11_takesParish_5 : decode cX11_takesParish 5 = .ok (.bipush 97, 2) := by decide +kernel
theorem dX11_takesParish_7 : decode cX11_takesParish 7 = .ok (.bipush 114, 2) := by decide +kernel
theorem dX11_takesParish_9 : decode cX11_takesParish 9 = .ok (.bipush 105, 2) := by decide +kernel
theorem dX11_takesParish_11 : decode cX11_takesParish 11 = .ok (.bipush 115, 2) := by decide +kernel
theorem dX11_takesParish_13 : decode cX11_takesParish 13 = .ok (.bipush 104, 2) := by decide +kernel
theorem dX11_takesParish_15 : decode cX11_takesParish 15 = .ok (.invokevirtual 247, 3) := by decide +kernel
theorem dX11_takesParish_18 : decode cX11_takesParish 18 = .ok (.ifCond .ne 5, 3) := by decide +kernel
theorem dX11_takesParish_21 : decode cX11_takesParish 21 = .ok (.iconst 0, 1) := by decide +kernel
theorem dX11_takesParish_22 : decode cX11_takesParish 22 = .ok (.ireturn, 1) := by decide +kernel
set_option maxRecDepth 20000 in
theorem ggX11_read_X11_lookAt : GoodIn wsX11_read wsX11_lookAt := goodIn_r _ [9, 1, 10, 11, 12, 2, 13, 14, 15, 8, 16, 17, 18, 19, 20, 21, 22, 23, 24, 25, 26, 91, 92, 93, 94, 95, 96, 97, 98, 99, 100, 101, 102, 103, 104, 105, 106, 107, 108] (by decide +kernel) (by decide +kernel)
set_option maxRecDepth 20000 in
theorem gX11_read_X11_lookAt : GoodIn wsX11_read (wsV RX11 240 RX11 yX11_lookAt wsX11_lookAt) := goodIn_app (goodIn_of _ (by decide +kernel)) ggX11_read_X11_lookAt
set_option maxRecDepth 20000 in
theorem ggX11_read_X11_takesParish : GoodIn wsX11_read wsX11_takesParish := goodIn_r _ [30, 4, 31, 2, 32, 33, 34, 8, 35, 12, 11, 1, 36, 37, 38, 39, 5, 6, 7, 9, 10, 13, 14, 15, 16, 17, 18, 19, 20, 21, 22, 23, 24, 25, 26, 40, 41, 42, 43, 44, 45, 46, 91, 92, 93, 94, 95, 96, 97, 98, 99, 100, 101, 102, 103, 104, 105, 106, 107, 108] (by decide +kernel) (by decide +kernel)
set_option maxRecDepth 20000 in
theorem gX11_read_X11_takesParish : GoodIn wsX11_read (wsV RX11 268 RX11 yX11_takesParish wsX11_takesParish) := goodIn_app (goodIn_of _ (by decide +kernel)) ggX11_read_X11_takesParish
theorem dX11_read_0 : decode cX11_read 0 = .ok (.aload_n 0, 1) := by decide +kernel
theorem dX11_read_1 : decode cX11_read 1 = .ok (.iconst 0, 1) := by decide +kernel
theorem dX11_read_2 : decode cX11_read 2 = .ok (.invokevirtual 240, 3) := by decide +kernel
theorem dX11_read_5 : decode cX11_read 5 = .ok (.aload_n 0, 1) := by decide +kernel
theorem dX11_read_6 : decode cX11_read 6 = .ok (.invokevirtual 268, 3) := by decide +kernel
theorem dX11_read_9 : decode cX11_read 9 = .ok (.ifCond .ne 11, 3) := by decide +kernel
theorem dX11_read_12 : decode cX11_read 12 = .ok (.bipush (-10), 2) := by decide +kernel
theorem dX11_read_14 : decode cX11_read 14 = .ok (.aload_n 0, 1) := by decide +kernel
theorem dX11_read_15 : decode cX11_read 15 = .ok (.getfield 222, 3) := by decide +kernel
theorem dX11_read_18 : decode cX11_read 18 = .ok (.isub, 1) := by decide +kernel
theorem dX11_read_19 : decode cX11_read 19 = .ok (.ireturn, 1) := by decide +kernel
set_option maxRecDepth 20000 in
theorem ggX11_part_X11_bad : GoodIn wsX11_part wsX11_bad := goodIn_r _ [7, 8, 9, 10, 11, 12, 13, 14, 15, 16, 17, 18, 19, 20, 21, 22, 23, 24, 25, 26] (by decide +kernel) (by decide +kernel)
set_option maxRecDepth 20000 in
theorem gX11_part_X11_bad : GoodIn wsX11_part (wsV RX11 73 RX11 yX11_bad wsX11_bad) := goodIn_app (goodIn_of _ (by decide +kernel)) ggX11_part_X11_bad
theorem dX11_part_0 : decode cX11_part 0 = .ok (.iload_n 1, 1) := by decide +kernel
theorem dX11_part_1 : decode cX11_part 1 = .ok (.ifCond .ne 10, 3) := by decide +kernel
theorem dX11_part_4 : decode cX11_part 4 = .ok (.aload_n 0, 1) := by decide +kernel
theorem dX11_part_5 : decode cX11_part 5 = .ok (.getfield 189, 3) := by decide +kernel
theorem dX11_part_8 : decode cX11_part 8 = .ok (.goto 22, 3) := by decide +kernel
theorem dX11_part_11 : decode cX11_part 11 = .ok (.iload_n 1, 1) := by decide +kernel
theorem dX11_part_12 : decode cX11_part 12 = .ok (.iconst 1, 1) := by decide +kernel
theorem dX11_part_13 : decode cX11_part 13 = .ok (.if_icmp .ne 10, 3) := by decide +kernel
theorem dX11_part_16 : decode cX11_part 16 = .ok (.aload_n 0, 1) := by decide +kernel
theorem dX11_part_17 : decode cX11_part 17 = .ok (.getfield 23, 3) := by decide +kernel
theorem dX11_part_20 : decode cX11_part 20 = .ok (.goto 10, 3) := by decide +kernel
theorem dX11_part_23 : decode cX11_part 23 = .ok (.aload_n 0, 1) := by decide +kernel
theorem dX11_part_24 : decode cX11_part 24 = .ok (.bipush (-2), 2) := by decide +kernel
theorem dX11_part_26 : decode cX11_part 26 = .ok (.invokevirtual 73, 3) := by decide +kernel
theorem dX11_part_29 : decode cX11_part 29 = .ok (.i2l, 1) := by decide +kernel
theorem dX11_part_30 : decode cX11_part 30 = .ok (.lreturn, 1) := by decide +kernel
set_option maxRecDepth 20000 in
theorem ggX11_image_X11_in : GoodIn wsX11_image wsX11_in := goodIn_r _ [7] (by decide +kernel) (by decide +kernel)
set_option maxRecDepth 20000 in
theorem gX11_image_X11_in : GoodIn wsX11_image (va_wsS RX11 56 yX11_in wsX11_in) := goodIn_app (goodIn_of _ (by decide +kernel)) ggX11_image_X11_in
set_option maxRecDepth 20000 in
theorem ggX11_image_X11_bad : GoodIn wsX11_image wsX11_bad := goodIn_r _ [11, 12, 13, 14, 15, 16, 17, 18, 19, 20, 21, 22, 23, 24, 25, 26, 27, 28, 29, 30] (by decide +kernel) (by decide +kernel)
set_option maxRecDepth 20000 in
theorem gX11_image_X11_bad : GoodIn wsX11_image (wsV RX11 73 RX11 yX11_bad wsX11_bad) := goodIn_app (goodIn_of _ (by decide +kernel)) ggX11_image_X11_bad
theorem dX11_image_0 : decode cX11_image 0 = .ok (.iload_n 1, 1) := by decide +kernel
theorem dX11_image_1 : decode cX11_image 1 = .ok (.i2l, 1) := by decide +kernel
theorem dX11_image_2 : decode cX11_image 2 = .ok (.lconst 0, 1) := by decide +kernel
theorem dX11_image_3 : decode cX11_image 3 = .ok (.lconst 1, 1) := by decide +kernel
theorem dX11_image_4 : decode cX11_image 4 = .ok (.invokestatic 56, 3) := by decide +kernel
theorem dX11_image_7 : decode cX11_image 7 = .ok (.ifCond .ne 10, 3) := by decide +kernel
theorem dX11_image_10 : decode cX11_image 10 = .ok (.aload_n 0, 1) := by decide +kernel
theorem dX11_image_11 : decode cX11_image 11 = .ok (.bipush (-2), 2) := by decide +kernel
theorem dX11_image_13 : decode cX11_image 13 = .ok (.invokevirtual 73, 3) := by decide +kernel
theorem dX11_image_16 : decode cX11_image 16 = .ok (.ireturn, 1) := by decide +kernel
theorem dX11_image_17 : decode cX11_image 17 = .ok (.iconst 0, 1) := by decide +kernel
theorem dX11_image_18 : decode cX11_image 18 = .ok (.istore_n 2, 1) := by decide +kernel
theorem dX11_image_19 : decode cX11_image 19 = .ok (.iload_n 2, 1) := by decide +kernel
theorem dX11_image_20 : decode cX11_image 20 = .ok (.sipush 228, 3) := by decide +kernel
theorem dX11_image_23 : decode cX11_image 23 = .ok (.if_icmp .ge 27, 3) := by decide +kernel
theorem dX11_image_26 : decode cX11_image 26 = .ok (.aload_n 0, 1) := by decide +kernel
theorem dX11_image_27 : decode cX11_image 27 = .ok (.getfield 13, 3) := by decide +kernel
theorem dX11_image_30 : decode cX11_image 30 = .ok (.sipush 228, 3) := by decide +kernel
theorem dX11_image_33 : decode cX11_image 33 = .ok (.iload_n 1, 1) := by decide +kernel
theorem dX11_image_34 : decode cX11_image 34 = .ok (.imul, 1) := by decide +kernel
theorem dX11_image_35 : decode cX11_image 35 = .ok (.iload_n 2, 1) := by decide +kernel
theorem dX11_image_36 : decode cX11_image 36 = .ok (.iadd, 1) := by decide +kernel
theorem dX11_image_37 : decode cX11_image 37 = .ok (.aload_n 0, 1) := by decide +kernel
theorem dX11_image_38 : decode cX11_image 38 = .ok (.getfield 7, 3) := by decide +kernel
theorem dX11_image_41 : decode cX11_image 41 = .ok (.iload_n 2, 1) := by decide +kernel
theorem dX11_image_42 : decode cX11_image 42 = .ok (.iaload, 1) := by decide +kernel
theorem dX11_image_43 : decode cX11_image 43 = .ok (.iastore, 1) := by decide +kernel
theorem dX11_image_44 : decode cX11_image 44 = .ok (.iinc 2 1, 3) := by decide +kernel
theorem dX11_image_47 : decode cX11_image 47 = .ok (.goto (-28), 3) := by decide +kernel
theorem dX11_image_50 : decode cX11_image 50 = .ok (.aload_n 0, 1) := by decide +kernel
theorem dX11_image_51 : decode cX11_image 51 = .ok (.getfield 16, 3) := by decide +kernel
theorem dX11_image_54 : decode cX11_image 54 = .ok (.iload_n 1, 1) := by decide +kernel
theorem dX11_image_55 : decode cX11_image 55 = .ok (.iconst 1, 1) := by decide +kernel
theorem dX11_image_56 : decode cX11_image 56 = .ok (.bastore, 1) := by decide +kernel
theorem dX11_image_57 : decode cX11_image 57 = .ok (.iconst 1, 1) := by decide +kernel
theorem dX11_image_58 : decode cX11_image 58 = .ok (.ireturn, 1) := by decide +kernel
set_option maxRecDepth 20000 in
theorem ggX11_from_X11_in : GoodIn wsX11_from wsX11_in := goodIn_r _ [7] (by decide +kernel) (by decide +kernel)
set_option maxRecDepth 20000 in
theorem gX11_from_X11_in : GoodIn wsX11_from (va_wsS RX11 56 yX11_in wsX11_in) := goodIn_app (goodIn_of _ (by decide +kernel)) ggX11_from_X11_in
set_option maxRecDepth 20000 in
theorem ggX11_from_X11_bad : GoodIn wsX11_from wsX11_bad := goodIn_r _ [11, 12, 17, 18, 19, 20, 21, 22, 23, 24, 25, 26, 27, 28, 29, 30, 31, 32, 33, 34] (by decide +kernel) (by decide +kernel)
set_option maxRecDepth 20000 in
theorem gX11_from_X11_bad : GoodIn wsX11_from (wsV RX11 73 RX11 yX11_bad wsX11_bad) := goodIn_app (goodIn_of _ (by decide +kernel)) ggX11_from_X11_bad
set_option maxRecDepth 20000 in
theorem ggX11_from_X11_no : GoodIn wsX11_from wsX11_no := goodIn_r _ [16, 12, 17, 18, 19, 20, 21, 22, 23, 24, 25, 26, 27, 28, 29, 30, 31, 32, 33, 34] (by decide +kernel) (by decide +kernel)
set_option maxRecDepth 20000 in
theorem gX11_from_X11_no : GoodIn wsX11_from (wsV RX11 119 RX11 yX11_no wsX11_no) := goodIn_app (goodIn_of _ (by decide +kernel)) ggX11_from_X11_no
theorem dX11_from_0 : decode cX11_from 0 = .ok (.iload_n 1, 1) := by decide +kernel
theorem dX11_from_1 : decode cX11_from 1 = .ok (.i2l, 1) := by decide +kernel
theorem dX11_from_2 : decode cX11_from 2 = .ok (.lconst 0, 1) := by decide +kernel
theorem dX11_from_3 : decode cX11_from 3 = .ok (.lconst 1, 1) := by decide +kernel
theorem dX11_from_4 : decode cX11_from 4 = .ok (.invokestatic 56, 3) := by decide +kernel
theorem dX11_from_7 : decode cX11_from 7 = .ok (.ifCond .ne 10, 3) := by decide +kernel
theorem dX11_from_10 : decode cX11_from 10 = .ok (.aload_n 0, 1) := by decide +kernel
theorem dX11_from_11 : decode cX11_from 11 = .ok (.bipush (-2), 2) := by decide +kernel
theorem dX11_from_13 : decode cX11_from 13 = .ok (.invokevirtual 73, 3) := by decide +kernel
theorem dX11_from_16 : decode cX11_from 16 = .ok (.ireturn, 1) := by decide +kernel
theorem dX11_from_17 : decode cX11_from 17 = .ok (.aload_n 0, 1) := by decide +kernel
theorem dX11_from_18 : decode cX11_from 18 = .ok (.getfield 16, 3) := by decide +kernel
theorem dX11_from_21 : decode cX11_from 21 = .ok (.iload_n 1, 1) := by decide +kernel
theorem dX11_from_22 : decode cX11_from 22 = .ok (.baload, 1) := by decide +kernel
theorem dX11_from_23 : decode cX11_from 23 = .ok (.ifCond .ne 8, 3) := by decide +kernel
theorem dX11_from_26 : decode cX11_from 26 = .ok (.aload_n 0, 1) := by decide +kernel
theorem dX11_from_27 : decode cX11_from 27 = .ok (.invokevirtual 119, 3) := by decide +kernel
theorem dX11_from_30 : decode cX11_from 30 = .ok (.ireturn, 1) := by decide +kernel
set_option maxRecDepth 20000 in
theorem ggX11_status_X11_in : GoodIn wsX11_status wsX11_in := goodIn_r _ [6] (by decide +kernel) (by decide +kernel)
set_option maxRecDepth 20000 in
theorem gX11_status_X11_in : GoodIn wsX11_status (va_wsS RX11 56 yX11_in wsX11_in) := goodIn_app (goodIn_of _ (by decide +kernel)) ggX11_status_X11_in
set_option maxRecDepth 20000 in
theorem ggX11_status_X11_bad : GoodIn wsX11_status wsX11_bad := goodIn_r _ [10, 2, 11, 12, 13, 14, 15, 16, 17, 18, 19, 20, 21, 22, 23, 24, 25, 26, 27, 28] (by decide +kernel) (by decide +kernel)
set_option maxRecDepth 20000 in
theorem gX11_status_X11_bad : GoodIn wsX11_status (wsV RX11 73 RX11 yX11_bad wsX11_bad) := goodIn_app (goodIn_of _ (by decide +kernel)) ggX11_status_X11_bad
theorem dX11_status_0 : decode cX11_status 0 = .ok (.iload_n 1, 1) := by decide +kernel
theorem dX11_status_1 : decode cX11_status 1 = .ok (.i2l, 1) := by decide +kernel
theorem dX11_status_2 : decode cX11_status 2 = .ok (.lconst 0, 1) := by decide +kernel
theorem dX11_status_3 : decode cX11_status 3 = .ok (.ldc2_w 136, 3) := by decide +kernel
theorem dX11_status_6 : decode cX11_status 6 = .ok (.invokestatic 56, 3) := by decide +kernel
theorem dX11_status_9 : decode cX11_status 9 = .ok (.ifCond .eq 12, 3) := by decide +kernel
theorem dX11_status_12 : decode cX11_status 12 = .ok (.aload_n 0, 1) := by decide +kernel
theorem dX11_status_13 : decode cX11_status 13 = .ok (.getfield 20, 3) := by decide +kernel
theorem dX11_status_16 : decode cX11_status 16 = .ok (.iload_n 1, 1) := by decide +kernel
theorem dX11_status_17 : decode cX11_status 17 = .ok (.iaload, 1) := by decide +kernel
theorem dX11_status_18 : decode cX11_status 18 = .ok (.goto 8, 3) := by decide +kernel
theorem dX11_status_21 : decode cX11_status 21 = .ok (.aload_n 0, 1) := by decide +kernel
theorem dX11_status_22 : decode cX11_status 22 = .ok (.iconst (-1), 1) := by decide +kernel
theorem dX11_status_23 : decode cX11_status 23 = .ok (.invokevirtual 73, 3) := by decide +kernel
theorem dX11_status_26 : decode cX11_status 26 = .ok (.ireturn, 1) := by decide +kernel
set_option maxRecDepth 20000 in
theorem ggX11_counted_X11_many : GoodIn wsX11_counted wsX11_many := goodIn_r _ [7, 1, 12, 13, 14, 15, 16, 17, 18, 19, 20, 21, 22, 23, 24, 25, 26, 27, 28, 29] (by decide +kernel) (by decide +kernel)
set_option maxRecDepth 20000 in
theorem gX11_counted_X11_many : GoodIn wsX11_counted (wsV RX11 52 RX11 yX11_many wsX11_many) := goodIn_app (goodIn_of _ (by decide +kernel)) ggX11_counted_X11_many
set_option maxRecDepth 20000 in
theorem ggX11_counted_X11_manyGleaners : GoodIn wsX11_counted wsX11_manyGleaners := goodIn_r _ [11, 1, 12, 13, 14, 15, 16, 17, 18, 19, 20, 21, 22, 23, 24, 25, 26, 27, 28, 29] (by decide +kernel) (by decide +kernel)
set_option maxRecDepth 20000 in
theorem gX11_counted_X11_manyGleaners : GoodIn wsX11_counted (wsV RX11 60 RX11 yX11_manyGleaners wsX11_manyGleaners) := goodIn_app (goodIn_of _ (by decide +kernel)) ggX11_counted_X11_manyGleaners
theorem dX11_counted_0 : decode cX11_counted 0 = .ok (.iload_n 1, 1) := by decide +kernel
theorem dX11_counted_1 : decode cX11_counted 1 = .ok (.tableswitch 102 0 7 #[47, 52, 57, 65, 73, 81, 88, 95], 47) := by decide +kernel
theorem dX11_counted_48 : decode cX11_counted 48 = .ok (.aload_n 0, 1) := by decide +kernel
theorem dX11_counted_49 : decode cX11_counted 49 = .ok (.invokevirtual 52, 3) := by decide +kernel
theorem dX11_counted_52 : decode cX11_counted 52 = .ok (.ireturn, 1) := by decide +kernel
theorem dX11_counted_53 : decode cX11_counted 53 = .ok (.aload_n 0, 1) := by decide +kernel
theorem dX11_counted_54 : decode cX11_counted 54 = .ok (.invokevirtual 60, 3) := by decide +kernel
theorem dX11_counted_57 : decode cX11_counted 57 = .ok (.ireturn, 1) := by decide +kernel
theorem dX11_counted_58 : decode cX11_counted 58 = .ok (.aload_n 0, 1) := by decide +kernel
theorem dX11_counted_59 : decode cX11_counted 59 = .ok (.getfield 7, 3) := by decide +kernel
theorem dX11_counted_62 : decode cX11_counted 62 = .ok (.bipush 21, 2) := by decide +kernel
theorem dX11_counted_64 : decode cX11_counted 64 = .ok (.iaload, 1) := by decide +kernel
theorem dX11_counted_65 : decode cX11_counted 65 = .ok (.ireturn, 1) := by decide +kernel
theorem dX11_counted_66 : decode cX11_counted 66 = .ok (.aload_n 0, 1) := by decide +kernel
theorem dX11_counted_67 : decode cX11_counted 67 = .ok (.getfield 7, 3) := by decide +kernel
theorem dX11_counted_70 : decode cX11_counted 70 = .ok (.bipush 22, 2) := by decide +kernel
theorem dX11_counted_72 : decode cX11_counted 72 = .ok (.iaload, 1) := by decide +kernel
theorem dX11_counted_73 : decode cX11_counted 73 = .ok (.ireturn, 1) := by decide +kernel
theorem dX11_counted_74 : decode cX11_counted 74 = .ok (.aload_n 0, 1) := by decide +kernel
theorem dX11_counted_75 : decode cX11_counted 75 = .ok (.getfield 7, 3) := by decide +kernel
theorem dX11_counted_78 : decode cX11_counted 78 = .ok (.bipush 23, 2) := by decide +kernel
theorem dX11_counted_80 : decode cX11_counted 80 = .ok (.iaload, 1) := by decide +kernel
theorem dX11_counted_81 : decode cX11_counted 81 = .ok (.ireturn, 1) := by decide +kernel
theorem dX11_counted_82 : decode cX11_counted 82 = .ok (.aload_n 0, 1) := by decide +kernel
theorem dX11_counted_83 : decode cX11_counted 83 = .ok (.getfield 7, 3) := by decide +kernel
theorem dX11_counted_86 : decode cX11_counted 86 = .ok (.iconst 2, 1) := by decide +kernel
theorem dX11_counted_87 : decode cX11_counted 87 = .ok (.iaload, 1) := by decide +kernel
theorem dX11_counted_88 : decode cX11_counted 88 = .ok (.ireturn, 1) := by decide +kernel
theorem dX11_counted_89 : decode cX11_counted 89 = .ok (.aload_n 0, 1) := by decide +kernel
theorem dX11_counted_90 : decode cX11_counted 90 = .ok (.getfield 7, 3) := by decide +kernel
theorem dX11_counted_93 : decode cX11_counted 93 = .ok (.iconst 3, 1) := by decide +kernel
theorem dX11_counted_94 : decode cX11_counted 94 = .ok (.iaload, 1) := by decide +kernel
theorem dX11_counted_95 : decode cX11_counted 95 = .ok (.ireturn, 1) := by decide +kernel
theorem dX11_counted_96 : decode cX11_counted 96 = .ok (.aload_n 0, 1) := by decide +kernel
theorem dX11_counted_97 : decode cX11_counted 97 = .ok (.getfield 7, 3) := by decide +kernel
theorem dX11_counted_100 : decode cX11_counted 100 = .ok (.iconst 4, 1) := by decide +kernel
theorem dX11_counted_101 : decode cX11_counted 101 = .ok (.iaload, 1) := by decide +kernel
theorem dX11_counted_102 : decode cX11_counted 102 = .ok (.ireturn, 1) := by decide +kernel
theorem dX11_counted_103 : decode cX11_counted 103 = .ok (.aload_n 0, 1) := by decide +kernel
theorem dX11_counted_104 : decode cX11_counted 104 = .ok (.getfield 210, 3) := by decide +kernel
theorem dX11_counted_107 : decode cX11_counted 107 = .ok (.ireturn, 1) := by decide +kernel
set_option maxRecDepth 20000 in
theorem ggX11_count_X11_in : GoodIn wsX11_count wsX11_in := goodIn_r _ [5] (by decide +kernel) (by decide +kernel)
set_option maxRecDepth 20000 in
theorem gX11_count_X11_in : GoodIn wsX11_count (va_wsS RX11 56 yX11_in wsX11_in) := goodIn_app (goodIn_of _ (by decide +kernel)) ggX11_count_X11_in
set_option maxRecDepth 20000 in
theorem ggX11_count_X11_counted : GoodIn wsX11_count wsX11_counted := goodIn_r _ [9, 10, 11, 12, 13, 14, 4, 15, 16, 17, 18, 19, 25, 26, 27, 28, 29, 30, 31, 32, 33, 34, 35, 36, 37, 38, 39, 40, 41, 42] (by decide +kernel) (by decide +kernel)
set_option maxRecDepth 20000 in
theorem gX11_count_X11_counted : GoodIn wsX11_count (wsV RX11 276 RX11 yX11_counted wsX11_counted) := goodIn_app (goodIn_of _ (by decide +kernel)) ggX11_count_X11_counted
set_option maxRecDepth 20000 in
theorem ggX11_count_X11_bad : GoodIn wsX11_count wsX11_bad := goodIn_r _ [23, 24, 25, 26, 27, 28, 29, 30, 31, 32, 33, 34, 35, 36, 37, 38, 39, 40, 41, 42] (by decide +kernel) (by decide +kernel)
set_option maxRecDepth 20000 in
theorem gX11_count_X11_bad : GoodIn wsX11_count (wsV RX11 73 RX11 yX11_bad wsX11_bad) := goodIn_app (goodIn_of _ (by decide +kernel)) ggX11_count_X11_bad
theorem dX11_count_0 : decode cX11_count 0 = .ok (.iload_n 1, 1) := by decide +kernel
theorem dX11_count_1 : decode cX11_count 1 = .ok (.i2l, 1) := by decide +kernel
theorem dX11_count_2 : decode cX11_count 2 = .ok (.lconst 0, 1) := by decide +kernel
theorem dX11_count_3 : decode cX11_count 3 = .ok (.ldc2_w 274, 3) := by decide +kernel
theorem dX11_count_6 : decode cX11_count 6 = .ok (.invokestatic 56, 3) := by decide +kernel
theorem dX11_count_9 : decode cX11_count 9 = .ok (.ifCond .eq 11, 3) := by decide +kernel
theorem dX11_count_12 : decode cX11_count 12 = .ok (.aload_n 0, 1) := by decide +kernel
theorem dX11_count_13 : decode cX11_count 13 = .ok (.iload_n 1, 1) := by decide +kernel
theorem dX11_count_14 : decode cX11_count 14 = .ok (.invokevirtual 276, 3) := by decide +kernel
theorem dX11_count_17 : decode cX11_count 17 = .ok (.goto 9, 3) := by decide +kernel
theorem dX11_count_20 : decode cX11_count 20 = .ok (.aload_n 0, 1) := by decide +kernel
theorem dX11_count_21 : decode cX11_count 21 = .ok (.bipush (-2), 2) := by decide +kernel
theorem dX11_count_23 : decode cX11_count 23 = .ok (.invokevirtual 73, 3) := by decide +kernel
theorem dX11_count_26 : decode cX11_count 26 = .ok (.ireturn, 1) := by decide +kernel
theorem dX11_sums_0 : decode cX11_sums 0 = .ok (.lload_n 1, 1) := by decide +kernel
theorem dX11_sums_1 : decode cX11_sums 1 = .ok (.lstore 5, 2) := by decide +kernel
theorem dX11_sums_3 : decode cX11_sums 3 = .ok (.iconst 0, 1) := by decide +kernel
theorem dX11_sums_4 : decode cX11_sums 4 = .ok (.istore 7, 2) := by decide +kernel
theorem dX11_sums_6 : decode cX11_sums 6 = .ok (.iload 7, 2) := by decide +kernel
theorem dX11_sums_8 : decode cX11_sums 8 = .ok (.iload 4, 2) := by decide +kernel
theorem dX11_sums_10 : decode cX11_sums 10 = .ok (.if_icmp .ge 28, 3) := by decide +kernel
theorem dX11_sums_38 : decode cX11_sums 38 = .ok (.lload 5, 2) := by decide +kernel
theorem dX11_sums_40 : decode cX11_sums 40 = .ok (.lreturn, 1) := by decide +kernel
set_option maxRecDepth 20000 in
theorem ggX11_digest_X11_counted : GoodIn wsX11_digest wsX11_counted := goodIn_r _ [10, 3, 11, 12, 13, 14, 9, 15, 16, 17, 18, 19, 24, 25, 26, 27, 28, 29, 30, 31, 32, 33, 34, 35, 36, 37, 38, 39, 40, 41] (by decide +kernel) (by decide +kernel)
set_option maxRecDepth 20000 in
theorem gX11_digest_X11_counted : GoodIn wsX11_digest (wsV RX11 276 RX11 yX11_counted wsX11_counted) := goodIn_app (goodIn_of _ (by decide +kernel)) ggX11_digest_X11_counted
set_option maxRecDepth 20000 in
theorem ggX11_digest_X11_many : GoodIn wsX11_digest wsX11_many := goodIn_r _ [15, 3, 24, 25, 26, 27, 28, 29, 30, 31, 32, 33, 34, 35, 36, 37, 38, 39, 40, 41] (by decide +kernel) (by decide +kernel)
set_option maxRecDepth 20000 in
theorem gX11_digest_X11_many : GoodIn wsX11_digest (wsV RX11 52 RX11 yX11_many wsX11_many) := goodIn_app (goodIn_of _ (by decide +kernel)) ggX11_digest_X11_many
set_option maxRecDepth 20000 in
theorem ggX11_digest_X11_manyGleaners : GoodIn wsX11_digest wsX11_manyGleaners := goodIn_r _ [19, 3, 24, 25, 26, 27, 28, 29, 30, 31, 32, 33, 34, 35, 36, 37, 38, 39, 40, 41] (by decide +kernel) (by decide +kernel)
set_option maxRecDepth 20000 in
theorem gX11_digest_X11_manyGleaners : GoodIn wsX11_digest (wsV RX11 60 RX11 yX11_manyGleaners wsX11_manyGleaners) := goodIn_app (goodIn_of _ (by decide +kernel)) ggX11_digest_X11_manyGleaners
set_option maxRecDepth 20000 in
theorem ggX11_digest_X11_sums : GoodIn wsX11_digest wsX11_sums := goodIn_r _ [23, 2, 3, 24, 25, 26, 27, 28, 29, 30, 31, 32, 33, 34, 35, 36, 37, 38, 39, 40, 41] (by decide +kernel) (by decide +kernel)
set_option maxRecDepth 20000 in
theorem gX11_digest_X11_sums : GoodIn wsX11_digest (wsV RX11 283 RX11 yX11_sums wsX11_sums) := goodIn_app (goodIn_of _ (by decide +kernel)) ggX11_digest_X11_sums
theorem dX11_digest_0 : decode cX11_digest 0 = .ok (.ldc2_w 281, 3) := by decide +kernel
theorem dX11_digest_3 : decode cX11_digest 3 = .ok (.lstore_n 1, 1) := by decide +kernel
theorem dX11_digest_4 : decode cX11_digest 4 = .ok (.iconst 0, 1) := by decide +kernel
theorem dX11_digest_5 : decode cX11_digest 5 = .ok (.istore_n 3, 1) := by decide +kernel
theorem dX11_digest_6 : decode cX11_digest 6 = .ok (.iload_n 3, 1) := by decide +kernel
theorem dX11_digest_7 : decode cX11_digest 7 = .ok (.bipush 9, 2) := by decide +kernel
theorem dX11_digest_9 : decode cX11_digest 9 = .ok (.if_icmp .ge 22, 3) := by decide +kernel
theorem dX11_digest_12 : decode cX11_digest 12 = .ok (.ldc2_w 279, 3) := by decide +kernel
theorem dX11_digest_15 : decode cX11_digest 15 = .ok (.lload_n 1, 1) := by decide +kernel
theorem dX11_digest_16 : decode cX11_digest 16 = .ok (.lmul, 1) := by decide +kernel
theorem dX11_digest_17 : decode cX11_digest 17 = .ok (.aload_n 0, 1) := by decide +kernel
theorem dX11_digest_18 : decode cX11_digest 18 = .ok (.iload_n 3, 1) := by decide +kernel
theorem dX11_digest_19 : decode cX11_digest 19 = .ok (.invokevirtual 276, 3) := by decide +kernel
theorem dX11_digest_22 : decode cX11_digest 22 = .ok (.i2l, 1) := by decide +kernel
theorem dX11_digest_23 : decode cX11_digest 23 = .ok (.ladd, 1) := by decide +kernel
theorem dX11_digest_24 : decode cX11_digest 24 = .ok (.lstore_n 1, 1) := by decide +kernel
theorem dX11_digest_25 : decode cX11_digest 25 = .ok (.iinc 3 1, 3) := by decide +kernel
theorem dX11_digest_28 : decode cX11_digest 28 = .ok (.goto (-22), 3) := by decide +kernel
theorem dX11_digest_31 : decode cX11_digest 31 = .ok (.iconst 0, 1) := by decide +kernel
theorem dX11_digest_32 : decode cX11_digest 32 = .ok (.istore_n 3, 1) := by decide +kernel
theorem dX11_digest_33 : decode cX11_digest 33 = .ok (.iload_n 3, 1) := by decide +kernel
theorem dX11_digest_34 : decode cX11_digest 34 = .ok (.aload_n 0, 1) := by decide +kernel
theorem dX11_digest_35 : decode cX11_digest 35 = .ok (.invokevirtual 52, 3) := by decide +kernel
theorem dX11_digest_38 : decode cX11_digest 38 = .ok (.if_icmp .ge 40, 3) := by decide +kernel
theorem dX11_digest_78 : decode cX11_digest 78 = .ok (.iconst 0, 1) := by decide +kernel
theorem dX11_digest_79 : decode cX11_digest 79 = .ok (.istore_n 3, 1) := by decide +kernel
theorem dX11_digest_80 : decode cX11_digest 80 = .ok (.iload_n 3, 1) := by decide +kernel
theorem dX11_digest_81 : decode cX11_digest 81 = .ok (.aload_n 0, 1) := by decide +kernel
theorem dX11_digest_82 : decode cX11_digest 82 = .ok (.invokevirtual 60, 3) := by decide +kernel
theorem dX11_digest_85 : decode cX11_digest 85 = .ok (.if_icmp .ge 41, 3) := by decide +kernel
theorem dX11_digest_126 : decode cX11_digest 126 = .ok (.aload_n 0, 1) := by decide +kernel
theorem dX11_digest_127 : decode cX11_digest 127 = .ok (.lload_n 1, 1) := by decide +kernel
theorem dX11_digest_128 : decode cX11_digest 128 = .ok (.bipush 30, 2) := by decide +kernel
theorem dX11_digest_130 : decode cX11_digest 130 = .ok (.iconst 4, 1) := by decide +kernel
theorem dX11_digest_131 : decode cX11_digest 131 = .ok (.aload_n 0, 1) := by decide +kernel
theorem dX11_digest_132 : decode cX11_digest 132 = .ok (.getfield 7, 3) := by decide +kernel
theorem dX11_digest_135 : decode cX11_digest 135 = .ok (.iconst 2, 1) := by decide +kernel
theorem dX11_digest_136 : decode cX11_digest 136 = .ok (.iaload, 1) := by decide +kernel
theorem dX11_digest_137 : decode cX11_digest 137 = .ok (.imul, 1) := by decide +kernel
theorem dX11_digest_138 : decode cX11_digest 138 = .ok (.invokevirtual 283, 3) := by decide +kernel
theorem dX11_digest_141 : decode cX11_digest 141 = .ok (.lstore_n 1, 1) := by decide +kernel
theorem dX11_digest_142 : decode cX11_digest 142 = .ok (.aload_n 0, 1) := by decide +kernel
theorem dX11_digest_143 : decode cX11_digest 143 = .ok (.lload_n 1, 1) := by decide +kernel
theorem dX11_digest_144 : decode cX11_digest 144 = .ok (.bipush 46, 2) := by decide +kernel
theorem dX11_digest_146 : decode cX11_digest 146 = .ok (.iconst 5, 1) := by decide +kernel
theorem dX11_digest_147 : decode cX11_digest 147 = .ok (.aload_n 0, 1) := by decide +kernel
theorem dX11_digest_148 : decode cX11_digest 148 = .ok (.getfield 7, 3) := by decide +kernel
theorem dX11_digest_151 : decode cX11_digest 151 = .ok (.iconst 3, 1) := by decide +kernel
theorem dX11_digest_152 : decode cX11_digest 152 = .ok (.iaload, 1) := by decide +kernel
theorem dX11_digest_153 : decode cX11_digest 153 = .ok (.imul, 1) := by decide +kernel
theorem dX11_digest_154 : decode cX11_digest 154 = .ok (.invokevirtual 283, 3) := by decide +kernel
theorem dX11_digest_157 : decode cX11_digest 157 = .ok (.lstore_n 1, 1) := by decide +kernel
theorem dX11_digest_158 : decode cX11_digest 158 = .ok (.ldc2_w 279, 3) := by decide +kernel
theorem dX11_digest_161 : decode cX11_digest 161 = .ok (.ldc2_w 279, 3) := by decide +kernel
theorem dX11_digest_164 : decode cX11_digest 164 = .ok (.lload_n 1, 1) := by decide +kernel
theorem dX11_digest_165 : decode cX11_digest 165 = .ok (.lmul, 1) := by decide +kernel
theorem dX11_digest_166 : decode cX11_digest 166 = .ok (.aload_n 0, 1) := by decide +kernel
theorem dX11_digest_167 : decode cX11_digest 167 = .ok (.getfield 189, 3) := by decide +kernel
theorem dX11_digest_170 : decode cX11_digest 170 = .ok (.ladd, 1) := by decide +kernel
theorem dX11_digest_171 : decode cX11_digest 171 = .ok (.lmul, 1) := by decide +kernel
theorem dX11_digest_172 : decode cX11_digest 172 = .ok (.aload_n 0, 1) := by decide +kernel
theorem dX11_digest_173 : decode cX11_digest 173 = .ok (.getfield 23, 3) := by decide +kernel
theorem dX11_digest_176 : decode cX11_digest 176 = .ok (.ladd, 1) := by decide +kernel
theorem dX11_digest_177 : decode cX11_digest 177 = .ok (.lreturn, 1) := by decide +kernel
theorem dL_law_0 : decode cL_law 0 = .ok (.new 7, 3) := by decide +kernel
theorem dL_law_3 : decode cL_law 3 = .ok (.dup, 1) := by decide +kernel
theorem dL_law_4 : decode cL_law 4 = .ok (.invokespecial 9, 3) := by decide +kernel
theorem dL_law_7 : decode cL_law 7 = .ok (.astore_n 1, 1) := by decide +kernel
theorem dL_law_8 : decode cL_law 8 = .ok (.new 10, 3) := by decide +kernel
theorem dL_law_11 : decode cL_law 11 = .ok (.dup, 1) := by decide +kernel
theorem dL_law_12 : decode cL_law 12 = .ok (.invokespecial 12, 3) := by decide +kernel
theorem dL_law_15 : decode cL_law 15 = .ok (.astore_n 2, 1) := by decide +kernel
theorem dL_law_16 : decode cL_law 16 = .ok (.iconst 0, 1) := by decide +kernel
theorem dL_law_17 : decode cL_law 17 = .ok (.istore_n 3, 1) := by decide +kernel
theorem dL_law_18 : decode cL_law 18 = .ok (.iload_n 3, 1) := by decide +kernel
theorem dL_law_19 : decode cL_law 19 = .ok (.aload_n 0, 1) := by decide +kernel
theorem dL_law_20 : decode cL_law 20 = .ok (.arraylength, 1) := by decide +kernel
theorem dL_law_21 : decode cL_law 21 = .ok (.bipush 6, 2) := by decide +kernel
theorem dL_law_23 : decode cL_law 23 = .ok (.isub, 1) := by decide +kernel
theorem dL_law_24 : decode cL_law 24 = .ok (.if_icmp .gt 1127, 3) := by decide +kernel
theorem dL_law_27 : decode cL_law 27 = .ok (.aload_n 0, 1) := by decide +kernel
theorem dL_law_28 : decode cL_law 28 = .ok (.iload_n 3, 1) := by decide +kernel
theorem dL_law_29 : decode cL_law 29 = .ok (.iaload, 1) := by decide +kernel
theorem dL_law_30 : decode cL_law 30 = .ok (.bipush 63, 2) := by decide +kernel
theorem dL_law_32 : decode cL_law 32 = .ok (.iand, 1) := by decide +kernel
theorem dL_law_33 : decode cL_law 33 = .ok (.tableswitch 1112 0 34 #[155, 178, 211, 234, 257, 270, 283, 306, 319, 352, 375, 388, 421, 454, 487, 520, 563, 596, 619, 652, 675, 728, 741, 804, 827, 850, 873, 916, 949, 982, 1006, 1029, 1052, 1075, 1098], 155) := by decide +kernel
theorem dL_law_188 : decode cL_law 188 = .ok (.aload_n 1, 1) := by decide +kernel
theorem dL_law_189 : decode cL_law 189 = .ok (.aload_n 0, 1) := by decide +kernel
theorem dL_law_190 : decode cL_law 190 = .ok (.iload_n 3, 1) := by decide +kernel
theorem dL_law_191 : decode cL_law 191 = .ok (.iconst 1, 1) := by decide +kernel
theorem dL_law_192 : decode cL_law 192 = .ok (.iadd, 1) := by decide +kernel
theorem dL_law_193 : decode cL_law 193 = .ok (.iaload, 1) := by decide +kernel
theorem dL_law_194 : decode cL_law 194 = .ok (.invokevirtual 13, 3) := by decide +kernel
theorem dL_law_197 : decode cL_law 197 = .ok (.aload_n 2, 1) := by decide +kernel
theorem dL_law_198 : decode cL_law 198 = .ok (.aload_n 0, 1) := by decide +kernel
theorem dL_law_199 : decode cL_law 199 = .ok (.iload_n 3, 1) := by decide +kernel
theorem dL_law_200 : decode cL_law 200 = .ok (.iconst 1, 1) := by decide +kernel
theorem dL_law_201 : decode cL_law 201 = .ok (.iadd, 1) := by decide +kernel
theorem dL_law_202 : decode cL_law 202 = .ok (.iaload, 1) := by decide +kernel
theorem dL_law_203 : decode cL_law 203 = .ok (.invokevirtual 17, 3) := by decide +kernel
theorem dL_law_206 : decode cL_law 206 = .ok (.if_icmp .eq 939, 3) := by decide +kernel
theorem dL_law_211 : decode cL_law 211 = .ok (.aload_n 1, 1) := by decide +kernel
theorem dL_law_212 : decode cL_law 212 = .ok (.aload_n 0, 1) := by decide +kernel
theorem dL_law_213 : decode cL_law 213 = .ok (.iload_n 3, 1) := by decide +kernel
theorem dL_law_214 : decode cL_law 214 = .ok (.iconst 1, 1) := by decide +kernel
theorem dL_law_215 : decode cL_law 215 = .ok (.iadd, 1) := by decide +kernel
theorem dL_law_216 : decode cL_law 216 = .ok (.iaload, 1) := by decide +kernel
theorem dL_law_217 : decode cL_law 217 = .ok (.aload_n 0, 1) := by decide +kernel
theorem dL_law_218 : decode cL_law 218 = .ok (.iload_n 3, 1) := by decide +kernel
theorem dL_law_219 : decode cL_law 219 = .ok (.iconst 2, 1) := by decide +kernel
theorem dL_law_220 : decode cL_law 220 = .ok (.iadd, 1) := by decide +kernel
theorem dL_law_221 : decode cL_law 221 = .ok (.iaload, 1) := by decide +kernel
theorem dL_law_222 : decode cL_law 222 = .ok (.invokevirtual 18, 3) := by decide +kernel
theorem dL_law_225 : decode cL_law 225 = .ok (.aload_n 2, 1) := by decide +kernel
theorem dL_law_226 : decode cL_law 226 = .ok (.aload_n 0, 1) := by decide +kernel
theorem dL_law_227 : decode cL_law 227 = .ok (.iload_n 3, 1) := by decide +kernel
theorem dL_law_228 : decode cL_law 228 = .ok (.iconst 1, 1) := by decide +kernel
theorem dL_law_229 : decode cL_law 229 = .ok (.iadd, 1) := by decide +kernel
theorem dL_law_230 : decode cL_law 230 = .ok (.iaload, 1) := by decide +kernel
theorem dL_law_231 : decode cL_law 231 = .ok (.aload_n 0, 1) := by decide +kernel
theorem dL_law_232 : decode cL_law 232 = .ok (.iload_n 3, 1) := by decide +kernel
theorem dL_law_233 : decode cL_law 233 = .ok (.iconst 2, 1) := by decide +kernel
theorem dL_law_234 : decode cL_law 234 = .ok (.iadd, 1) := by decide +kernel
theorem dL_law_235 : decode cL_law 235 = .ok (.iaload, 1) := by decide +kernel
theorem dL_law_236 : decode cL_law 236 = .ok (.invokevirtual 22, 3) := by decide +kernel
theorem dL_law_239 : decode cL_law 239 = .ok (.if_icmp .eq 906, 3) := by decide +kernel
theorem dL_law_244 : decode cL_law 244 = .ok (.aload_n 1, 1) := by decide +kernel
theorem dL_law_245 : decode cL_law 245 = .ok (.aload_n 0, 1) := by decide +kernel
theorem dL_law_246 : decode cL_law 246 = .ok (.iload_n 3, 1) := by decide +kernel
theorem dL_law_247 : decode cL_law 247 = .ok (.iconst 1, 1) := by decide +kernel
theorem dL_law_248 : decode cL_law 248 = .ok (.iadd, 1) := by decide +kernel
theorem dL_law_249 : decode cL_law 249 = .ok (.iaload, 1) := by decide +kernel
theorem dL_law_250 : decode cL_law 250 = .ok (.invokevirtual 23, 3) := by decide +kernel
theorem dL_law_253 : decode cL_law 253 = .ok (.aload_n 2, 1) := by decide +kernel
theorem dL_law_254 : decode cL_law 254 = .ok (.aload_n 0, 1) := by decide +kernel
theorem dL_law_255 : decode cL_law 255 = .ok (.iload_n 3, 1) := by decide +kernel
theorem dL_law_256 : decode cL_law 256 = .ok (.iconst 1, 1) := by decide +kernel
theorem dL_law_257 : decode cL_law 257 = .ok (.iadd, 1) := by decide +kernel
theorem dL_law_258 : decode cL_law 258 = .ok (.iaload, 1) := by decide +kernel
theorem dL_law_259 : decode cL_law 259 = .ok (.invokevirtual 26, 3) := by decide +kernel
theorem dL_law_262 : decode cL_law 262 = .ok (.if_icmp .eq 883, 3) := by decide +kernel
theorem dL_law_267 : decode cL_law 267 = .ok (.aload_n 1, 1) := by decide +kernel
theorem dL_law_268 : decode cL_law 268 = .ok (.aload_n 0, 1) := by decide +kernel
theorem dL_law_269 : decode cL_law 269 = .ok (.iload_n 3, 1) := by decide +kernel
theorem dL_law_270 : decode cL_law 270 = .ok (.iconst 1, 1) := by decide +kernel
theorem dL_law_271 : decode cL_law 271 = .ok (.iadd, 1) := by decide +kernel
theorem dL_law_272 : decode cL_law 272 = .ok (.iaload, 1) := by decide +kernel
theorem dL_law_273 : decode cL_law 273 = .ok (.invokevirtual 27, 3) := by decide +kernel
theorem dL_law_276 : decode cL_law 276 = .ok (.aload_n 2, 1) := by decide +kernel
theorem dL_law_277 : decode cL_law 277 = .ok (.aload_n 0, 1) := by decide +kernel
theorem dL_law_278 : decode cL_law 278 = .ok (.iload_n 3, 1) := by decide +kernel
theorem dL_law_279 : decode cL_law 279 = .ok (.iconst 1, 1) := by decide +kernel
theorem dL_law_280 : decode cL_law 280 = .ok (.iadd, 1) := by decide +kernel
theorem dL_law_281 : decode cL_law 281 = .ok (.iaload, 1) := by decide +kernel
theorem dL_law_282 : decode cL_law 282 = .ok (.invokevirtual 30, 3) := by decide +kernel
theorem dL_law_285 : decode cL_law 285 = .ok (.if_icmp .eq 860, 3) := by decide +kernel
theorem dL_law_290 : decode cL_law 290 = .ok (.aload_n 1, 1) := by decide +kernel
theorem dL_law_291 : decode cL_law 291 = .ok (.invokevirtual 31, 3) := by decide +kernel
theorem dL_law_294 : decode cL_law 294 = .ok (.aload_n 2, 1) := by decide +kernel
theorem dL_law_295 : decode cL_law 295 = .ok (.invokevirtual 35, 3) := by decide +kernel
theorem dL_law_298 : decode cL_law 298 = .ok (.if_icmp .eq 847, 3) := by decide +kernel
theorem dL_law_303 : decode cL_law 303 = .ok (.aload_n 1, 1) := by decide +kernel
theorem dL_law_304 : decode cL_law 304 = .ok (.invokevirtual 36, 3) := by decide +kernel
theorem dL_law_307 : decode cL_law 307 = .ok (.aload_n 2, 1) := by decide +kernel
theorem dL_law_308 : decode cL_law 308 = .ok (.invokevirtual 39, 3) := by decide +kernel
theorem dL_law_311 : decode cL_law 311 = .ok (.if_icmp .eq 834, 3) := by decide +kernel
theorem dL_law_316 : decode cL_law 316 = .ok (.aload_n 1, 1) := by decide +kernel
theorem dL_law_317 : decode cL_law 317 = .ok (.aload_n 0, 1) := by decide +kernel
theorem dL_law_318 : decode cL_law 318 = .ok (.iload_n 3, 1) := by decide +kernel
theorem dL_law_319 : decode cL_law 319 = .ok (.iconst 1, 1) := by decide +kernel
theorem dL_law_320 : decode cL_law 320 = .ok (.iadd, 1) := by decide +kernel
theorem dL_law_321 : decode cL_law 321 = .ok (.iaload, 1) := by decide +kernel
theorem dL_law_322 : decode cL_law 322 = .ok (.invokevirtual 40, 3) := by decide +kernel
theorem dL_law_325 : decode cL_law 325 = .ok (.aload_n 2, 1) := by decide +kernel
theorem dL_law_326 : decode cL_law 326 = .ok (.aload_n 0, 1) := by decide +kernel
theorem dL_law_327 : decode cL_law 327 = .ok (.iload_n 3, 1) := by decide +kernel
theorem dL_law_328 : decode cL_law 328 = .ok (.iconst 1, 1) := by decide +kernel
theorem dL_law_329 : decode cL_law 329 = .ok (.iadd, 1) := by decide +kernel
theorem dL_law_330 : decode cL_law 330 = .ok (.iaload, 1) := by decide +kernel
theorem dL_law_331 : decode cL_law 331 = .ok (.invokevirtual 43, 3) := by decide +kernel
theorem dL_law_334 : decode cL_law 334 = .ok (.if_icmp .eq 811, 3) := by decide +kernel
theorem dL_law_339 : decode cL_law 339 = .ok (.aload_n 1, 1) := by decide +kernel
theorem dL_law_340 : decode cL_law 340 = .ok (.invokevirtual 44, 3) := by decide +kernel
theorem dL_law_343 : decode cL_law 343 = .ok (.aload_n 2, 1) := by decide +kernel
theorem dL_law_344 : decode cL_law 344 = .ok (.invokevirtual 47, 3) := by decide +kernel
theorem dL_law_347 : decode cL_law 347 = .ok (.if_icmp .eq 798, 3) := by decide +kernel
theorem dL_law_352 : decode cL_law 352 = .ok (.aload_n 1, 1) := by decide +kernel
theorem dL_law_353 : decode cL_law 353 = .ok (.aload_n 0, 1) := by decide +kernel
theorem dL_law_354 : decode cL_law 354 = .ok (.iload_n 3, 1) := by decide +kernel
theorem dL_law_355 : decode cL_law 355 = .ok (.iconst 1, 1) := by decide +kernel
theorem dL_law_356 : decode cL_law 356 = .ok (.iadd, 1) := by decide +kernel
theorem dL_law_357 : decode cL_law 357 = .ok (.iaload, 1) := by decide +kernel
theorem dL_law_358 : decode cL_law 358 = .ok (.aload_n 0, 1) := by decide +kernel
theorem dL_law_359 : decode cL_law 359 = .ok (.iload_n 3, 1) := by decide +kernel
theorem dL_law_360 : decode cL_law 360 = .ok (.iconst 2, 1) := by decide +kernel
theorem dL_law_361 : decode cL_law 361 = .ok (.iadd, 1) := by decide +kernel
theorem dL_law_362 : decode cL_law 362 = .ok (.iaload, 1) := by decide +kernel
theorem dL_law_363 : decode cL_law 363 = .ok (.invokevirtual 48, 3) := by decide +kernel
theorem dL_law_366 : decode cL_law 366 = .ok (.aload_n 2, 1) := by decide +kernel
theorem dL_law_367 : decode cL_law 367 = .ok (.aload_n 0, 1) := by decide +kernel
theorem dL_law_368 : decode cL_law 368 = .ok (.iload_n 3, 1) := by decide +kernel
theorem dL_law_369 : decode cL_law 369 = .ok (.iconst 1, 1) := by decide +kernel
theorem dL_law_370 : decode cL_law 370 = .ok (.iadd, 1) := by decide +kernel
theorem dL_law_371 : decode cL_law 371 = .ok (.iaload, 1) := by decide +kernel
theorem dL_law_372 : decode cL_law 372 = .ok (.aload_n 0, 1) := by decide +kernel
theorem dL_law_373 : decode cL_law 373 = .ok (.iload_n 3, 1) := by decide +kernel
theorem dL_law_374 : decode cL_law 374 = .ok (.iconst 2, 1) := by decide +kernel
theorem dL_law_375 : decode cL_law 375 = .ok (.iadd, 1) := by decide +kernel
theorem dL_law_376 : decode cL_law 376 = .ok (.iaload, 1) := by decide +kernel
theorem dL_law_377 : decode cL_law 377 = .ok (.invokevirtual 51, 3) := by decide +kernel
theorem dL_law_380 : decode cL_law 380 = .ok (.if_icmp .eq 765, 3) := by decide +kernel
theorem dL_law_385 : decode cL_law 385 = .ok (.aload_n 1, 1) := by decide +kernel
theorem dL_law_386 : decode cL_law 386 = .ok (.aload_n 0, 1) := by decide +kernel
theorem dL_law_387 : decode cL_law 387 = .ok (.iload_n 3, 1) := by decide +kernel
theorem dL_law_388 : decode cL_law 388 = .ok (.iconst 1, 1) := by decide +kernel
theorem dL_law_389 : decode cL_law 389 = .ok (.iadd, 1) := by decide +kernel
theorem dL_law_390 : decode cL_law 390 = .ok (.iaload, 1) := by decide +kernel
theorem dL_law_391 : decode cL_law 391 = .ok (.invokevirtual 52, 3) := by decide +kernel
theorem dL_law_394 : decode cL_law 394 = .ok (.aload_n 2, 1) := by decide +kernel
theorem dL_law_395 : decode cL_law 395 = .ok (.aload_n 0, 1) := by decide +kernel
theorem dL_law_396 : decode cL_law 396 = .ok (.iload_n 3, 1) := by decide +kernel
theorem dL_law_397 : decode cL_law 397 = .ok (.iconst 1, 1) := by decide +kernel
theorem dL_law_398 : decode cL_law 398 = .ok (.iadd, 1) := by decide +kernel
theorem dL_law_399 : decode cL_law 399 = .ok (.iaload, 1) := by decide +kernel
theorem dL_law_400 : decode cL_law 400 = .ok (.invokevirtual 55, 3) := by decide +kernel
theorem dL_law_403 : decode cL_law 403 = .ok (.if_icmp .eq 742, 3) := by decide +kernel
theorem dL_law_408 : decode cL_law 408 = .ok (.aload_n 1, 1) := by decide +kernel
theorem dL_law_409 : decode cL_law 409 = .ok (.invokevirtual 56, 3) := by decide +kernel
theorem dL_law_412 : decode cL_law 412 = .ok (.aload_n 2, 1) := by decide +kernel
theorem dL_law_413 : decode cL_law 413 = .ok (.invokevirtual 59, 3) := by decide +kernel
theorem dL_law_416 : decode cL_law 416 = .ok (.if_icmp .eq 729, 3) := by decide +kernel
theorem dL_law_421 : decode cL_law 421 = .ok (.aload_n 1, 1) := by decide +kernel
theorem dL_law_422 : decode cL_law 422 = .ok (.aload_n 0, 1) := by decide +kernel
theorem dL_law_423 : decode cL_law 423 = .ok (.iload_n 3, 1) := by decide +kernel
theorem dL_law_424 : decode cL_law 424 = .ok (.iconst 1, 1) := by decide +kernel
theorem dL_law_425 : decode cL_law 425 = .ok (.iadd, 1) := by decide +kernel
theorem dL_law_426 : decode cL_law 426 = .ok (.iaload, 1) := by decide +kernel
theorem dL_law_427 : decode cL_law 427 = .ok (.aload_n 0, 1) := by decide +kernel
theorem dL_law_428 : decode cL_law 428 = .ok (.iload_n 3, 1) := by decide +kernel
theorem dL_law_429 : decode cL_law 429 = .ok (.iconst 2, 1) := by decide +kernel
theorem dL_law_430 : decode cL_law 430 = .ok (.iadd, 1) := by decide +kernel
theorem dL_law_431 : decode cL_law 431 = .ok (.iaload, 1) := by decide +kernel
theorem dL_law_432 : decode cL_law 432 = .ok (.invokevirtual 60, 3) := by decide +kernel
theorem dL_law_435 : decode cL_law 435 = .ok (.aload_n 2, 1) := by decide +kernel
theorem dL_law_436 : decode cL_law 436 = .ok (.aload_n 0, 1) := by decide +kernel
theorem dL_law_437 : decode cL_law 437 = .ok (.iload_n 3, 1) := by decide +kernel
theorem dL_law_438 : decode cL_law 438 = .ok (.iconst 1, 1) := by decide +kernel
theorem dL_law_439 : decode cL_law 439 = .ok (.iadd, 1) := by decide +kernel
theorem dL_law_440 : decode cL_law 440 = .ok (.iaload, 1) := by decide +kernel
theorem dL_law_441 : decode cL_law 441 = .ok (.aload_n 0, 1) := by decide +kernel
theorem dL_law_442 : decode cL_law 442 = .ok (.iload_n 3, 1) := by decide +kernel
theorem dL_law_443 : decode cL_law 443 = .ok (.iconst 2, 1) := by decide +kernel
theorem dL_law_444 : decode cL_law 444 = .ok (.iadd, 1) := by decide +kernel
theorem dL_law_445 : decode cL_law 445 = .ok (.iaload, 1) := by decide +kernel
theorem dL_law_446 : decode cL_law 446 = .ok (.invokevirtual 63, 3) := by decide +kernel
theorem dL_law_449 : decode cL_law 449 = .ok (.if_icmp .eq 696, 3) := by decide +kernel
theorem dL_law_454 : decode cL_law 454 = .ok (.aload_n 1, 1) := by decide +kernel
theorem dL_law_455 : decode cL_law 455 = .ok (.aload_n 0, 1) := by decide +kernel
theorem dL_law_456 : decode cL_law 456 = .ok (.iload_n 3, 1) := by decide +kernel
theorem dL_law_457 : decode cL_law 457 = .ok (.iconst 1, 1) := by decide +kernel
theorem dL_law_458 : decode cL_law 458 = .ok (.iadd, 1) := by decide +kernel
theorem dL_law_459 : decode cL_law 459 = .ok (.iaload, 1) := by decide +kernel
theorem dL_law_460 : decode cL_law 460 = .ok (.aload_n 0, 1) := by decide +kernel
theorem dL_law_461 : decode cL_law 461 = .ok (.iload_n 3, 1) := by decide +kernel
theorem dL_law_462 : decode cL_law 462 = .ok (.iconst 2, 1) := by decide +kernel
theorem dL_law_463 : decode cL_law 463 = .ok (.iadd, 1) := by decide +kernel
theorem dL_law_464 : decode cL_law 464 = .ok (.iaload, 1) := by decide +kernel
theorem dL_law_465 : decode cL_law 465 = .ok (.invokevirtual 64, 3) := by decide +kernel
theorem dL_law_468 : decode cL_law 468 = .ok (.aload_n 2, 1) := by decide +kernel
theorem dL_law_469 : decode cL_law 469 = .ok (.aload_n 0, 1) := by decide +kernel
theorem dL_law_470 : decode cL_law 470 = .ok (.iload_n 3, 1) := by decide +kernel
theorem dL_law_471 : decode cL_law 471 = .ok (.iconst 1, 1) := by decide +kernel
theorem dL_law_472 : decode cL_law 472 = .ok (.iadd, 1) := by decide +kernel
theorem dL_law_473 : decode cL_law 473 = .ok (.iaload, 1) := by decide +kernel
theorem dL_law_474 : decode cL_law 474 = .ok (.aload_n 0, 1) := by decide +kernel
theorem dL_law_475 : decode cL_law 475 = .ok (.iload_n 3, 1) := by decide +kernel
theorem dL_law_476 : decode cL_law 476 = .ok (.iconst 2, 1) := by decide +kernel
theorem dL_law_477 : decode cL_law 477 = .ok (.iadd, 1) := by decide +kernel
theorem dL_law_478 : decode cL_law 478 = .ok (.iaload, 1) := by decide +kernel
theorem dL_law_479 : decode cL_law 479 = .ok (.invokevirtual 67, 3) := by decide +kernel
theorem dL_law_482 : decode cL_law 482 = .ok (.if_icmp .eq 663, 3) := by decide +kernel
theorem dL_law_487 : decode cL_law 487 = .ok (.aload_n 1, 1) := by decide +kernel
theorem dL_law_488 : decode cL_law 488 = .ok (.aload_n 0, 1) := by decide +kernel
theorem dL_law_489 : decode cL_law 489 = .ok (.iload_n 3, 1) := by decide +kernel
theorem dL_law_490 : decode cL_law 490 = .ok (.iconst 1, 1) := by decide +kernel
theorem dL_law_491 : decode cL_law 491 = .ok (.iadd, 1) := by decide +kernel
theorem dL_law_492 : decode cL_law 492 = .ok (.iaload, 1) := by decide +kernel
theorem dL_law_493 : decode cL_law 493 = .ok (.aload_n 0, 1) := by decide +kernel
theorem dL_law_494 : decode cL_law 494 = .ok (.iload_n 3, 1) := by decide +kernel
theorem dL_law_495 : decode cL_law 495 = .ok (.iconst 2, 1) := by decide +kernel
theorem dL_law_496 : decode cL_law 496 = .ok (.iadd, 1) := by decide +kernel
theorem dL_law_497 : decode cL_law 497 = .ok (.iaload, 1) := by decide +kernel
theorem dL_law_498 : decode cL_law 498 = .ok (.invokevirtual 68, 3) := by decide +kernel
theorem dL_law_501 : decode cL_law 501 = .ok (.aload_n 2, 1) := by decide +kernel
theorem dL_law_502 : decode cL_law 502 = .ok (.aload_n 0, 1) := by decide +kernel
theorem dL_law_503 : decode cL_law 503 = .ok (.iload_n 3, 1) := by decide +kernel
theorem dL_law_504 : decode cL_law 504 = .ok (.iconst 1, 1) := by decide +kernel
theorem dL_law_505 : decode cL_law 505 = .ok (.iadd, 1) := by decide +kernel
theorem dL_law_506 : decode cL_law 506 = .ok (.iaload, 1) := by decide +kernel
theorem dL_law_507 : decode cL_law 507 = .ok (.aload_n 0, 1) := by decide +kernel
theorem dL_law_508 : decode cL_law 508 = .ok (.iload_n 3, 1) := by decide +kernel
theorem dL_law_509 : decode cL_law 509 = .ok (.iconst 2, 1) := by decide +kernel
theorem dL_law_510 : decode cL_law 510 = .ok (.iadd, 1) := by decide +kernel
theorem dL_law_511 : decode cL_law 511 = .ok (.iaload, 1) := by decide +kernel
theorem dL_law_512 : decode cL_law 512 = .ok (.invokevirtual 71, 3) := by decide +kernel
theorem dL_law_515 : decode cL_law 515 = .ok (.if_icmp .eq 630, 3) := by decide +kernel
theorem dL_law_520 : decode cL_law 520 = .ok (.aload_n 1, 1) := by decide +kernel
theorem dL_law_521 : decode cL_law 521 = .ok (.aload_n 0, 1) := by decide +kernel
theorem dL_law_522 : decode cL_law 522 = .ok (.iload_n 3, 1) := by decide +kernel
theorem dL_law_523 : decode cL_law 523 = .ok (.iconst 1, 1) := by decide +kernel
theorem dL_law_524 : decode cL_law 524 = .ok (.iadd, 1) := by decide +kernel
theorem dL_law_525 : decode cL_law 525 = .ok (.iaload, 1) := by decide +kernel
theorem dL_law_526 : decode cL_law 526 = .ok (.aload_n 0, 1) := by decide +kernel
theorem dL_law_527 : decode cL_law 527 = .ok (.iload_n 3, 1) := by decide +kernel
theorem dL_law_528 : decode cL_law 528 = .ok (.iconst 2, 1) := by decide +kernel
theorem dL_law_529 : decode cL_law 529 = .ok (.iadd, 1) := by decide +kernel
theorem dL_law_530 : decode cL_law 530 = .ok (.iaload, 1) := by decide +kernel
theorem dL_law_531 : decode cL_law 531 = .ok (.invokevirtual 72, 3) := by decide +kernel
theorem dL_law_534 : decode cL_law 534 = .ok (.aload_n 2, 1) := by decide +kernel
theorem dL_law_535 : decode cL_law 535 = .ok (.aload_n 0, 1) := by decide +kernel
theorem dL_law_536 : decode cL_law 536 = .ok (.iload_n 3, 1) := by decide +kernel
theorem dL_law_537 : decode cL_law 537 = .ok (.iconst 1, 1) := by decide +kernel
theorem dL_law_538 : decode cL_law 538 = .ok (.iadd, 1) := by decide +kernel
theorem dL_law_539 : decode cL_law 539 = .ok (.iaload, 1) := by decide +kernel
theorem dL_law_540 : decode cL_law 540 = .ok (.aload_n 0, 1) := by decide +kernel
theorem dL_law_541 : decode cL_law 541 = .ok (.iload_n 3, 1) := by decide +kernel
theorem dL_law_542 : decode cL_law 542 = .ok (.iconst 2, 1) := by decide +kernel
theorem dL_law_543 : decode cL_law 543 = .ok (.iadd, 1) := by decide +kernel
theorem dL_law_544 : decode cL_law 544 = .ok (.iaload, 1) := by decide +kernel
theorem dL_law_545 : decode cL_law 545 = .ok (.invokevirtual 75, 3) := by decide +kernel
theorem dL_law_548 : decode cL_law 548 = .ok (.if_icmp .eq 597, 3) := by decide +kernel
theorem dL_law_553 : decode cL_law 553 = .ok (.aload_n 1, 1) := by decide +kernel
theorem dL_law_554 : decode cL_law 554 = .ok (.aload_n 0, 1) := by decide +kernel
theorem dL_law_555 : decode cL_law 555 = .ok (.iload_n 3, 1) := by decide +kernel
theorem dL_law_556 : decode cL_law 556 = .ok (.iconst 1, 1) := by decide +kernel
theorem dL_law_557 : decode cL_law 557 = .ok (.iadd, 1) := by decide +kernel
theorem dL_law_558 : decode cL_law 558 = .ok (.iaload, 1) := by decide +kernel
theorem dL_law_559 : decode cL_law 559 = .ok (.aload_n 0, 1) := by decide +kernel
theorem dL_law_560 : decode cL_law 560 = .ok (.iload_n 3, 1) := by decide +kernel
theorem dL_law_561 : decode cL_law 561 = .ok (.iconst 2, 1) := by decide +kernel
theorem dL_law_562 : decode cL_law 562 = .ok (.iadd, 1) := by decide +kernel
theorem dL_law_563 : decode cL_law 563 = .ok (.iaload, 1) := by decide +kernel
theorem dL_law_564 : decode cL_law 564 = .ok (.aload_n 0, 1) := by decide +kernel
theorem dL_law_565 : decode cL_law 565 = .ok (.iload_n 3, 1) := by decide +kernel
theorem dL_law_566 : decode cL_law 566 = .ok (.iconst 3, 1) := by decide +kernel
theorem dL_law_567 : decode cL_law 567 = .ok (.iadd, 1) := by decide +kernel
theorem dL_law_568 : decode cL_law 568 = .ok (.iaload, 1) := by decide +kernel
theorem dL_law_569 : decode cL_law 569 = .ok (.invokevirtual 76, 3) := by decide +kernel
theorem dL_law_572 : decode cL_law 572 = .ok (.aload_n 2, 1) := by decide +kernel
theorem dL_law_573 : decode cL_law 573 = .ok (.aload_n 0, 1) := by decide +kernel
theorem dL_law_574 : decode cL_law 574 = .ok (.iload_n 3, 1) := by decide +kernel
theorem dL_law_575 : decode cL_law 575 = .ok (.iconst 1, 1) := by decide +kernel
theorem dL_law_576 : decode cL_law 576 = .ok (.iadd, 1) := by decide +kernel
theorem dL_law_577 : decode cL_law 577 = .ok (.iaload, 1) := by decide +kernel
theorem dL_law_578 : decode cL_law 578 = .ok (.aload_n 0, 1) := by decide +kernel
theorem dL_law_579 : decode cL_law 579 = .ok (.iload_n 3, 1) := by decide +kernel
theorem dL_law_580 : decode cL_law 580 = .ok (.iconst 2, 1) := by decide +kernel
theorem dL_law_581 : decode cL_law 581 = .ok (.iadd, 1) := by decide +kernel
theorem dL_law_582 : decode cL_law 582 = .ok (.iaload, 1) := by decide +kernel
theorem dL_law_583 : decode cL_law 583 = .ok (.aload_n 0, 1) := by decide +kernel
theorem dL_law_584 : decode cL_law 584 = .ok (.iload_n 3, 1) := by decide +kernel
theorem dL_law_585 : decode cL_law 585 = .ok (.iconst 3, 1) := by decide +kernel
theorem dL_law_586 : decode cL_law 586 = .ok (.iadd, 1) := by decide +kernel
theorem dL_law_587 : decode cL_law 587 = .ok (.iaload, 1) := by decide +kernel
theorem dL_law_588 : decode cL_law 588 = .ok (.invokevirtual 80, 3) := by decide +kernel
theorem dL_law_591 : decode cL_law 591 = .ok (.if_icmp .eq 554, 3) := by decide +kernel
theorem dL_law_596 : decode cL_law 596 = .ok (.aload_n 1, 1) := by decide +kernel
theorem dL_law_597 : decode cL_law 597 = .ok (.aload_n 0, 1) := by decide +kernel
theorem dL_law_598 : decode cL_law 598 = .ok (.iload_n 3, 1) := by decide +kernel
theorem dL_law_599 : decode cL_law 599 = .ok (.iconst 1, 1) := by decide +kernel
theorem dL_law_600 : decode cL_law 600 = .ok (.iadd, 1) := by decide +kernel
theorem dL_law_601 : decode cL_law 601 = .ok (.iaload, 1) := by decide +kernel
theorem dL_law_602 : decode cL_law 602 = .ok (.aload_n 0, 1) := by decide +kernel
theorem dL_law_603 : decode cL_law 603 = .ok (.iload_n 3, 1) := by decide +kernel
theorem dL_law_604 : decode cL_law 604 = .ok (.iconst 2, 1) := by decide +kernel
theorem dL_law_605 : decode cL_law 605 = .ok (.iadd, 1) := by decide +kernel
theorem dL_law_606 : decode cL_law 606 = .ok (.iaload, 1) := by decide +kernel
theorem dL_law_607 : decode cL_law 607 = .ok (.invokevirtual 81, 3) := by decide +kernel
theorem dL_law_610 : decode cL_law 610 = .ok (.aload_n 2, 1) := by decide +kernel
theorem dL_law_611 : decode cL_law 611 = .ok (.aload_n 0, 1) := by decide +kernel
theorem dL_law_612 : decode cL_law 612 = .ok (.iload_n 3, 1) := by decide +kernel
theorem dL_law_613 : decode cL_law 613 = .ok (.iconst 1, 1) := by decide +kernel
theorem dL_law_614 : decode cL_law 614 = .ok (.iadd, 1) := by decide +kernel
theorem dL_law_615 : decode cL_law 615 = .ok (.iaload, 1) := by decide +kernel
theorem dL_law_616 : decode cL_law 616 = .ok (.aload_n 0, 1) := by decide +kernel
theorem dL_law_617 : decode cL_law 617 = .ok (.iload_n 3, 1) := by decide +kernel
theorem dL_law_618 : decode cL_law 618 = .ok (.iconst 2, 1) := by decide +kernel
theorem dL_law_619 : decode cL_law 619 = .ok (.iadd, 1) := by decide +kernel
theorem dL_law_620 : decode cL_law 620 = .ok (.iaload, 1) := by decide +kernel
theorem dL_law_621 : decode cL_law 621 = .ok (.invokevirtual 84, 3) := by decide +kernel
theorem dL_law_624 : decode cL_law 624 = .ok (.if_icmp .eq 521, 3) := by decide +kernel
theorem dL_law_629 : decode cL_law 629 = .ok (.aload_n 1, 1) := by decide +kernel
theorem dL_law_630 : decode cL_law 630 = .ok (.aload_n 0, 1) := by decide +kernel
theorem dL_law_631 : decode cL_law 631 = .ok (.iload_n 3, 1) := by decide +kernel
theorem dL_law_632 : decode cL_law 632 = .ok (.iconst 1, 1) := by decide +kernel
theorem dL_law_633 : decode cL_law 633 = .ok (.iadd, 1) := by decide +kernel
theorem dL_law_634 : decode cL_law 634 = .ok (.iaload, 1) := by decide +kernel
theorem dL_law_635 : decode cL_law 635 = .ok (.invokevirtual 85, 3) := by decide +kernel
theorem dL_law_638 : decode cL_law 638 = .ok (.aload_n 2, 1) := by decide +kernel
theorem dL_law_639 : decode cL_law 639 = .ok (.aload_n 0, 1) := by decide +kernel
theorem dL_law_640 : decode cL_law 640 = .ok (.iload_n 3, 1) := by decide +kernel
theorem dL_law_641 : decode cL_law 641 = .ok (.iconst 1, 1) := by decide +kernel
theorem dL_law_642 : decode cL_law 642 = .ok (.iadd, 1) := by decide +kernel
theorem dL_law_643 : decode cL_law 643 = .ok (.iaload, 1) := by decide +kernel
theorem dL_law_644 : decode cL_law 644 = .ok (.invokevirtual 88, 3) := by decide +kernel
theorem dL_law_647 : decode cL_law 647 = .ok (.if_icmp .eq 498, 3) := by decide +kernel
theorem dL_law_652 : decode cL_law 652 = .ok (.aload_n 1, 1) := by decide +kernel
theorem dL_law_653 : decode cL_law 653 = .ok (.aload_n 0, 1) := by decide +kernel
theorem dL_law_654 : decode cL_law 654 = .ok (.iload_n 3, 1) := by decide +kernel
theorem dL_law_655 : decode cL_law 655 = .ok (.iconst 1, 1) := by decide +kernel
theorem dL_law_656 : decode cL_law 656 = .ok (.iadd, 1) := by decide +kernel
theorem dL_law_657 : decode cL_law 657 = .ok (.iaload, 1) := by decide +kernel
theorem dL_law_658 : decode cL_law 658 = .ok (.aload_n 0, 1) := by decide +kernel
theorem dL_law_659 : decode cL_law 659 = .ok (.iload_n 3, 1) := by decide +kernel
theorem dL_law_660 : decode cL_law 660 = .ok (.iconst 2, 1) := by decide +kernel
theorem dL_law_661 : decode cL_law 661 = .ok (.iadd, 1) := by decide +kernel
theorem dL_law_662 : decode cL_law 662 = .ok (.iaload, 1) := by decide +kernel
theorem dL_law_663 : decode cL_law 663 = .ok (.invokevirtual 89, 3) := by decide +kernel
theorem dL_law_666 : decode cL_law 666 = .ok (.aload_n 2, 1) := by decide +kernel
theorem dL_law_667 : decode cL_law 667 = .ok (.aload_n 0, 1) := by decide +kernel
theorem dL_law_668 : decode cL_law 668 = .ok (.iload_n 3, 1) := by decide +kernel
theorem dL_law_669 : decode cL_law 669 = .ok (.iconst 1, 1) := by decide +kernel
theorem dL_law_670 : decode cL_law 670 = .ok (.iadd, 1) := by decide +kernel
theorem dL_law_671 : decode cL_law 671 = .ok (.iaload, 1) := by decide +kernel
theorem dL_law_672 : decode cL_law 672 = .ok (.aload_n 0, 1) := by decide +kernel
theorem dL_law_673 : decode cL_law 673 = .ok (.iload_n 3, 1) := by decide +kernel
theorem dL_law_674 : decode cL_law 674 = .ok (.iconst 2, 1) := by decide +kernel
theorem dL_law_675 : decode cL_law 675 = .ok (.iadd, 1) := by decide +kernel
theorem dL_law_676 : decode cL_law 676 = .ok (.iaload, 1) := by decide +kernel
theorem dL_law_677 : decode cL_law 677 = .ok (.invokevirtual 92, 3) := by decide +kernel
theorem dL_law_680 : decode cL_law 680 = .ok (.if_icmp .eq 465, 3) := by decide +kernel
theorem dL_law_685 : decode cL_law 685 = .ok (.aload_n 1, 1) := by decide +kernel
theorem dL_law_686 : decode cL_law 686 = .ok (.aload_n 0, 1) := by decide +kernel
theorem dL_law_687 : decode cL_law 687 = .ok (.iload_n 3, 1) := by decide +kernel
theorem dL_law_688 : decode cL_law 688 = .ok (.iconst 1, 1) := by decide +kernel
theorem dL_law_689 : decode cL_law 689 = .ok (.iadd, 1) := by decide +kernel
theorem dL_law_690 : decode cL_law 690 = .ok (.iaload, 1) := by decide +kernel
theorem dL_law_691 : decode cL_law 691 = .ok (.invokevirtual 93, 3) := by decide +kernel
theorem dL_law_694 : decode cL_law 694 = .ok (.aload_n 2, 1) := by decide +kernel
theorem dL_law_695 : decode cL_law 695 = .ok (.aload_n 0, 1) := by decide +kernel
theorem dL_law_696 : decode cL_law 696 = .ok (.iload_n 3, 1) := by decide +kernel
theorem dL_law_697 : decode cL_law 697 = .ok (.iconst 1, 1) := by decide +kernel
theorem dL_law_698 : decode cL_law 698 = .ok (.iadd, 1) := by decide +kernel
theorem dL_law_699 : decode cL_law 699 = .ok (.iaload, 1) := by decide +kernel
theorem dL_law_700 : decode cL_law 700 = .ok (.invokevirtual 96, 3) := by decide +kernel
theorem dL_law_703 : decode cL_law 703 = .ok (.if_icmp .eq 442, 3) := by decide +kernel
theorem dL_law_708 : decode cL_law 708 = .ok (.aload_n 1, 1) := by decide +kernel
theorem dL_law_709 : decode cL_law 709 = .ok (.aload_n 0, 1) := by decide +kernel
theorem dL_law_710 : decode cL_law 710 = .ok (.iload_n 3, 1) := by decide +kernel
theorem dL_law_711 : decode cL_law 711 = .ok (.iconst 1, 1) := by decide +kernel
theorem dL_law_712 : decode cL_law 712 = .ok (.iadd, 1) := by decide +kernel
theorem dL_law_713 : decode cL_law 713 = .ok (.iaload, 1) := by decide +kernel
theorem dL_law_714 : decode cL_law 714 = .ok (.aload_n 0, 1) := by decide +kernel
theorem dL_law_715 : decode cL_law 715 = .ok (.iload_n 3, 1) := by decide +kernel
theorem dL_law_716 : decode cL_law 716 = .ok (.iconst 2, 1) := by decide +kernel
theorem dL_law_717 : decode cL_law 717 = .ok (.iadd, 1) := by decide +kernel
theorem dL_law_718 : decode cL_law 718 = .ok (.iaload, 1) := by decide +kernel
theorem dL_law_719 : decode cL_law 719 = .ok (.aload_n 0, 1) := by decide +kernel
theorem dL_law_720 : decode cL_law 720 = .ok (.iload_n 3, 1) := by decide +kernel
theorem dL_law_721 : decode cL_law 721 = .ok (.iconst 3, 1) := by decide +kernel
theorem dL_law_722 : decode cL_law 722 = .ok (.iadd, 1) := by decide +kernel
theorem dL_law_723 : decode cL_law 723 = .ok (.iaload, 1) := by decide +kernel
theorem dL_law_724 : decode cL_law 724 = .ok (.aload_n 0, 1) := by decide +kernel
theorem dL_law_725 : decode cL_law 725 = .ok (.iload_n 3, 1) := by decide +kernel
theorem dL_law_726 : decode cL_law 726 = .ok (.iconst 4, 1) := by decide +kernel
theorem dL_law_727 : decode cL_law 727 = .ok (.iadd, 1) := by decide +kernel
theorem dL_law_728 : decode cL_law 728 = .ok (.iaload, 1) := by decide +kernel
theorem dL_law_729 : decode cL_law 729 = .ok (.invokevirtual 97, 3) := by decide +kernel
theorem dL_law_732 : decode cL_law 732 = .ok (.aload_n 2, 1) := by decide +kernel
theorem dL_law_733 : decode cL_law 733 = .ok (.aload_n 0, 1) := by decide +kernel
theorem dL_law_734 : decode cL_law 734 = .ok (.iload_n 3, 1) := by decide +kernel
theorem dL_law_735 : decode cL_law 735 = .ok (.iconst 1, 1) := by decide +kernel
theorem dL_law_736 : decode cL_law 736 = .ok (.iadd, 1) := by decide +kernel
theorem dL_law_737 : decode cL_law 737 = .ok (.iaload, 1) := by decide +kernel
theorem dL_law_738 : decode cL_law 738 = .ok (.aload_n 0, 1) := by decide +kernel
theorem dL_law_739 : decode cL_law 739 = .ok (.iload_n 3, 1) := by decide +kernel
theorem dL_law_740 : decode cL_law 740 = .ok (.iconst 2, 1) := by decide +kernel
theorem dL_law_741 : decode cL_law 741 = .ok (.iadd, 1) := by decide +kernel
theorem dL_law_742 : decode cL_law 742 = .ok (.iaload, 1) := by decide +kernel
theorem dL_law_743 : decode cL_law 743 = .ok (.aload_n 0, 1) := by decide +kernel
theorem dL_law_744 : decode cL_law 744 = .ok (.iload_n 3, 1) := by decide +kernel
theorem dL_law_745 : decode cL_law 745 = .ok (.iconst 3, 1) := by decide +kernel
theorem dL_law_746 : decode cL_law 746 = .ok (.iadd, 1) := by decide +kernel
theorem dL_law_747 : decode cL_law 747 = .ok (.iaload, 1) := by decide +kernel
theorem dL_law_748 : decode cL_law 748 = .ok (.aload_n 0, 1) := by decide +kernel
theorem dL_law_749 : decode cL_law 749 = .ok (.iload_n 3, 1) := by decide +kernel
theorem dL_law_750 : decode cL_law 750 = .ok (.iconst 4, 1) := by decide +kernel
theorem dL_law_751 : decode cL_law 751 = .ok (.iadd, 1) := by decide +kernel
theorem dL_law_752 : decode cL_law 752 = .ok (.iaload, 1) := by decide +kernel
theorem dL_law_753 : decode cL_law 753 = .ok (.invokevirtual 101, 3) := by decide +kernel
theorem dL_law_756 : decode cL_law 756 = .ok (.if_icmp .eq 389, 3) := by decide +kernel
theorem dL_law_761 : decode cL_law 761 = .ok (.aload_n 1, 1) := by decide +kernel
theorem dL_law_762 : decode cL_law 762 = .ok (.invokevirtual 102, 3) := by decide +kernel
theorem dL_law_765 : decode cL_law 765 = .ok (.aload_n 2, 1) := by decide +kernel
theorem dL_law_766 : decode cL_law 766 = .ok (.invokevirtual 105, 3) := by decide +kernel
theorem dL_law_769 : decode cL_law 769 = .ok (.if_icmp .eq 376, 3) := by decide +kernel
theorem dL_law_774 : decode cL_law 774 = .ok (.aload_n 1, 1) := by decide +kernel
theorem dL_law_775 : decode cL_law 775 = .ok (.aload_n 0, 1) := by decide +kernel
theorem dL_law_776 : decode cL_law 776 = .ok (.iload_n 3, 1) := by decide +kernel
theorem dL_law_777 : decode cL_law 777 = .ok (.iconst 1, 1) := by decide +kernel
theorem dL_law_778 : decode cL_law 778 = .ok (.iadd, 1) := by decide +kernel
theorem dL_law_779 : decode cL_law 779 = .ok (.iaload, 1) := by decide +kernel
theorem dL_law_780 : decode cL_law 780 = .ok (.aload_n 0, 1) := by decide +kernel
theorem dL_law_781 : decode cL_law 781 = .ok (.iload_n 3, 1) := by decide +kernel
theorem dL_law_782 : decode cL_law 782 = .ok (.iconst 2, 1) := by decide +kernel
theorem dL_law_783 : decode cL_law 783 = .ok (.iadd, 1) := by decide +kernel
theorem dL_law_784 : decode cL_law 784 = .ok (.iaload, 1) := by decide +kernel
theorem dL_law_785 : decode cL_law 785 = .ok (.aload_n 0, 1) := by decide +kernel
theorem dL_law_786 : decode cL_law 786 = .ok (.iload_n 3, 1) := by decide +kernel
theorem dL_law_787 : decode cL_law 787 = .ok (.iconst 3, 1) := by decide +kernel
theorem dL_law_788 : decode cL_law 788 = .ok (.iadd, 1) := by decide +kernel
theorem dL_law_789 : decode cL_law 789 = .ok (.iaload, 1) := by decide +kernel
theorem dL_law_790 : decode cL_law 790 = .ok (.aload_n 0, 1) := by decide +kernel
theorem dL_law_791 : decode cL_law 791 = .ok (.iload_n 3, 1) := by decide +kernel
theorem dL_law_792 : decode cL_law 792 = .ok (.iconst 4, 1) := by decide +kernel
theorem dL_law_793 : decode cL_law 793 = .ok (.iadd, 1) := by decide +kernel
theorem dL_law_794 : decode cL_law 794 = .ok (.iaload, 1) := by decide +kernel
theorem dL_law_795 : decode cL_law 795 = .ok (.aload_n 0, 1) := by decide +kernel
theorem dL_law_796 : decode cL_law 796 = .ok (.iload_n 3, 1) := by decide +kernel
theorem dL_law_797 : decode cL_law 797 = .ok (.iconst 5, 1) := by decide +kernel
theorem dL_law_798 : decode cL_law 798 = .ok (.iadd, 1) := by decide +kernel
theorem dL_law_799 : decode cL_law 799 = .ok (.iaload, 1) := by decide +kernel
theorem dL_law_800 : decode cL_law 800 = .ok (.invokevirtual 106, 3) := by decide +kernel
theorem dL_law_803 : decode cL_law 803 = .ok (.aload_n 2, 1) := by decide +kernel
theorem dL_law_804 : decode cL_law 804 = .ok (.aload_n 0, 1) := by decide +kernel
theorem dL_law_805 : decode cL_law 805 = .ok (.iload_n 3, 1) := by decide +kernel
theorem dL_law_806 : decode cL_law 806 = .ok (.iconst 1, 1) := by decide +kernel
theorem dL_law_807 : decode cL_law 807 = .ok (.iadd, 1) := by decide +kernel
theorem dL_law_808 : decode cL_law 808 = .ok (.iaload, 1) := by decide +kernel
theorem dL_law_809 : decode cL_law 809 = .ok (.aload_n 0, 1) := by decide +kernel
theorem dL_law_810 : decode cL_law 810 = .ok (.iload_n 3, 1) := by decide +kernel
theorem dL_law_811 : decode cL_law 811 = .ok (.iconst 2, 1) := by decide +kernel
theorem dL_law_812 : decode cL_law 812 = .ok (.iadd, 1) := by decide +kernel
theorem dL_law_813 : decode cL_law 813 = .ok (.iaload, 1) := by decide +kernel
theorem dL_law_814 : decode cL_law 814 = .ok (.aload_n 0, 1) := by decide +kernel
theorem dL_law_815 : decode cL_law 815 = .ok (.iload_n 3, 1) := by decide +kernel
theorem dL_law_816 : decode cL_law 816 = .ok (.iconst 3, 1) := by decide +kernel
theorem dL_law_817 : decode cL_law 817 = .ok (.iadd, 1) := by decide +kernel
theorem dL_law_818 : decode cL_law 818 = .ok (.iaload, 1) := by decide +kernel
theorem dL_law_819 : decode cL_law 819 = .ok (.aload_n 0, 1) := by decide +kernel
theorem dL_law_820 : decode cL_law 820 = .ok (.iload_n 3, 1) := by decide +kernel
theorem dL_law_821 : decode cL_law 821 = .ok (.iconst 4, 1) := by decide +kernel
theorem dL_law_822 : decode cL_law 822 = .ok (.iadd, 1) := by decide +kernel
theorem dL_law_823 : decode cL_law 823 = .ok (.iaload, 1) := by decide +kernel
theorem dL_law_824 : decode cL_law 824 = .ok (.aload_n 0, 1) := by decide +kernel
theorem dL_law_825 : decode cL_law 825 = .ok (.iload_n 3, 1) := by decide +kernel
theorem dL_law_826 : decode cL_law 826 = .ok (.iconst 5, 1) := by decide +kernel
theorem dL_law_827 : decode cL_law 827 = .ok (.iadd, 1) := by decide +kernel
theorem dL_law_828 : decode cL_law 828 = .ok (.iaload, 1) := by decide +kernel
theorem dL_law_829 : decode cL_law 829 = .ok (.invokevirtual 110, 3) := by decide +kernel
theorem dL_law_832 : decode cL_law 832 = .ok (.if_icmp .eq 313, 3) := by decide +kernel
theorem dL_law_837 : decode cL_law 837 = .ok (.aload_n 1, 1) := by decide +kernel
theorem dL_law_838 : decode cL_law 838 = .ok (.aload_n 0, 1) := by decide +kernel
theorem dL_law_839 : decode cL_law 839 = .ok (.iload_n 3, 1) := by decide +kernel
theorem dL_law_840 : decode cL_law 840 = .ok (.iconst 1, 1) := by decide +kernel
theorem dL_law_841 : decode cL_law 841 = .ok (.iadd, 1) := by decide +kernel
theorem dL_law_842 : decode cL_law 842 = .ok (.iaload, 1) := by decide +kernel
theorem dL_law_843 : decode cL_law 843 = .ok (.invokevirtual 111, 3) := by decide +kernel
theorem dL_law_846 : decode cL_law 846 = .ok (.aload_n 2, 1) := by decide +kernel
theorem dL_law_847 : decode cL_law 847 = .ok (.aload_n 0, 1) := by decide +kernel
theorem dL_law_848 : decode cL_law 848 = .ok (.iload_n 3, 1) := by decide +kernel
theorem dL_law_849 : decode cL_law 849 = .ok (.iconst 1, 1) := by decide +kernel
theorem dL_law_850 : decode cL_law 850 = .ok (.iadd, 1) := by decide +kernel
theorem dL_law_851 : decode cL_law 851 = .ok (.iaload, 1) := by decide +kernel
theorem dL_law_852 : decode cL_law 852 = .ok (.invokevirtual 114, 3) := by decide +kernel
theorem dL_law_855 : decode cL_law 855 = .ok (.if_icmp .eq 290, 3) := by decide +kernel
theorem dL_law_860 : decode cL_law 860 = .ok (.aload_n 1, 1) := by decide +kernel
theorem dL_law_861 : decode cL_law 861 = .ok (.aload_n 0, 1) := by decide +kernel
theorem dL_law_862 : decode cL_law 862 = .ok (.iload_n 3, 1) := by decide +kernel
theorem dL_law_863 : decode cL_law 863 = .ok (.iconst 1, 1) := by decide +kernel
theorem dL_law_864 : decode cL_law 864 = .ok (.iadd, 1) := by decide +kernel
theorem dL_law_865 : decode cL_law 865 = .ok (.iaload, 1) := by decide +kernel
theorem dL_law_866 : decode cL_law 866 = .ok (.invokevirtual 115, 3) := by decide +kernel
theorem dL_law_869 : decode cL_law 869 = .ok (.aload_n 2, 1) := by decide +kernel
theorem dL_law_870 : decode cL_law 870 = .ok (.aload_n 0, 1) := by decide +kernel
theorem dL_law_871 : decode cL_law 871 = .ok (.iload_n 3, 1) := by decide +kernel
theorem dL_law_872 : decode cL_law 872 = .ok (.iconst 1, 1) := by decide +kernel
theorem dL_law_873 : decode cL_law 873 = .ok (.iadd, 1) := by decide +kernel
theorem dL_law_874 : decode cL_law 874 = .ok (.iaload, 1) := by decide +kernel
theorem dL_law_875 : decode cL_law 875 = .ok (.invokevirtual 118, 3) := by decide +kernel
theorem dL_law_878 : decode cL_law 878 = .ok (.if_icmp .eq 267, 3) := by decide +kernel
theorem dL_law_883 : decode cL_law 883 = .ok (.aload_n 1, 1) := by decide +kernel
theorem dL_law_884 : decode cL_law 884 = .ok (.aload_n 0, 1) := by decide +kernel
theorem dL_law_885 : decode cL_law 885 = .ok (.iload_n 3, 1) := by decide +kernel
theorem dL_law_886 : decode cL_law 886 = .ok (.iconst 1, 1) := by decide +kernel
theorem dL_law_887 : decode cL_law 887 = .ok (.iadd, 1) := by decide +kernel
theorem dL_law_888 : decode cL_law 888 = .ok (.iaload, 1) := by decide +kernel
theorem dL_law_889 : decode cL_law 889 = .ok (.invokevirtual 119, 3) := by decide +kernel
theorem dL_law_892 : decode cL_law 892 = .ok (.aload_n 2, 1) := by decide +kernel
theorem dL_law_893 : decode cL_law 893 = .ok (.aload_n 0, 1) := by decide +kernel
theorem dL_law_894 : decode cL_law 894 = .ok (.iload_n 3, 1) := by decide +kernel
theorem dL_law_895 : decode cL_law 895 = .ok (.iconst 1, 1) := by decide +kernel
theorem dL_law_896 : decode cL_law 896 = .ok (.iadd, 1) := by decide +kernel
theorem dL_law_897 : decode cL_law 897 = .ok (.iaload, 1) := by decide +kernel
theorem dL_law_898 : decode cL_law 898 = .ok (.invokevirtual 122, 3) := by decide +kernel
theorem dL_law_901 : decode cL_law 901 = .ok (.if_icmp .eq 244, 3) := by decide +kernel
theorem dL_law_906 : decode cL_law 906 = .ok (.aload_n 1, 1) := by decide +kernel
theorem dL_law_907 : decode cL_law 907 = .ok (.aload_n 0, 1) := by decide +kernel
theorem dL_law_908 : decode cL_law 908 = .ok (.iload_n 3, 1) := by decide +kernel
theorem dL_law_909 : decode cL_law 909 = .ok (.iconst 1, 1) := by decide +kernel
theorem dL_law_910 : decode cL_law 910 = .ok (.iadd, 1) := by decide +kernel
theorem dL_law_911 : decode cL_law 911 = .ok (.iaload, 1) := by decide +kernel
theorem dL_law_912 : decode cL_law 912 = .ok (.aload_n 0, 1) := by decide +kernel
theorem dL_law_913 : decode cL_law 913 = .ok (.iload_n 3, 1) := by decide +kernel
theorem dL_law_914 : decode cL_law 914 = .ok (.iconst 2, 1) := by decide +kernel
theorem dL_law_915 : decode cL_law 915 = .ok (.iadd, 1) := by decide +kernel
theorem dL_law_916 : decode cL_law 916 = .ok (.iaload, 1) := by decide +kernel
theorem dL_law_917 : decode cL_law 917 = .ok (.aload_n 0, 1) := by decide +kernel
theorem dL_law_918 : decode cL_law 918 = .ok (.iload_n 3, 1) := by decide +kernel
theorem dL_law_919 : decode cL_law 919 = .ok (.iconst 3, 1) := by decide +kernel
theorem dL_law_920 : decode cL_law 920 = .ok (.iadd, 1) := by decide +kernel
theorem dL_law_921 : decode cL_law 921 = .ok (.iaload, 1) := by decide +kernel
theorem dL_law_922 : decode cL_law 922 = .ok (.invokevirtual 123, 3) := by decide +kernel
theorem dL_law_925 : decode cL_law 925 = .ok (.aload_n 2, 1) := by decide +kernel
theorem dL_law_926 : decode cL_law 926 = .ok (.aload_n 0, 1) := by decide +kernel
theorem dL_law_927 : decode cL_law 927 = .ok (.iload_n 3, 1) := by decide +kernel
theorem dL_law_928 : decode cL_law 928 = .ok (.iconst 1, 1) := by decide +kernel
theorem dL_law_929 : decode cL_law 929 = .ok (.iadd, 1) := by decide +kernel
end
section
theorem dL_law_930 : decode cL_law 930 = .ok (.iaload, 1) := by decide +kernel
theorem dL_law_931 : decode cL_law 931 = .ok (.aload_n 0, 1) := by decide +kernel
theorem dL_law_932 : decode cL_law 932 = .ok (.iload_n 3, 1) := by decide +kernel
theorem dL_law_933 : decode cL_law 933 = .ok (.iconst 2, 1) := by decide +kernel
theorem dL_law_934 : decode cL_law 934 = .ok (.iadd, 1) := by decide +kernel
theorem dL_law_935 : decode cL_law 935 = .ok (.iaload, 1) := by decide +kernel
theorem dL_law_936 : decode cL_law 936 = .ok (.aload_n 0, 1) := by decide +kernel
theorem dL_law_937 : decode cL_law 937 = .ok (.iload_n 3, 1) := by decide +kernel
theorem dL_law_938 : decode cL_law 938 = .ok (.iconst 3, 1) := by decide +kernel
theorem dL_law_939 : decode cL_law 939 = .ok (.iadd, 1) := by decide +kernel
theorem dL_law_940 : decode cL_law 940 = .ok (.iaload, 1) := by decide +kernel
theorem dL_law_941 : decode cL_law 941 = .ok (.invokevirtual 126, 3) := by decide +kernel
theorem dL_law_944 : decode cL_law 944 = .ok (.if_icmp .eq 201, 3) := by decide +kernel
theorem dL_law_949 : decode cL_law 949 = .ok (.aload_n 1, 1) := by decide +kernel
theorem dL_law_950 : decode cL_law 950 = .ok (.aload_n 0, 1) := by decide +kernel
theorem dL_law_951 : decode cL_law 951 = .ok (.iload_n 3, 1) := by decide +kernel
theorem dL_law_952 : decode cL_law 952 = .ok (.iconst 1, 1) := by decide +kernel
theorem dL_law_953 : decode cL_law 953 = .ok (.iadd, 1) := by decide +kernel
theorem dL_law_954 : decode cL_law 954 = .ok (.iaload, 1) := by decide +kernel
theorem dL_law_955 : decode cL_law 955 = .ok (.aload_n 0, 1) := by decide +kernel
theorem dL_law_956 : decode cL_law 956 = .ok (.iload_n 3, 1) := by decide +kernel
theorem dL_law_957 : decode cL_law 957 = .ok (.iconst 2, 1) := by decide +kernel
theorem dL_law_958 : decode cL_law 958 = .ok (.iadd, 1) := by decide +kernel
theorem dL_law_959 : decode cL_law 959 = .ok (.iaload, 1) := by decide +kernel
theorem dL_law_960 : decode cL_law 960 = .ok (.invokevirtual 127, 3) := by decide +kernel
theorem dL_law_963 : decode cL_law 963 = .ok (.aload_n 2, 1) := by decide +kernel
theorem dL_law_964 : decode cL_law 964 = .ok (.aload_n 0, 1) := by decide +kernel
theorem dL_law_965 : decode cL_law 965 = .ok (.iload_n 3, 1) := by decide +kernel
theorem dL_law_966 : decode cL_law 966 = .ok (.iconst 1, 1) := by decide +kernel
theorem dL_law_967 : decode cL_law 967 = .ok (.iadd, 1) := by decide +kernel
theorem dL_law_968 : decode cL_law 968 = .ok (.iaload, 1) := by decide +kernel
theorem dL_law_969 : decode cL_law 969 = .ok (.aload_n 0, 1) := by decide +kernel
theorem dL_law_970 : decode cL_law 970 = .ok (.iload_n 3, 1) := by decide +kernel
theorem dL_law_971 : decode cL_law 971 = .ok (.iconst 2, 1) := by decide +kernel
theorem dL_law_972 : decode cL_law 972 = .ok (.iadd, 1) := by decide +kernel
theorem dL_law_973 : decode cL_law 973 = .ok (.iaload, 1) := by decide +kernel
theorem dL_law_974 : decode cL_law 974 = .ok (.invokevirtual 130, 3) := by decide +kernel
theorem dL_law_977 : decode cL_law 977 = .ok (.if_icmp .eq 168, 3) := by decide +kernel
theorem dL_law_982 : decode cL_law 982 = .ok (.aload_n 1, 1) := by decide +kernel
theorem dL_law_983 : decode cL_law 983 = .ok (.aload_n 0, 1) := by decide +kernel
theorem dL_law_984 : decode cL_law 984 = .ok (.iload_n 3, 1) := by decide +kernel
theorem dL_law_985 : decode cL_law 985 = .ok (.iconst 1, 1) := by decide +kernel
theorem dL_law_986 : decode cL_law 986 = .ok (.iadd, 1) := by decide +kernel
theorem dL_law_987 : decode cL_law 987 = .ok (.iaload, 1) := by decide +kernel
theorem dL_law_988 : decode cL_law 988 = .ok (.aload_n 0, 1) := by decide +kernel
theorem dL_law_989 : decode cL_law 989 = .ok (.iload_n 3, 1) := by decide +kernel
theorem dL_law_990 : decode cL_law 990 = .ok (.iconst 2, 1) := by decide +kernel
theorem dL_law_991 : decode cL_law 991 = .ok (.iadd, 1) := by decide +kernel
theorem dL_law_992 : decode cL_law 992 = .ok (.iaload, 1) := by decide +kernel
theorem dL_law_993 : decode cL_law 993 = .ok (.invokevirtual 131, 3) := by decide +kernel
theorem dL_law_996 : decode cL_law 996 = .ok (.aload_n 2, 1) := by decide +kernel
theorem dL_law_997 : decode cL_law 997 = .ok (.aload_n 0, 1) := by decide +kernel
theorem dL_law_998 : decode cL_law 998 = .ok (.iload_n 3, 1) := by decide +kernel
theorem dL_law_999 : decode cL_law 999 = .ok (.iconst 1, 1) := by decide +kernel
theorem dL_law_1000 : decode cL_law 1000 = .ok (.iadd, 1) := by decide +kernel
theorem dL_law_1001 : decode cL_law 1001 = .ok (.iaload, 1) := by decide +kernel
theorem dL_law_1002 : decode cL_law 1002 = .ok (.aload_n 0, 1) := by decide +kernel
theorem dL_law_1003 : decode cL_law 1003 = .ok (.iload_n 3, 1) := by decide +kernel
theorem dL_law_1004 : decode cL_law 1004 = .ok (.iconst 2, 1) := by decide +kernel
theorem dL_law_1005 : decode cL_law 1005 = .ok (.iadd, 1) := by decide +kernel
theorem dL_law_1006 : decode cL_law 1006 = .ok (.iaload, 1) := by decide +kernel
theorem dL_law_1007 : decode cL_law 1007 = .ok (.invokevirtual 134, 3) := by decide +kernel
theorem dL_law_1010 : decode cL_law 1010 = .ok (.if_icmp .eq 135, 3) := by decide +kernel
theorem dL_law_1015 : decode cL_law 1015 = .ok (.aload_n 1, 1) := by decide +kernel
theorem dL_law_1016 : decode cL_law 1016 = .ok (.aload_n 0, 1) := by decide +kernel
theorem dL_law_1017 : decode cL_law 1017 = .ok (.iload_n 3, 1) := by decide +kernel
theorem dL_law_1018 : decode cL_law 1018 = .ok (.iconst 1, 1) := by decide +kernel
theorem dL_law_1019 : decode cL_law 1019 = .ok (.iadd, 1) := by decide +kernel
theorem dL_law_1020 : decode cL_law 1020 = .ok (.iaload, 1) := by decide +kernel
theorem dL_law_1021 : decode cL_law 1021 = .ok (.invokevirtual 135, 3) := by decide +kernel
theorem dL_law_1024 : decode cL_law 1024 = .ok (.aload_n 2, 1) := by decide +kernel
theorem dL_law_1025 : decode cL_law 1025 = .ok (.aload_n 0, 1) := by decide +kernel
theorem dL_law_1026 : decode cL_law 1026 = .ok (.iload_n 3, 1) := by decide +kernel
theorem dL_law_1027 : decode cL_law 1027 = .ok (.iconst 1, 1) := by decide +kernel
theorem dL_law_1028 : decode cL_law 1028 = .ok (.iadd, 1) := by decide +kernel
theorem dL_law_1029 : decode cL_law 1029 = .ok (.iaload, 1) := by decide +kernel
theorem dL_law_1030 : decode cL_law 1030 = .ok (.invokevirtual 139, 3) := by decide +kernel
theorem dL_law_1033 : decode cL_law 1033 = .ok (.lcmp, 1) := by decide +kernel
theorem dL_law_1034 : decode cL_law 1034 = .ok (.ifCond .eq 111, 3) := by decide +kernel
theorem dL_law_1039 : decode cL_law 1039 = .ok (.aload_n 1, 1) := by decide +kernel
theorem dL_law_1040 : decode cL_law 1040 = .ok (.aload_n 0, 1) := by decide +kernel
theorem dL_law_1041 : decode cL_law 1041 = .ok (.iload_n 3, 1) := by decide +kernel
theorem dL_law_1042 : decode cL_law 1042 = .ok (.iconst 1, 1) := by decide +kernel
theorem dL_law_1043 : decode cL_law 1043 = .ok (.iadd, 1) := by decide +kernel
theorem dL_law_1044 : decode cL_law 1044 = .ok (.iaload, 1) := by decide +kernel
theorem dL_law_1045 : decode cL_law 1045 = .ok (.invokevirtual 140, 3) := by decide +kernel
theorem dL_law_1048 : decode cL_law 1048 = .ok (.aload_n 2, 1) := by decide +kernel
theorem dL_law_1049 : decode cL_law 1049 = .ok (.aload_n 0, 1) := by decide +kernel
theorem dL_law_1050 : decode cL_law 1050 = .ok (.iload_n 3, 1) := by decide +kernel
theorem dL_law_1051 : decode cL_law 1051 = .ok (.iconst 1, 1) := by decide +kernel
theorem dL_law_1052 : decode cL_law 1052 = .ok (.iadd, 1) := by decide +kernel
theorem dL_law_1053 : decode cL_law 1053 = .ok (.iaload, 1) := by decide +kernel
theorem dL_law_1054 : decode cL_law 1054 = .ok (.invokevirtual 143, 3) := by decide +kernel
theorem dL_law_1057 : decode cL_law 1057 = .ok (.if_icmp .eq 88, 3) := by decide +kernel
theorem dL_law_1062 : decode cL_law 1062 = .ok (.aload_n 1, 1) := by decide +kernel
theorem dL_law_1063 : decode cL_law 1063 = .ok (.aload_n 0, 1) := by decide +kernel
theorem dL_law_1064 : decode cL_law 1064 = .ok (.iload_n 3, 1) := by decide +kernel
theorem dL_law_1065 : decode cL_law 1065 = .ok (.iconst 1, 1) := by decide +kernel
theorem dL_law_1066 : decode cL_law 1066 = .ok (.iadd, 1) := by decide +kernel
theorem dL_law_1067 : decode cL_law 1067 = .ok (.iaload, 1) := by decide +kernel
theorem dL_law_1068 : decode cL_law 1068 = .ok (.invokevirtual 144, 3) := by decide +kernel
theorem dL_law_1071 : decode cL_law 1071 = .ok (.aload_n 2, 1) := by decide +kernel
theorem dL_law_1072 : decode cL_law 1072 = .ok (.aload_n 0, 1) := by decide +kernel
theorem dL_law_1073 : decode cL_law 1073 = .ok (.iload_n 3, 1) := by decide +kernel
theorem dL_law_1074 : decode cL_law 1074 = .ok (.iconst 1, 1) := by decide +kernel
theorem dL_law_1075 : decode cL_law 1075 = .ok (.iadd, 1) := by decide +kernel
theorem dL_law_1076 : decode cL_law 1076 = .ok (.iaload, 1) := by decide +kernel
theorem dL_law_1077 : decode cL_law 1077 = .ok (.invokevirtual 147, 3) := by decide +kernel
theorem dL_law_1080 : decode cL_law 1080 = .ok (.if_icmp .eq 65, 3) := by decide +kernel
theorem dL_law_1085 : decode cL_law 1085 = .ok (.aload_n 1, 1) := by decide +kernel
theorem dL_law_1086 : decode cL_law 1086 = .ok (.aload_n 0, 1) := by decide +kernel
theorem dL_law_1087 : decode cL_law 1087 = .ok (.iload_n 3, 1) := by decide +kernel
theorem dL_law_1088 : decode cL_law 1088 = .ok (.iconst 1, 1) := by decide +kernel
theorem dL_law_1089 : decode cL_law 1089 = .ok (.iadd, 1) := by decide +kernel
theorem dL_law_1090 : decode cL_law 1090 = .ok (.iaload, 1) := by decide +kernel
theorem dL_law_1091 : decode cL_law 1091 = .ok (.invokevirtual 148, 3) := by decide +kernel
theorem dL_law_1094 : decode cL_law 1094 = .ok (.aload_n 2, 1) := by decide +kernel
theorem dL_law_1095 : decode cL_law 1095 = .ok (.aload_n 0, 1) := by decide +kernel
theorem dL_law_1096 : decode cL_law 1096 = .ok (.iload_n 3, 1) := by decide +kernel
theorem dL_law_1097 : decode cL_law 1097 = .ok (.iconst 1, 1) := by decide +kernel
theorem dL_law_1098 : decode cL_law 1098 = .ok (.iadd, 1) := by decide +kernel
theorem dL_law_1099 : decode cL_law 1099 = .ok (.iaload, 1) := by decide +kernel
theorem dL_law_1100 : decode cL_law 1100 = .ok (.invokevirtual 151, 3) := by decide +kernel
theorem dL_law_1103 : decode cL_law 1103 = .ok (.if_icmp .eq 42, 3) := by decide +kernel
theorem dL_law_1108 : decode cL_law 1108 = .ok (.aload_n 1, 1) := by decide +kernel
theorem dL_law_1109 : decode cL_law 1109 = .ok (.aload_n 0, 1) := by decide +kernel
theorem dL_law_1110 : decode cL_law 1110 = .ok (.iload_n 3, 1) := by decide +kernel
theorem dL_law_1111 : decode cL_law 1111 = .ok (.iconst 1, 1) := by decide +kernel
theorem dL_law_1112 : decode cL_law 1112 = .ok (.iadd, 1) := by decide +kernel
theorem dL_law_1113 : decode cL_law 1113 = .ok (.iaload, 1) := by decide +kernel
theorem dL_law_1114 : decode cL_law 1114 = .ok (.invokevirtual 152, 3) := by decide +kernel
theorem dL_law_1117 : decode cL_law 1117 = .ok (.aload_n 2, 1) := by decide +kernel
theorem dL_law_1118 : decode cL_law 1118 = .ok (.aload_n 0, 1) := by decide +kernel
theorem dL_law_1119 : decode cL_law 1119 = .ok (.iload_n 3, 1) := by decide +kernel
theorem dL_law_1120 : decode cL_law 1120 = .ok (.iconst 1, 1) := by decide +kernel
theorem dL_law_1121 : decode cL_law 1121 = .ok (.iadd, 1) := by decide +kernel
theorem dL_law_1122 : decode cL_law 1122 = .ok (.iaload, 1) := by decide +kernel
theorem dL_law_1123 : decode cL_law 1123 = .ok (.invokevirtual 155, 3) := by decide +kernel
theorem dL_law_1126 : decode cL_law 1126 = .ok (.if_icmp .eq 19, 3) := by decide +kernel
theorem dL_law_1131 : decode cL_law 1131 = .ok (.aload_n 1, 1) := by decide +kernel
theorem dL_law_1132 : decode cL_law 1132 = .ok (.invokevirtual 156, 3) := by decide +kernel
theorem dL_law_1135 : decode cL_law 1135 = .ok (.aload_n 2, 1) := by decide +kernel
theorem dL_law_1136 : decode cL_law 1136 = .ok (.invokevirtual 160, 3) := by decide +kernel
theorem dL_law_1139 : decode cL_law 1139 = .ok (.lcmp, 1) := by decide +kernel
theorem dL_law_1140 : decode cL_law 1140 = .ok (.ifCond .eq 5, 3) := by decide +kernel
theorem dL_law_1145 : decode cL_law 1145 = .ok (.iinc 3 6, 3) := by decide +kernel
theorem dL_law_1148 : decode cL_law 1148 = .ok (.goto (-1130), 3) := by decide +kernel
theorem dL_law_1151 : decode cL_law 1151 = .ok (.iconst 1, 1) := by decide +kernel
theorem dL_law_1152 : decode cL_law 1152 = .ok (.ireturn, 1) := by decide +kernel
abbrev vwCl : List vw_C := [(RX0, TX0, 3), (RX1, TX1, 6), (RX2, TX2, 0), (RX3, TX3, 0), (RX4, TX4, 11), (RX5, TX5, 0), (RX6, TX6, 0), (RX7, TX7, 12), (RX8, TX8, 0), (RX9, TX9, 0), (RX10, TX10, 12), (RX11, TX11, 18)]
end
section
/-! the wrappers: one form of contract for all methods, calls as one row each -/
/-- the array classes: by number -/
abbrev kw_T (y : Nat → ClassId) : List (ClassId × FieldType) := [(y 0, .int), (y 1, .byte), (y 2, .boolean), (y 3, .object "GleanDusk$Dusk"), (y 4, .object "GleanDusk$Parish"), (y 5, .object "GleanDusk$Plain"), (y 6, .array .int)]
/-- the calls between nest mates -/
def kw_Nest : List (String × Nat × MethodName) := [("GleanDusk", 9, yX5_init), ("GleanDusk", 12, yX8_init), ("GleanDusk$West", 1, yX5_init), ("GleanDusk", 15, yX9_init), ("GleanDusk$Wood", 1, yX5_init), ("GleanDusk", 18, yX6_init), ("GleanDusk$Puddle", 1, yX5_init), ("GleanDusk", 21, yX2_init), ("GleanDusk$Hill", 1, yX8_init), ("GleanDusk", 24, yX3_init), ("GleanDusk$Lane", 1, yX9_init), ("GleanDusk$Parish", 17, yX1_init), ("GleanDusk", 50, yX7_init), ("GleanDusk", 57, yX1_init), ("GleanDusk", 64, yX0_init), ("GleanDusk$Parish", 73, yX10_isBelow), ("GleanDusk$Text", 85, yX10_isIn), ("GleanDusk$Parish", 118, yX10_faded)]
def kw_N (U : State) : Prop := (∀ q ∈ kw_Nest, va_Nw (.methodLinkNest q.1 q.2.1 q.2.2 "GleanDusk") U) ∧ va_AO "GleanDusk$Dusk" U ∧ va_AO "GleanDusk$Parish" U ∧ va_AO "GleanDusk$Plain" U ∧ (Cond.arrayOver (.array .int)).before #[] U = true ∧ ∀ C ∈ ["GleanDusk$West", "GleanDusk$Wood", "GleanDusk$Puddle", "GleanDusk$Hill", "GleanDusk$Lane"], va_Nw (.castable C "GleanDusk$Plain") U
theorem kw_AOA {ty : FieldType} {u U : State} (hvm : u.vm.Alike U.vm) (h : (Cond.arrayOver (.array ty)).before #[] u = true) : (Cond.arrayOver (.array ty)).before #[] U = true := by
  have h9 : (Cond.arrayOver (.array ty)).before #[] (u.setVm U.vm) = true := by
    rw [Cond.arrayOver_setVmC hvm]
    exact h
  exact h9
theorem kw_N.warm {s U : State} (hW : s.WarmedH U.vm) (h : kw_N s) : kw_N U := ⟨fun q hq => va_Nw.warmM hW (h.1 q hq), va_AO.moved hW.alike h.2.1, va_AO.moved hW.alike h.2.2.1, va_AO.moved hW.alike h.2.2.2.1, kw_AOA hW.alike h.2.2.2.2.1, fun C hC => va_Nw.warmC hW (h.2.2.2.2.2 C hC)⟩
theorem kw_N.same {s U : State} (e : s.vm = U.vm) (h : kw_N s) : kw_N U := ⟨fun q hq => va_Nw.same rfl e (h.1 q hq), va_AO.moved (e ▸ Vm.Alike.refl s.vm) h.2.1, va_AO.moved (e ▸ Vm.Alike.refl s.vm) h.2.2.1, va_AO.moved (e ▸ Vm.Alike.refl s.vm) h.2.2.2.1, kw_AOA (e ▸ Vm.Alike.refl s.vm) h.2.2.2.2.1, fun C hC => va_Nw.same rfl e (h.2.2.2.2.2 C hC)⟩
def kw_P (D : va_G) (y : Nat → ClassId) (av : List Value) (sz : Nat) (ws : va_W) : Array Value → State → Prop := va_Pc av (fun U => U.heap.size = sz ∧ va_P D vwCl ws U.heap ∧ va_K D vwCl (kw_T y) U ∧ va_D (fun _ => True) ws ∧ kw_N U)
def kw_B {S : Type} (D : va_G) (w1 : S → va_W) (A : Nat → Prop) : S → State → Prop := fun u t => va_P D vwCl (w1 u) t.heap ∧ va_D A (w1 u)
def kw_Mi {S : Type} (l : Launch) (yn : MethodName) (wy : List Cond) (rm : Room) (D : va_G) (y : Nat → ClassId) (av : List Value) (ws : va_W) (post : Int32 → S → Prop) (w1 : S → va_W) (mc ms : Nat) : Prop := ∀ sz : Nat, Met l yn wy rm (kw_P D y av sz ws) (va_Qi post (kw_B D w1 (va_A ws sz)) (va_A ws sz)) mc ms (va_A ws sz)
def kw_Ml {S : Type} (l : Launch) (yn : MethodName) (wy : List Cond) (rm : Room) (D : va_G) (y : Nat → ClassId) (av : List Value) (ws : va_W) (post : Int64 → S → Prop) (w1 : S → va_W) (mc ms : Nat) : Prop := ∀ sz : Nat, Met l yn wy rm (kw_P D y av sz ws) (va_Ql post (kw_B D w1 (va_A ws sz)) (va_A ws sz)) mc ms (va_A ws sz)
def kw_Mv {S : Type} (l : Launch) (yn : MethodName) (wy : List Cond) (rm : Room) (D : va_G) (y : Nat → ClassId) (av : List Value) (ws : va_W) (post : S → Prop) (w1 : S → va_W) (mc ms : Nat) : Prop := ∀ sz : Nat, Met l yn wy rm (kw_P D y av sz ws) (va_Qv post (kw_B D w1 (va_A ws sz)) (va_A ws sz)) mc ms (va_A ws sz)
theorem kw_Blind {D : va_G} {y : Nat → ClassId} {av : List Value} {sz : Nat} {ws : va_W} : FrameBlind (kw_P D y av sz ws) := fun a U g mk q => by
  obtain ⟨q0, q1, qP, qK, qD, qN⟩ := q
  exact ⟨q0, q1, qP, va_K.moved (u := U) (U := U.calling g mk a) (Vm.Alike.refl U.vm) qK, qD, kw_N.same (s := U) (U := U.calling g mk a) rfl qN⟩
/-- what a body has at its entry -/
def kw_E (p : Program) (s : State) (m : MethodId) (meth : Method) (c : Code) (cc : ByteArray) (maxL : Nat) (ret : Option FieldType) (R0 : String) (nm : String) (av : List Value) (wy : List Cond) (D : va_G) (y : Nat → ClassId) (ws : va_W) (A : Nat → Prop) : Prop :=
  p.tables.exec = Jvm.exec ∧ c.code = cc ∧ meth.sig.returnType = ret ∧ c.maxLocals = maxL ∧ (∀ w ∈ wy, w.before av.toArray s = true) ∧ s.vm.findClass R0 = some m.cls ∧ meth.locks = false ∧ meth.name = nm ∧ (∀ q : Nat, s.heap.size ≤ q → A q) ∧ va_P D vwCl ws s.heap ∧ va_D A ws ∧ va_K D vwCl (kw_T y) s ∧ kw_N s
section KW
variable {S : Type} {l : Launch} {yn : MethodName} {wy wy' : List Cond} {rm : Room} {D : va_G} {y : Nat → ClassId} {av : List Value} {ws : va_W} {w1 : S → va_W} {mc ms : Nat} {cc : ByteArray} {maxL : Nat} {ret : Option FieldType}
theorem kw_Mi.of {post : Int32 → S → Prop} (hy : plainName yn.cls = true) (hw : wy = Cond.code yn cc maxL ret :: wy')
    (body : ∀ (p : Program) (e : Env) (s : State) (m : MethodId) (below : List Frame) (meth : Method) (c : Code) (A : Nat → Prop), kw_E p s m meth c cc maxL ret yn.cls yn.name av wy D y ws A →
      W p l e rm s m av.toArray below meth c s.heap [] 0 0 (MQ below (va_Qi post (kw_B D w1 A) A) av.toArray s mc ms A) (entryFrame m av.toArray maxL)) : kw_Mi l yn wy rm D y av ws post w1 mc ms := by
  intro sz
  refine Met.ofW (cc := cc) (maxL := maxL) (ret := ret) hy hw ?_
  intro p e s m args below meth c s₁ B hml hv
  obtain ⟨rfl, hsz, hP, hK, hD0, hN⟩ := hv
  subst hsz
  have hD := hD0.self (sz := s.heap.size)
  exact body p e s m below meth c _ ⟨B.exec, B.bytes, B.returns, hml, atoms_spec (ws := wy) B.pre, findClass_of_methodNamed B.named, B.notSynchronized, (name_of_methodNamed B.named B.method).1, fun q h => Or.inr h, hP, hD, hK, hN⟩
theorem kw_Ml.of {post : Int64 → S → Prop} (hy : plainName yn.cls = true) (hw : wy = Cond.code yn cc maxL ret :: wy')
    (body : ∀ (p : Program) (e : Env) (s : State) (m : MethodId) (below : List Frame) (meth : Method) (c : Code) (A : Nat → Prop), kw_E p s m meth c cc maxL ret yn.cls yn.name av wy D y ws A →
      W p l e rm s m av.toArray below meth c s.heap [] 0 0 (MQ below (va_Ql post (kw_B D w1 A) A) av.toArray s mc ms A) (entryFrame m av.toArray maxL)) : kw_Ml l yn wy rm D y av ws post w1 mc ms := by
  intro sz
  refine Met.ofW (cc := cc) (maxL := maxL) (ret := ret) hy hw ?_
  intro p e s m args below meth c s₁ B hml hv
  obtain ⟨rfl, hsz, hP, hK, hD0, hN⟩ := hv
  subst hsz
  have hD := hD0.self (sz := s.heap.size)
  exact body p e s m below meth c _ ⟨B.exec, B.bytes, B.returns, hml, atoms_spec (ws := wy) B.pre, findClass_of_methodNamed B.named, B.notSynchronized, (name_of_methodNamed B.named B.method).1, fun q h => Or.inr h, hP, hD, hK, hN⟩
theorem kw_Mv.of {post : S → Prop} (hy : plainName yn.cls = true) (hw : wy = Cond.code yn cc maxL ret :: wy')
    (body : ∀ (p : Program) (e : Env) (s : State) (m : MethodId) (below : List Frame) (meth : Method) (c : Code) (A : Nat → Prop), kw_E p s m meth c cc maxL ret yn.cls yn.name av wy D y ws A →
      W p l e rm s m av.toArray below meth c s.heap [] 0 0 (MQ below (va_Qv post (kw_B D w1 A) A) av.toArray s mc ms A) (entryFrame m av.toArray maxL)) : kw_Mv l yn wy rm D y av ws post w1 mc ms := by
  intro sz
  refine Met.ofW (cc := cc) (maxL := maxL) (ret := ret) hy hw ?_
  intro p e s m args below meth c s₁ B hml hv
  obtain ⟨rfl, hsz, hP, hK, hD0, hN⟩ := hv
  subst hsz
  have hD := hD0.self (sz := s.heap.size)
  exact body p e s m below meth c _ ⟨B.exec, B.bytes, B.returns, hml, atoms_spec (ws := wy) B.pre, findClass_of_methodNamed B.named, B.notSynchronized, (name_of_methodNamed B.named B.method).1, fun q h => Or.inr h, hP, hD, hK, hN⟩
end KW
section KC
variable {p : Program} {l : Launch} {e : Env} {R : Room} {s : State} {m : MethodId} {args : Array Value} {below : List Frame} {meth : Method} {c : Code} {H H0 : Heap} {locs : List Loc} {cells slots : Nat} {Q : State → Prop}
variable {S : Type} {yn : MethodName} {wy Ts : List Cond} {rm : Room} {D : va_G} {y : Nat → ClassId} {ws wc wr : va_W} {w1 : S → va_W} {mc ms : Nat} {cc bytes : ByteArray} {maxL nL n index pc b : Nat} {ret : Option FieldType} {own C host : String} {A : Nat → Prop} {As rest st0 : List Value} {ls : Array Slot}
/-- cells of the callee (isC), the others (isR) -/
def kw_Split (ws wc wr : va_W) (isC isR : List Nat) : Prop := isC.filterMap (fun i => ws[i]?) = wc ∧ isC.map (fun i => ws[i]?) = wc.map some ∧ isR.map (fun i => ws[i]?) = wr.map some ∧ va_nd isC = true ∧ va_nd isR = true ∧ ∀ i ∈ isR, i ∉ isC
theorem kw_PreS {isC isR : List Nat} (hx : kw_Split ws wc wr isC isR) (hP : va_P D vwCl ws H) (hD : va_D A ws) (hK : va_K D vwCl (kw_T y) s) (hN : kw_N s) : PreS s H (kw_P D y As H.size wc) As :=
  ⟨kw_Blind, fun U hU hW => ⟨rfl, by rw [hU], by rw [hU]; exact hP.sub isC hx.1, va_K.moved hW.alike hK, (hD.sub isC hx.2.2.2.1 hx.2.1).weaken (fun _ _ _ _ => trivial), hN.warm hW⟩⟩
theorem kw_PreI {isC isR : List Nat} (hx : kw_Split ws wc wr isC isR) (hP : va_P D vwCl ws H) (hD : va_D A ws) (hK : va_K D vwCl (kw_T y) s) (hN : kw_N s) : PreS s H (kw_P D y (.ref b :: As) H.size wc) (.ref b :: As) := kw_PreS hx hP hD hK hN
theorem kw_PreV {isC isR : List Nat} {ci q0 : Nat} {T : u_T} {N : Nat} {fs : List Value} (hx : kw_Split ws wc wr isC isR) (hP : va_P D vwCl ws H) (hD : va_D A ws) (hK : va_K D vwCl (kw_T y) s) (hN : kw_N s) (hc : vwCl[ci]? = some (C, T, N)) (he : ws[q0]? = some (b, .inr (ci, fs))) : PreV s H C b (kw_P D y (.ref b :: As) H.size wc) As :=
  ⟨kw_Blind, va_recv hK hP hc he, (kw_PreI hx hP hD hK hN).2⟩
theorem kw_go_i {post : Int32 → S → Prop} {isC isR : List Nat} {a : Array Value} (hx : kw_Split ws wc wr isC isR) (hP : va_P D vwCl ws H) (hD : va_D A ws) (hS : va_S A H0 H locs) (hA : ∀ q, H0.size ≤ q → A q)
    (hr : va_Run p l e R s m args below meth c H locs cells slots mc ms (F0 m pc ls st0) rest (va_Qi post (kw_B D w1 (va_A wc H.size)) (va_A wc H.size) a) (va_A wc H.size))
    (kk : ∀ (r : Int32) (u : S) (H1 : Heap) (locs1 : List Loc), post r u → va_P D vwCl (wr ++ w1 u) H1 → va_D A (wr ++ w1 u) → va_S A H0 H1 locs1 → W p l e R s m args below meth c H1 locs1 (cells + mc) (slots + ms) Q (F0 m (pc + 3) ls (.int r :: rest))) : W p l e R s m args below meth c H locs cells slots Q (F0 m pc ls st0) := by
  have hF := va_free (wc := wc) hD hS hA isC hx.2.1
  refine va_calli hr hS (fun q _ h => hF q h) hF (fun r u t H1 locs1 ht hvm hw hB hz1 hk1 hS1 => ?_)
  obtain ⟨hP1, hD1⟩ := hB
  rw [ht] at hP1
  obtain ⟨hP2, hD2⟩ := va_join (wr := wr) (w1 := w1 u) hP hD isC isR hx.2.1 hx.2.2.1 hx.2.2.2.2.1 hx.2.2.2.2.2 hk1 hF hP1 hD1
  exact kk r u H1 locs1 hw hP2 hD2 hS1
theorem kw_go_l {post : Int64 → S → Prop} {isC isR : List Nat} {a : Array Value} (hx : kw_Split ws wc wr isC isR) (hP : va_P D vwCl ws H) (hD : va_D A ws) (hS : va_S A H0 H locs) (hA : ∀ q, H0.size ≤ q → A q)
    (hr : va_Run p l e R s m args below meth c H locs cells slots mc ms (F0 m pc ls st0) rest (va_Ql post (kw_B D w1 (va_A wc H.size)) (va_A wc H.size) a) (va_A wc H.size))
    (kk : ∀ (r : Int64) (u : S) (H1 : Heap) (locs1 : List Loc), post r u → va_P D vwCl (wr ++ w1 u) H1 → va_D A (wr ++ w1 u) → va_S A H0 H1 locs1 → W p l e R s m args below meth c H1 locs1 (cells + mc) (slots + ms) Q (F0 m (pc + 3) ls (.long r :: rest))) : W p l e R s m args below meth c H locs cells slots Q (F0 m pc ls st0) := by
  have hF := va_free (wc := wc) hD hS hA isC hx.2.1
  refine va_calll hr hS (fun q _ h => hF q h) hF (fun r u t H1 locs1 ht hvm hw hB hz1 hk1 hS1 => ?_)
  obtain ⟨hP1, hD1⟩ := hB
  rw [ht] at hP1
  obtain ⟨hP2, hD2⟩ := va_join (wr := wr) (w1 := w1 u) hP hD isC isR hx.2.1 hx.2.2.1 hx.2.2.2.2.1 hx.2.2.2.2.2 hk1 hF hP1 hD1
  exact kk r u H1 locs1 hw hP2 hD2 hS1
theorem kw_go_v {post : S → Prop} {isC isR : List Nat} {a : Array Value} (hx : kw_Split ws wc wr isC isR) (hP : va_P D vwCl ws H) (hD : va_D A ws) (hS : va_S A H0 H locs) (hA : ∀ q, H0.size ≤ q → A q)
    (hr : va_Run p l e R s m args below meth c H locs cells slots mc ms (F0 m pc ls st0) rest (va_Qv post (kw_B D w1 (va_A wc H.size)) (va_A wc H.size) a) (va_A wc H.size))
    (kk : ∀ (u : S) (H1 : Heap) (locs1 : List Loc), post u → va_P D vwCl (wr ++ w1 u) H1 → va_D A (wr ++ w1 u) → va_S A H0 H1 locs1 → W p l e R s m args below meth c H1 locs1 (cells + mc) (slots + ms) Q (F0 m (pc + 3) ls rest)) : W p l e R s m args below meth c H locs cells slots Q (F0 m pc ls st0) := by
  have hF := va_free (wc := wc) hD hS hA isC hx.2.1
  refine va_callv hr hS (fun q _ h => hF q h) hF (fun u t H1 locs1 ht hvm hw hB hz1 hk1 hS1 => ?_)
  obtain ⟨hP1, hD1⟩ := hB
  rw [ht] at hP1
  obtain ⟨hP2, hD2⟩ := va_join (wr := wr) (w1 := w1 u) hP hD isC isR hx.2.1 hx.2.2.1 hx.2.2.2.2.1 hx.2.2.2.2.2 hk1 hF hP1 hD1
  exact kk u H1 locs1 hw hP2 hD2 hS1
end KC
/-- a row of zeros in which a zero is laid stays -/
theorem kw_upd0 (k : Nat) : upd (fun _ => (0 : Int32)) k 0 = fun _ => 0 := by
  funext j
  unfold upd
  split <;> rfl
theorem kw_in {x n : Int32} {N : Nat} (h1 : ¬ x < 0) (h2 : ¬ n ≤ x) (hn : n.toInt = N) : vp_in x N := by
  rw [vp_in_iff]
  rw [Int32.lt_iff_toInt_lt] at h1
  rw [Int32.le_iff_toInt_le] at h2
  have h0 : (0 : Int32).toInt = 0 := by decide
  omega
/-- two array classes of one type are one -/
theorem kw_cls {D : va_G} {cl : List vw_C} {tys : List (ClassId × FieldType)} {s : State} {c1 c2 : ClassId} {ty : FieldType} (hK : va_K D cl tys s) {i j : Nat} (hi : tys[i]? = some (c1, ty)) (hj : tys[j]? = some (c2, ty)) : c1 = c2 := by
  have h1 := (hK.2 i _ hi).2
  have h2 := (hK.2 j _ hj).2
  cases ty with
  | object C =>
    obtain ⟨-, -, -, -, -, e1⟩ := h1
    obtain ⟨-, -, -, -, -, e2⟩ := h2
    exact Option.some.inj (e1.symm.trans e2)
  | _ =>
    exact Option.some.inj (h1.symm.trans h2)

theorem kw_inle {x : Int32} {a b : Nat} (h : vp_in x a) (hab : a ≤ b) : vp_in x b := by
  rw [vp_in_iff] at h ⊢
  omega
theorem kw_cpy0 (a b n : Nat) : va_cpy (fun _ => (0 : Int32)) (fun _ => 0) a b n = fun _ => 0 := by
  funext j
  unfold va_cpy
  split <;> rfl
theorem kw_x1 {a b : Int32} (h : ¬ a < b) (h2 : ¬ b ≤ a) : False := h2 (Int32.not_lt.mp h)
theorem kw_x2 {a b : Int32} (h : a < b) (h2 : b ≤ a) : False := (Int32.not_lt.mpr h2) h
theorem kw_lgc (x y : Int64) : (lg_cmp x y).toInt = if y.toInt < x.toInt then 1 else if x.toInt = y.toInt then 0 else -1 := by
  unfold lg_cmp
  simp only [gt_iff_lt, Int64.lt_iff_toInt_lt, ← Int64.toInt_inj]
  repeat' split
  all_goals rfl
theorem kw_clt_t {x y : Int64} (h : lg_cmp x y < 0) : x < y := by
  rw [Int32.lt_iff_toInt_lt, kw_lgc] at h
  rw [Int64.lt_iff_toInt_lt]
  have h0 : (0 : Int32).toInt = 0 := by decide
  rw [h0] at h
  repeat' split at h
  all_goals omega
theorem kw_clt_f {x y : Int64} (h : ¬ lg_cmp x y < 0) : ¬ x < y := by
  rw [Int32.lt_iff_toInt_lt, kw_lgc] at h
  rw [Int64.lt_iff_toInt_lt]
  have h0 : (0 : Int32).toInt = 0 := by decide
  rw [h0] at h
  repeat' split at h
  all_goals omega
theorem kw_cgt_t {x y : Int64} (h : 0 < lg_cmp x y) : y < x := by
  rw [Int32.lt_iff_toInt_lt, kw_lgc] at h
  rw [Int64.lt_iff_toInt_lt]
  have h0 : (0 : Int32).toInt = 0 := by decide
  rw [h0] at h
  repeat' split at h
  all_goals omega
theorem kw_cgt_f {x y : Int64} (h : ¬ 0 < lg_cmp x y) : ¬ y < x := by
  rw [Int32.lt_iff_toInt_lt, kw_lgc] at h
  rw [Int64.lt_iff_toInt_lt]
  have h0 : (0 : Int32).toInt = 0 := by decide
  rw [h0] at h
  repeat' split at h
  all_goals omega

theorem kw_nlt {j N : Nat} {n : Int32} (hn : n.toInt = N) (hj : j < 2147483648) (h : ¬ n ≤ nI j) : j < N := by
  rw [Int32.le_iff_toInt_le, hn, nI_toInt hj] at h
  omega
theorem kw_rng {x lo hi : Int32} {a b : Nat} (h1 : ¬ x < lo) (h2 : ¬ hi < x) (e1 : lo.toInt = a) (e2 : hi.toInt = b) : ∃ j : Nat, a ≤ j ∧ j ≤ b ∧ x = nI j := by
  rw [Int32.lt_iff_toInt_lt] at h1 h2
  have h0 : ¬ x < 0 := by
    rw [Int32.lt_iff_toInt_lt]
    have e0 : (0 : Int32).toInt = 0 := by decide
    omega
  obtain ⟨j, hj, rfl⟩ := nI_of h0
  have ej := nI_toInt hj
  exact ⟨j, by omega, by omega, rfl⟩
theorem kw_rngL {x : Int32} {lo hi : Int64} {a b : Nat} (h1 : ¬ x.toInt64 < lo) (h2 : ¬ hi < x.toInt64) (e1 : lo.toInt = a) (e2 : hi.toInt = b) : ∃ j : Nat, a ≤ j ∧ j ≤ b ∧ x = nI j := by
  rw [Int64.lt_iff_toInt_lt, Int32.toInt_toInt64] at h1 h2
  have h0 : ¬ x < 0 := by
    rw [Int32.lt_iff_toInt_lt]
    have e0 : (0 : Int32).toInt = 0 := by decide
    omega
  obtain ⟨j, hj, rfl⟩ := nI_of h0
  have ej := nI_toInt hj
  exact ⟨j, by omega, by omega, rfl⟩
theorem kw_inadd {a : Int32} {A j n : Nat} (ha : a = nI A) (h : A + j < n) (hn : n < 2147483648) : vp_in (a + nI j) n := by
  rw [ha, nI_add]
  exact vp_in_nI h hn
theorem kw_ceq_t {x y : Int64} (h : lg_cmp x y = 0) : x = y := by
  have h1 := congrArg Int32.toInt h
  rw [kw_lgc] at h1
  have h0 : (0 : Int32).toInt = 0 := by decide
  rw [h0] at h1
  apply Int64.toInt_inj.mp
  repeat' split at h1
  all_goals omega
theorem kw_ceq_f {x y : Int64} (h : ¬ lg_cmp x y = 0) : ¬ x = y := by
  rintro rfl
  apply h
  apply Int32.toInt_inj.mp
  rw [kw_lgc]
  have h0 : (0 : Int32).toInt = 0 := by decide
  rw [h0]
  simp
theorem kw_cne_t {x y : Int64} (h : ¬ lg_cmp x y = 0) : ¬ x = y := kw_ceq_f h
theorem kw_cne_f {x y : Int64} (h : lg_cmp x y = 0) : x = y := kw_ceq_t h
theorem kw_two {x : Int32} (h1 : ¬ x < 0) (h2 : ¬ 2 ≤ x) : x = 0 ∨ x = 1 := by
  rw [Int32.lt_iff_toInt_lt] at h1
  rw [Int32.le_iff_toInt_le] at h2
  have e0 : (0 : Int32).toInt = 0 := by decide
  have e1 : (2 : Int32).toInt = 2 := by decide
  have k0 : (0 : Int32).toInt = 0 := by decide
  have k1 : (1 : Int32).toInt = 1 := by decide
  simp only [← Int32.toInt_inj]
  omega
theorem kw_nine {x : Int32} (h1 : ¬ x < 0) (h2 : ¬ 9 ≤ x) : x = 0 ∨ x = 1 ∨ x = 2 ∨ x = 3 ∨ x = 4 ∨ x = 5 ∨ x = 6 ∨ x = 7 ∨ x = 8 := by
  rw [Int32.lt_iff_toInt_lt] at h1
  rw [Int32.le_iff_toInt_le] at h2
  have e0 : (0 : Int32).toInt = 0 := by decide
  have e1 : (9 : Int32).toInt = 9 := by decide
  have k0 : (0 : Int32).toInt = 0 := by decide
  have k1 : (1 : Int32).toInt = 1 := by decide
  have k2 : (2 : Int32).toInt = 2 := by decide
  have k3 : (3 : Int32).toInt = 3 := by decide
  have k4 : (4 : Int32).toInt = 4 := by decide
  have k5 : (5 : Int32).toInt = 5 := by decide
  have k6 : (6 : Int32).toInt = 6 := by decide
  have k7 : (7 : Int32).toInt = 7 := by decide
  have k8 : (8 : Int32).toInt = 8 := by decide
  simp only [← Int32.toInt_inj]
  omega
theorem kw_twoL {x : Int32} (h1 : ¬ x.toInt64 < 0) (h2 : ¬ 1 < x.toInt64) : x = 0 ∨ x = 1 := by
  rw [Int64.lt_iff_toInt_lt, Int32.toInt_toInt64] at h1 h2
  have e0 : (0 : Int64).toInt = 0 := by decide
  have e1 : (1 : Int64).toInt = 1 := by decide
  have k0 : (0 : Int32).toInt = 0 := by decide
  have k1 : (1 : Int32).toInt = 1 := by decide
  simp only [← Int32.toInt_inj]
  omega
theorem kw_threeL {x : Int32} (h1 : ¬ x.toInt64 < 0) (h2 : ¬ 2 < x.toInt64) : x = 0 ∨ x = 1 ∨ x = 2 := by
  rw [Int64.lt_iff_toInt_lt, Int32.toInt_toInt64] at h1 h2
  have e0 : (0 : Int64).toInt = 0 := by decide
  have e1 : (2 : Int64).toInt = 2 := by decide
  have k0 : (0 : Int32).toInt = 0 := by decide
  have k1 : (1 : Int32).toInt = 1 := by decide
  have k2 : (2 : Int32).toInt = 2 := by decide
  simp only [← Int32.toInt_inj]
  omega
theorem kw_nineL {x : Int32} (h1 : ¬ x.toInt64 < 0) (h2 : ¬ 8 < x.toInt64) : x = 0 ∨ x = 1 ∨ x = 2 ∨ x = 3 ∨ x = 4 ∨ x = 5 ∨ x = 6 ∨ x = 7 ∨ x = 8 := by
  rw [Int64.lt_iff_toInt_lt, Int32.toInt_toInt64] at h1 h2
  have e0 : (0 : Int64).toInt = 0 := by decide
  have e1 : (8 : Int64).toInt = 8 := by decide
  have k0 : (0 : Int32).toInt = 0 := by decide
  have k1 : (1 : Int32).toInt = 1 := by decide
  have k2 : (2 : Int32).toInt = 2 := by decide
  have k3 : (3 : Int32).toInt = 3 := by decide
  have k4 : (4 : Int32).toInt = 4 := by decide
  have k5 : (5 : Int32).toInt = 5 := by decide
  have k6 : (6 : Int32).toInt = 6 := by decide
  have k7 : (7 : Int32).toInt = 7 := by decide
  have k8 : (8 : Int32).toInt = 8 := by decide
  simp only [← Int32.toInt_inj]
  omega
end
section

/-- new int[n][k]: the rows are left out of the world -/
def va_AOA (ty : FieldType) (U : State) : Prop := (Cond.arrayOver (.array ty)).before #[] U = true
theorem va_AOA.use {ty : FieldType} {A : Array Value} {U : State} (h : va_AOA ty U) : (Cond.arrayOver (.array ty)).before A U = true := h
/-! ===== BEGIN new T[n][m]: the outer array a place, the inner ones among the pooled ===== -/
/-- f, but v at every address of l -/
def vr_up {α : Type} (f : Nat → α) (l : List Nat) (v : α) : Nat → α := fun a => if a ∈ l then v else f a
theorem vr_up_in {α : Type} {f : Nat → α} {l : List Nat} {v : α} {a : Nat} (h : a ∈ l) : vr_up f l v a = v := if_pos h
theorem vr_up_ne {α : Type} {f : Nat → α} {l : List Nat} {v : α} {a : Nat} (h : a ∉ l) : vr_up f l v a = f a := if_neg h
theorem vr_rows {L l : List Nat} {f : Nat → va_E} {e : va_E} (h : ∀ a, a ∈ l → a ∉ L) : va_pl L f ++ l.map (fun a => (a, e)) = va_pl (L ++ l) (vr_up f l e) := by
  unfold va_pl
  rw [List.map_append]
  congr 1
  · apply List.map_congr_left
    intro a ha
    rw [vr_up_ne (fun q => h a q ha)]
  · apply List.map_congr_left
    intro a ha
    rw [vr_up_in ha]
theorem vr_lay {X rows : va_W} {x : Nat × va_E} {pl : va_W} {D : va_G} {cl : List vw_C} {H : Heap} (hP : va_P D cl (((X ++ pl) ++ [x]) ++ rows) H) : va_P D cl ((X ++ [x]) ++ (pl ++ rows)) H := by
  rw [List.append_assoc (X ++ pl)] at hP
  have h := va_P.swap hP
  rw [← List.append_assoc X] at h
  have h2 := va_P.swap h
  rw [List.append_assoc (X ++ [x])] at h2
  exact h2
theorem vr_layD {X rows : va_W} {x : Nat × va_E} {pl : va_W} {A : Nat → Prop} (hD : va_D A (((X ++ pl) ++ [x]) ++ rows)) : va_D A ((X ++ [x]) ++ (pl ++ rows)) := by
  rw [List.append_assoc (X ++ pl)] at hD
  have h := va_D.swap hD
  rw [← List.append_assoc X] at h
  have h2 := va_D.swap h
  rw [List.append_assoc (X ++ [x])] at h2
  exact h2
theorem vr_outer (c : ClassId) (N h0 : Nat) : ∀ i : Nat, Jvm.Free.Multi.outerC c N h0 i = arrV c N (fun j => va_rf (if j < i then some (h0 + 1 + j) else none))
  | 0 => by
    show ({ cls := c, slots := Array.replicate N .null, vm := .none } : Cell) = _
    rw [arrV_new]
    refine congrArg (arrV c N) (funext fun j => ?_)
    simp [va_rf]
  | i + 1 => by
    show (Jvm.Free.Multi.outerC c N h0 i).setSlot i (.ref (h0 + 1 + i)) = _
    rw [vr_outer c N h0 i, arrV_store]
    refine congrArg (arrV c N) (funext fun j => ?_)
    by_cases e : j = i
    · subst e
      simp [updV, va_rf]
    · by_cases h : j < i
      · simp [updV, e, h, Nat.lt_succ_of_lt h]
      · simp [updV, e, h, show ¬ j < i + 1 by omega]
section VGM
variable {p : Program} {l : Launch} {e : Env} {R : Room} {s : State} {m : MethodId} {args : Array Value} {below : List Frame} {meth : Method} {c : Code} {H : Heap} {locs : List Loc} {cells slots : Nat} {Q : State → Prop}
variable {cc : ByteArray} {pc : Nat} {ls : Array Slot} {rest : List Value} {D : va_G} {cl : List vw_C} {A : Nat → Prop} {a : Nat} {tys : List (ClassId × FieldType)} {ws : va_W} {H0 : Heap}
theorem va_mna {X : va_W} {L : List Nat} {f : Nat → va_E} {cc : ByteArray} (hexec : p.tables.exec = Jvm.exec) (hb : c.code = cc) {own : String} {index : Nat} {ty : FieldType} {cy : ClassId} (hown : s.vm.findClass own = some m.cls) (hclink : (Cond.classLink own index ("[" ++ (FieldType.array ty).toString)).before args s = true) (hover : va_AOA ty s) (harr : (Cond.arrayClass ty).before args s = true) (hcy : s.vm.findClass (FieldType.array ty).toString = some cy)
    (hK : va_K D cl tys s) (hP : va_P D cl (X ++ va_pl L f) H) (hD : va_D A (X ++ va_pl L f)) (hS : va_S A H0 H locs) (hA : ∀ q, H0.size ≤ q → A q) {n k : Int32} {N' K' : Nat} {z : vp_A} (hn : ¬ n < 0) (hk : ¬ k < 0) (hN : n.toNatClampNeg = N') (hM : k.toNatClampNeg = K')
    (hb1 : N' * 4 ≤ 536870912) (hb2 : K' * componentBytes ty ≤ 536870912) (hb3 : K' ≤ 536870912) (hdf : fits ty (defaultValue ty) = true) (hdd : (defaultValue ty).isDefault = true) (hcells : cells + (1 + N') ≤ R.cells) (hslots : slots + (N' + N' * K') ≤ R.slots) (hz : ∀ c : ClassId, Jvm.Free.Multi.innerC c K' (defaultValue ty) = vp_cell c z) (hdg : decode cc pc = .ok (.multianewarray index 2, 4))
    (kk : ∀ (q : Nat) (r : Nat → Nat) (cA : ClassId) (H1 : Heap), (∀ i j : Nat, i < N' → j < N' → r i = r j → i = j) → (∀ i : Nat, i < N' → r i ∉ L) → va_K D cl (tys ++ [(cA, .array ty)]) s →
      va_P D cl ((X ++ [(q, .inl (cA, N', .inr (.inr (.inr (.inr (fun i => if i < N' then some (r i) else none))))))]) ++ va_pl (L ++ (List.range N').map r) (vr_up f ((List.range N').map r) (.inl (cy, z)))) H1 → va_D A ((X ++ [(q, .inl (cA, N', .inr (.inr (.inr (.inr (fun i => if i < N' then some (r i) else none))))))]) ++ va_pl (L ++ (List.range N').map r) (vr_up f ((List.range N').map r) (.inl (cy, z)))) → va_S A H0 H1 locs →
      W p l e R s m args below meth c H1 locs (cells + 1 + N') (slots + N' + N' * K') Q (F0 m (pc + 4) ls (.ref q :: rest))) : W p l e R s m args below meth c H locs cells slots Q (F0 m pc ls (.int k :: .int n :: rest)) := by
  subst hN
  subst hM
  intro T hT Xs
  obtain ⟨vm₁, cA, comp, -, fA, fC, hO, -, X', step⟩ := Xs.multianewarray2F hexec hown hclink (va_AOA.use hover) harr (g := F0 m pc ls (.int k :: .int n :: rest)) rfl (by rw [hb]; exact hdg) rfl hn hk hb1 hb2 hb3 hdf hdd hcells hslots
  have ec : some cy = some comp := hcy.symm.trans fC
  cases ec
  generalize hF : Jvm.Free.Multi.fill (T.setVm vm₁) cA cy n.toNatClampNeg k.toNatClampNeg (defaultValue ty) n.toNatClampNeg = F at X' step
  have hTh : (T.setVm vm₁).heap = H := hT
  obtain ⟨f1, f2, -, -⟩ := Jvm.Free.Multi.fill_facts (T.setVm vm₁) cA cy n.toNatClampNeg k.toNatClampNeg (defaultValue ty) n.toNatClampNeg
  rw [hF, hTh] at f1 f2
  have hold : ∀ x : Nat, x < H.size → F.heap[x]? = H[x]? := fun x hx => by
    have := Jvm.Free.Multi.fill_old (T.setVm vm₁) cA cy n.toNatClampNeg k.toNatClampNeg (defaultValue ty) (a := x) (by rw [hTh]; exact hx) n.toNatClampNeg
    rw [hF, hTh] at this
    exact this
  have hrow : ∀ j : Nat, j < n.toNatClampNeg → F.heap[H.size + 1 + j]? = some (vp_cell cy z) := fun j hj => by
    have := Jvm.Free.Multi.fill_inner (T.setVm vm₁) cA cy n.toNatClampNeg k.toNatClampNeg (defaultValue ty) n.toNatClampNeg j hj
    rw [hF, hTh, hz] at this
    exact this
  have hout : Jvm.Free.Multi.outerC cA n.toNatClampNeg H.size n.toNatClampNeg = vp_cell cA (n.toNatClampNeg, .inr (.inr (.inr (.inr (fun i => if i < n.toNatClampNeg then some (H.size + 1 + i) else none))))) := by
    rw [vp_cell_q]
    exact vr_outer cA n.toNatClampNeg H.size n.toNatClampNeg
  rw [hout] at f2
  have hlt : ∀ a, a ∈ L → a < H.size := fun a ha => by
    obtain ⟨k9, hk9⟩ := va_pl_get (X := X) (f := f) ha
    exact (hP k9 _ hk9).lt
  have hnl : ∀ i : Nat, i < n.toNatClampNeg → H.size + 1 + i ∉ L := fun i _ h => by
    have := hlt _ h
    omega
  have hnm : ∀ a, a ∈ (List.range n.toNatClampNeg).map (fun i => H.size + 1 + i) → a ∉ L := fun a ha h => by
    obtain ⟨i, -, rfl⟩ := List.mem_map.mp ha
    have := hlt _ h
    omega
  have hP0 : va_P D cl (X ++ va_pl L f) F.heap := hP.kept (fun k9 x hx => hold x.1 ((hP k9 x hx).lt))
  have hP1 : va_P D cl ((X ++ va_pl L f) ++ [(H.size, .inl (cA, n.toNatClampNeg, .inr (.inr (.inr (.inr (fun i => if i < n.toNatClampNeg then some (H.size + 1 + i) else none))))))]) F.heap := hP0.app (fun k9 x hx => by
    have h0 : k9 < 1 := (List.getElem?_eq_some_iff.mp hx).1
    rw [show k9 = 0 by omega] at hx
    cases hx
    exact f2)
  have hP2 : va_P D cl (((X ++ va_pl L f) ++ [(H.size, .inl (cA, n.toNatClampNeg, .inr (.inr (.inr (.inr (fun i => if i < n.toNatClampNeg then some (H.size + 1 + i) else none))))))]) ++ ((List.range n.toNatClampNeg).map (fun i => H.size + 1 + i)).map (fun a => (a, .inl (cy, z)))) F.heap := hP1.app (fun k9 x hx => by
    obtain ⟨a, ha, rfl⟩ := List.mem_map.mp (List.mem_of_getElem? hx)
    obtain ⟨i, hi, rfl⟩ := List.mem_map.mp ha
    exact hrow i (List.mem_range.mp hi))
  have hD2 : va_D A (((X ++ va_pl L f) ++ [(H.size, .inl (cA, n.toNatClampNeg, .inr (.inr (.inr (.inr (fun i => if i < n.toNatClampNeg then some (H.size + 1 + i) else none))))))]) ++ ((List.range n.toNatClampNeg).map (fun i => H.size + 1 + i)).map (fun a => (a, .inl (cy, z)))) := by
    have hD1 := hD.push (e := .inl (cA, n.toNatClampNeg, .inr (.inr (.inr (.inr (fun i => if i < n.toNatClampNeg then some (H.size + 1 + i) else none)))))) hP rfl (hA _ hS.1)
    generalize hW1 : (X ++ va_pl L f) ++ [(H.size, .inl (cA, n.toNatClampNeg, .inr (.inr (.inr (.inr (fun i => if i < n.toNatClampNeg then some (H.size + 1 + i) else none))))))] = W1 at hD1 hP1 ⊢
    have hle : ∀ (k9 : Nat) (x : Nat × va_E), W1[k9]? = some x → x.1 ≤ H.size := fun k9 x hx => by
      rw [← hW1] at hx
      by_cases hl : k9 < (X ++ va_pl L f).length
      · rw [List.getElem?_append_left hl] at hx
        exact Nat.le_of_lt ((hP k9 x hx).lt)
      · rw [List.getElem?_append_right (by omega)] at hx
        have h0 : k9 - (X ++ va_pl L f).length < 1 := (List.getElem?_eq_some_iff.mp hx).1
        rw [show k9 - (X ++ va_pl L f).length = 0 by omega] at hx
        cases hx
        exact Nat.le_refl _
    have hr : ∀ (k9 : Nat) (x : Nat × va_E), (((List.range n.toNatClampNeg).map (fun i => H.size + 1 + i)).map (fun a => ((a, .inl (cy, z)) : Nat × va_E)))[k9]? = some x → x.1 = H.size + 1 + k9 := fun k9 x hx => by
      rw [List.getElem?_map, List.getElem?_map] at hx
      by_cases h9 : k9 < n.toNatClampNeg
      · rw [List.getElem?_range h9] at hx
        cases hx
        rfl
      · have hn0 : (List.range n.toNatClampNeg)[k9]? = none := List.getElem?_eq_none (by rw [List.length_range]; omega)
        rw [hn0] at hx
        cases hx
    refine ⟨fun i j x y hi hj hxy => ?_, fun k9 x hx => ?_⟩
    · by_cases h1 : i < W1.length <;> by_cases h2 : j < W1.length
      · rw [List.getElem?_append_left h1] at hi
        rw [List.getElem?_append_left h2] at hj
        exact hD1.1 i j x y hi hj hxy
      · rw [List.getElem?_append_left h1] at hi
        rw [List.getElem?_append_right (by omega)] at hj
        have := hle _ _ hi
        have := hr _ _ hj
        omega
      · rw [List.getElem?_append_right (by omega)] at hi
        rw [List.getElem?_append_left h2] at hj
        have := hle _ _ hj
        have := hr _ _ hi
        omega
      · rw [List.getElem?_append_right (by omega)] at hi hj
        have := hr _ _ hi
        have := hr _ _ hj
        omega
    · by_cases h1 : k9 < W1.length
      · rw [List.getElem?_append_left h1] at hx
        exact hD1.2 k9 x hx
      · rw [List.getElem?_append_right (by omega)] at hx
        have := hr _ _ hx
        exact hA _ (by have := hS.1; omega)
  have hAr : ArrOfT s cA (.array ty) := fun N9 z9 => by
    obtain ⟨-, k9, hk9, cm9, hkk9⟩ := (hO 0 0 0).1
    exact ⟨(fun q hq => by cases hq), k9, hk9, cm9, hkk9⟩
  have hK2 : va_K D cl (tys ++ [(cA, .array ty)]) s := ⟨hK.1, fun k9 x hx => by
    by_cases hl : k9 < tys.length
    · rw [List.getElem?_append_left hl] at hx
      exact hK.2 k9 x hx
    · rw [List.getElem?_append_right (by omega)] at hx
      have h0 : k9 - tys.length < 1 := (List.getElem?_eq_some_iff.mp hx).1
      rw [show k9 - tys.length = 0 by omega] at hx
      cases hx
      exact ⟨hAr, fA⟩⟩
  obtain ⟨t, a1, b1⟩ := kk H.size (fun i => H.size + 1 + i) cA F.heap (fun i j _ _ h => by have h9 : H.size + 1 + i = H.size + 1 + j := h; omega) hnl hK2 (by rw [← vr_rows hnm]; exact vr_lay hP2) (by rw [← vr_rows hnm]; exact vr_layD hD2) ⟨by rw [f1]; have := hS.1; omega, fun x h1 h2 => (hold x (Nat.lt_of_lt_of_le h1 hS.1)).trans (hS.2.1 x h1 h2), hS.2.2⟩ F rfl X'
  refine ⟨t, step t ?_, b1⟩
  have e : T.heap.size = H.size := by rw [hT]
  rw [e]
  exact a1
end VGM
/-! ===== END ===== -/
section KMNA
variable {p : Program} {l : Launch} {e : Env} {R : Room} {s : State} {m : MethodId} {args : Array Value} {below : List Frame} {meth : Method} {c : Code} {H H0 : Heap} {locs : List Loc} {cells slots : Nat} {Q : State → Prop}
variable {cc : ByteArray} {pc : Nat} {ls : Array Slot} {rest : List Value} {D : va_G} {y : Nat → ClassId} {A : Nat → Prop} {ws : va_W}
theorem kw_mna (hexec : p.tables.exec = Jvm.exec) (hb : c.code = cc) {own : String} {index : Nat} (hown : s.vm.findClass own = some m.cls) (hclink : (Cond.classLink own index "[[I").before args s = true) (hN : kw_N s) (harr : (Cond.arrayClass .int).before args s = true)
    (hK : va_K D vwCl (kw_T y) s) (hP : va_P D vwCl ws H) (hD : va_D A ws) (hS : va_S A H0 H locs) (hA : ∀ q, H0.size ≤ q → A q) {n k : Int32} {N' K' : Nat} (hn : ¬ n < 0) (hk : ¬ k < 0) (hNn : n.toNatClampNeg = N') (hM : k.toNatClampNeg = K')
    (hb1 : N' * 4 ≤ 536870912) (hb2 : K' * componentBytes .int ≤ 536870912) (hb3 : K' ≤ 536870912) (hcells : cells + (1 + N') ≤ R.cells) (hslots : slots + (N' + N' * K') ≤ R.slots) (hdg : decode cc pc = .ok (.multianewarray index 2, 4))
    (kk : ∀ (q : Nat) (H1 : Heap), va_P D vwCl ws H1 → va_D A ws → va_S A H0 H1 locs → W p l e R s m args below meth c H1 locs (cells + 1 + N') (slots + N' + N' * K') Q (F0 m (pc + 4) ls (.ref q :: rest))) : W p l e R s m args below meth c H locs cells slots Q (F0 m pc ls (.int k :: .int n :: rest)) := by
  have e0 : ws ++ va_pl [] (fun _ => (Sum.inr (0, []) : va_E)) = ws := List.append_nil ws
  refine va_mna (X := ws) (L := []) (f := fun _ => .inr (0, [])) (ty := .int) (cy := y 0) (z := (K', .inl (fun _ => 0))) hexec hb hown hclink hN.2.2.2.2.1 harr (hK.2 0 _ rfl).2 hK (by rw [e0]; exact hP) (by rw [e0]; exact hD) hS hA hn hk hNn hM hb1 hb2 hb3 rfl rfl hcells hslots (fun _ => ?_) hdg (fun q r cA H1 _ _ _ hP1 hD1 hS1 => ?_)
  · show ({ cls := _, slots := Array.replicate K' (.int 0), vm := .none } : Cell) = _
    rw [arrV_new]
    rfl
  · have hP2 : va_P D vwCl ws H1 := by
      intro k9 x hx
      have hl : k9 < ws.length := (List.getElem?_eq_some_iff.mp hx).1
      refine hP1 k9 x ?_
      rw [List.append_assoc, List.getElem?_append_left hl]
      exact hx
    have hD2 : va_D A ws := hD
    exact kk q H1 hP2 hD2 hS1
end KMNA
end
section
def sp_parish (c : Int32) : Int32 := if 0 ≤ c.toInt ∧ c.toInt ≤ 9 then 0 else -2
def sp_field (k : Int32) (c : Int32) : Int32 := if (0 ≤ k.toInt ∧ k.toInt ≤ 5) ∧ (0 ≤ c.toInt ∧ c.toInt ≤ 60) then 0 else -2
def sp_type (c : Int32) : Int32 := if 0 ≤ c.toInt ∧ c.toInt ≤ 127 then 1 else -2
def sp_glean (n : Int32) : Int32 := if 1 ≤ n.toInt ∧ n.toInt ≤ 12 then 0 else -2
def sp_cloud (c : Int32) : Int32 := if 0 ≤ c.toInt ∧ c.toInt ≤ 9 then 0 else -2
def sp_places (w : Int32) (g1 : Int32) : Int32 := if (0 ≤ w.toInt ∧ w.toInt ≤ 1) ∧ g1.toInt = -1 then 0 else -10
def sp_which (t : Int32) : Int32 := if 0 ≤ t.toInt ∧ t.toInt ≤ 11 then -1 else -2
def sp_enough (x : Int32) : Int32 := if 0 ≤ x.toInt ∧ x.toInt ≤ 999 then (if x.toInt = 0 then 0 else -1) else -2
def sp_forget (w : Int32) : Int32 := if 0 ≤ w.toInt ∧ w.toInt ≤ 1 then 0 else -2
def sp_summers (x : Int32) (n : Int32) : Int32 := if (0 ≤ x.toInt ∧ x.toInt ≤ 999999) ∧ (0 ≤ n.toInt ∧ n.toInt ≤ 60) then 0 else -2
def sp_part (w : Int32) : Int64 := if w.toInt = 0 then 0 else if w.toInt = 1 then 1 else -2
def sp_image (i : Int32) : Int32 := if 0 ≤ i.toInt ∧ i.toInt ≤ 1 then 1 else -2
def sp_from (i : Int32) : Int32 := if 0 ≤ i.toInt ∧ i.toInt ≤ 1 then -3 else -2
def sp_status (w : Int32) : Int32 := if 0 ≤ w.toInt ∧ w.toInt ≤ 2 then 0 else -1
def sp_count (w : Int32) : Int32 := if 0 ≤ w.toInt ∧ w.toInt ≤ 8 then 0 else -2
end
section
set_option maxHeartbeats 4000000 in
set_option maxRecDepth 100000 in
theorem ct_isBelow (l : Launch) (D : va_G) (y : Nat → ClassId) (x : Int32) (n : Int32) : kw_Mi l yX10_isBelow wsX10_isBelow ({ frames := 1, cells := 0, slots := 0, locals := 40 }) D y [.int x, .int n] [] (fun (r : Int32) (u : Unit) => (x < 0 ∧ r = 0) ∨ (¬ x < 0 ∧ n ≤ x ∧ r = 0) ∨ (¬ x < 0 ∧ ¬ n ≤ x ∧ r = 1)) (fun _ => []) 0 0 := by
  refine kw_Mi.of (cc := cX10_isBelow) (maxL := 2) (ret := (some .boolean)) (by decide) rfl ?_
  intro pZ eZ s mZ beZ meZ cZ A hE
  obtain ⟨hx, hb, hr, hml, hts, hown, hlocks, hin, hA, hP, hD, hK, hN⟩ := hE
  have hS : va_S A s.heap s.heap [] := va_S.rf
  have hl := lv_entry ([.int x, .int n]) (n := 2) (Nat.le_of_ble_eq_true rfl)
  rw [lg_entry_eq]
  generalize (lg_sl ([.int x, .int n]) ++ List.replicate (2 - (lg_sl ([.int x, .int n])).length) Slot.unset).toArray = ls at hl ⊢
  have hl : lv_has ls 2 [(0, .int x), (1, .int n)] := hl
  refine lv_iload_n hx hb dX10_isBelow_0 rfl (lv_at hl 0 rfl) ?_
  refine lv_if_lt (tgt := 13) hx hb dX10_isBelow_1 (by decide) (fun h1 => ?_) (fun h2 => ?_)
  · skip
    refine lv_iconst (v := 0) hx hb dX10_isBelow_13 (by decide) ?_
    exact W.zret (v := 0) hx hb hr (by decide) (fun tZ ht hW => ⟨⟨0, (), rfl, Or.inl ⟨h1, rfl⟩, by rw [ht]; exact hP.sub [] rfl, hD.sub [] (by decide) rfl⟩, hS.F ht⟩) hS.2.2 dX10_isBelow_14
  · skip
    refine lv_iload_n hx hb dX10_isBelow_4 rfl (lv_at hl 0 rfl) ?_
    refine lv_iload_n hx hb dX10_isBelow_5 rfl (lv_at hl 1 rfl) ?_
    refine lv_icmp_ge (tgt := 13) hx hb dX10_isBelow_6 (by decide) (fun h3 => ?_) (fun h4 => ?_)
    · skip
      refine lv_iconst (v := 0) hx hb dX10_isBelow_13 (by decide) ?_
      exact W.zret (v := 0) hx hb hr (by decide) (fun tZ ht hW => ⟨⟨0, (), rfl, Or.inr (Or.inl ⟨h2, h3, rfl⟩), by rw [ht]; exact hP.sub [] rfl, hD.sub [] (by decide) rfl⟩, hS.F ht⟩) hS.2.2 dX10_isBelow_14
    · skip
      refine lv_iconst (v := 1) hx hb dX10_isBelow_9 (by decide) ?_
      refine lv_goto (tgt := 14) hx hb dX10_isBelow_10 (by decide) ?_
      exact W.zret (v := 1) hx hb hr (by decide) (fun tZ ht hW => ⟨⟨1, (), rfl, Or.inr (Or.inr (⟨h2, h4, rfl⟩)), by rw [ht]; exact hP.sub [] rfl, hD.sub [] (by decide) rfl⟩, hS.F ht⟩) hS.2.2 dX10_isBelow_14

set_option maxHeartbeats 4000000 in
set_option maxRecDepth 100000 in
theorem ct_isIn (l : Launch) (D : va_G) (y : Nat → ClassId) (x : Int32) (n : Int32) (k : Int32) : kw_Mi l yX10_isIn wsX10_isIn ({ frames := 1, cells := 0, slots := 0, locals := 40 }) D y [.int x, .int n, .int k] [] (fun (r : Int32) (u : Unit) => (x < n ∧ r = 0) ∨ (¬ x < n ∧ k < x ∧ r = 0) ∨ (¬ x < n ∧ ¬ k < x ∧ r = 1)) (fun _ => []) 0 0 := by
  refine kw_Mi.of (cc := cX10_isIn) (maxL := 3) (ret := (some .boolean)) (by decide) rfl ?_
  intro pZ eZ s mZ beZ meZ cZ A hE
  obtain ⟨hx, hb, hr, hml, hts, hown, hlocks, hin, hA, hP, hD, hK, hN⟩ := hE
  have hS : va_S A s.heap s.heap [] := va_S.rf
  have hl := lv_entry ([.int x, .int n, .int k]) (n := 3) (Nat.le_of_ble_eq_true rfl)
  rw [lg_entry_eq]
  generalize (lg_sl ([.int x, .int n, .int k]) ++ List.replicate (3 - (lg_sl ([.int x, .int n, .int k])).length) Slot.unset).toArray = ls at hl ⊢
  have hl : lv_has ls 3 [(0, .int x), (1, .int n), (2, .int k)] := hl
  refine lv_iload_n hx hb dX10_isIn_0 rfl (lv_at hl 0 rfl) ?_
  refine lv_iload_n hx hb dX10_isIn_1 rfl (lv_at hl 1 rfl) ?_
  refine lv_icmp_lt (tgt := 14) hx hb dX10_isIn_2 (by decide) (fun h1 => ?_) (fun h2 => ?_)
  · skip
    refine lv_iconst (v := 0) hx hb dX10_isIn_14 (by decide) ?_
    exact W.zret (v := 0) hx hb hr (by decide) (fun tZ ht hW => ⟨⟨0, (), rfl, Or.inl ⟨h1, rfl⟩, by rw [ht]; exact hP.sub [] rfl, hD.sub [] (by decide) rfl⟩, hS.F ht⟩) hS.2.2 dX10_isIn_15
  · skip
    refine lv_iload_n hx hb dX10_isIn_5 rfl (lv_at hl 0 rfl) ?_
    refine lv_iload_n hx hb dX10_isIn_6 rfl (lv_at hl 2 rfl) ?_
    refine lv_icmp_gt (tgt := 14) hx hb dX10_isIn_7 (by decide) (fun h3 => ?_) (fun h4 => ?_)
    · skip
      refine lv_iconst (v := 0) hx hb dX10_isIn_14 (by decide) ?_
      exact W.zret (v := 0) hx hb hr (by decide) (fun tZ ht hW => ⟨⟨0, (), rfl, Or.inr (Or.inl ⟨h2, h3, rfl⟩), by rw [ht]; exact hP.sub [] rfl, hD.sub [] (by decide) rfl⟩, hS.F ht⟩) hS.2.2 dX10_isIn_15
    · skip
      refine lv_iconst (v := 1) hx hb dX10_isIn_10 (by decide) ?_
      refine lv_goto (tgt := 15) hx hb dX10_isIn_11 (by decide) ?_
      exact W.zret (v := 1) hx hb hr (by decide) (fun tZ ht hW => ⟨⟨1, (), rfl, Or.inr (Or.inr (⟨h2, h4, rfl⟩)), by rw [ht]; exact hP.sub [] rfl, hD.sub [] (by decide) rfl⟩, hS.F ht⟩) hS.2.2 dX10_isIn_15

set_option maxHeartbeats 4000000 in
set_option maxRecDepth 100000 in
theorem ct_isLight (l : Launch) (D : va_G) (y : Nat → ClassId) (x : Int32) : kw_Mi l yX10_isLight wsX10_isLight ({ frames := 2, cells := 0, slots := 0, locals := 62 }) D y [.int x] [] (fun (r : Int32) (u : Unit) => (x < 0 ∧ r = 0) ∨ (¬ x < 0 ∧ 60 < x ∧ r = 0) ∨ (¬ x < 0 ∧ ¬ 60 < x ∧ r = 1)) (fun _ => []) 0 0 := by
  refine kw_Mi.of (cc := cX10_isLight) (maxL := 1) (ret := (some .boolean)) (by decide) rfl ?_
  intro pZ eZ s mZ beZ meZ cZ A hE
  obtain ⟨hx, hb, hr, hml, hts, hown, hlocks, hin, hA, hP, hD, hK, hN⟩ := hE
  have hS : va_S A s.heap s.heap [] := va_S.rf
  have hl := lv_entry ([.int x]) (n := 1) (Nat.le_of_ble_eq_true rfl)
  rw [lg_entry_eq]
  generalize (lg_sl ([.int x]) ++ List.replicate (1 - (lg_sl ([.int x])).length) Slot.unset).toArray = ls at hl ⊢
  have hl : lv_has ls 1 [(0, .int x)] := hl
  refine lv_iload_n hx hb dX10_isLight_0 rfl (lv_at hl 0 rfl) ?_
  refine lv_iconst (v := 0) hx hb dX10_isLight_1 (by decide) ?_
  refine lv_bipush (v := 60) hx hb dX10_isLight_2 (by decide) ?_
  have hs1 : kw_Split [] [] [] [] [] := ⟨rfl, rfl, rfl, rfl, rfl, by decide⟩
  refine kw_go_i hs1 hP hD hS hA (va_runS (As := [.int x, .int 0, .int 60]) (rest := []) ⟨hx, hb, hml, hown, hts⟩ (ct_isIn l D y x 0 60  _) (va_cwS 3 hts gX10_isLight_X10_isIn rfl rfl rfl (by decide +kernel) ⟨Nat.le_of_ble_eq_true rfl, Nat.le_of_ble_eq_true rfl⟩) (kw_PreS hs1 hP hD hK hN) rfl rfl hl.1 rfl (lv_room (Nat.le_of_ble_eq_true rfl)) dX10_isLight_4 ⟨Nat.le_of_ble_eq_true rfl, Nat.le_of_ble_eq_true rfl⟩) (fun r u H locs hq hP hD hS => ?_)
  rcases hq with ⟨h2, rfl⟩ | ⟨h3, h4, rfl⟩ | ⟨h5, h6, rfl⟩
  · skip
    have hP : va_P D vwCl [] H := hP
    have hD : va_D A [] := hD
    exact W.zret (v := 0) hx hb hr (by decide) (fun tZ ht hW => ⟨⟨0, (), rfl, Or.inl ⟨h2, rfl⟩, by rw [ht]; exact hP.sub [] rfl, hD.sub [] (by decide) rfl⟩, hS.F ht⟩) hS.2.2 dX10_isLight_7
  · skip
    have hP : va_P D vwCl [] H := hP
    have hD : va_D A [] := hD
    exact W.zret (v := 0) hx hb hr (by decide) (fun tZ ht hW => ⟨⟨0, (), rfl, Or.inr (Or.inl ⟨h3, h4, rfl⟩), by rw [ht]; exact hP.sub [] rfl, hD.sub [] (by decide) rfl⟩, hS.F ht⟩) hS.2.2 dX10_isLight_7
  · skip
    have hP : va_P D vwCl [] H := hP
    have hD : va_D A [] := hD
    exact W.zret (v := 1) hx hb hr (by decide) (fun tZ ht hW => ⟨⟨1, (), rfl, Or.inr (Or.inr (⟨h5, h6, rfl⟩)), by rw [ht]; exact hP.sub [] rfl, hD.sub [] (by decide) rfl⟩, hS.F ht⟩) hS.2.2 dX10_isLight_7

set_option maxHeartbeats 4000000 in
set_option maxRecDepth 100000 in
theorem ct_refuseBad (l : Launch) (D : va_G) (y : Nat → ClassId) (g : Nat) (kk : Nat) (nw : Nat) (im : Nat) (kp : Nat) (tx : Nat) (tr : Nat) (be : Nat) (sh : Nat) (sd : Nat) (rf : Nat) (f : Nat → Int32) : kw_Mi l yX10_refuseBad wsX10_refuseBad ({ frames := 1, cells := 0, slots := 0, locals := 40 }) D y [.ref g] [(g, .inr (10, [.ref kk, .ref nw, .ref im, .ref kp, .ref tx, .ref tr, .ref be, .ref sh, .ref sd, .ref rf, .int 0, .int 1])), (rf, .inl (y 0, 3, .inl f))] (fun (r : Int32) (u : Unit) => r = (-2)) (fun _ => []) 0 0 := by
  refine kw_Mi.of (cc := cX10_refuseBad) (maxL := 1) (ret := (some .int)) (by decide) rfl ?_
  intro pZ eZ s mZ beZ meZ cZ A hE
  obtain ⟨hx, hb, hr, hml, hts, hown, hlocks, hin, hA, hP, hD, hK, hN⟩ := hE
  have hS : va_S A s.heap s.heap [] := va_S.rf
  have hl := lv_entry ([.ref g]) (n := 1) (Nat.le_of_ble_eq_true rfl)
  rw [lg_entry_eq]
  generalize (lg_sl ([.ref g]) ++ List.replicate (1 - (lg_sl ([.ref g])).length) Slot.unset).toArray = ls at hl ⊢
  have hl : lv_has ls 1 [(0, .ref g)] := hl
  have f1 := hts (.fieldLink RX10 76 "GleanDusk" "refused" "[I") (List.mem_of_getElem? (i := 1) rfl)
  have i10 : ∀ w ∈ wsX100, w ∈ wsX10_refuseBad := fun _ h => List.mem_cons_of_mem _ (List.mem_append_right _ h)
  refine lv_aload_n hx hb dX10_refuseBad_0 rfl (lv_at hl 0 rfl) ?_
  refine va_get (D := D) (ci := 10) (v := .ref rf) (C := RX10) (T := TX10) (N := 12) hx hb hts i10 hown hK hP 0 rfl rfl 9 (by decide) f1 (fun _ h9 => h9) rfl dX10_refuseBad_1 ?_
  refine lv_iconst (v := 0) hx hb dX10_refuseBad_4 (by decide) ?_
  refine lv_dup2_11 hx hb dX10_refuseBad_5 rfl rfl ?_
  refine va_iald hx hb hK hP 1 0 rfl rfl (by unfold vp_in; decide) dX10_refuseBad_6 ?_
  refine lv_iconst (v := 1) hx hb dX10_refuseBad_7 (by decide) ?_
  refine lv_iadd hx hb dX10_refuseBad_8 ?_
  refine va_iast hx hb hK hP hD hS 1 0 rfl rfl (by unfold vp_in; decide) dX10_refuseBad_9 (fun H locs hP hD hS => ?_)
  have hP : va_P D vwCl [(g, .inr (10, [.ref kk, .ref nw, .ref im, .ref kp, .ref tx, .ref tr, .ref be, .ref sh, .ref sd, .ref rf, .int 0, .int 1])), (rf, .inl (y 0, 3, .inl (upd f (0 : Int32).toNatClampNeg ((f (0 : Int32).toNatClampNeg) + 1))))] H := hP
  have hD : va_D A [(g, .inr (10, [.ref kk, .ref nw, .ref im, .ref kp, .ref tx, .ref tr, .ref be, .ref sh, .ref sd, .ref rf, .int 0, .int 1])), (rf, .inl (y 0, 3, .inl (upd f (0 : Int32).toNatClampNeg ((f (0 : Int32).toNatClampNeg) + 1))))] := hD
  refine lv_bipush (v := (-2)) hx hb dX10_refuseBad_10 (by decide) ?_
  exact W.iret (v := (-2)) hx hb hr (fun tZ ht hW => ⟨⟨(-2), (), rfl, rfl, by rw [ht]; exact hP.sub [] rfl, hD.sub [] (by decide) rfl⟩, hS.F ht⟩) hS.2.2 dX10_refuseBad_12

set_option maxHeartbeats 4000000 in
set_option maxRecDepth 100000 in
theorem ct_refuseNo (l : Launch) (D : va_G) (y : Nat → ClassId) (g : Nat) (kk : Nat) (nw : Nat) (im : Nat) (kp : Nat) (tx : Nat) (tr : Nat) (be : Nat) (sh : Nat) (sd : Nat) (rf : Nat) (f : Nat → Int32) : kw_Mi l yX10_refuseNo wsX10_refuseNo ({ frames := 1, cells := 0, slots := 0, locals := 40 }) D y [.ref g] [(g, .inr (10, [.ref kk, .ref nw, .ref im, .ref kp, .ref tx, .ref tr, .ref be, .ref sh, .ref sd, .ref rf, .int 0, .int 1])), (rf, .inl (y 0, 3, .inl f))] (fun (r : Int32) (u : Unit) => r = (-3)) (fun _ => []) 0 0 := by
  refine kw_Mi.of (cc := cX10_refuseNo) (maxL := 1) (ret := (some .int)) (by decide) rfl ?_
  intro pZ eZ s mZ beZ meZ cZ A hE
  obtain ⟨hx, hb, hr, hml, hts, hown, hlocks, hin, hA, hP, hD, hK, hN⟩ := hE
  have hS : va_S A s.heap s.heap [] := va_S.rf
  have hl := lv_entry ([.ref g]) (n := 1) (Nat.le_of_ble_eq_true rfl)
  rw [lg_entry_eq]
  generalize (lg_sl ([.ref g]) ++ List.replicate (1 - (lg_sl ([.ref g])).length) Slot.unset).toArray = ls at hl ⊢
  have hl : lv_has ls 1 [(0, .ref g)] := hl
  have f1 := hts (.fieldLink RX10 76 "GleanDusk" "refused" "[I") (List.mem_of_getElem? (i := 1) rfl)
  have i10 : ∀ w ∈ wsX100, w ∈ wsX10_refuseNo := fun _ h => List.mem_cons_of_mem _ (List.mem_append_right _ h)
  refine lv_aload_n hx hb dX10_refuseNo_0 rfl (lv_at hl 0 rfl) ?_
  refine va_get (D := D) (ci := 10) (v := .ref rf) (C := RX10) (T := TX10) (N := 12) hx hb hts i10 hown hK hP 0 rfl rfl 9 (by decide) f1 (fun _ h9 => h9) rfl dX10_refuseNo_1 ?_
  refine lv_iconst (v := 1) hx hb dX10_refuseNo_4 (by decide) ?_
  refine lv_dup2_11 hx hb dX10_refuseNo_5 rfl rfl ?_
  refine va_iald hx hb hK hP 1 0 rfl rfl (by unfold vp_in; decide) dX10_refuseNo_6 ?_
  refine lv_iconst (v := 1) hx hb dX10_refuseNo_7 (by decide) ?_
  refine lv_iadd hx hb dX10_refuseNo_8 ?_
  refine va_iast hx hb hK hP hD hS 1 0 rfl rfl (by unfold vp_in; decide) dX10_refuseNo_9 (fun H locs hP hD hS => ?_)
  have hP : va_P D vwCl [(g, .inr (10, [.ref kk, .ref nw, .ref im, .ref kp, .ref tx, .ref tr, .ref be, .ref sh, .ref sd, .ref rf, .int 0, .int 1])), (rf, .inl (y 0, 3, .inl (upd f (1 : Int32).toNatClampNeg ((f (1 : Int32).toNatClampNeg) + 1))))] H := hP
  have hD : va_D A [(g, .inr (10, [.ref kk, .ref nw, .ref im, .ref kp, .ref tx, .ref tr, .ref be, .ref sh, .ref sd, .ref rf, .int 0, .int 1])), (rf, .inl (y 0, 3, .inl (upd f (1 : Int32).toNatClampNeg ((f (1 : Int32).toNatClampNeg) + 1))))] := hD
  refine lv_bipush (v := (-3)) hx hb dX10_refuseNo_10 (by decide) ?_
  exact W.iret (v := (-3)) hx hb hr (fun tZ ht hW => ⟨⟨(-3), (), rfl, rfl, by rw [ht]; exact hP.sub [] rfl, hD.sub [] (by decide) rfl⟩, hS.F ht⟩) hS.2.2 dX10_refuseNo_12

set_option maxHeartbeats 4000000 in
set_option maxRecDepth 100000 in
theorem ct_refuseFull (l : Launch) (D : va_G) (y : Nat → ClassId) (g : Nat) (kk : Nat) (nw : Nat) (im : Nat) (kp : Nat) (tx : Nat) (tr : Nat) (be : Nat) (sh : Nat) (sd : Nat) (rf : Nat) (f : Nat → Int32) : kw_Mi l yX10_refuseFull wsX10_refuseFull ({ frames := 1, cells := 0, slots := 0, locals := 40 }) D y [.ref g] [(g, .inr (10, [.ref kk, .ref nw, .ref im, .ref kp, .ref tx, .ref tr, .ref be, .ref sh, .ref sd, .ref rf, .int 0, .int 1])), (rf, .inl (y 0, 3, .inl f))] (fun (r : Int32) (u : Unit) => r = (-4)) (fun _ => []) 0 0 := by
  refine kw_Mi.of (cc := cX10_refuseFull) (maxL := 1) (ret := (some .int)) (by decide) rfl ?_
  intro pZ eZ s mZ beZ meZ cZ A hE
  obtain ⟨hx, hb, hr, hml, hts, hown, hlocks, hin, hA, hP, hD, hK, hN⟩ := hE
  have hS : va_S A s.heap s.heap [] := va_S.rf
  have hl := lv_entry ([.ref g]) (n := 1) (Nat.le_of_ble_eq_true rfl)
  rw [lg_entry_eq]
  generalize (lg_sl ([.ref g]) ++ List.replicate (1 - (lg_sl ([.ref g])).length) Slot.unset).toArray = ls at hl ⊢
  have hl : lv_has ls 1 [(0, .ref g)] := hl
  have f1 := hts (.fieldLink RX10 76 "GleanDusk" "refused" "[I") (List.mem_of_getElem? (i := 1) rfl)
  have i10 : ∀ w ∈ wsX100, w ∈ wsX10_refuseFull := fun _ h => List.mem_cons_of_mem _ (List.mem_append_right _ h)
  refine lv_aload_n hx hb dX10_refuseFull_0 rfl (lv_at hl 0 rfl) ?_
  refine va_get (D := D) (ci := 10) (v := .ref rf) (C := RX10) (T := TX10) (N := 12) hx hb hts i10 hown hK hP 0 rfl rfl 9 (by decide) f1 (fun _ h9 => h9) rfl dX10_refuseFull_1 ?_
  refine lv_iconst (v := 2) hx hb dX10_refuseFull_4 (by decide) ?_
  refine lv_dup2_11 hx hb dX10_refuseFull_5 rfl rfl ?_
  refine va_iald hx hb hK hP 1 0 rfl rfl (by unfold vp_in; decide) dX10_refuseFull_6 ?_
  refine lv_iconst (v := 1) hx hb dX10_refuseFull_7 (by decide) ?_
  refine lv_iadd hx hb dX10_refuseFull_8 ?_
  refine va_iast hx hb hK hP hD hS 1 0 rfl rfl (by unfold vp_in; decide) dX10_refuseFull_9 (fun H locs hP hD hS => ?_)
  have hP : va_P D vwCl [(g, .inr (10, [.ref kk, .ref nw, .ref im, .ref kp, .ref tx, .ref tr, .ref be, .ref sh, .ref sd, .ref rf, .int 0, .int 1])), (rf, .inl (y 0, 3, .inl (upd f (2 : Int32).toNatClampNeg ((f (2 : Int32).toNatClampNeg) + 1))))] H := hP
  have hD : va_D A [(g, .inr (10, [.ref kk, .ref nw, .ref im, .ref kp, .ref tx, .ref tr, .ref be, .ref sh, .ref sd, .ref rf, .int 0, .int 1])), (rf, .inl (y 0, 3, .inl (upd f (2 : Int32).toNatClampNeg ((f (2 : Int32).toNatClampNeg) + 1))))] := hD
  refine lv_bipush (v := (-4)) hx hb dX10_refuseFull_10 (by decide) ?_
  exact W.iret (v := (-4)) hx hb hr (fun tZ ht hW => ⟨⟨(-4), (), rfl, rfl, by rw [ht]; exact hP.sub [] rfl, hD.sub [] (by decide) rfl⟩, hS.F ht⟩) hS.2.2 dX10_refuseFull_12

set_option maxHeartbeats 4000000 in
set_option maxRecDepth 100000 in
theorem ct_refuseTen (l : Launch) (D : va_G) (y : Nat → ClassId) (g : Nat) (kk : Nat) (nw : Nat) (im : Nat) (kp : Nat) (tx : Nat) (tr : Nat) (be : Nat) (sh : Nat) (sd : Nat) (rf : Nat) (f : Nat → Int32) : kw_Mi l yX10_refuseTen wsX10_refuseTen ({ frames := 1, cells := 0, slots := 0, locals := 40 }) D y [.ref g] [(g, .inr (10, [.ref kk, .ref nw, .ref im, .ref kp, .ref tx, .ref tr, .ref be, .ref sh, .ref sd, .ref rf, .int 0, .int 1])), (rf, .inl (y 0, 3, .inl f))] (fun (r : Int32) (u : Unit) => r = (-10)) (fun _ => []) 0 0 := by
  refine kw_Mi.of (cc := cX10_refuseTen) (maxL := 1) (ret := (some .int)) (by decide) rfl ?_
  intro pZ eZ s mZ beZ meZ cZ A hE
  obtain ⟨hx, hb, hr, hml, hts, hown, hlocks, hin, hA, hP, hD, hK, hN⟩ := hE
  have hS : va_S A s.heap s.heap [] := va_S.rf
  have hl := lv_entry ([.ref g]) (n := 1) (Nat.le_of_ble_eq_true rfl)
  rw [lg_entry_eq]
  generalize (lg_sl ([.ref g]) ++ List.replicate (1 - (lg_sl ([.ref g])).length) Slot.unset).toArray = ls at hl ⊢
  have hl : lv_has ls 1 [(0, .ref g)] := hl
  have f1 := hts (.fieldLink RX10 76 "GleanDusk" "refused" "[I") (List.mem_of_getElem? (i := 1) rfl)
  have i10 : ∀ w ∈ wsX100, w ∈ wsX10_refuseTen := fun _ h => List.mem_cons_of_mem _ (List.mem_append_right _ h)
  refine lv_aload_n hx hb dX10_refuseTen_0 rfl (lv_at hl 0 rfl) ?_
  refine va_get (D := D) (ci := 10) (v := .ref rf) (C := RX10) (T := TX10) (N := 12) hx hb hts i10 hown hK hP 0 rfl rfl 9 (by decide) f1 (fun _ h9 => h9) rfl dX10_refuseTen_1 ?_
  refine lv_iconst (v := 0) hx hb dX10_refuseTen_4 (by decide) ?_
  refine lv_dup2_11 hx hb dX10_refuseTen_5 rfl rfl ?_
  refine va_iald hx hb hK hP 1 0 rfl rfl (by unfold vp_in; decide) dX10_refuseTen_6 ?_
  refine lv_iconst (v := 1) hx hb dX10_refuseTen_7 (by decide) ?_
  refine lv_iadd hx hb dX10_refuseTen_8 ?_
  refine va_iast hx hb hK hP hD hS 1 0 rfl rfl (by unfold vp_in; decide) dX10_refuseTen_9 (fun H locs hP hD hS => ?_)
  have hP : va_P D vwCl [(g, .inr (10, [.ref kk, .ref nw, .ref im, .ref kp, .ref tx, .ref tr, .ref be, .ref sh, .ref sd, .ref rf, .int 0, .int 1])), (rf, .inl (y 0, 3, .inl (upd f (0 : Int32).toNatClampNeg ((f (0 : Int32).toNatClampNeg) + 1))))] H := hP
  have hD : va_D A [(g, .inr (10, [.ref kk, .ref nw, .ref im, .ref kp, .ref tx, .ref tr, .ref be, .ref sh, .ref sd, .ref rf, .int 0, .int 1])), (rf, .inl (y 0, 3, .inl (upd f (0 : Int32).toNatClampNeg ((f (0 : Int32).toNatClampNeg) + 1))))] := hD
  refine lv_bipush (v := (-10)) hx hb dX10_refuseTen_10 (by decide) ?_
  exact W.iret (v := (-10)) hx hb hr (fun tZ ht hW => ⟨⟨(-10), (), rfl, rfl, by rw [ht]; exact hP.sub [] rfl, hD.sub [] (by decide) rfl⟩, hS.F ht⟩) hS.2.2 dX10_refuseTen_12

set_option maxHeartbeats 4000000 in
set_option maxRecDepth 100000 in
theorem ct_hasField (l : Launch) (D : va_G) (y : Nat → ClassId) (nw : Nat) (kk : Nat) (nk : Nat) (nd : Nat) (ne : Nat) (nm : Nat) (nn : Nat) (fi : Int32) (gl : Int32) (un : Int32) (mi : Int32) (no : Int32) (x : Int32) : kw_Mi l yX4_hasField wsX4_hasField ({ frames := 2, cells := 0, slots := 0, locals := 61 }) D y [.ref nw, .int x] [(nw, .inr (4, [.ref kk, .ref nk, .ref nd, .ref ne, .ref nm, .ref nn, .int fi, .int gl, .int un, .int mi, .int no]))] (fun (r : Int32) (u : Unit) => (x < 0 ∧ r = 0) ∨ (¬ x < 0 ∧ fi ≤ x ∧ r = 0) ∨ (¬ x < 0 ∧ ¬ fi ≤ x ∧ r = 1)) (fun _ => [(nw, .inr (4, [.ref kk, .ref nk, .ref nd, .ref ne, .ref nm, .ref nn, .int fi, .int gl, .int un, .int mi, .int no]))]) 0 0 := by
  refine kw_Mi.of (cc := cX4_hasField) (maxL := 2) (ret := (some .boolean)) (by decide) rfl ?_
  intro pZ eZ s mZ beZ meZ cZ A hE
  obtain ⟨hx, hb, hr, hml, hts, hown, hlocks, hin, hA, hP, hD, hK, hN⟩ := hE
  have hS : va_S A s.heap s.heap [] := va_S.rf
  have hl := lv_entry ([.ref nw, .int x]) (n := 2) (Nat.le_of_ble_eq_true rfl)
  rw [lg_entry_eq]
  generalize (lg_sl ([.ref nw, .int x]) ++ List.replicate (2 - (lg_sl ([.ref nw, .int x])).length) Slot.unset).toArray = ls at hl ⊢
  have hl : lv_has ls 2 [(0, .ref nw), (1, .int x)] := hl
  have f1 := hts (.fieldLink RX4 38 "GleanDusk$Parish" "fields" "I") (List.mem_of_getElem? (i := 1) rfl)
  have f2 := hts (.initialized RX10) (List.mem_of_getElem? (i := 3) rfl)
  have f3 := hts (.static yX10_isBelow) (List.mem_of_getElem? (i := 2) rfl)
  have i4 : ∀ w ∈ wsX40, w ∈ wsX4_hasField := fun _ h => List.mem_cons_of_mem _ (List.mem_append_right _ h)
  refine lv_iload_n hx hb dX4_hasField_0 rfl (lv_at hl 1 rfl) ?_
  refine lv_aload_n hx hb dX4_hasField_1 rfl (lv_at hl 0 rfl) ?_
  refine va_get (D := D) (ci := 4) (v := .int fi) (C := RX4) (T := TX4) (N := 11) hx hb hts i4 hown hK hP 0 rfl rfl 6 (by decide) f1 (fun _ h9 => h9) rfl dX4_hasField_2 ?_
  have hs1 : kw_Split [(nw, .inr (4, [.ref kk, .ref nk, .ref nd, .ref ne, .ref nm, .ref nn, .int fi, .int gl, .int un, .int mi, .int no]))] [] [(nw, .inr (4, [.ref kk, .ref nk, .ref nd, .ref ne, .ref nm, .ref nn, .int fi, .int gl, .int un, .int mi, .int no]))] [] [0] := ⟨rfl, rfl, rfl, rfl, rfl, by decide⟩
  refine kw_go_i hs1 hP hD hS hA (va_runSN (As := [.int x, .int fi]) (rest := []) ⟨hx, hb, hml, hown, hts⟩ (ct_isBelow l D y x fi  _) ⟨va_cnB 2 hts gX4_hasField_X10_isBelow_n73 rfl rfl rfl (hN.1 ("GleanDusk$Parish", 73, yX10_isBelow) (List.mem_of_getElem? (i := 15) rfl)) f2 (by decide +kernel) ⟨Nat.le_of_ble_eq_true rfl, Nat.le_of_ble_eq_true rfl⟩, f3, trivial⟩ (kw_PreS hs1 hP hD hK hN) rfl rfl hl.1 rfl (lv_room (Nat.le_of_ble_eq_true rfl)) dX4_hasField_5 ⟨Nat.le_of_ble_eq_true rfl, Nat.le_of_ble_eq_true rfl⟩) (fun r u H locs hq hP hD hS => ?_)
  rcases hq with ⟨h2, rfl⟩ | ⟨h3, h4, rfl⟩ | ⟨h5, h6, rfl⟩
  · skip
    have hP : va_P D vwCl [(nw, .inr (4, [.ref kk, .ref nk, .ref nd, .ref ne, .ref nm, .ref nn, .int fi, .int gl, .int un, .int mi, .int no]))] H := hP
    have hD : va_D A [(nw, .inr (4, [.ref kk, .ref nk, .ref nd, .ref ne, .ref nm, .ref nn, .int fi, .int gl, .int un, .int mi, .int no]))] := hD
    exact W.zret (v := 0) hx hb hr (by decide) (fun tZ ht hW => ⟨⟨0, (), rfl, Or.inl ⟨h2, rfl⟩, by rw [ht]; exact hP.sub [0] rfl, hD.sub [0] (by decide) rfl⟩, hS.F ht⟩) hS.2.2 dX4_hasField_8
  · skip
    have hP : va_P D vwCl [(nw, .inr (4, [.ref kk, .ref nk, .ref nd, .ref ne, .ref nm, .ref nn, .int fi, .int gl, .int un, .int mi, .int no]))] H := hP
    have hD : va_D A [(nw, .inr (4, [.ref kk, .ref nk, .ref nd, .ref ne, .ref nm, .ref nn, .int fi, .int gl, .int un, .int mi, .int no]))] := hD
    exact W.zret (v := 0) hx hb hr (by decide) (fun tZ ht hW => ⟨⟨0, (), rfl, Or.inr (Or.inl ⟨h3, h4, rfl⟩), by rw [ht]; exact hP.sub [0] rfl, hD.sub [0] (by decide) rfl⟩, hS.F ht⟩) hS.2.2 dX4_hasField_8
  · skip
    have hP : va_P D vwCl [(nw, .inr (4, [.ref kk, .ref nk, .ref nd, .ref ne, .ref nm, .ref nn, .int fi, .int gl, .int un, .int mi, .int no]))] H := hP
    have hD : va_D A [(nw, .inr (4, [.ref kk, .ref nk, .ref nd, .ref ne, .ref nm, .ref nn, .int fi, .int gl, .int un, .int mi, .int no]))] := hD
    exact W.zret (v := 1) hx hb hr (by decide) (fun tZ ht hW => ⟨⟨1, (), rfl, Or.inr (Or.inr (⟨h5, h6, rfl⟩)), by rw [ht]; exact hP.sub [0] rfl, hD.sub [0] (by decide) rfl⟩, hS.F ht⟩) hS.2.2 dX4_hasField_8

set_option maxHeartbeats 4000000 in
set_option maxRecDepth 100000 in
theorem ct_hasGleaner (l : Launch) (D : va_G) (y : Nat → ClassId) (nw : Nat) (kk : Nat) (nk : Nat) (nd : Nat) (ne : Nat) (nm : Nat) (nn : Nat) (fi : Int32) (gl : Int32) (un : Int32) (mi : Int32) (no : Int32) (x : Int32) : kw_Mi l yX4_hasGleaner wsX4_hasGleaner ({ frames := 2, cells := 0, slots := 0, locals := 61 }) D y [.ref nw, .int x] [(nw, .inr (4, [.ref kk, .ref nk, .ref nd, .ref ne, .ref nm, .ref nn, .int fi, .int gl, .int un, .int mi, .int no]))] (fun (r : Int32) (u : Unit) => (x < 0 ∧ r = 0) ∨ (¬ x < 0 ∧ gl ≤ x ∧ r = 0) ∨ (¬ x < 0 ∧ ¬ gl ≤ x ∧ r = 1)) (fun _ => [(nw, .inr (4, [.ref kk, .ref nk, .ref nd, .ref ne, .ref nm, .ref nn, .int fi, .int gl, .int un, .int mi, .int no]))]) 0 0 := by
  refine kw_Mi.of (cc := cX4_hasGleaner) (maxL := 2) (ret := (some .boolean)) (by decide) rfl ?_
  intro pZ eZ s mZ beZ meZ cZ A hE
  obtain ⟨hx, hb, hr, hml, hts, hown, hlocks, hin, hA, hP, hD, hK, hN⟩ := hE
  have hS : va_S A s.heap s.heap [] := va_S.rf
  have hl := lv_entry ([.ref nw, .int x]) (n := 2) (Nat.le_of_ble_eq_true rfl)
  rw [lg_entry_eq]
  generalize (lg_sl ([.ref nw, .int x]) ++ List.replicate (2 - (lg_sl ([.ref nw, .int x])).length) Slot.unset).toArray = ls at hl ⊢
  have hl : lv_has ls 2 [(0, .ref nw), (1, .int x)] := hl
  have f1 := hts (.fieldLink RX4 42 "GleanDusk$Parish" "gleaners" "I") (List.mem_of_getElem? (i := 1) rfl)
  have f2 := hts (.initialized RX10) (List.mem_of_getElem? (i := 3) rfl)
  have f3 := hts (.static yX10_isBelow) (List.mem_of_getElem? (i := 2) rfl)
  have i4 : ∀ w ∈ wsX40, w ∈ wsX4_hasGleaner := fun _ h => List.mem_cons_of_mem _ (List.mem_append_right _ h)
  refine lv_iload_n hx hb dX4_hasGleaner_0 rfl (lv_at hl 1 rfl) ?_
  refine lv_aload_n hx hb dX4_hasGleaner_1 rfl (lv_at hl 0 rfl) ?_
  refine va_get (D := D) (ci := 4) (v := .int gl) (C := RX4) (T := TX4) (N := 11) hx hb hts i4 hown hK hP 0 rfl rfl 7 (by decide) f1 (fun _ h9 => h9) rfl dX4_hasGleaner_2 ?_
  have hs1 : kw_Split [(nw, .inr (4, [.ref kk, .ref nk, .ref nd, .ref ne, .ref nm, .ref nn, .int fi, .int gl, .int un, .int mi, .int no]))] [] [(nw, .inr (4, [.ref kk, .ref nk, .ref nd, .ref ne, .ref nm, .ref nn, .int fi, .int gl, .int un, .int mi, .int no]))] [] [0] := ⟨rfl, rfl, rfl, rfl, rfl, by decide⟩
  refine kw_go_i hs1 hP hD hS hA (va_runSN (As := [.int x, .int gl]) (rest := []) ⟨hx, hb, hml, hown, hts⟩ (ct_isBelow l D y x gl  _) ⟨va_cnB 2 hts gX4_hasGleaner_X10_isBelow_n73 rfl rfl rfl (hN.1 ("GleanDusk$Parish", 73, yX10_isBelow) (List.mem_of_getElem? (i := 15) rfl)) f2 (by decide +kernel) ⟨Nat.le_of_ble_eq_true rfl, Nat.le_of_ble_eq_true rfl⟩, f3, trivial⟩ (kw_PreS hs1 hP hD hK hN) rfl rfl hl.1 rfl (lv_room (Nat.le_of_ble_eq_true rfl)) dX4_hasGleaner_5 ⟨Nat.le_of_ble_eq_true rfl, Nat.le_of_ble_eq_true rfl⟩) (fun r u H locs hq hP hD hS => ?_)
  rcases hq with ⟨h2, rfl⟩ | ⟨h3, h4, rfl⟩ | ⟨h5, h6, rfl⟩
  · skip
    have hP : va_P D vwCl [(nw, .inr (4, [.ref kk, .ref nk, .ref nd, .ref ne, .ref nm, .ref nn, .int fi, .int gl, .int un, .int mi, .int no]))] H := hP
    have hD : va_D A [(nw, .inr (4, [.ref kk, .ref nk, .ref nd, .ref ne, .ref nm, .ref nn, .int fi, .int gl, .int un, .int mi, .int no]))] := hD
    exact W.zret (v := 0) hx hb hr (by decide) (fun tZ ht hW => ⟨⟨0, (), rfl, Or.inl ⟨h2, rfl⟩, by rw [ht]; exact hP.sub [0] rfl, hD.sub [0] (by decide) rfl⟩, hS.F ht⟩) hS.2.2 dX4_hasGleaner_8
  · skip
    have hP : va_P D vwCl [(nw, .inr (4, [.ref kk, .ref nk, .ref nd, .ref ne, .ref nm, .ref nn, .int fi, .int gl, .int un, .int mi, .int no]))] H := hP
    have hD : va_D A [(nw, .inr (4, [.ref kk, .ref nk, .ref nd, .ref ne, .ref nm, .ref nn, .int fi, .int gl, .int un, .int mi, .int no]))] := hD
    exact W.zret (v := 0) hx hb hr (by decide) (fun tZ ht hW => ⟨⟨0, (), rfl, Or.inr (Or.inl ⟨h3, h4, rfl⟩), by rw [ht]; exact hP.sub [0] rfl, hD.sub [0] (by decide) rfl⟩, hS.F ht⟩) hS.2.2 dX4_hasGleaner_8
  · skip
    have hP : va_P D vwCl [(nw, .inr (4, [.ref kk, .ref nk, .ref nd, .ref ne, .ref nm, .ref nn, .int fi, .int gl, .int un, .int mi, .int no]))] H := hP
    have hD : va_D A [(nw, .inr (4, [.ref kk, .ref nk, .ref nd, .ref ne, .ref nm, .ref nn, .int fi, .int gl, .int un, .int mi, .int no]))] := hD
    exact W.zret (v := 1) hx hb hr (by decide) (fun tZ ht hW => ⟨⟨1, (), rfl, Or.inr (Or.inr (⟨h5, h6, rfl⟩)), by rw [ht]; exact hP.sub [0] rfl, hD.sub [0] (by decide) rfl⟩, hS.F ht⟩) hS.2.2 dX4_hasGleaner_8

set_option maxHeartbeats 4000000 in
set_option maxRecDepth 100000 in
theorem ct_begin (l : Launch) (D : va_G) (y : Nat → ClassId) (nw : Nat) (kk : Nat) (nk : Nat) (nd : Nat) (ne : Nat) (nm : Nat) (nn : Nat) (nl : Nat) (na : Nat) (ns : Nat) (c : Int32) (fi : Int32) (gl : Int32) (un : Int32) (mi : Int32) (no : Int32) (st : Int32) (cl : Int32) (nu : Int32) : kw_Mv l yX4_begin wsX4_begin ({ frames := 1, cells := 0, slots := 0, locals := 40 }) D y [.ref nw, .int c] [(nw, .inr (4, [.ref kk, .ref nk, .ref nd, .ref ne, .ref nm, .ref nn, .int fi, .int gl, .int un, .int mi, .int no])), (nd, .inr (1, [.ref nl, .ref na, .ref ns, .int st, .int cl, .int nu]))] (fun (u : Unit) => True) (fun _ => [(nw, .inr (4, [.ref kk, .ref nk, .ref nd, .ref ne, .ref nm, .ref nn, .int 0, .int 0, .int 0, .int 0, .int 0])), (nd, .inr (1, [.ref nl, .ref na, .ref ns, .int 0, .int c, .int 0]))]) 0 0 := by
  refine kw_Mv.of (cc := cX4_begin) (maxL := 2) (ret := none) (by decide) rfl ?_
  intro pZ eZ s mZ beZ meZ cZ A hE
  obtain ⟨hx, hb, hr, hml, hts, hown, hlocks, hin, hA, hP, hD, hK, hN⟩ := hE
  have hS : va_S A s.heap s.heap [] := va_S.rf
  have hl := lv_entry ([.ref nw, .int c]) (n := 2) (Nat.le_of_ble_eq_true rfl)
  rw [lg_entry_eq]
  generalize (lg_sl ([.ref nw, .int c]) ++ List.replicate (2 - (lg_sl ([.ref nw, .int c])).length) Slot.unset).toArray = ls at hl ⊢
  have hl : lv_has ls 2 [(0, .ref nw), (1, .int c)] := hl
  have f1 := hts (.fieldLink RX4 38 "GleanDusk$Parish" "fields" "I") (List.mem_of_getElem? (i := 1) rfl)
  have f2 := hts (.fieldLink RX4 42 "GleanDusk$Parish" "gleaners" "I") (List.mem_of_getElem? (i := 2) rfl)
  have f3 := hts (.fieldLink RX4 45 "GleanDusk$Parish" "undoable" "I") (List.mem_of_getElem? (i := 3) rfl)
  have f4 := hts (.fieldLink RX4 48 "GleanDusk$Parish" "missedCount" "I") (List.mem_of_getElem? (i := 4) rfl)
  have f5 := hts (.fieldLink RX4 51 "GleanDusk$Parish" "noteCount" "I") (List.mem_of_getElem? (i := 5) rfl)
  have f6 := hts (.fieldLink RX4 18 "GleanDusk$Parish" "dusk" "LGleanDusk$Dusk;") (List.mem_of_getElem? (i := 6) rfl)
  have f7 := hts (.fieldLink RX4 54 "GleanDusk$Dusk" "step" "I") (List.mem_of_getElem? (i := 7) rfl)
  have f8 := hts (.fieldLink RX4 57 "GleanDusk$Dusk" "cloud" "I") (List.mem_of_getElem? (i := 8) rfl)
  have f9 := hts (.fieldLink RX4 60 "GleanDusk$Dusk" "number" "I") (List.mem_of_getElem? (i := 9) rfl)
  have i4 : ∀ w ∈ wsX40, w ∈ wsX4_begin := fun _ h => List.mem_cons_of_mem _ (List.mem_append_left _ (List.mem_append_right _ h))
  have i1 : ∀ w ∈ wsX10, w ∈ wsX4_begin := fun _ h => List.mem_cons_of_mem _ (List.mem_append_right _ h)
  refine lv_aload_n hx hb dX4_begin_0 rfl (lv_at hl 0 rfl) ?_
  refine lv_iconst (v := 0) hx hb dX4_begin_1 (by decide) ?_
  refine va_put (D := D) (ci := 4) (v := .int 0) (ty := .int) (C := RX4) (T := TX4) (N := 11) hx hb hts i4 tyX4 tyX4_ok nmX4 hown hK hP hD hS 0 rfl rfl 6 (by decide) f1 (fun _ h9 => h9) rfl (by decide +kernel) rfl rfl (Nat.le_of_ble_eq_true rfl) dX4_begin_2 (fun H locs hP hD hS => ?_)
  have hP : va_P D vwCl [(nw, .inr (4, [.ref kk, .ref nk, .ref nd, .ref ne, .ref nm, .ref nn, .int 0, .int gl, .int un, .int mi, .int no])), (nd, .inr (1, [.ref nl, .ref na, .ref ns, .int st, .int cl, .int nu]))] H := hP
  have hD : va_D A [(nw, .inr (4, [.ref kk, .ref nk, .ref nd, .ref ne, .ref nm, .ref nn, .int 0, .int gl, .int un, .int mi, .int no])), (nd, .inr (1, [.ref nl, .ref na, .ref ns, .int st, .int cl, .int nu]))] := hD
  refine lv_aload_n hx hb dX4_begin_5 rfl (lv_at hl 0 rfl) ?_
  refine lv_iconst (v := 0) hx hb dX4_begin_6 (by decide) ?_
  refine va_put (D := D) (ci := 4) (v := .int 0) (ty := .int) (C := RX4) (T := TX4) (N := 11) hx hb hts i4 tyX4 tyX4_ok nmX4 hown hK hP hD hS 0 rfl rfl 7 (by decide) f2 (fun _ h9 => h9) rfl (by decide +kernel) rfl rfl (Nat.le_of_ble_eq_true rfl) dX4_begin_7 (fun H locs hP hD hS => ?_)
  have hP : va_P D vwCl [(nw, .inr (4, [.ref kk, .ref nk, .ref nd, .ref ne, .ref nm, .ref nn, .int 0, .int 0, .int un, .int mi, .int no])), (nd, .inr (1, [.ref nl, .ref na, .ref ns, .int st, .int cl, .int nu]))] H := hP
  have hD : va_D A [(nw, .inr (4, [.ref kk, .ref nk, .ref nd, .ref ne, .ref nm, .ref nn, .int 0, .int 0, .int un, .int mi, .int no])), (nd, .inr (1, [.ref nl, .ref na, .ref ns, .int st, .int cl, .int nu]))] := hD
  refine lv_aload_n hx hb dX4_begin_10 rfl (lv_at hl 0 rfl) ?_
  refine lv_iconst (v := 0) hx hb dX4_begin_11 (by decide) ?_
  refine va_put (D := D) (ci := 4) (v := .int 0) (ty := .int) (C := RX4) (T := TX4) (N := 11) hx hb hts i4 tyX4 tyX4_ok nmX4 hown hK hP hD hS 0 rfl rfl 8 (by decide) f3 (fun _ h9 => h9) rfl (by decide +kernel) rfl rfl (Nat.le_of_ble_eq_true rfl) dX4_begin_12 (fun H locs hP hD hS => ?_)
  have hP : va_P D vwCl [(nw, .inr (4, [.ref kk, .ref nk, .ref nd, .ref ne, .ref nm, .ref nn, .int 0, .int 0, .int 0, .int mi, .int no])), (nd, .inr (1, [.ref nl, .ref na, .ref ns, .int st, .int cl, .int nu]))] H := hP
  have hD : va_D A [(nw, .inr (4, [.ref kk, .ref nk, .ref nd, .ref ne, .ref nm, .ref nn, .int 0, .int 0, .int 0, .int mi, .int no])), (nd, .inr (1, [.ref nl, .ref na, .ref ns, .int st, .int cl, .int nu]))] := hD
  refine lv_aload_n hx hb dX4_begin_15 rfl (lv_at hl 0 rfl) ?_
  refine lv_iconst (v := 0) hx hb dX4_begin_16 (by decide) ?_
  refine va_put (D := D) (ci := 4) (v := .int 0) (ty := .int) (C := RX4) (T := TX4) (N := 11) hx hb hts i4 tyX4 tyX4_ok nmX4 hown hK hP hD hS 0 rfl rfl 9 (by decide) f4 (fun _ h9 => h9) rfl (by decide +kernel) rfl rfl (Nat.le_of_ble_eq_true rfl) dX4_begin_17 (fun H locs hP hD hS => ?_)
  have hP : va_P D vwCl [(nw, .inr (4, [.ref kk, .ref nk, .ref nd, .ref ne, .ref nm, .ref nn, .int 0, .int 0, .int 0, .int 0, .int no])), (nd, .inr (1, [.ref nl, .ref na, .ref ns, .int st, .int cl, .int nu]))] H := hP
  have hD : va_D A [(nw, .inr (4, [.ref kk, .ref nk, .ref nd, .ref ne, .ref nm, .ref nn, .int 0, .int 0, .int 0, .int 0, .int no])), (nd, .inr (1, [.ref nl, .ref na, .ref ns, .int st, .int cl, .int nu]))] := hD
  refine lv_aload_n hx hb dX4_begin_20 rfl (lv_at hl 0 rfl) ?_
  refine lv_iconst (v := 0) hx hb dX4_begin_21 (by decide) ?_
  refine va_put (D := D) (ci := 4) (v := .int 0) (ty := .int) (C := RX4) (T := TX4) (N := 11) hx hb hts i4 tyX4 tyX4_ok nmX4 hown hK hP hD hS 0 rfl rfl 10 (by decide) f5 (fun _ h9 => h9) rfl (by decide +kernel) rfl rfl (Nat.le_of_ble_eq_true rfl) dX4_begin_22 (fun H locs hP hD hS => ?_)
  have hP : va_P D vwCl [(nw, .inr (4, [.ref kk, .ref nk, .ref nd, .ref ne, .ref nm, .ref nn, .int 0, .int 0, .int 0, .int 0, .int 0])), (nd, .inr (1, [.ref nl, .ref na, .ref ns, .int st, .int cl, .int nu]))] H := hP
  have hD : va_D A [(nw, .inr (4, [.ref kk, .ref nk, .ref nd, .ref ne, .ref nm, .ref nn, .int 0, .int 0, .int 0, .int 0, .int 0])), (nd, .inr (1, [.ref nl, .ref na, .ref ns, .int st, .int cl, .int nu]))] := hD
  refine lv_aload_n hx hb dX4_begin_25 rfl (lv_at hl 0 rfl) ?_
  refine va_get (D := D) (ci := 4) (v := .ref nd) (C := RX4) (T := TX4) (N := 11) hx hb hts i4 hown hK hP 0 rfl rfl 2 (by decide) f6 (fun _ h9 => h9) rfl dX4_begin_26 ?_
  refine lv_iconst (v := 0) hx hb dX4_begin_29 (by decide) ?_
  refine va_put (D := D) (ci := 1) (v := .int 0) (ty := .int) (C := RX1) (T := TX1) (N := 6) hx hb hts i1 tyX1 tyX1_ok nmX1 hown hK hP hD hS 1 rfl rfl 3 (by decide) f7 (fun _ h9 => h9) rfl (by decide +kernel) rfl rfl (Nat.le_of_ble_eq_true rfl) dX4_begin_30 (fun H locs hP hD hS => ?_)
  have hP : va_P D vwCl [(nw, .inr (4, [.ref kk, .ref nk, .ref nd, .ref ne, .ref nm, .ref nn, .int 0, .int 0, .int 0, .int 0, .int 0])), (nd, .inr (1, [.ref nl, .ref na, .ref ns, .int 0, .int cl, .int nu]))] H := hP
  have hD : va_D A [(nw, .inr (4, [.ref kk, .ref nk, .ref nd, .ref ne, .ref nm, .ref nn, .int 0, .int 0, .int 0, .int 0, .int 0])), (nd, .inr (1, [.ref nl, .ref na, .ref ns, .int 0, .int cl, .int nu]))] := hD
  refine lv_aload_n hx hb dX4_begin_33 rfl (lv_at hl 0 rfl) ?_
  refine va_get (D := D) (ci := 4) (v := .ref nd) (C := RX4) (T := TX4) (N := 11) hx hb hts i4 hown hK hP 0 rfl rfl 2 (by decide) f6 (fun _ h9 => h9) rfl dX4_begin_34 ?_
  refine lv_iload_n hx hb dX4_begin_37 rfl (lv_at hl 1 rfl) ?_
  refine va_put (D := D) (ci := 1) (v := .int c) (ty := .int) (C := RX1) (T := TX1) (N := 6) hx hb hts i1 tyX1 tyX1_ok nmX1 hown hK hP hD hS 1 rfl rfl 4 (by decide) f8 (fun _ h9 => h9) rfl (by decide +kernel) rfl rfl (Nat.le_of_ble_eq_true rfl) dX4_begin_38 (fun H locs hP hD hS => ?_)
  have hP : va_P D vwCl [(nw, .inr (4, [.ref kk, .ref nk, .ref nd, .ref ne, .ref nm, .ref nn, .int 0, .int 0, .int 0, .int 0, .int 0])), (nd, .inr (1, [.ref nl, .ref na, .ref ns, .int 0, .int c, .int nu]))] H := hP
  have hD : va_D A [(nw, .inr (4, [.ref kk, .ref nk, .ref nd, .ref ne, .ref nm, .ref nn, .int 0, .int 0, .int 0, .int 0, .int 0])), (nd, .inr (1, [.ref nl, .ref na, .ref ns, .int 0, .int c, .int nu]))] := hD
  refine lv_aload_n hx hb dX4_begin_41 rfl (lv_at hl 0 rfl) ?_
  refine va_get (D := D) (ci := 4) (v := .ref nd) (C := RX4) (T := TX4) (N := 11) hx hb hts i4 hown hK hP 0 rfl rfl 2 (by decide) f6 (fun _ h9 => h9) rfl dX4_begin_42 ?_
  refine lv_iconst (v := 0) hx hb dX4_begin_45 (by decide) ?_
  refine va_put (D := D) (ci := 1) (v := .int 0) (ty := .int) (C := RX1) (T := TX1) (N := 6) hx hb hts i1 tyX1 tyX1_ok nmX1 hown hK hP hD hS 1 rfl rfl 5 (by decide) f9 (fun _ h9 => h9) rfl (by decide +kernel) rfl rfl (Nat.le_of_ble_eq_true rfl) dX4_begin_46 (fun H locs hP hD hS => ?_)
  have hP : va_P D vwCl [(nw, .inr (4, [.ref kk, .ref nk, .ref nd, .ref ne, .ref nm, .ref nn, .int 0, .int 0, .int 0, .int 0, .int 0])), (nd, .inr (1, [.ref nl, .ref na, .ref ns, .int 0, .int c, .int 0]))] H := hP
  have hD : va_D A [(nw, .inr (4, [.ref kk, .ref nk, .ref nd, .ref ne, .ref nm, .ref nn, .int 0, .int 0, .int 0, .int 0, .int 0])), (nd, .inr (1, [.ref nl, .ref na, .ref ns, .int 0, .int c, .int 0]))] := hD
  exact W.vret hx hb hr (fun tZ ht hW => ⟨⟨(), rfl, trivial, by rw [ht]; exact hP.sub [0, 1] rfl, hD.sub [0, 1] (by decide) rfl⟩, hS.F ht⟩) hS.2.2 dX4_begin_49

set_option maxHeartbeats 4000000 in
set_option maxRecDepth 100000 in
theorem ct_addField (l : Launch) (D : va_G) (y : Nat → ClassId) (nw : Nat) (kk : Nat) (nk : Nat) (nd : Nat) (ne : Nat) (nm : Nat) (nn : Nat) (nl : Nat) (na : Nat) (ns : Nat) (k : Int32) (c : Int32) (gl : Int32) (un : Int32) (mi : Int32) (no : Int32) (st : Int32) (cl : Int32) (nu : Int32) : kw_Mi l yX4_addField wsX4_addField ({ frames := 1, cells := 0, slots := 0, locals := 40 }) D y [.ref nw, .int k, .int c] [(nw, .inr (4, [.ref kk, .ref nk, .ref nd, .ref ne, .ref nm, .ref nn, .int 0, .int gl, .int un, .int mi, .int no])), (nk, .inl (y 0, 6, .inl (fun _ => 0))), (nd, .inr (1, [.ref nl, .ref na, .ref ns, .int st, .int cl, .int nu])), (nl, .inl (y 0, 6, .inl (fun _ => 0)))] (fun (r : Int32) (u : Unit) => r = 0) (fun _ => []) 0 0 := by
  refine kw_Mi.of (cc := cX4_addField) (maxL := 3) (ret := (some .int)) (by decide) rfl ?_
  intro pZ eZ s mZ beZ meZ cZ A hE
  obtain ⟨hx, hb, hr, hml, hts, hown, hlocks, hin, hA, hP, hD, hK, hN⟩ := hE
  have hS : va_S A s.heap s.heap [] := va_S.rf
  have hl := lv_entry ([.ref nw, .int k, .int c]) (n := 3) (Nat.le_of_ble_eq_true rfl)
  rw [lg_entry_eq]
  generalize (lg_sl ([.ref nw, .int k, .int c]) ++ List.replicate (3 - (lg_sl ([.ref nw, .int k, .int c])).length) Slot.unset).toArray = ls at hl ⊢
  have hl : lv_has ls 3 [(0, .ref nw), (1, .int k), (2, .int c)] := hl
  have f1 := hts (.fieldLink RX4 9 "GleanDusk$Parish" "kind" "[I") (List.mem_of_getElem? (i := 1) rfl)
  have f2 := hts (.fieldLink RX4 38 "GleanDusk$Parish" "fields" "I") (List.mem_of_getElem? (i := 2) rfl)
  have f3 := hts (.fieldLink RX4 18 "GleanDusk$Parish" "dusk" "LGleanDusk$Dusk;") (List.mem_of_getElem? (i := 3) rfl)
  have f4 := hts (.fieldLink RX4 77 "GleanDusk$Dusk" "light" "[I") (List.mem_of_getElem? (i := 4) rfl)
  have f5 := hts (.fieldLink RX4 45 "GleanDusk$Parish" "undoable" "I") (List.mem_of_getElem? (i := 5) rfl)
  have i4 : ∀ w ∈ wsX40, w ∈ wsX4_addField := fun _ h => List.mem_cons_of_mem _ (List.mem_append_left _ (List.mem_append_right _ h))
  have i1 : ∀ w ∈ wsX10, w ∈ wsX4_addField := fun _ h => List.mem_cons_of_mem _ (List.mem_append_right _ h)
  refine lv_aload_n hx hb dX4_addField_0 rfl (lv_at hl 0 rfl) ?_
  refine va_get (D := D) (ci := 4) (v := .ref nk) (C := RX4) (T := TX4) (N := 11) hx hb hts i4 hown hK hP 0 rfl rfl 1 (by decide) f1 (fun _ h9 => h9) rfl dX4_addField_1 ?_
  refine lv_aload_n hx hb dX4_addField_4 rfl (lv_at hl 0 rfl) ?_
  refine va_get (D := D) (ci := 4) (v := .int 0) (C := RX4) (T := TX4) (N := 11) hx hb hts i4 hown hK hP 0 rfl rfl 6 (by decide) f2 (fun _ h9 => h9) rfl dX4_addField_5 ?_
  refine lv_iload_n hx hb dX4_addField_8 rfl (lv_at hl 1 rfl) ?_
  refine va_iast hx hb hK hP hD hS 1 0 rfl rfl (by unfold vp_in; decide) dX4_addField_9 (fun H locs hP hD hS => ?_)
  have hP : va_P D vwCl [(nw, .inr (4, [.ref kk, .ref nk, .ref nd, .ref ne, .ref nm, .ref nn, .int 0, .int gl, .int un, .int mi, .int no])), (nk, .inl (y 0, 6, .inl (upd (fun _ => 0) (0 : Int32).toNatClampNeg k))), (nd, .inr (1, [.ref nl, .ref na, .ref ns, .int st, .int cl, .int nu])), (nl, .inl (y 0, 6, .inl (fun _ => 0)))] H := hP
  have hD : va_D A [(nw, .inr (4, [.ref kk, .ref nk, .ref nd, .ref ne, .ref nm, .ref nn, .int 0, .int gl, .int un, .int mi, .int no])), (nk, .inl (y 0, 6, .inl (upd (fun _ => 0) (0 : Int32).toNatClampNeg k))), (nd, .inr (1, [.ref nl, .ref na, .ref ns, .int st, .int cl, .int nu])), (nl, .inl (y 0, 6, .inl (fun _ => 0)))] := hD
  refine lv_aload_n hx hb dX4_addField_10 rfl (lv_at hl 0 rfl) ?_
  refine va_get (D := D) (ci := 4) (v := .ref nd) (C := RX4) (T := TX4) (N := 11) hx hb hts i4 hown hK hP 0 rfl rfl 2 (by decide) f3 (fun _ h9 => h9) rfl dX4_addField_11 ?_
  refine va_get (D := D) (ci := 1) (v := .ref nl) (C := RX1) (T := TX1) (N := 6) hx hb hts i1 hown hK hP 2 rfl rfl 0 (by decide) f4 (fun _ h9 => h9) rfl dX4_addField_14 ?_
  refine lv_aload_n hx hb dX4_addField_17 rfl (lv_at hl 0 rfl) ?_
  refine va_get (D := D) (ci := 4) (v := .int 0) (C := RX4) (T := TX4) (N := 11) hx hb hts i4 hown hK hP 0 rfl rfl 6 (by decide) f2 (fun _ h9 => h9) rfl dX4_addField_18 ?_
  refine lv_iload_n hx hb dX4_addField_21 rfl (lv_at hl 2 rfl) ?_
  refine va_iast hx hb hK hP hD hS 3 0 rfl rfl (by unfold vp_in; decide) dX4_addField_22 (fun H locs hP hD hS => ?_)
  have hP : va_P D vwCl [(nw, .inr (4, [.ref kk, .ref nk, .ref nd, .ref ne, .ref nm, .ref nn, .int 0, .int gl, .int un, .int mi, .int no])), (nk, .inl (y 0, 6, .inl (upd (fun _ => 0) (0 : Int32).toNatClampNeg k))), (nd, .inr (1, [.ref nl, .ref na, .ref ns, .int st, .int cl, .int nu])), (nl, .inl (y 0, 6, .inl (upd (fun _ => 0) (0 : Int32).toNatClampNeg c)))] H := hP
  have hD : va_D A [(nw, .inr (4, [.ref kk, .ref nk, .ref nd, .ref ne, .ref nm, .ref nn, .int 0, .int gl, .int un, .int mi, .int no])), (nk, .inl (y 0, 6, .inl (upd (fun _ => 0) (0 : Int32).toNatClampNeg k))), (nd, .inr (1, [.ref nl, .ref na, .ref ns, .int st, .int cl, .int nu])), (nl, .inl (y 0, 6, .inl (upd (fun _ => 0) (0 : Int32).toNatClampNeg c)))] := hD
  refine lv_aload_n hx hb dX4_addField_23 rfl (lv_at hl 0 rfl) ?_
  refine lv_iconst (v := 0) hx hb dX4_addField_24 (by decide) ?_
  refine va_put (D := D) (ci := 4) (v := .int 0) (ty := .int) (C := RX4) (T := TX4) (N := 11) hx hb hts i4 tyX4 tyX4_ok nmX4 hown hK hP hD hS 0 rfl rfl 8 (by decide) f5 (fun _ h9 => h9) rfl (by decide +kernel) rfl rfl (Nat.le_of_ble_eq_true rfl) dX4_addField_25 (fun H locs hP hD hS => ?_)
  have hP : va_P D vwCl [(nw, .inr (4, [.ref kk, .ref nk, .ref nd, .ref ne, .ref nm, .ref nn, .int 0, .int gl, .int 0, .int mi, .int no])), (nk, .inl (y 0, 6, .inl (upd (fun _ => 0) (0 : Int32).toNatClampNeg k))), (nd, .inr (1, [.ref nl, .ref na, .ref ns, .int st, .int cl, .int nu])), (nl, .inl (y 0, 6, .inl (upd (fun _ => 0) (0 : Int32).toNatClampNeg c)))] H := hP
  have hD : va_D A [(nw, .inr (4, [.ref kk, .ref nk, .ref nd, .ref ne, .ref nm, .ref nn, .int 0, .int gl, .int 0, .int mi, .int no])), (nk, .inl (y 0, 6, .inl (upd (fun _ => 0) (0 : Int32).toNatClampNeg k))), (nd, .inr (1, [.ref nl, .ref na, .ref ns, .int st, .int cl, .int nu])), (nl, .inl (y 0, 6, .inl (upd (fun _ => 0) (0 : Int32).toNatClampNeg c)))] := hD
  refine lv_aload_n hx hb dX4_addField_28 rfl (lv_at hl 0 rfl) ?_
  refine lv_dup hx hb dX4_addField_29 rfl ?_
  refine va_get (D := D) (ci := 4) (v := .int 0) (C := RX4) (T := TX4) (N := 11) hx hb hts i4 hown hK hP 0 rfl rfl 6 (by decide) f2 (fun _ h9 => h9) rfl dX4_addField_30 ?_
  refine lv_dup_x1 hx hb dX4_addField_33 rfl rfl ?_
  refine lv_iconst (v := 1) hx hb dX4_addField_34 (by decide) ?_
  refine lv_iadd hx hb dX4_addField_35 ?_
  refine lv_topi (fun z1 hz1 => ?_)
  obtain rfl : z1 = 1 := hz1.trans (by first | rfl | decide | (simp [upd]; done))
  refine va_put (D := D) (ci := 4) (v := .int 1) (ty := .int) (C := RX4) (T := TX4) (N := 11) hx hb hts i4 tyX4 tyX4_ok nmX4 hown hK hP hD hS 0 rfl rfl 6 (by decide) f2 (fun _ h9 => h9) rfl (by decide +kernel) rfl rfl (Nat.le_of_ble_eq_true rfl) dX4_addField_36 (fun H locs hP hD hS => ?_)
  have hP : va_P D vwCl [(nw, .inr (4, [.ref kk, .ref nk, .ref nd, .ref ne, .ref nm, .ref nn, .int 1, .int gl, .int 0, .int mi, .int no])), (nk, .inl (y 0, 6, .inl (upd (fun _ => 0) (0 : Int32).toNatClampNeg k))), (nd, .inr (1, [.ref nl, .ref na, .ref ns, .int st, .int cl, .int nu])), (nl, .inl (y 0, 6, .inl (upd (fun _ => 0) (0 : Int32).toNatClampNeg c)))] H := hP
  have hD : va_D A [(nw, .inr (4, [.ref kk, .ref nk, .ref nd, .ref ne, .ref nm, .ref nn, .int 1, .int gl, .int 0, .int mi, .int no])), (nk, .inl (y 0, 6, .inl (upd (fun _ => 0) (0 : Int32).toNatClampNeg k))), (nd, .inr (1, [.ref nl, .ref na, .ref ns, .int st, .int cl, .int nu])), (nl, .inl (y 0, 6, .inl (upd (fun _ => 0) (0 : Int32).toNatClampNeg c)))] := hD
  exact W.iret (v := 0) hx hb hr (fun tZ ht hW => ⟨⟨0, (), rfl, rfl, by rw [ht]; exact hP.sub [] rfl, hD.sub [] (by decide) rfl⟩, hS.F ht⟩) hS.2.2 dX4_addField_39

set_option maxHeartbeats 4000000 in
set_option maxRecDepth 100000 in
theorem ct_dusk_become (l : Launch) (D : va_G) (y : Nat → ClassId) (d : Nat) (dl : Nat) (da : Nat) (ds : Nat) (o : Nat) (ol : Nat) (oa : Nat) (os : Nat) (st : Int32) (cl : Int32) (nu : Int32) (st2 : Int32) (cl2 : Int32) (nu2 : Int32) : kw_Mv l yX1_become wsX1_become ({ frames := 1, cells := 0, slots := 0, locals := 60 }) D y [.ref d, .ref o] [(d, .inr (1, [.ref dl, .ref da, .ref ds, .int st, .int cl, .int nu])), (dl, .inl (y 0, 6, .inl (fun _ => 0))), (da, .inl (y 0, 5, .inl (fun _ => 0))), (ds, .inl (y 0, 5, .inl (fun _ => 0))), (o, .inr (1, [.ref ol, .ref oa, .ref os, .int st2, .int cl2, .int nu2])), (ol, .inl (y 0, 6, .inl (fun _ => 0))), (oa, .inl (y 0, 5, .inl (fun _ => 0))), (os, .inl (y 0, 5, .inl (fun _ => 0)))] (fun (u : Unit) => True) (fun _ => [(d, .inr (1, [.ref dl, .ref da, .ref ds, .int st2, .int cl2, .int nu2])), (dl, .inl (y 0, 6, .inl (fun _ => 0))), (da, .inl (y 0, 5, .inl (fun _ => 0))), (ds, .inl (y 0, 5, .inl (fun _ => 0))), (o, .inr (1, [.ref ol, .ref oa, .ref os, .int st2, .int cl2, .int nu2])), (ol, .inl (y 0, 6, .inl (fun _ => 0))), (oa, .inl (y 0, 5, .inl (fun _ => 0))), (os, .inl (y 0, 5, .inl (fun _ => 0)))]) 0 0 := by
  refine kw_Mv.of (cc := cX1_become) (maxL := 2) (ret := none) (by decide) rfl ?_
  intro pZ eZ s mZ beZ meZ cZ A hE
  obtain ⟨hx, hb, hr, hml, hts, hown, hlocks, hin, hA, hP, hD, hK, hN⟩ := hE
  have hS : va_S A s.heap s.heap [] := va_S.rf
  have hl := lv_entry ([.ref d, .ref o]) (n := 2) (Nat.le_of_ble_eq_true rfl)
  rw [lg_entry_eq]
  generalize (lg_sl ([.ref d, .ref o]) ++ List.replicate (2 - (lg_sl ([.ref d, .ref o])).length) Slot.unset).toArray = ls at hl ⊢
  have hl : lv_has ls 2 [(0, .ref d), (1, .ref o)] := hl
  have f1 := hts (.fieldLink RX1 9 "GleanDusk$Dusk" "light" "[I") (List.mem_of_getElem? (i := 1) rfl)
  have f2 := hts (.methodLink RX1 21 arraycopyName) (List.mem_of_getElem? (i := 2) rfl)
  have f3 := hts (.native arraycopyName) (List.mem_of_getElem? (i := 3) rfl)
  have f4 := hts (.static arraycopyName) (List.mem_of_getElem? (i := 4) rfl)
  have f5 := hts (.initialized "java/lang/System") (List.mem_of_getElem? (i := 5) rfl)
  have f6 := hts (.fieldLink RX1 15 "GleanDusk$Dusk" "at" "[I") (List.mem_of_getElem? (i := 6) rfl)
  have f7 := hts (.fieldLink RX1 18 "GleanDusk$Dusk" "store" "[I") (List.mem_of_getElem? (i := 7) rfl)
  have f8 := hts (.fieldLink RX1 27 "GleanDusk$Dusk" "step" "I") (List.mem_of_getElem? (i := 8) rfl)
  have f9 := hts (.fieldLink RX1 31 "GleanDusk$Dusk" "cloud" "I") (List.mem_of_getElem? (i := 9) rfl)
  have f10 := hts (.fieldLink RX1 34 "GleanDusk$Dusk" "number" "I") (List.mem_of_getElem? (i := 10) rfl)
  have i1 : ∀ w ∈ wsX10, w ∈ wsX1_become := fun _ h => List.mem_cons_of_mem _ (List.mem_append_right _ h)
  refine lv_aload_n hx hb dX1_become_0 rfl (lv_at hl 1 rfl) ?_
  refine va_get (D := D) (ci := 1) (v := .ref ol) (C := RX1) (T := TX1) (N := 6) hx hb hts i1 hown hK hP 4 rfl rfl 0 (by decide) f1 (fun _ h9 => h9) rfl dX1_become_1 ?_
  refine lv_iconst (v := 0) hx hb dX1_become_4 (by decide) ?_
  refine lv_aload_n hx hb dX1_become_5 rfl (lv_at hl 0 rfl) ?_
  refine va_get (D := D) (ci := 1) (v := .ref dl) (C := RX1) (T := TX1) (N := 6) hx hb hts i1 hown hK hP 0 rfl rfl 0 (by decide) f1 (fun _ h9 => h9) rfl dX1_become_6 ?_
  refine lv_iconst (v := 0) hx hb dX1_become_9 (by decide) ?_
  refine lv_bipush (v := 6) hx hb dX1_become_10 (by decide) ?_
  refine va_copyi hx hb (hml.trans hl.1.symm) hown f2 f3 f4 f5 hK hP hD hS 5 1 0 0 rfl rfl rfl rfl rfl (by decide) (by decide) (by decide) (by decide) (by decide) (fun _ _ => rfl) (Nat.le_of_ble_eq_true rfl) (Nat.le_of_ble_eq_true rfl) dX1_become_12 (fun H locs hP hD hS => ?_)
  rw [kw_cpy0] at hP hD
  have hP : va_P D vwCl [(d, .inr (1, [.ref dl, .ref da, .ref ds, .int st, .int cl, .int nu])), (dl, .inl (y 0, 6, .inl (fun _ => 0))), (da, .inl (y 0, 5, .inl (fun _ => 0))), (ds, .inl (y 0, 5, .inl (fun _ => 0))), (o, .inr (1, [.ref ol, .ref oa, .ref os, .int st2, .int cl2, .int nu2])), (ol, .inl (y 0, 6, .inl (fun _ => 0))), (oa, .inl (y 0, 5, .inl (fun _ => 0))), (os, .inl (y 0, 5, .inl (fun _ => 0)))] H := hP
  have hD : va_D A [(d, .inr (1, [.ref dl, .ref da, .ref ds, .int st, .int cl, .int nu])), (dl, .inl (y 0, 6, .inl (fun _ => 0))), (da, .inl (y 0, 5, .inl (fun _ => 0))), (ds, .inl (y 0, 5, .inl (fun _ => 0))), (o, .inr (1, [.ref ol, .ref oa, .ref os, .int st2, .int cl2, .int nu2])), (ol, .inl (y 0, 6, .inl (fun _ => 0))), (oa, .inl (y 0, 5, .inl (fun _ => 0))), (os, .inl (y 0, 5, .inl (fun _ => 0)))] := hD
  refine lv_aload_n hx hb dX1_become_15 rfl (lv_at hl 1 rfl) ?_
  refine va_get (D := D) (ci := 1) (v := .ref oa) (C := RX1) (T := TX1) (N := 6) hx hb hts i1 hown hK hP 4 rfl rfl 1 (by decide) f6 (fun _ h9 => h9) rfl dX1_become_16 ?_
  refine lv_iconst (v := 0) hx hb dX1_become_19 (by decide) ?_
  refine lv_aload_n hx hb dX1_become_20 rfl (lv_at hl 0 rfl) ?_
  refine va_get (D := D) (ci := 1) (v := .ref da) (C := RX1) (T := TX1) (N := 6) hx hb hts i1 hown hK hP 0 rfl rfl 1 (by decide) f6 (fun _ h9 => h9) rfl dX1_become_21 ?_
  refine lv_iconst (v := 0) hx hb dX1_become_24 (by decide) ?_
  refine lv_iconst (v := 5) hx hb dX1_become_25 (by decide) ?_
  refine va_copyi hx hb (hml.trans hl.1.symm) hown f2 f3 f4 f5 hK hP hD hS 6 2 0 0 rfl rfl rfl rfl rfl (by decide) (by decide) (by decide) (by decide) (by decide) (fun _ _ => rfl) (Nat.le_of_ble_eq_true rfl) (Nat.le_of_ble_eq_true rfl) dX1_become_26 (fun H locs hP hD hS => ?_)
  rw [kw_cpy0] at hP hD
  have hP : va_P D vwCl [(d, .inr (1, [.ref dl, .ref da, .ref ds, .int st, .int cl, .int nu])), (dl, .inl (y 0, 6, .inl (fun _ => 0))), (da, .inl (y 0, 5, .inl (fun _ => 0))), (ds, .inl (y 0, 5, .inl (fun _ => 0))), (o, .inr (1, [.ref ol, .ref oa, .ref os, .int st2, .int cl2, .int nu2])), (ol, .inl (y 0, 6, .inl (fun _ => 0))), (oa, .inl (y 0, 5, .inl (fun _ => 0))), (os, .inl (y 0, 5, .inl (fun _ => 0)))] H := hP
  have hD : va_D A [(d, .inr (1, [.ref dl, .ref da, .ref ds, .int st, .int cl, .int nu])), (dl, .inl (y 0, 6, .inl (fun _ => 0))), (da, .inl (y 0, 5, .inl (fun _ => 0))), (ds, .inl (y 0, 5, .inl (fun _ => 0))), (o, .inr (1, [.ref ol, .ref oa, .ref os, .int st2, .int cl2, .int nu2])), (ol, .inl (y 0, 6, .inl (fun _ => 0))), (oa, .inl (y 0, 5, .inl (fun _ => 0))), (os, .inl (y 0, 5, .inl (fun _ => 0)))] := hD
  refine lv_aload_n hx hb dX1_become_29 rfl (lv_at hl 1 rfl) ?_
  refine va_get (D := D) (ci := 1) (v := .ref os) (C := RX1) (T := TX1) (N := 6) hx hb hts i1 hown hK hP 4 rfl rfl 2 (by decide) f7 (fun _ h9 => h9) rfl dX1_become_30 ?_
  refine lv_iconst (v := 0) hx hb dX1_become_33 (by decide) ?_
  refine lv_aload_n hx hb dX1_become_34 rfl (lv_at hl 0 rfl) ?_
  refine va_get (D := D) (ci := 1) (v := .ref ds) (C := RX1) (T := TX1) (N := 6) hx hb hts i1 hown hK hP 0 rfl rfl 2 (by decide) f7 (fun _ h9 => h9) rfl dX1_become_35 ?_
  refine lv_iconst (v := 0) hx hb dX1_become_38 (by decide) ?_
  refine lv_iconst (v := 5) hx hb dX1_become_39 (by decide) ?_
  refine va_copyi hx hb (hml.trans hl.1.symm) hown f2 f3 f4 f5 hK hP hD hS 7 3 0 0 rfl rfl rfl rfl rfl (by decide) (by decide) (by decide) (by decide) (by decide) (fun _ _ => rfl) (Nat.le_of_ble_eq_true rfl) (Nat.le_of_ble_eq_true rfl) dX1_become_40 (fun H locs hP hD hS => ?_)
  rw [kw_cpy0] at hP hD
  have hP : va_P D vwCl [(d, .inr (1, [.ref dl, .ref da, .ref ds, .int st, .int cl, .int nu])), (dl, .inl (y 0, 6, .inl (fun _ => 0))), (da, .inl (y 0, 5, .inl (fun _ => 0))), (ds, .inl (y 0, 5, .inl (fun _ => 0))), (o, .inr (1, [.ref ol, .ref oa, .ref os, .int st2, .int cl2, .int nu2])), (ol, .inl (y 0, 6, .inl (fun _ => 0))), (oa, .inl (y 0, 5, .inl (fun _ => 0))), (os, .inl (y 0, 5, .inl (fun _ => 0)))] H := hP
  have hD : va_D A [(d, .inr (1, [.ref dl, .ref da, .ref ds, .int st, .int cl, .int nu])), (dl, .inl (y 0, 6, .inl (fun _ => 0))), (da, .inl (y 0, 5, .inl (fun _ => 0))), (ds, .inl (y 0, 5, .inl (fun _ => 0))), (o, .inr (1, [.ref ol, .ref oa, .ref os, .int st2, .int cl2, .int nu2])), (ol, .inl (y 0, 6, .inl (fun _ => 0))), (oa, .inl (y 0, 5, .inl (fun _ => 0))), (os, .inl (y 0, 5, .inl (fun _ => 0)))] := hD
  refine lv_aload_n hx hb dX1_become_43 rfl (lv_at hl 0 rfl) ?_
  refine lv_aload_n hx hb dX1_become_44 rfl (lv_at hl 1 rfl) ?_
  refine va_get (D := D) (ci := 1) (v := .int st2) (C := RX1) (T := TX1) (N := 6) hx hb hts i1 hown hK hP 4 rfl rfl 3 (by decide) f8 (fun _ h9 => h9) rfl dX1_become_45 ?_
  refine va_put (D := D) (ci := 1) (v := .int st2) (ty := .int) (C := RX1) (T := TX1) (N := 6) hx hb hts i1 tyX1 tyX1_ok nmX1 hown hK hP hD hS 0 rfl rfl 3 (by decide) f8 (fun _ h9 => h9) rfl (by decide +kernel) rfl rfl (Nat.le_of_ble_eq_true rfl) dX1_become_48 (fun H locs hP hD hS => ?_)
  have hP : va_P D vwCl [(d, .inr (1, [.ref dl, .ref da, .ref ds, .int st2, .int cl, .int nu])), (dl, .inl (y 0, 6, .inl (fun _ => 0))), (da, .inl (y 0, 5, .inl (fun _ => 0))), (ds, .inl (y 0, 5, .inl (fun _ => 0))), (o, .inr (1, [.ref ol, .ref oa, .ref os, .int st2, .int cl2, .int nu2])), (ol, .inl (y 0, 6, .inl (fun _ => 0))), (oa, .inl (y 0, 5, .inl (fun _ => 0))), (os, .inl (y 0, 5, .inl (fun _ => 0)))] H := hP
  have hD : va_D A [(d, .inr (1, [.ref dl, .ref da, .ref ds, .int st2, .int cl, .int nu])), (dl, .inl (y 0, 6, .inl (fun _ => 0))), (da, .inl (y 0, 5, .inl (fun _ => 0))), (ds, .inl (y 0, 5, .inl (fun _ => 0))), (o, .inr (1, [.ref ol, .ref oa, .ref os, .int st2, .int cl2, .int nu2])), (ol, .inl (y 0, 6, .inl (fun _ => 0))), (oa, .inl (y 0, 5, .inl (fun _ => 0))), (os, .inl (y 0, 5, .inl (fun _ => 0)))] := hD
  refine lv_aload_n hx hb dX1_become_51 rfl (lv_at hl 0 rfl) ?_
  refine lv_aload_n hx hb dX1_become_52 rfl (lv_at hl 1 rfl) ?_
  refine va_get (D := D) (ci := 1) (v := .int cl2) (C := RX1) (T := TX1) (N := 6) hx hb hts i1 hown hK hP 4 rfl rfl 4 (by decide) f9 (fun _ h9 => h9) rfl dX1_become_53 ?_
  refine va_put (D := D) (ci := 1) (v := .int cl2) (ty := .int) (C := RX1) (T := TX1) (N := 6) hx hb hts i1 tyX1 tyX1_ok nmX1 hown hK hP hD hS 0 rfl rfl 4 (by decide) f9 (fun _ h9 => h9) rfl (by decide +kernel) rfl rfl (Nat.le_of_ble_eq_true rfl) dX1_become_56 (fun H locs hP hD hS => ?_)
  have hP : va_P D vwCl [(d, .inr (1, [.ref dl, .ref da, .ref ds, .int st2, .int cl2, .int nu])), (dl, .inl (y 0, 6, .inl (fun _ => 0))), (da, .inl (y 0, 5, .inl (fun _ => 0))), (ds, .inl (y 0, 5, .inl (fun _ => 0))), (o, .inr (1, [.ref ol, .ref oa, .ref os, .int st2, .int cl2, .int nu2])), (ol, .inl (y 0, 6, .inl (fun _ => 0))), (oa, .inl (y 0, 5, .inl (fun _ => 0))), (os, .inl (y 0, 5, .inl (fun _ => 0)))] H := hP
  have hD : va_D A [(d, .inr (1, [.ref dl, .ref da, .ref ds, .int st2, .int cl2, .int nu])), (dl, .inl (y 0, 6, .inl (fun _ => 0))), (da, .inl (y 0, 5, .inl (fun _ => 0))), (ds, .inl (y 0, 5, .inl (fun _ => 0))), (o, .inr (1, [.ref ol, .ref oa, .ref os, .int st2, .int cl2, .int nu2])), (ol, .inl (y 0, 6, .inl (fun _ => 0))), (oa, .inl (y 0, 5, .inl (fun _ => 0))), (os, .inl (y 0, 5, .inl (fun _ => 0)))] := hD
  refine lv_aload_n hx hb dX1_become_59 rfl (lv_at hl 0 rfl) ?_
  refine lv_aload_n hx hb dX1_become_60 rfl (lv_at hl 1 rfl) ?_
  refine va_get (D := D) (ci := 1) (v := .int nu2) (C := RX1) (T := TX1) (N := 6) hx hb hts i1 hown hK hP 4 rfl rfl 5 (by decide) f10 (fun _ h9 => h9) rfl dX1_become_61 ?_
  refine va_put (D := D) (ci := 1) (v := .int nu2) (ty := .int) (C := RX1) (T := TX1) (N := 6) hx hb hts i1 tyX1 tyX1_ok nmX1 hown hK hP hD hS 0 rfl rfl 5 (by decide) f10 (fun _ h9 => h9) rfl (by decide +kernel) rfl rfl (Nat.le_of_ble_eq_true rfl) dX1_become_64 (fun H locs hP hD hS => ?_)
  have hP : va_P D vwCl [(d, .inr (1, [.ref dl, .ref da, .ref ds, .int st2, .int cl2, .int nu2])), (dl, .inl (y 0, 6, .inl (fun _ => 0))), (da, .inl (y 0, 5, .inl (fun _ => 0))), (ds, .inl (y 0, 5, .inl (fun _ => 0))), (o, .inr (1, [.ref ol, .ref oa, .ref os, .int st2, .int cl2, .int nu2])), (ol, .inl (y 0, 6, .inl (fun _ => 0))), (oa, .inl (y 0, 5, .inl (fun _ => 0))), (os, .inl (y 0, 5, .inl (fun _ => 0)))] H := hP
  have hD : va_D A [(d, .inr (1, [.ref dl, .ref da, .ref ds, .int st2, .int cl2, .int nu2])), (dl, .inl (y 0, 6, .inl (fun _ => 0))), (da, .inl (y 0, 5, .inl (fun _ => 0))), (ds, .inl (y 0, 5, .inl (fun _ => 0))), (o, .inr (1, [.ref ol, .ref oa, .ref os, .int st2, .int cl2, .int nu2])), (ol, .inl (y 0, 6, .inl (fun _ => 0))), (oa, .inl (y 0, 5, .inl (fun _ => 0))), (os, .inl (y 0, 5, .inl (fun _ => 0)))] := hD
  exact W.vret hx hb hr (fun tZ ht hW => ⟨⟨(), rfl, trivial, by rw [ht]; exact hP.sub [0, 1, 2, 3, 4, 5, 6, 7] rfl, hD.sub [0, 1, 2, 3, 4, 5, 6, 7] (by decide) rfl⟩, hS.F ht⟩) hS.2.2 dX1_become_67

set_option maxHeartbeats 4000000 in
set_option maxRecDepth 100000 in
theorem ct_remember (l : Launch) (D : va_G) (y : Nat → ClassId) (nw : Nat) (kk : Nat) (nk : Nat) (nd : Nat) (ne : Nat) (nm : Nat) (nn : Nat) (nl : Nat) (na : Nat) (ns : Nat) (e0 : Nat) (el : Nat) (ea : Nat) (es : Nat) (fe : Nat → Option Nat) (hfe : fe (0 : Int32).toNatClampNeg = some e0): kw_Mv l yX4_remember wsX4_remember ({ frames := 2, cells := 0, slots := 0, locals := 81 }) D y [.ref nw] [(nw, .inr (4, [.ref kk, .ref nk, .ref nd, .ref ne, .ref nm, .ref nn, .int 0, .int 0, .int 0, .int 0, .int 0])), (nd, .inr (1, [.ref nl, .ref na, .ref ns, .int 0, .int 0, .int 0])), (nl, .inl (y 0, 6, .inl (fun _ => 0))), (na, .inl (y 0, 5, .inl (fun _ => 0))), (ns, .inl (y 0, 5, .inl (fun _ => 0))), (ne, .inl (y 3, 8, .inr (.inr (.inr (.inr fe))))), (e0, .inr (1, [.ref el, .ref ea, .ref es, .int 0, .int 0, .int 0])), (el, .inl (y 0, 6, .inl (fun _ => 0))), (ea, .inl (y 0, 5, .inl (fun _ => 0))), (es, .inl (y 0, 5, .inl (fun _ => 0)))] (fun (u : Unit) => True) (fun _ => [(nw, .inr (4, [.ref kk, .ref nk, .ref nd, .ref ne, .ref nm, .ref nn, .int 0, .int 0, .int 1, .int 0, .int 0])), (nd, .inr (1, [.ref nl, .ref na, .ref ns, .int 0, .int 0, .int 0])), (nl, .inl (y 0, 6, .inl (fun _ => 0))), (na, .inl (y 0, 5, .inl (fun _ => 0))), (ns, .inl (y 0, 5, .inl (fun _ => 0)))]) 0 0 := by
  refine kw_Mv.of (cc := cX4_remember) (maxL := 1) (ret := none) (by decide) rfl ?_
  intro pZ eZ s mZ beZ meZ cZ A hE
  obtain ⟨hx, hb, hr, hml, hts, hown, hlocks, hin, hA, hP, hD, hK, hN⟩ := hE
  have hS : va_S A s.heap s.heap [] := va_S.rf
  have hl := lv_entry ([.ref nw]) (n := 1) (Nat.le_of_ble_eq_true rfl)
  rw [lg_entry_eq]
  generalize (lg_sl ([.ref nw]) ++ List.replicate (1 - (lg_sl ([.ref nw])).length) Slot.unset).toArray = ls at hl ⊢
  have hl : lv_has ls 1 [(0, .ref nw)] := hl
  have f1 := hts (.fieldLink RX4 45 "GleanDusk$Parish" "undoable" "I") (List.mem_of_getElem? (i := 1) rfl)
  have f2 := hts (.fieldLink RX4 22 "GleanDusk$Parish" "earlier" "[LGleanDusk$Dusk;") (List.mem_of_getElem? (i := 2) rfl)
  have f3 := hts (.fieldLink RX4 18 "GleanDusk$Parish" "dusk" "LGleanDusk$Dusk;") (List.mem_of_getElem? (i := 3) rfl)
  have i4 : ∀ w ∈ wsX40, w ∈ wsX4_remember := fun _ h => List.mem_cons_of_mem _ (List.mem_append_left _ (List.mem_append_right _ h))
  refine lv_aload_n hx hb dX4_remember_0 rfl (lv_at hl 0 rfl) ?_
  refine va_get (D := D) (ci := 4) (v := .int 0) (C := RX4) (T := TX4) (N := 11) hx hb hts i4 hown hK hP 0 rfl rfl 8 (by decide) f1 (fun _ h9 => h9) rfl dX4_remember_1 ?_
  refine lv_bipush (v := 8) hx hb dX4_remember_4 (by decide) ?_
  refine lv_icmp_lt (tgt := 13) hx hb dX4_remember_6 (by decide) (fun _ => ?_) (fun h9 => absurd h9 (by decide))
  refine lv_aload_n hx hb dX4_remember_13 rfl (lv_at hl 0 rfl) ?_
  refine va_get (D := D) (ci := 4) (v := .ref ne) (C := RX4) (T := TX4) (N := 11) hx hb hts i4 hown hK hP 0 rfl rfl 3 (by decide) f2 (fun _ h9 => h9) rfl dX4_remember_14 ?_
  refine lv_aload_n hx hb dX4_remember_17 rfl (lv_at hl 0 rfl) ?_
  refine va_get (D := D) (ci := 4) (v := .int 0) (C := RX4) (T := TX4) (N := 11) hx hb hts i4 hown hK hP 0 rfl rfl 8 (by decide) f1 (fun _ h9 => h9) rfl dX4_remember_18 ?_
  refine va_aldq hx hb hK hP 5 3 rfl rfl (by unfold vp_in; decide) dX4_remember_21 ?_
  rw [show va_rf (fe (0 : Int32).toNatClampNeg) = .ref e0 from by first | rfl | simp [va_rf, va_up, *]]
  refine lv_aload_n hx hb dX4_remember_22 rfl (lv_at hl 0 rfl) ?_
  refine va_get (D := D) (ci := 4) (v := .ref nd) (C := RX4) (T := TX4) (N := 11) hx hb hts i4 hown hK hP 0 rfl rfl 2 (by decide) f3 (fun _ h9 => h9) rfl dX4_remember_23 ?_
  have hs1 : kw_Split [(nw, .inr (4, [.ref kk, .ref nk, .ref nd, .ref ne, .ref nm, .ref nn, .int 0, .int 0, .int 0, .int 0, .int 0])), (nd, .inr (1, [.ref nl, .ref na, .ref ns, .int 0, .int 0, .int 0])), (nl, .inl (y 0, 6, .inl (fun _ => 0))), (na, .inl (y 0, 5, .inl (fun _ => 0))), (ns, .inl (y 0, 5, .inl (fun _ => 0))), (ne, .inl (y 3, 8, .inr (.inr (.inr (.inr fe))))), (e0, .inr (1, [.ref el, .ref ea, .ref es, .int 0, .int 0, .int 0])), (el, .inl (y 0, 6, .inl (fun _ => 0))), (ea, .inl (y 0, 5, .inl (fun _ => 0))), (es, .inl (y 0, 5, .inl (fun _ => 0)))] [(e0, .inr (1, [.ref el, .ref ea, .ref es, .int 0, .int 0, .int 0])), (el, .inl (y 0, 6, .inl (fun _ => 0))), (ea, .inl (y 0, 5, .inl (fun _ => 0))), (es, .inl (y 0, 5, .inl (fun _ => 0))), (nd, .inr (1, [.ref nl, .ref na, .ref ns, .int 0, .int 0, .int 0])), (nl, .inl (y 0, 6, .inl (fun _ => 0))), (na, .inl (y 0, 5, .inl (fun _ => 0))), (ns, .inl (y 0, 5, .inl (fun _ => 0)))] [(nw, .inr (4, [.ref kk, .ref nk, .ref nd, .ref ne, .ref nm, .ref nn, .int 0, .int 0, .int 0, .int 0, .int 0])), (ne, .inl (y 3, 8, .inr (.inr (.inr (.inr fe)))))] [6, 7, 8, 9, 1, 2, 3, 4] [0, 5] := ⟨rfl, rfl, rfl, rfl, rfl, by decide⟩
  refine kw_go_v hs1 hP hD hS hA (va_runV (As := [.ref nd]) (rest := []) ⟨hx, hb, hml, hown, hts⟩ (ct_dusk_become l D y e0 el ea es nd nl na ns 0 0 0 0 0 0  _) (cwV 1 hts gX4_remember_X1_become rfl rfl rfl (by decide +kernel) ⟨Nat.le_of_ble_eq_true rfl, Nat.le_of_ble_eq_true rfl⟩) (kw_PreV (ci := 1) (q0 := 6) hs1 hP hD hK hN rfl rfl) rfl rfl hl.1 rfl (lv_room (Nat.le_of_ble_eq_true rfl)) dX4_remember_26 ⟨Nat.le_of_ble_eq_true rfl, Nat.le_of_ble_eq_true rfl⟩) (fun u H locs hq hP hD hS => ?_)
  obtain - := hq
  have hP : va_P D vwCl [(nw, .inr (4, [.ref kk, .ref nk, .ref nd, .ref ne, .ref nm, .ref nn, .int 0, .int 0, .int 0, .int 0, .int 0])), (ne, .inl (y 3, 8, .inr (.inr (.inr (.inr fe))))), (e0, .inr (1, [.ref el, .ref ea, .ref es, .int 0, .int 0, .int 0])), (el, .inl (y 0, 6, .inl (fun _ => 0))), (ea, .inl (y 0, 5, .inl (fun _ => 0))), (es, .inl (y 0, 5, .inl (fun _ => 0))), (nd, .inr (1, [.ref nl, .ref na, .ref ns, .int 0, .int 0, .int 0])), (nl, .inl (y 0, 6, .inl (fun _ => 0))), (na, .inl (y 0, 5, .inl (fun _ => 0))), (ns, .inl (y 0, 5, .inl (fun _ => 0)))] H := hP
  have hD : va_D A [(nw, .inr (4, [.ref kk, .ref nk, .ref nd, .ref ne, .ref nm, .ref nn, .int 0, .int 0, .int 0, .int 0, .int 0])), (ne, .inl (y 3, 8, .inr (.inr (.inr (.inr fe))))), (e0, .inr (1, [.ref el, .ref ea, .ref es, .int 0, .int 0, .int 0])), (el, .inl (y 0, 6, .inl (fun _ => 0))), (ea, .inl (y 0, 5, .inl (fun _ => 0))), (es, .inl (y 0, 5, .inl (fun _ => 0))), (nd, .inr (1, [.ref nl, .ref na, .ref ns, .int 0, .int 0, .int 0])), (nl, .inl (y 0, 6, .inl (fun _ => 0))), (na, .inl (y 0, 5, .inl (fun _ => 0))), (ns, .inl (y 0, 5, .inl (fun _ => 0)))] := hD
  refine lv_aload_n hx hb dX4_remember_29 rfl (lv_at hl 0 rfl) ?_
  refine lv_dup hx hb dX4_remember_30 rfl ?_
  refine va_get (D := D) (ci := 4) (v := .int 0) (C := RX4) (T := TX4) (N := 11) hx hb hts i4 hown hK hP 0 rfl rfl 8 (by decide) f1 (fun _ h9 => h9) rfl dX4_remember_31 ?_
  refine lv_iconst (v := 1) hx hb dX4_remember_34 (by decide) ?_
  refine lv_iadd hx hb dX4_remember_35 ?_
  refine lv_topi (fun z2 hz2 => ?_)
  obtain rfl : z2 = 1 := hz2.trans (by first | rfl | decide | (simp [upd]; done))
  refine va_put (D := D) (ci := 4) (v := .int 1) (ty := .int) (C := RX4) (T := TX4) (N := 11) hx hb hts i4 tyX4 tyX4_ok nmX4 hown hK hP hD hS 0 rfl rfl 8 (by decide) f1 (fun _ h9 => h9) rfl (by decide +kernel) rfl rfl (Nat.le_of_ble_eq_true rfl) dX4_remember_36 (fun H locs hP hD hS => ?_)
  have hP : va_P D vwCl [(nw, .inr (4, [.ref kk, .ref nk, .ref nd, .ref ne, .ref nm, .ref nn, .int 0, .int 0, .int 1, .int 0, .int 0])), (ne, .inl (y 3, 8, .inr (.inr (.inr (.inr fe))))), (e0, .inr (1, [.ref el, .ref ea, .ref es, .int 0, .int 0, .int 0])), (el, .inl (y 0, 6, .inl (fun _ => 0))), (ea, .inl (y 0, 5, .inl (fun _ => 0))), (es, .inl (y 0, 5, .inl (fun _ => 0))), (nd, .inr (1, [.ref nl, .ref na, .ref ns, .int 0, .int 0, .int 0])), (nl, .inl (y 0, 6, .inl (fun _ => 0))), (na, .inl (y 0, 5, .inl (fun _ => 0))), (ns, .inl (y 0, 5, .inl (fun _ => 0)))] H := hP
  have hD : va_D A [(nw, .inr (4, [.ref kk, .ref nk, .ref nd, .ref ne, .ref nm, .ref nn, .int 0, .int 0, .int 1, .int 0, .int 0])), (ne, .inl (y 3, 8, .inr (.inr (.inr (.inr fe))))), (e0, .inr (1, [.ref el, .ref ea, .ref es, .int 0, .int 0, .int 0])), (el, .inl (y 0, 6, .inl (fun _ => 0))), (ea, .inl (y 0, 5, .inl (fun _ => 0))), (es, .inl (y 0, 5, .inl (fun _ => 0))), (nd, .inr (1, [.ref nl, .ref na, .ref ns, .int 0, .int 0, .int 0])), (nl, .inl (y 0, 6, .inl (fun _ => 0))), (na, .inl (y 0, 5, .inl (fun _ => 0))), (ns, .inl (y 0, 5, .inl (fun _ => 0)))] := hD
  exact W.vret hx hb hr (fun tZ ht hW => ⟨⟨(), rfl, trivial, by rw [ht]; exact hP.sub [0, 6, 7, 8, 9] rfl, hD.sub [0, 6, 7, 8, 9] (by decide) rfl⟩, hS.F ht⟩) hS.2.2 dX4_remember_39
end
section
set_option maxHeartbeats 4000000 in
set_option maxRecDepth 100000 in
theorem ct_storesOf (l : Launch) (D : va_G) (y : Nat → ClassId) (nw : Nat) (kk : Nat) (nk : Nat) (nd : Nat) (ne : Nat) (nm : Nat) (nn : Nat) (nl : Nat) (na : Nat) (ns : Nat) (w : Int32) : kw_Mi l yX4_storesOf wsX4_storesOf ({ frames := 1, cells := 0, slots := 0, locals := 40 }) D y [.ref nw, .int w] [(nw, .inr (4, [.ref kk, .ref nk, .ref nd, .ref ne, .ref nm, .ref nn, .int 0, .int 0, .int 0, .int 0, .int 0])), (nd, .inr (1, [.ref nl, .ref na, .ref ns, .int 0, .int 0, .int 0]))] (fun (r : Int32) (u : Unit) => r = 0) (fun _ => [(nw, .inr (4, [.ref kk, .ref nk, .ref nd, .ref ne, .ref nm, .ref nn, .int 0, .int 0, .int 0, .int 0, .int 0])), (nd, .inr (1, [.ref nl, .ref na, .ref ns, .int 0, .int 0, .int 0]))]) 0 0 := by
  refine kw_Mi.of (cc := cX4_storesOf) (maxL := 4) (ret := (some .int)) (by decide) rfl ?_
  intro pZ eZ s mZ beZ meZ cZ A hE
  obtain ⟨hx, hb, hr, hml, hts, hown, hlocks, hin, hA, hP, hD, hK, hN⟩ := hE
  have hS : va_S A s.heap s.heap [] := va_S.rf
  have hl := lv_entry ([.ref nw, .int w]) (n := 4) (Nat.le_of_ble_eq_true rfl)
  rw [lg_entry_eq]
  generalize (lg_sl ([.ref nw, .int w]) ++ List.replicate (4 - (lg_sl ([.ref nw, .int w])).length) Slot.unset).toArray = ls at hl ⊢
  have hl : lv_has ls 4 [(0, .ref nw), (1, .int w)] := hl
  have f1 := hts (.fieldLink RX4 42 "GleanDusk$Parish" "gleaners" "I") (List.mem_of_getElem? (i := 1) rfl)
  have i4 : ∀ w ∈ wsX40, w ∈ wsX4_storesOf := fun _ h => List.mem_cons_of_mem _ (List.mem_append_left _ (List.mem_append_right _ h))
  refine lv_iconst (v := 0) hx hb dX4_storesOf_0 (by decide) ?_
  refine lv_istore_n (lv' := [(2, .int 0), (0, .ref nw), (1, .int w)]) hx hb dX4_storesOf_1 rfl hl (by decide) rfl (fun ls hl => ?_)
  refine lv_iconst (v := 0) hx hb dX4_storesOf_2 (by decide) ?_
  refine lv_istore_n (lv' := [(3, .int 0), (2, .int 0), (0, .ref nw), (1, .int w)]) hx hb dX4_storesOf_3 rfl hl (by decide) rfl (fun ls hl => ?_)
  refine lv_iload_n hx hb dX4_storesOf_4 rfl (lv_at hl 0 rfl) ?_
  refine lv_aload_n hx hb dX4_storesOf_5 rfl (lv_at hl 2 rfl) ?_
  refine va_get (D := D) (ci := 4) (v := .int 0) (C := RX4) (T := TX4) (N := 11) hx hb hts i4 hown hK hP 0 rfl rfl 7 (by decide) f1 (fun _ h9 => h9) rfl dX4_storesOf_6 ?_
  refine lv_icmp_ge (tgt := 39) hx hb dX4_storesOf_9 (by decide) (fun _ => ?_) (fun h9 => absurd h9 (by decide))
  refine lv_iload_n hx hb dX4_storesOf_39 rfl (lv_at hl 1 rfl) ?_
  exact W.iret (v := 0) hx hb hr (fun tZ ht hW => ⟨⟨0, (), rfl, rfl, by rw [ht]; exact hP.sub [0, 1] rfl, hD.sub [0, 1] (by decide) rfl⟩, hS.F ht⟩) hS.2.2 dX4_storesOf_40

set_option maxHeartbeats 4000000 in
set_option maxRecDepth 100000 in
theorem ct_missedFit (l : Launch) (D : va_G) (y : Nat → ClassId) (nw : Nat) (kk : Nat) (nk : Nat) (nd : Nat) (ne : Nat) (nm : Nat) (nn : Nat) (c : Int32) : kw_Mi l yX4_missedFit wsX4_missedFit ({ frames := 1, cells := 0, slots := 0, locals := 40 }) D y [.ref nw, .int c] [(nw, .inr (4, [.ref kk, .ref nk, .ref nd, .ref ne, .ref nm, .ref nn, .int 0, .int 0, .int 0, .int 0, .int 0]))] (fun (r : Int32) (u : Unit) => r = 1) (fun _ => [(nw, .inr (4, [.ref kk, .ref nk, .ref nd, .ref ne, .ref nm, .ref nn, .int 0, .int 0, .int 0, .int 0, .int 0]))]) 0 0 := by
  refine kw_Mi.of (cc := cX4_missedFit) (maxL := 4) (ret := (some .boolean)) (by decide) rfl ?_
  intro pZ eZ s mZ beZ meZ cZ A hE
  obtain ⟨hx, hb, hr, hml, hts, hown, hlocks, hin, hA, hP, hD, hK, hN⟩ := hE
  have hS : va_S A s.heap s.heap [] := va_S.rf
  have hl := lv_entry ([.ref nw, .int c]) (n := 4) (Nat.le_of_ble_eq_true rfl)
  rw [lg_entry_eq]
  generalize (lg_sl ([.ref nw, .int c]) ++ List.replicate (4 - (lg_sl ([.ref nw, .int c])).length) Slot.unset).toArray = ls at hl ⊢
  have hl : lv_has ls 4 [(0, .ref nw), (1, .int c)] := hl
  have f1 := hts (.fieldLink RX4 48 "GleanDusk$Parish" "missedCount" "I") (List.mem_of_getElem? (i := 1) rfl)
  have i4 : ∀ w ∈ wsX40, w ∈ wsX4_missedFit := fun _ h => List.mem_cons_of_mem _ (List.mem_append_right _ h)
  refine lv_iconst (v := 0) hx hb dX4_missedFit_0 (by decide) ?_
  refine lv_istore_n (lv' := [(2, .int 0), (0, .ref nw), (1, .int c)]) hx hb dX4_missedFit_1 rfl hl (by decide) rfl (fun ls hl => ?_)
  refine lv_iload_n hx hb dX4_missedFit_2 rfl (lv_at hl 0 rfl) ?_
  refine lv_aload_n hx hb dX4_missedFit_3 rfl (lv_at hl 1 rfl) ?_
  refine va_get (D := D) (ci := 4) (v := .int 0) (C := RX4) (T := TX4) (N := 11) hx hb hts i4 hown hK hP 0 rfl rfl 9 (by decide) f1 (fun _ h9 => h9) rfl dX4_missedFit_4 ?_
  refine lv_icmp_ge (tgt := 54) hx hb dX4_missedFit_7 (by decide) (fun _ => ?_) (fun h9 => absurd h9 (by decide))
  refine lv_iconst (v := 1) hx hb dX4_missedFit_54 (by decide) ?_
  exact W.zret (v := 1) hx hb hr (by decide) (fun tZ ht hW => ⟨⟨1, (), rfl, rfl, by rw [ht]; exact hP.sub [0] rfl, hD.sub [0] (by decide) rfl⟩, hS.F ht⟩) hS.2.2 dX4_missedFit_55

set_option maxHeartbeats 4000000 in
set_option maxRecDepth 100000 in
theorem ct_fade (l : Launch) (D : va_G) (y : Nat → ClassId) (nw : Nat) (kk : Nat) (nk : Nat) (nd : Nat) (ne : Nat) (nm : Nat) (nn : Nat) (d : Nat) (dl : Nat) (da : Nat) (ds : Nat) (st : Int32) (cl : Int32) (nu : Int32) (un : Int32) : kw_Mv l yX4_fade wsX4_fade ({ frames := 1, cells := 0, slots := 0, locals := 40 }) D y [.ref nw, .ref d] [(nw, .inr (4, [.ref kk, .ref nk, .ref nd, .ref ne, .ref nm, .ref nn, .int 0, .int 0, .int un, .int 0, .int 0])), (d, .inr (1, [.ref dl, .ref da, .ref ds, .int st, .int cl, .int nu]))] (fun (u : Unit) => True) (fun _ => [(nw, .inr (4, [.ref kk, .ref nk, .ref nd, .ref ne, .ref nm, .ref nn, .int 0, .int 0, .int un, .int 0, .int 0])), (d, .inr (1, [.ref dl, .ref da, .ref ds, .int 0, .int cl, .int (if (nu + 1) < 999 then (nu + 1) else 999)]))]) 0 0 := by
  refine kw_Mv.of (cc := cX4_fade) (maxL := 3) (ret := none) (by decide) rfl ?_
  intro pZ eZ s mZ beZ meZ cZ A hE
  obtain ⟨hx, hb, hr, hml, hts, hown, hlocks, hin, hA, hP, hD, hK, hN⟩ := hE
  have hS : va_S A s.heap s.heap [] := va_S.rf
  have hl := lv_entry ([.ref nw, .ref d]) (n := 3) (Nat.le_of_ble_eq_true rfl)
  rw [lg_entry_eq]
  generalize (lg_sl ([.ref nw, .ref d]) ++ List.replicate (3 - (lg_sl ([.ref nw, .ref d])).length) Slot.unset).toArray = ls at hl ⊢
  have hl : lv_has ls 3 [(0, .ref nw), (1, .ref d)] := hl
  have f1 := hts (.fieldLink RX4 42 "GleanDusk$Parish" "gleaners" "I") (List.mem_of_getElem? (i := 1) rfl)
  have f2 := hts (.fieldLink RX4 38 "GleanDusk$Parish" "fields" "I") (List.mem_of_getElem? (i := 3) rfl)
  have f3 := hts (.fieldLink RX4 60 "GleanDusk$Dusk" "number" "I") (List.mem_of_getElem? (i := 9) rfl)
  have f4 := hts (.methodLink RX4 109 Lib.Math.min.name) (List.mem_of_getElem? (i := 5) rfl)
  have f5 := hts (.static Lib.Math.min.name) (List.mem_of_getElem? (i := 6) rfl)
  have f6 := hts (.initialized "java/lang/Math") (List.mem_of_getElem? (i := 7) rfl)
  have f7 := hts (.code Lib.Math.min.name Lib.Math.min.code 2 (some .int)) (List.mem_of_getElem? (i := 8) rfl)
  have f8 := hts (.fieldLink RX4 54 "GleanDusk$Dusk" "step" "I") (List.mem_of_getElem? (i := 10) rfl)
  have i4 : ∀ w ∈ wsX40, w ∈ wsX4_fade := fun _ h => List.mem_cons_of_mem _ (List.mem_append_left _ (List.mem_append_right _ h))
  have i1 : ∀ w ∈ wsX10, w ∈ wsX4_fade := fun _ h => List.mem_cons_of_mem _ (List.mem_append_right _ h)
  refine lv_iconst (v := 0) hx hb dX4_fade_0 (by decide) ?_
  refine lv_istore_n (lv' := [(2, .int 0), (0, .ref nw), (1, .ref d)]) hx hb dX4_fade_1 rfl hl (by decide) rfl (fun ls hl => ?_)
  refine lv_iload_n hx hb dX4_fade_2 rfl (lv_at hl 0 rfl) ?_
  refine lv_aload_n hx hb dX4_fade_3 rfl (lv_at hl 1 rfl) ?_
  refine va_get (D := D) (ci := 4) (v := .int 0) (C := RX4) (T := TX4) (N := 11) hx hb hts i4 hown hK hP 0 rfl rfl 7 (by decide) f1 (fun _ h9 => h9) rfl dX4_fade_4 ?_
  refine lv_icmp_ge (tgt := 31) hx hb dX4_fade_7 (by decide) (fun _ => ?_) (fun h9 => absurd h9 (by decide))
  refine lv_iconst (v := 0) hx hb dX4_fade_31 (by decide) ?_
  refine lv_istore_n (lv' := [(2, .int 0), (0, .ref nw), (1, .ref d)]) hx hb dX4_fade_32 rfl hl (by decide) rfl (fun ls hl => ?_)
  refine lv_iload_n hx hb dX4_fade_33 rfl (lv_at hl 0 rfl) ?_
  refine lv_aload_n hx hb dX4_fade_34 rfl (lv_at hl 1 rfl) ?_
  refine va_get (D := D) (ci := 4) (v := .int 0) (C := RX4) (T := TX4) (N := 11) hx hb hts i4 hown hK hP 0 rfl rfl 6 (by decide) f2 (fun _ h9 => h9) rfl dX4_fade_35 ?_
  refine lv_icmp_ge (tgt := 67) hx hb dX4_fade_38 (by decide) (fun _ => ?_) (fun h9 => absurd h9 (by decide))
  refine lv_aload_n hx hb dX4_fade_67 rfl (lv_at hl 2 rfl) ?_
  refine lv_sipush (v := 999) hx hb dX4_fade_68 (by decide) ?_
  refine lv_aload_n hx hb dX4_fade_71 rfl (lv_at hl 2 rfl) ?_
  refine va_get (D := D) (ci := 1) (v := .int nu) (C := RX1) (T := TX1) (N := 6) hx hb hts i1 hown hK hP 1 rfl rfl 5 (by decide) f3 (fun _ h9 => h9) rfl dX4_fade_72 ?_
  refine lv_iconst (v := 1) hx hb dX4_fade_75 (by decide) ?_
  refine lv_iadd hx hb dX4_fade_76 ?_
  refine va_mmin hx hb (hml.trans hl.1.symm) hown f4 f5 f6 f7 (Nat.le_of_ble_eq_true rfl) (Nat.le_of_ble_eq_true rfl) (Nat.le_of_ble_eq_true rfl) (Nat.le_of_ble_eq_true rfl) dX4_fade_77 ?_
  refine va_put (D := D) (ci := 1) (v := .int (if (nu + 1) < 999 then (nu + 1) else 999)) (ty := .int) (C := RX1) (T := TX1) (N := 6) hx hb hts i1 tyX1 tyX1_ok nmX1 hown hK hP hD hS 1 rfl rfl 5 (by decide) f3 (fun _ h9 => h9) rfl (by decide +kernel) rfl rfl (Nat.le_of_ble_eq_true rfl) dX4_fade_80 (fun H locs hP hD hS => ?_)
  have hP : va_P D vwCl [(nw, .inr (4, [.ref kk, .ref nk, .ref nd, .ref ne, .ref nm, .ref nn, .int 0, .int 0, .int un, .int 0, .int 0])), (d, .inr (1, [.ref dl, .ref da, .ref ds, .int st, .int cl, .int (if (nu + 1) < 999 then (nu + 1) else 999)]))] H := hP
  have hD : va_D A [(nw, .inr (4, [.ref kk, .ref nk, .ref nd, .ref ne, .ref nm, .ref nn, .int 0, .int 0, .int un, .int 0, .int 0])), (d, .inr (1, [.ref dl, .ref da, .ref ds, .int st, .int cl, .int (if (nu + 1) < 999 then (nu + 1) else 999)]))] := hD
  refine lv_aload_n hx hb dX4_fade_83 rfl (lv_at hl 2 rfl) ?_
  refine lv_iconst (v := 0) hx hb dX4_fade_84 (by decide) ?_
  refine va_put (D := D) (ci := 1) (v := .int 0) (ty := .int) (C := RX1) (T := TX1) (N := 6) hx hb hts i1 tyX1 tyX1_ok nmX1 hown hK hP hD hS 1 rfl rfl 3 (by decide) f8 (fun _ h9 => h9) rfl (by decide +kernel) rfl rfl (Nat.le_of_ble_eq_true rfl) dX4_fade_85 (fun H locs hP hD hS => ?_)
  have hP : va_P D vwCl [(nw, .inr (4, [.ref kk, .ref nk, .ref nd, .ref ne, .ref nm, .ref nn, .int 0, .int 0, .int un, .int 0, .int 0])), (d, .inr (1, [.ref dl, .ref da, .ref ds, .int 0, .int cl, .int (if (nu + 1) < 999 then (nu + 1) else 999)]))] H := hP
  have hD : va_D A [(nw, .inr (4, [.ref kk, .ref nk, .ref nd, .ref ne, .ref nm, .ref nn, .int 0, .int 0, .int un, .int 0, .int 0])), (d, .inr (1, [.ref dl, .ref da, .ref ds, .int 0, .int cl, .int (if (nu + 1) < 999 then (nu + 1) else 999)]))] := hD
  exact W.vret hx hb hr (fun tZ ht hW => ⟨⟨(), rfl, trivial, by rw [ht]; exact hP.sub [0, 1] rfl, hD.sub [0, 1] (by decide) rfl⟩, hS.F ht⟩) hS.2.2 dX4_fade_88

set_option maxHeartbeats 4000000 in
set_option maxRecDepth 100000 in
theorem ct_par_become (l : Launch) (D : va_G) (y : Nat → ClassId) (nw : Nat) (kk : Nat) (nk : Nat) (nd : Nat) (ne : Nat) (nm : Nat) (nn : Nat) (nl : Nat) (na : Nat) (ns : Nat) (ii : Nat) (ki : Nat) (di : Nat) (ei : Nat) (mi : Nat) (ni : Nat) (li : Nat) (ai : Nat) (si : Nat) : kw_Mv l yX4_become wsX4_become ({ frames := 2, cells := 0, slots := 0, locals := 81 }) D y [.ref ii, .ref nw] [(ii, .inr (4, [.ref kk, .ref ki, .ref di, .ref ei, .ref mi, .ref ni, .int 0, .int 0, .int 0, .int 0, .int 0])), (ki, .inl (y 0, 6, .inl (fun _ => 0))), (di, .inr (1, [.ref li, .ref ai, .ref si, .int 0, .int 0, .int 0])), (li, .inl (y 0, 6, .inl (fun _ => 0))), (ai, .inl (y 0, 5, .inl (fun _ => 0))), (si, .inl (y 0, 5, .inl (fun _ => 0))), (nw, .inr (4, [.ref kk, .ref nk, .ref nd, .ref ne, .ref nm, .ref nn, .int 0, .int 0, .int 0, .int 0, .int 0])), (nk, .inl (y 0, 6, .inl (fun _ => 0))), (nd, .inr (1, [.ref nl, .ref na, .ref ns, .int 0, .int 0, .int 0])), (nl, .inl (y 0, 6, .inl (fun _ => 0))), (na, .inl (y 0, 5, .inl (fun _ => 0))), (ns, .inl (y 0, 5, .inl (fun _ => 0)))] (fun (u : Unit) => True) (fun _ => []) 0 0 := by
  refine kw_Mv.of (cc := cX4_become) (maxL := 3) (ret := none) (by decide) rfl ?_
  intro pZ eZ s mZ beZ meZ cZ A hE
  obtain ⟨hx, hb, hr, hml, hts, hown, hlocks, hin, hA, hP, hD, hK, hN⟩ := hE
  have hS : va_S A s.heap s.heap [] := va_S.rf
  have hl := lv_entry ([.ref ii, .ref nw]) (n := 3) (Nat.le_of_ble_eq_true rfl)
  rw [lg_entry_eq]
  generalize (lg_sl ([.ref ii, .ref nw]) ++ List.replicate (3 - (lg_sl ([.ref ii, .ref nw])).length) Slot.unset).toArray = ls at hl ⊢
  have hl : lv_has ls 3 [(0, .ref ii), (1, .ref nw)] := hl
  have f1 := hts (.fieldLink RX4 9 "GleanDusk$Parish" "kind" "[I") (List.mem_of_getElem? (i := 1) rfl)
  have f2 := hts (.methodLink RX4 63 arraycopyName) (List.mem_of_getElem? (i := 2) rfl)
  have f3 := hts (.native arraycopyName) (List.mem_of_getElem? (i := 3) rfl)
  have f4 := hts (.static arraycopyName) (List.mem_of_getElem? (i := 4) rfl)
  have f5 := hts (.initialized "java/lang/System") (List.mem_of_getElem? (i := 5) rfl)
  have f6 := hts (.fieldLink RX4 18 "GleanDusk$Parish" "dusk" "LGleanDusk$Dusk;") (List.mem_of_getElem? (i := 6) rfl)
  have f7 := hts (.fieldLink RX4 45 "GleanDusk$Parish" "undoable" "I") (List.mem_of_getElem? (i := 7) rfl)
  have f8 := hts (.fieldLink RX4 48 "GleanDusk$Parish" "missedCount" "I") (List.mem_of_getElem? (i := 9) rfl)
  have f9 := hts (.fieldLink RX4 51 "GleanDusk$Parish" "noteCount" "I") (List.mem_of_getElem? (i := 11) rfl)
  have f10 := hts (.fieldLink RX4 38 "GleanDusk$Parish" "fields" "I") (List.mem_of_getElem? (i := 13) rfl)
  have f11 := hts (.fieldLink RX4 42 "GleanDusk$Parish" "gleaners" "I") (List.mem_of_getElem? (i := 14) rfl)
  have i4 : ∀ w ∈ wsX40, w ∈ wsX4_become := fun _ h => List.mem_cons_of_mem _ (List.mem_append_left _ (List.mem_append_right _ h))
  refine lv_aload_n hx hb dX4_become_0 rfl (lv_at hl 1 rfl) ?_
  refine va_get (D := D) (ci := 4) (v := .ref nk) (C := RX4) (T := TX4) (N := 11) hx hb hts i4 hown hK hP 6 rfl rfl 1 (by decide) f1 (fun _ h9 => h9) rfl dX4_become_1 ?_
  refine lv_iconst (v := 0) hx hb dX4_become_4 (by decide) ?_
  refine lv_aload_n hx hb dX4_become_5 rfl (lv_at hl 0 rfl) ?_
  refine va_get (D := D) (ci := 4) (v := .ref ki) (C := RX4) (T := TX4) (N := 11) hx hb hts i4 hown hK hP 0 rfl rfl 1 (by decide) f1 (fun _ h9 => h9) rfl dX4_become_6 ?_
  refine lv_iconst (v := 0) hx hb dX4_become_9 (by decide) ?_
  refine lv_bipush (v := 6) hx hb dX4_become_10 (by decide) ?_
  refine va_copyi hx hb (hml.trans hl.1.symm) hown f2 f3 f4 f5 hK hP hD hS 7 1 0 0 rfl rfl rfl rfl rfl (by decide) (by decide) (by decide) (by decide) (by decide) (fun _ _ => rfl) (Nat.le_of_ble_eq_true rfl) (Nat.le_of_ble_eq_true rfl) dX4_become_12 (fun H locs hP hD hS => ?_)
  rw [kw_cpy0] at hP hD
  have hP : va_P D vwCl [(ii, .inr (4, [.ref kk, .ref ki, .ref di, .ref ei, .ref mi, .ref ni, .int 0, .int 0, .int 0, .int 0, .int 0])), (ki, .inl (y 0, 6, .inl (fun _ => 0))), (di, .inr (1, [.ref li, .ref ai, .ref si, .int 0, .int 0, .int 0])), (li, .inl (y 0, 6, .inl (fun _ => 0))), (ai, .inl (y 0, 5, .inl (fun _ => 0))), (si, .inl (y 0, 5, .inl (fun _ => 0))), (nw, .inr (4, [.ref kk, .ref nk, .ref nd, .ref ne, .ref nm, .ref nn, .int 0, .int 0, .int 0, .int 0, .int 0])), (nk, .inl (y 0, 6, .inl (fun _ => 0))), (nd, .inr (1, [.ref nl, .ref na, .ref ns, .int 0, .int 0, .int 0])), (nl, .inl (y 0, 6, .inl (fun _ => 0))), (na, .inl (y 0, 5, .inl (fun _ => 0))), (ns, .inl (y 0, 5, .inl (fun _ => 0)))] H := hP
  have hD : va_D A [(ii, .inr (4, [.ref kk, .ref ki, .ref di, .ref ei, .ref mi, .ref ni, .int 0, .int 0, .int 0, .int 0, .int 0])), (ki, .inl (y 0, 6, .inl (fun _ => 0))), (di, .inr (1, [.ref li, .ref ai, .ref si, .int 0, .int 0, .int 0])), (li, .inl (y 0, 6, .inl (fun _ => 0))), (ai, .inl (y 0, 5, .inl (fun _ => 0))), (si, .inl (y 0, 5, .inl (fun _ => 0))), (nw, .inr (4, [.ref kk, .ref nk, .ref nd, .ref ne, .ref nm, .ref nn, .int 0, .int 0, .int 0, .int 0, .int 0])), (nk, .inl (y 0, 6, .inl (fun _ => 0))), (nd, .inr (1, [.ref nl, .ref na, .ref ns, .int 0, .int 0, .int 0])), (nl, .inl (y 0, 6, .inl (fun _ => 0))), (na, .inl (y 0, 5, .inl (fun _ => 0))), (ns, .inl (y 0, 5, .inl (fun _ => 0)))] := hD
  refine lv_aload_n hx hb dX4_become_15 rfl (lv_at hl 0 rfl) ?_
  refine va_get (D := D) (ci := 4) (v := .ref di) (C := RX4) (T := TX4) (N := 11) hx hb hts i4 hown hK hP 0 rfl rfl 2 (by decide) f6 (fun _ h9 => h9) rfl dX4_become_16 ?_
  refine lv_aload_n hx hb dX4_become_19 rfl (lv_at hl 1 rfl) ?_
  refine va_get (D := D) (ci := 4) (v := .ref nd) (C := RX4) (T := TX4) (N := 11) hx hb hts i4 hown hK hP 6 rfl rfl 2 (by decide) f6 (fun _ h9 => h9) rfl dX4_become_20 ?_
  have hs1 : kw_Split [(ii, .inr (4, [.ref kk, .ref ki, .ref di, .ref ei, .ref mi, .ref ni, .int 0, .int 0, .int 0, .int 0, .int 0])), (ki, .inl (y 0, 6, .inl (fun _ => 0))), (di, .inr (1, [.ref li, .ref ai, .ref si, .int 0, .int 0, .int 0])), (li, .inl (y 0, 6, .inl (fun _ => 0))), (ai, .inl (y 0, 5, .inl (fun _ => 0))), (si, .inl (y 0, 5, .inl (fun _ => 0))), (nw, .inr (4, [.ref kk, .ref nk, .ref nd, .ref ne, .ref nm, .ref nn, .int 0, .int 0, .int 0, .int 0, .int 0])), (nk, .inl (y 0, 6, .inl (fun _ => 0))), (nd, .inr (1, [.ref nl, .ref na, .ref ns, .int 0, .int 0, .int 0])), (nl, .inl (y 0, 6, .inl (fun _ => 0))), (na, .inl (y 0, 5, .inl (fun _ => 0))), (ns, .inl (y 0, 5, .inl (fun _ => 0)))] [(di, .inr (1, [.ref li, .ref ai, .ref si, .int 0, .int 0, .int 0])), (li, .inl (y 0, 6, .inl (fun _ => 0))), (ai, .inl (y 0, 5, .inl (fun _ => 0))), (si, .inl (y 0, 5, .inl (fun _ => 0))), (nd, .inr (1, [.ref nl, .ref na, .ref ns, .int 0, .int 0, .int 0])), (nl, .inl (y 0, 6, .inl (fun _ => 0))), (na, .inl (y 0, 5, .inl (fun _ => 0))), (ns, .inl (y 0, 5, .inl (fun _ => 0)))] [(ii, .inr (4, [.ref kk, .ref ki, .ref di, .ref ei, .ref mi, .ref ni, .int 0, .int 0, .int 0, .int 0, .int 0])), (ki, .inl (y 0, 6, .inl (fun _ => 0))), (nw, .inr (4, [.ref kk, .ref nk, .ref nd, .ref ne, .ref nm, .ref nn, .int 0, .int 0, .int 0, .int 0, .int 0])), (nk, .inl (y 0, 6, .inl (fun _ => 0)))] [2, 3, 4, 5, 8, 9, 10, 11] [0, 1, 6, 7] := ⟨rfl, rfl, rfl, rfl, rfl, by decide⟩
  refine kw_go_v hs1 hP hD hS hA (va_runV (As := [.ref nd]) (rest := []) ⟨hx, hb, hml, hown, hts⟩ (ct_dusk_become l D y di li ai si nd nl na ns 0 0 0 0 0 0  _) (cwV 1 hts gX4_become_X1_become rfl rfl rfl (by decide +kernel) ⟨Nat.le_of_ble_eq_true rfl, Nat.le_of_ble_eq_true rfl⟩) (kw_PreV (ci := 1) (q0 := 2) hs1 hP hD hK hN rfl rfl) rfl rfl hl.1 rfl (lv_room (Nat.le_of_ble_eq_true rfl)) dX4_become_23 ⟨Nat.le_of_ble_eq_true rfl, Nat.le_of_ble_eq_true rfl⟩) (fun u H locs hq hP hD hS => ?_)
  obtain - := hq
  have hP : va_P D vwCl [(ii, .inr (4, [.ref kk, .ref ki, .ref di, .ref ei, .ref mi, .ref ni, .int 0, .int 0, .int 0, .int 0, .int 0])), (ki, .inl (y 0, 6, .inl (fun _ => 0))), (nw, .inr (4, [.ref kk, .ref nk, .ref nd, .ref ne, .ref nm, .ref nn, .int 0, .int 0, .int 0, .int 0, .int 0])), (nk, .inl (y 0, 6, .inl (fun _ => 0))), (di, .inr (1, [.ref li, .ref ai, .ref si, .int 0, .int 0, .int 0])), (li, .inl (y 0, 6, .inl (fun _ => 0))), (ai, .inl (y 0, 5, .inl (fun _ => 0))), (si, .inl (y 0, 5, .inl (fun _ => 0))), (nd, .inr (1, [.ref nl, .ref na, .ref ns, .int 0, .int 0, .int 0])), (nl, .inl (y 0, 6, .inl (fun _ => 0))), (na, .inl (y 0, 5, .inl (fun _ => 0))), (ns, .inl (y 0, 5, .inl (fun _ => 0)))] H := hP
  have hD : va_D A [(ii, .inr (4, [.ref kk, .ref ki, .ref di, .ref ei, .ref mi, .ref ni, .int 0, .int 0, .int 0, .int 0, .int 0])), (ki, .inl (y 0, 6, .inl (fun _ => 0))), (nw, .inr (4, [.ref kk, .ref nk, .ref nd, .ref ne, .ref nm, .ref nn, .int 0, .int 0, .int 0, .int 0, .int 0])), (nk, .inl (y 0, 6, .inl (fun _ => 0))), (di, .inr (1, [.ref li, .ref ai, .ref si, .int 0, .int 0, .int 0])), (li, .inl (y 0, 6, .inl (fun _ => 0))), (ai, .inl (y 0, 5, .inl (fun _ => 0))), (si, .inl (y 0, 5, .inl (fun _ => 0))), (nd, .inr (1, [.ref nl, .ref na, .ref ns, .int 0, .int 0, .int 0])), (nl, .inl (y 0, 6, .inl (fun _ => 0))), (na, .inl (y 0, 5, .inl (fun _ => 0))), (ns, .inl (y 0, 5, .inl (fun _ => 0)))] := hD
  refine lv_iconst (v := 0) hx hb dX4_become_26 (by decide) ?_
  refine lv_istore_n (lv' := [(2, .int 0), (0, .ref ii), (1, .ref nw)]) hx hb dX4_become_27 rfl hl (by decide) rfl (fun ls hl => ?_)
  refine lv_iload_n hx hb dX4_become_28 rfl (lv_at hl 0 rfl) ?_
  refine lv_aload_n hx hb dX4_become_29 rfl (lv_at hl 2 rfl) ?_
  refine va_get (D := D) (ci := 4) (v := .int 0) (C := RX4) (T := TX4) (N := 11) hx hb hts i4 hown hK hP 2 rfl rfl 8 (by decide) f7 (fun _ h9 => h9) rfl dX4_become_30 ?_
  refine lv_icmp_ge (tgt := 57) hx hb dX4_become_33 (by decide) (fun _ => ?_) (fun h9 => absurd h9 (by decide))
  refine lv_iconst (v := 0) hx hb dX4_become_57 (by decide) ?_
  refine lv_istore_n (lv' := [(2, .int 0), (0, .ref ii), (1, .ref nw)]) hx hb dX4_become_58 rfl hl (by decide) rfl (fun ls hl => ?_)
  refine lv_iload_n hx hb dX4_become_59 rfl (lv_at hl 0 rfl) ?_
  refine lv_aload_n hx hb dX4_become_60 rfl (lv_at hl 2 rfl) ?_
  refine va_get (D := D) (ci := 4) (v := .int 0) (C := RX4) (T := TX4) (N := 11) hx hb hts i4 hown hK hP 2 rfl rfl 9 (by decide) f8 (fun _ h9 => h9) rfl dX4_become_61 ?_
  refine lv_icmp_ge (tgt := 91) hx hb dX4_become_64 (by decide) (fun _ => ?_) (fun h9 => absurd h9 (by decide))
  refine lv_iconst (v := 0) hx hb dX4_become_91 (by decide) ?_
  refine lv_istore_n (lv' := [(2, .int 0), (0, .ref ii), (1, .ref nw)]) hx hb dX4_become_92 rfl hl (by decide) rfl (fun ls hl => ?_)
  refine lv_iload_n hx hb dX4_become_93 rfl (lv_at hl 0 rfl) ?_
  refine lv_aload_n hx hb dX4_become_94 rfl (lv_at hl 2 rfl) ?_
  refine va_get (D := D) (ci := 4) (v := .int 0) (C := RX4) (T := TX4) (N := 11) hx hb hts i4 hown hK hP 2 rfl rfl 10 (by decide) f9 (fun _ h9 => h9) rfl dX4_become_95 ?_
  refine lv_icmp_ge (tgt := 125) hx hb dX4_become_98 (by decide) (fun _ => ?_) (fun h9 => absurd h9 (by decide))
  refine lv_aload_n hx hb dX4_become_125 rfl (lv_at hl 1 rfl) ?_
  refine lv_aload_n hx hb dX4_become_126 rfl (lv_at hl 2 rfl) ?_
  refine va_get (D := D) (ci := 4) (v := .int 0) (C := RX4) (T := TX4) (N := 11) hx hb hts i4 hown hK hP 2 rfl rfl 6 (by decide) f10 (fun _ h9 => h9) rfl dX4_become_127 ?_
  refine va_put (D := D) (ci := 4) (v := .int 0) (ty := .int) (C := RX4) (T := TX4) (N := 11) hx hb hts i4 tyX4 tyX4_ok nmX4 hown hK hP hD hS 0 rfl rfl 6 (by decide) f10 (fun _ h9 => h9) rfl (by decide +kernel) rfl rfl (Nat.le_of_ble_eq_true rfl) dX4_become_130 (fun H locs hP hD hS => ?_)
  have hP : va_P D vwCl [(ii, .inr (4, [.ref kk, .ref ki, .ref di, .ref ei, .ref mi, .ref ni, .int 0, .int 0, .int 0, .int 0, .int 0])), (ki, .inl (y 0, 6, .inl (fun _ => 0))), (nw, .inr (4, [.ref kk, .ref nk, .ref nd, .ref ne, .ref nm, .ref nn, .int 0, .int 0, .int 0, .int 0, .int 0])), (nk, .inl (y 0, 6, .inl (fun _ => 0))), (di, .inr (1, [.ref li, .ref ai, .ref si, .int 0, .int 0, .int 0])), (li, .inl (y 0, 6, .inl (fun _ => 0))), (ai, .inl (y 0, 5, .inl (fun _ => 0))), (si, .inl (y 0, 5, .inl (fun _ => 0))), (nd, .inr (1, [.ref nl, .ref na, .ref ns, .int 0, .int 0, .int 0])), (nl, .inl (y 0, 6, .inl (fun _ => 0))), (na, .inl (y 0, 5, .inl (fun _ => 0))), (ns, .inl (y 0, 5, .inl (fun _ => 0)))] H := hP
  have hD : va_D A [(ii, .inr (4, [.ref kk, .ref ki, .ref di, .ref ei, .ref mi, .ref ni, .int 0, .int 0, .int 0, .int 0, .int 0])), (ki, .inl (y 0, 6, .inl (fun _ => 0))), (nw, .inr (4, [.ref kk, .ref nk, .ref nd, .ref ne, .ref nm, .ref nn, .int 0, .int 0, .int 0, .int 0, .int 0])), (nk, .inl (y 0, 6, .inl (fun _ => 0))), (di, .inr (1, [.ref li, .ref ai, .ref si, .int 0, .int 0, .int 0])), (li, .inl (y 0, 6, .inl (fun _ => 0))), (ai, .inl (y 0, 5, .inl (fun _ => 0))), (si, .inl (y 0, 5, .inl (fun _ => 0))), (nd, .inr (1, [.ref nl, .ref na, .ref ns, .int 0, .int 0, .int 0])), (nl, .inl (y 0, 6, .inl (fun _ => 0))), (na, .inl (y 0, 5, .inl (fun _ => 0))), (ns, .inl (y 0, 5, .inl (fun _ => 0)))] := hD
  refine lv_aload_n hx hb dX4_become_133 rfl (lv_at hl 1 rfl) ?_
  refine lv_aload_n hx hb dX4_become_134 rfl (lv_at hl 2 rfl) ?_
  refine va_get (D := D) (ci := 4) (v := .int 0) (C := RX4) (T := TX4) (N := 11) hx hb hts i4 hown hK hP 2 rfl rfl 7 (by decide) f11 (fun _ h9 => h9) rfl dX4_become_135 ?_
  refine va_put (D := D) (ci := 4) (v := .int 0) (ty := .int) (C := RX4) (T := TX4) (N := 11) hx hb hts i4 tyX4 tyX4_ok nmX4 hown hK hP hD hS 0 rfl rfl 7 (by decide) f11 (fun _ h9 => h9) rfl (by decide +kernel) rfl rfl (Nat.le_of_ble_eq_true rfl) dX4_become_138 (fun H locs hP hD hS => ?_)
  have hP : va_P D vwCl [(ii, .inr (4, [.ref kk, .ref ki, .ref di, .ref ei, .ref mi, .ref ni, .int 0, .int 0, .int 0, .int 0, .int 0])), (ki, .inl (y 0, 6, .inl (fun _ => 0))), (nw, .inr (4, [.ref kk, .ref nk, .ref nd, .ref ne, .ref nm, .ref nn, .int 0, .int 0, .int 0, .int 0, .int 0])), (nk, .inl (y 0, 6, .inl (fun _ => 0))), (di, .inr (1, [.ref li, .ref ai, .ref si, .int 0, .int 0, .int 0])), (li, .inl (y 0, 6, .inl (fun _ => 0))), (ai, .inl (y 0, 5, .inl (fun _ => 0))), (si, .inl (y 0, 5, .inl (fun _ => 0))), (nd, .inr (1, [.ref nl, .ref na, .ref ns, .int 0, .int 0, .int 0])), (nl, .inl (y 0, 6, .inl (fun _ => 0))), (na, .inl (y 0, 5, .inl (fun _ => 0))), (ns, .inl (y 0, 5, .inl (fun _ => 0)))] H := hP
  have hD : va_D A [(ii, .inr (4, [.ref kk, .ref ki, .ref di, .ref ei, .ref mi, .ref ni, .int 0, .int 0, .int 0, .int 0, .int 0])), (ki, .inl (y 0, 6, .inl (fun _ => 0))), (nw, .inr (4, [.ref kk, .ref nk, .ref nd, .ref ne, .ref nm, .ref nn, .int 0, .int 0, .int 0, .int 0, .int 0])), (nk, .inl (y 0, 6, .inl (fun _ => 0))), (di, .inr (1, [.ref li, .ref ai, .ref si, .int 0, .int 0, .int 0])), (li, .inl (y 0, 6, .inl (fun _ => 0))), (ai, .inl (y 0, 5, .inl (fun _ => 0))), (si, .inl (y 0, 5, .inl (fun _ => 0))), (nd, .inr (1, [.ref nl, .ref na, .ref ns, .int 0, .int 0, .int 0])), (nl, .inl (y 0, 6, .inl (fun _ => 0))), (na, .inl (y 0, 5, .inl (fun _ => 0))), (ns, .inl (y 0, 5, .inl (fun _ => 0)))] := hD
  refine lv_aload_n hx hb dX4_become_141 rfl (lv_at hl 1 rfl) ?_
  refine lv_aload_n hx hb dX4_become_142 rfl (lv_at hl 2 rfl) ?_
  refine va_get (D := D) (ci := 4) (v := .int 0) (C := RX4) (T := TX4) (N := 11) hx hb hts i4 hown hK hP 2 rfl rfl 8 (by decide) f7 (fun _ h9 => h9) rfl dX4_become_143 ?_
  refine va_put (D := D) (ci := 4) (v := .int 0) (ty := .int) (C := RX4) (T := TX4) (N := 11) hx hb hts i4 tyX4 tyX4_ok nmX4 hown hK hP hD hS 0 rfl rfl 8 (by decide) f7 (fun _ h9 => h9) rfl (by decide +kernel) rfl rfl (Nat.le_of_ble_eq_true rfl) dX4_become_146 (fun H locs hP hD hS => ?_)
  have hP : va_P D vwCl [(ii, .inr (4, [.ref kk, .ref ki, .ref di, .ref ei, .ref mi, .ref ni, .int 0, .int 0, .int 0, .int 0, .int 0])), (ki, .inl (y 0, 6, .inl (fun _ => 0))), (nw, .inr (4, [.ref kk, .ref nk, .ref nd, .ref ne, .ref nm, .ref nn, .int 0, .int 0, .int 0, .int 0, .int 0])), (nk, .inl (y 0, 6, .inl (fun _ => 0))), (di, .inr (1, [.ref li, .ref ai, .ref si, .int 0, .int 0, .int 0])), (li, .inl (y 0, 6, .inl (fun _ => 0))), (ai, .inl (y 0, 5, .inl (fun _ => 0))), (si, .inl (y 0, 5, .inl (fun _ => 0))), (nd, .inr (1, [.ref nl, .ref na, .ref ns, .int 0, .int 0, .int 0])), (nl, .inl (y 0, 6, .inl (fun _ => 0))), (na, .inl (y 0, 5, .inl (fun _ => 0))), (ns, .inl (y 0, 5, .inl (fun _ => 0)))] H := hP
  have hD : va_D A [(ii, .inr (4, [.ref kk, .ref ki, .ref di, .ref ei, .ref mi, .ref ni, .int 0, .int 0, .int 0, .int 0, .int 0])), (ki, .inl (y 0, 6, .inl (fun _ => 0))), (nw, .inr (4, [.ref kk, .ref nk, .ref nd, .ref ne, .ref nm, .ref nn, .int 0, .int 0, .int 0, .int 0, .int 0])), (nk, .inl (y 0, 6, .inl (fun _ => 0))), (di, .inr (1, [.ref li, .ref ai, .ref si, .int 0, .int 0, .int 0])), (li, .inl (y 0, 6, .inl (fun _ => 0))), (ai, .inl (y 0, 5, .inl (fun _ => 0))), (si, .inl (y 0, 5, .inl (fun _ => 0))), (nd, .inr (1, [.ref nl, .ref na, .ref ns, .int 0, .int 0, .int 0])), (nl, .inl (y 0, 6, .inl (fun _ => 0))), (na, .inl (y 0, 5, .inl (fun _ => 0))), (ns, .inl (y 0, 5, .inl (fun _ => 0)))] := hD
  refine lv_aload_n hx hb dX4_become_149 rfl (lv_at hl 1 rfl) ?_
  refine lv_aload_n hx hb dX4_become_150 rfl (lv_at hl 2 rfl) ?_
  refine va_get (D := D) (ci := 4) (v := .int 0) (C := RX4) (T := TX4) (N := 11) hx hb hts i4 hown hK hP 2 rfl rfl 9 (by decide) f8 (fun _ h9 => h9) rfl dX4_become_151 ?_
  refine va_put (D := D) (ci := 4) (v := .int 0) (ty := .int) (C := RX4) (T := TX4) (N := 11) hx hb hts i4 tyX4 tyX4_ok nmX4 hown hK hP hD hS 0 rfl rfl 9 (by decide) f8 (fun _ h9 => h9) rfl (by decide +kernel) rfl rfl (Nat.le_of_ble_eq_true rfl) dX4_become_154 (fun H locs hP hD hS => ?_)
  have hP : va_P D vwCl [(ii, .inr (4, [.ref kk, .ref ki, .ref di, .ref ei, .ref mi, .ref ni, .int 0, .int 0, .int 0, .int 0, .int 0])), (ki, .inl (y 0, 6, .inl (fun _ => 0))), (nw, .inr (4, [.ref kk, .ref nk, .ref nd, .ref ne, .ref nm, .ref nn, .int 0, .int 0, .int 0, .int 0, .int 0])), (nk, .inl (y 0, 6, .inl (fun _ => 0))), (di, .inr (1, [.ref li, .ref ai, .ref si, .int 0, .int 0, .int 0])), (li, .inl (y 0, 6, .inl (fun _ => 0))), (ai, .inl (y 0, 5, .inl (fun _ => 0))), (si, .inl (y 0, 5, .inl (fun _ => 0))), (nd, .inr (1, [.ref nl, .ref na, .ref ns, .int 0, .int 0, .int 0])), (nl, .inl (y 0, 6, .inl (fun _ => 0))), (na, .inl (y 0, 5, .inl (fun _ => 0))), (ns, .inl (y 0, 5, .inl (fun _ => 0)))] H := hP
  have hD : va_D A [(ii, .inr (4, [.ref kk, .ref ki, .ref di, .ref ei, .ref mi, .ref ni, .int 0, .int 0, .int 0, .int 0, .int 0])), (ki, .inl (y 0, 6, .inl (fun _ => 0))), (nw, .inr (4, [.ref kk, .ref nk, .ref nd, .ref ne, .ref nm, .ref nn, .int 0, .int 0, .int 0, .int 0, .int 0])), (nk, .inl (y 0, 6, .inl (fun _ => 0))), (di, .inr (1, [.ref li, .ref ai, .ref si, .int 0, .int 0, .int 0])), (li, .inl (y 0, 6, .inl (fun _ => 0))), (ai, .inl (y 0, 5, .inl (fun _ => 0))), (si, .inl (y 0, 5, .inl (fun _ => 0))), (nd, .inr (1, [.ref nl, .ref na, .ref ns, .int 0, .int 0, .int 0])), (nl, .inl (y 0, 6, .inl (fun _ => 0))), (na, .inl (y 0, 5, .inl (fun _ => 0))), (ns, .inl (y 0, 5, .inl (fun _ => 0)))] := hD
  refine lv_aload_n hx hb dX4_become_157 rfl (lv_at hl 1 rfl) ?_
  refine lv_aload_n hx hb dX4_become_158 rfl (lv_at hl 2 rfl) ?_
  refine va_get (D := D) (ci := 4) (v := .int 0) (C := RX4) (T := TX4) (N := 11) hx hb hts i4 hown hK hP 2 rfl rfl 10 (by decide) f9 (fun _ h9 => h9) rfl dX4_become_159 ?_
  refine va_put (D := D) (ci := 4) (v := .int 0) (ty := .int) (C := RX4) (T := TX4) (N := 11) hx hb hts i4 tyX4 tyX4_ok nmX4 hown hK hP hD hS 0 rfl rfl 10 (by decide) f9 (fun _ h9 => h9) rfl (by decide +kernel) rfl rfl (Nat.le_of_ble_eq_true rfl) dX4_become_162 (fun H locs hP hD hS => ?_)
  have hP : va_P D vwCl [(ii, .inr (4, [.ref kk, .ref ki, .ref di, .ref ei, .ref mi, .ref ni, .int 0, .int 0, .int 0, .int 0, .int 0])), (ki, .inl (y 0, 6, .inl (fun _ => 0))), (nw, .inr (4, [.ref kk, .ref nk, .ref nd, .ref ne, .ref nm, .ref nn, .int 0, .int 0, .int 0, .int 0, .int 0])), (nk, .inl (y 0, 6, .inl (fun _ => 0))), (di, .inr (1, [.ref li, .ref ai, .ref si, .int 0, .int 0, .int 0])), (li, .inl (y 0, 6, .inl (fun _ => 0))), (ai, .inl (y 0, 5, .inl (fun _ => 0))), (si, .inl (y 0, 5, .inl (fun _ => 0))), (nd, .inr (1, [.ref nl, .ref na, .ref ns, .int 0, .int 0, .int 0])), (nl, .inl (y 0, 6, .inl (fun _ => 0))), (na, .inl (y 0, 5, .inl (fun _ => 0))), (ns, .inl (y 0, 5, .inl (fun _ => 0)))] H := hP
  have hD : va_D A [(ii, .inr (4, [.ref kk, .ref ki, .ref di, .ref ei, .ref mi, .ref ni, .int 0, .int 0, .int 0, .int 0, .int 0])), (ki, .inl (y 0, 6, .inl (fun _ => 0))), (nw, .inr (4, [.ref kk, .ref nk, .ref nd, .ref ne, .ref nm, .ref nn, .int 0, .int 0, .int 0, .int 0, .int 0])), (nk, .inl (y 0, 6, .inl (fun _ => 0))), (di, .inr (1, [.ref li, .ref ai, .ref si, .int 0, .int 0, .int 0])), (li, .inl (y 0, 6, .inl (fun _ => 0))), (ai, .inl (y 0, 5, .inl (fun _ => 0))), (si, .inl (y 0, 5, .inl (fun _ => 0))), (nd, .inr (1, [.ref nl, .ref na, .ref ns, .int 0, .int 0, .int 0])), (nl, .inl (y 0, 6, .inl (fun _ => 0))), (na, .inl (y 0, 5, .inl (fun _ => 0))), (ns, .inl (y 0, 5, .inl (fun _ => 0)))] := hD
  exact W.vret hx hb hr (fun tZ ht hW => ⟨⟨(), rfl, trivial, by rw [ht]; exact hP.sub [] rfl, hD.sub [] (by decide) rfl⟩, hS.F ht⟩) hS.2.2 dX4_become_165

set_option maxHeartbeats 4000000 in
set_option maxRecDepth 100000 in
theorem ct_append (l : Launch) (D : va_G) (y : Nat → ClassId) (tx : Nat) (by : Nat) (wo : Nat) (fs : Nat) (sc : Nat) (c : Int32) : kw_Mi l yX7_append wsX7_append ({ frames := 1, cells := 0, slots := 0, locals := 40 }) D y [.ref tx, .int c] [(tx, .inr (7, [.ref by, .int 0, .int 0, .int 0, .int 0, .int 0, .ref wo, .ref fs, .ref sc, .int 0, .int 0, .int 0])), (by, .inl (y 1, 150, .inl (fun _ => 0)))] (fun (r : Int32) (u : Unit) => r = 1) (fun _ => []) 0 0 := by
  refine kw_Mi.of (cc := cX7_append) (maxL := 2) (ret := (some .int)) (by decide) rfl ?_
  intro pZ eZ s mZ beZ meZ cZ A hE
  obtain ⟨hx, hb, hr, hml, hts, hown, hlocks, hin, hA, hP, hD, hK, hN⟩ := hE
  have hS : va_S A s.heap s.heap [] := va_S.rf
  have hl := lv_entry ([.ref tx, .int c]) (n := 2) (Nat.le_of_ble_eq_true rfl)
  rw [lg_entry_eq]
  generalize (lg_sl ([.ref tx, .int c]) ++ List.replicate (2 - (lg_sl ([.ref tx, .int c])).length) Slot.unset).toArray = ls at hl ⊢
  have hl : lv_has ls 2 [(0, .ref tx), (1, .int c)] := hl
  have f1 := hts (.fieldLink RX7 9 "GleanDusk$Text" "bytes" "[B") (List.mem_of_getElem? (i := 1) rfl)
  have f2 := hts (.fieldLink RX7 25 "GleanDusk$Text" "length" "I") (List.mem_of_getElem? (i := 2) rfl)
  have i7 : ∀ w ∈ wsX70, w ∈ wsX7_append := fun _ h => List.mem_cons_of_mem _ (List.mem_append_right _ h)
  refine lv_aload_n hx hb dX7_append_0 rfl (lv_at hl 0 rfl) ?_
  refine va_get (D := D) (ci := 7) (v := .ref by) (C := RX7) (T := TX7) (N := 12) hx hb hts i7 hown hK hP 0 rfl rfl 0 (by decide) f1 (fun _ h9 => h9) rfl dX7_append_1 ?_
  refine lv_aload_n hx hb dX7_append_4 rfl (lv_at hl 0 rfl) ?_
  refine va_get (D := D) (ci := 7) (v := .int 0) (C := RX7) (T := TX7) (N := 12) hx hb hts i7 hown hK hP 0 rfl rfl 1 (by decide) f2 (fun _ h9 => h9) rfl dX7_append_5 ?_
  refine lv_iload_n hx hb dX7_append_8 rfl (lv_at hl 1 rfl) ?_
  refine lv_i2b (v := c.toInt8.toInt32) hx hb dX7_append_9 (rfl) ?_
  refine va_bast hx hb hK hP hD hS 1 1 rfl rfl (by unfold vp_in; decide) dX7_append_10 (fun H locs hP hD hS => ?_)
  have hP : va_P D vwCl [(tx, .inr (7, [.ref by, .int 0, .int 0, .int 0, .int 0, .int 0, .ref wo, .ref fs, .ref sc, .int 0, .int 0, .int 0])), (by, .inl (y 1, 150, .inl (upd (fun _ => 0) (0 : Int32).toNatClampNeg (vp_nar .byte c.toInt8.toInt32))))] H := hP
  have hD : va_D A [(tx, .inr (7, [.ref by, .int 0, .int 0, .int 0, .int 0, .int 0, .ref wo, .ref fs, .ref sc, .int 0, .int 0, .int 0])), (by, .inl (y 1, 150, .inl (upd (fun _ => 0) (0 : Int32).toNatClampNeg (vp_nar .byte c.toInt8.toInt32))))] := hD
  refine lv_aload_n hx hb dX7_append_11 rfl (lv_at hl 0 rfl) ?_
  refine lv_dup hx hb dX7_append_12 rfl ?_
  refine va_get (D := D) (ci := 7) (v := .int 0) (C := RX7) (T := TX7) (N := 12) hx hb hts i7 hown hK hP 0 rfl rfl 1 (by decide) f2 (fun _ h9 => h9) rfl dX7_append_13 ?_
  refine lv_iconst (v := 1) hx hb dX7_append_16 (by decide) ?_
  refine lv_iadd hx hb dX7_append_17 ?_
  refine lv_topi (fun z1 hz1 => ?_)
  obtain rfl : z1 = 1 := hz1.trans (by first | rfl | decide | (simp [upd]; done))
  refine lv_dup_x1 hx hb dX7_append_18 rfl rfl ?_
  refine va_put (D := D) (ci := 7) (v := .int 1) (ty := .int) (C := RX7) (T := TX7) (N := 12) hx hb hts i7 tyX7 tyX7_ok nmX7 hown hK hP hD hS 0 rfl rfl 1 (by decide) f2 (fun _ h9 => h9) rfl (by decide +kernel) rfl rfl (Nat.le_of_ble_eq_true rfl) dX7_append_19 (fun H locs hP hD hS => ?_)
  have hP : va_P D vwCl [(tx, .inr (7, [.ref by, .int 1, .int 0, .int 0, .int 0, .int 0, .ref wo, .ref fs, .ref sc, .int 0, .int 0, .int 0])), (by, .inl (y 1, 150, .inl (upd (fun _ => 0) (0 : Int32).toNatClampNeg (vp_nar .byte c.toInt8.toInt32))))] H := hP
  have hD : va_D A [(tx, .inr (7, [.ref by, .int 1, .int 0, .int 0, .int 0, .int 0, .ref wo, .ref fs, .ref sc, .int 0, .int 0, .int 0])), (by, .inl (y 1, 150, .inl (upd (fun _ => 0) (0 : Int32).toNatClampNeg (vp_nar .byte c.toInt8.toInt32))))] := hD
  exact W.iret (v := 1) hx hb hr (fun tZ ht hW => ⟨⟨1, (), rfl, rfl, by rw [ht]; exact hP.sub [] rfl, hD.sub [] (by decide) rfl⟩, hS.F ht⟩) hS.2.2 dX7_append_22

set_option maxHeartbeats 4000000 in
set_option maxRecDepth 100000 in
theorem ct_advance (l : Launch) (D : va_G) (y : Nat → ClassId) (tx : Nat) (by : Nat) (wo : Nat) (fs : Nat) (sc : Nat) (to : Int32) (sta : Int32) (nu : Int32) (fi : Int32) (gl : Int32) (ste : Int32) : kw_Mv l yX7_advance wsX7_advance ({ frames := 1, cells := 0, slots := 0, locals := 40 }) D y [.ref tx] [(tx, .inr (7, [.ref by, .int 0, .int to, .int sta, .int 0, .int nu, .ref wo, .ref fs, .ref sc, .int fi, .int gl, .int ste]))] (fun (u : Unit) => True) (fun _ => [(tx, .inr (7, [.ref by, .int 0, .int 0, .int 0, .int 0, .int nu, .ref wo, .ref fs, .ref sc, .int fi, .int gl, .int ste]))]) 0 0 := by
  refine kw_Mv.of (cc := cX7_advance) (maxL := 1) (ret := none) (by decide) rfl ?_
  intro pZ eZ s mZ beZ meZ cZ A hE
  obtain ⟨hx, hb, hr, hml, hts, hown, hlocks, hin, hA, hP, hD, hK, hN⟩ := hE
  have hS : va_S A s.heap s.heap [] := va_S.rf
  have hl := lv_entry ([.ref tx]) (n := 1) (Nat.le_of_ble_eq_true rfl)
  rw [lg_entry_eq]
  generalize (lg_sl ([.ref tx]) ++ List.replicate (1 - (lg_sl ([.ref tx])).length) Slot.unset).toArray = ls at hl ⊢
  have hl : lv_has ls 1 [(0, .ref tx)] := hl
  have f1 := hts (.fieldLink RX7 29 "GleanDusk$Text" "end" "I") (List.mem_of_getElem? (i := 1) rfl)
  have f2 := hts (.fieldLink RX7 51 "GleanDusk$Text" "start" "I") (List.mem_of_getElem? (i := 2) rfl)
  have f3 := hts (.fieldLink RX7 25 "GleanDusk$Text" "length" "I") (List.mem_of_getElem? (i := 3) rfl)
  have f4 := hts (.fieldLink RX7 44 "GleanDusk$Text" "token" "I") (List.mem_of_getElem? (i := 5) rfl)
  have i7 : ∀ w ∈ wsX70, w ∈ wsX7_advance := fun _ h => List.mem_cons_of_mem _ (List.mem_append_right _ h)
  refine lv_aload_n hx hb dX7_advance_0 rfl (lv_at hl 0 rfl) ?_
  refine lv_aload_n hx hb dX7_advance_1 rfl (lv_at hl 0 rfl) ?_
  refine va_get (D := D) (ci := 7) (v := .int 0) (C := RX7) (T := TX7) (N := 12) hx hb hts i7 hown hK hP 0 rfl rfl 4 (by decide) f1 (fun _ h9 => h9) rfl dX7_advance_2 ?_
  refine va_put (D := D) (ci := 7) (v := .int 0) (ty := .int) (C := RX7) (T := TX7) (N := 12) hx hb hts i7 tyX7 tyX7_ok nmX7 hown hK hP hD hS 0 rfl rfl 3 (by decide) f2 (fun _ h9 => h9) rfl (by decide +kernel) rfl rfl (Nat.le_of_ble_eq_true rfl) dX7_advance_5 (fun H locs hP hD hS => ?_)
  have hP : va_P D vwCl [(tx, .inr (7, [.ref by, .int 0, .int to, .int 0, .int 0, .int nu, .ref wo, .ref fs, .ref sc, .int fi, .int gl, .int ste]))] H := hP
  have hD : va_D A [(tx, .inr (7, [.ref by, .int 0, .int to, .int 0, .int 0, .int nu, .ref wo, .ref fs, .ref sc, .int fi, .int gl, .int ste]))] := hD
  refine lv_aload_n hx hb dX7_advance_8 rfl (lv_at hl 0 rfl) ?_
  refine va_get (D := D) (ci := 7) (v := .int 0) (C := RX7) (T := TX7) (N := 12) hx hb hts i7 hown hK hP 0 rfl rfl 3 (by decide) f2 (fun _ h9 => h9) rfl dX7_advance_9 ?_
  refine lv_aload_n hx hb dX7_advance_12 rfl (lv_at hl 0 rfl) ?_
  refine va_get (D := D) (ci := 7) (v := .int 0) (C := RX7) (T := TX7) (N := 12) hx hb hts i7 hown hK hP 0 rfl rfl 1 (by decide) f3 (fun _ h9 => h9) rfl dX7_advance_13 ?_
  refine lv_icmp_ge (tgt := 46) hx hb dX7_advance_16 (by decide) (fun _ => ?_) (fun h9 => absurd h9 (by decide))
  refine lv_aload_n hx hb dX7_advance_46 rfl (lv_at hl 0 rfl) ?_
  refine lv_aload_n hx hb dX7_advance_47 rfl (lv_at hl 0 rfl) ?_
  refine va_get (D := D) (ci := 7) (v := .int 0) (C := RX7) (T := TX7) (N := 12) hx hb hts i7 hown hK hP 0 rfl rfl 3 (by decide) f2 (fun _ h9 => h9) rfl dX7_advance_48 ?_
  refine va_put (D := D) (ci := 7) (v := .int 0) (ty := .int) (C := RX7) (T := TX7) (N := 12) hx hb hts i7 tyX7 tyX7_ok nmX7 hown hK hP hD hS 0 rfl rfl 4 (by decide) f1 (fun _ h9 => h9) rfl (by decide +kernel) rfl rfl (Nat.le_of_ble_eq_true rfl) dX7_advance_51 (fun H locs hP hD hS => ?_)
  have hP : va_P D vwCl [(tx, .inr (7, [.ref by, .int 0, .int to, .int 0, .int 0, .int nu, .ref wo, .ref fs, .ref sc, .int fi, .int gl, .int ste]))] H := hP
  have hD : va_D A [(tx, .inr (7, [.ref by, .int 0, .int to, .int 0, .int 0, .int nu, .ref wo, .ref fs, .ref sc, .int fi, .int gl, .int ste]))] := hD
  refine lv_aload_n hx hb dX7_advance_54 rfl (lv_at hl 0 rfl) ?_
  refine va_get (D := D) (ci := 7) (v := .int 0) (C := RX7) (T := TX7) (N := 12) hx hb hts i7 hown hK hP 0 rfl rfl 3 (by decide) f2 (fun _ h9 => h9) rfl dX7_advance_55 ?_
  refine lv_aload_n hx hb dX7_advance_58 rfl (lv_at hl 0 rfl) ?_
  refine va_get (D := D) (ci := 7) (v := .int 0) (C := RX7) (T := TX7) (N := 12) hx hb hts i7 hown hK hP 0 rfl rfl 1 (by decide) f3 (fun _ h9 => h9) rfl dX7_advance_59 ?_
  refine lv_icmp_lt (tgt := 73) hx hb dX7_advance_62 (by decide) (fun h9 => absurd h9 (by decide)) (fun _ => ?_)
  refine lv_aload_n hx hb dX7_advance_65 rfl (lv_at hl 0 rfl) ?_
  refine lv_iconst (v := 0) hx hb dX7_advance_66 (by decide) ?_
  refine va_put (D := D) (ci := 7) (v := .int 0) (ty := .int) (C := RX7) (T := TX7) (N := 12) hx hb hts i7 tyX7 tyX7_ok nmX7 hown hK hP hD hS 0 rfl rfl 2 (by decide) f4 (fun _ h9 => h9) rfl (by decide +kernel) rfl rfl (Nat.le_of_ble_eq_true rfl) dX7_advance_67 (fun H locs hP hD hS => ?_)
  have hP : va_P D vwCl [(tx, .inr (7, [.ref by, .int 0, .int 0, .int 0, .int 0, .int nu, .ref wo, .ref fs, .ref sc, .int fi, .int gl, .int ste]))] H := hP
  have hD : va_D A [(tx, .inr (7, [.ref by, .int 0, .int 0, .int 0, .int 0, .int nu, .ref wo, .ref fs, .ref sc, .int fi, .int gl, .int ste]))] := hD
  refine lv_goto (tgt := 121) hx hb dX7_advance_70 (by decide) ?_
  exact W.vret hx hb hr (fun tZ ht hW => ⟨⟨(), rfl, trivial, by rw [ht]; exact hP.sub [0] rfl, hD.sub [0] (by decide) rfl⟩, hS.F ht⟩) hS.2.2 dX7_advance_121

set_option maxHeartbeats 4000000 in
set_option maxRecDepth 100000 in
theorem ct_wordHere (l : Launch) (D : va_G) (y : Nat → ClassId) (tx : Nat) (by : Nat) (wo : Nat) (fs : Nat) (sc : Nat) (sta : Int32) (nu : Int32) (fi : Int32) (gl : Int32) (ste : Int32) : kw_Mi l yX7_wordHere wsX7_wordHere ({ frames := 1, cells := 0, slots := 0, locals := 40 }) D y [.ref tx] [(tx, .inr (7, [.ref by, .int 0, .int 0, .int sta, .int 0, .int nu, .ref wo, .ref fs, .ref sc, .int fi, .int gl, .int ste]))] (fun (r : Int32) (u : Unit) => r = (-1)) (fun _ => [(tx, .inr (7, [.ref by, .int 0, .int 0, .int sta, .int 0, .int nu, .ref wo, .ref fs, .ref sc, .int fi, .int gl, .int ste]))]) 0 0 := by
  refine kw_Mi.of (cc := cX7_wordHere) (maxL := 1) (ret := (some .int)) (by decide) rfl ?_
  intro pZ eZ s mZ beZ meZ cZ A hE
  obtain ⟨hx, hb, hr, hml, hts, hown, hlocks, hin, hA, hP, hD, hK, hN⟩ := hE
  have hS : va_S A s.heap s.heap [] := va_S.rf
  have hl := lv_entry ([.ref tx]) (n := 1) (Nat.le_of_ble_eq_true rfl)
  rw [lg_entry_eq]
  generalize (lg_sl ([.ref tx]) ++ List.replicate (1 - (lg_sl ([.ref tx])).length) Slot.unset).toArray = ls at hl ⊢
  have hl : lv_has ls 1 [(0, .ref tx)] := hl
  have f1 := hts (.fieldLink RX7 44 "GleanDusk$Text" "token" "I") (List.mem_of_getElem? (i := 1) rfl)
  have i7 : ∀ w ∈ wsX70, w ∈ wsX7_wordHere := fun _ h => List.mem_cons_of_mem _ (List.mem_append_right _ h)
  refine lv_aload_n hx hb dX7_wordHere_0 rfl (lv_at hl 0 rfl) ?_
  refine va_get (D := D) (ci := 7) (v := .int 0) (C := RX7) (T := TX7) (N := 12) hx hb hts i7 hown hK hP 0 rfl rfl 2 (by decide) f1 (fun _ h9 => h9) rfl dX7_wordHere_1 ?_
  refine lv_iconst (v := 1) hx hb dX7_wordHere_4 (by decide) ?_
  refine lv_icmp_eq (tgt := 10) hx hb dX7_wordHere_5 (by decide) (fun h9 => absurd h9 (by decide)) (fun _ => ?_)
  refine lv_iconst (v := (-1)) hx hb dX7_wordHere_8 (by decide) ?_
  exact W.iret (v := (-1)) hx hb hr (fun tZ ht hW => ⟨⟨(-1), (), rfl, rfl, by rw [ht]; exact hP.sub [0] rfl, hD.sub [0] (by decide) rfl⟩, hS.F ht⟩) hS.2.2 dX7_wordHere_9

set_option maxHeartbeats 4000000 in
set_option maxRecDepth 100000 in
theorem ct_isItem (l : Launch) (D : va_G) (y : Nat → ClassId) (tx : Nat) (by : Nat) (wo : Nat) (fs : Nat) (sc : Nat) (i : Int32) (sta : Int32) (nu : Int32) (fi : Int32) (gl : Int32) (ste : Int32) : kw_Mi l yX7_isItem wsX7_isItem ({ frames := 2, cells := 0, slots := 0, locals := 60 }) D y [.ref tx, .int i] [(tx, .inr (7, [.ref by, .int 0, .int 0, .int sta, .int 0, .int nu, .ref wo, .ref fs, .ref sc, .int fi, .int gl, .int ste]))] (fun (r : Int32) (u : Unit) => r = 0) (fun _ => [(tx, .inr (7, [.ref by, .int 0, .int 0, .int sta, .int 0, .int nu, .ref wo, .ref fs, .ref sc, .int fi, .int gl, .int ste]))]) 0 0 := by
  refine kw_Mi.of (cc := cX7_isItem) (maxL := 4) (ret := (some .boolean)) (by decide) rfl ?_
  intro pZ eZ s mZ beZ meZ cZ A hE
  obtain ⟨hx, hb, hr, hml, hts, hown, hlocks, hin, hA, hP, hD, hK, hN⟩ := hE
  have hS : va_S A s.heap s.heap [] := va_S.rf
  have hl := lv_entry ([.ref tx, .int i]) (n := 4) (Nat.le_of_ble_eq_true rfl)
  rw [lg_entry_eq]
  generalize (lg_sl ([.ref tx, .int i]) ++ List.replicate (4 - (lg_sl ([.ref tx, .int i])).length) Slot.unset).toArray = ls at hl ⊢
  have hl : lv_has ls 4 [(0, .ref tx), (1, .int i)] := hl
  refine lv_aload_n hx hb dX7_isItem_0 rfl (lv_at hl 0 rfl) ?_
  have hs1 : kw_Split [(tx, .inr (7, [.ref by, .int 0, .int 0, .int sta, .int 0, .int nu, .ref wo, .ref fs, .ref sc, .int fi, .int gl, .int ste]))] [(tx, .inr (7, [.ref by, .int 0, .int 0, .int sta, .int 0, .int nu, .ref wo, .ref fs, .ref sc, .int fi, .int gl, .int ste]))] [] [0] [] := ⟨rfl, rfl, rfl, rfl, rfl, by decide⟩
  refine kw_go_i hs1 hP hD hS hA (va_runV (As := []) (rest := []) ⟨hx, hb, hml, hown, hts⟩ (ct_wordHere l D y tx by wo fs sc sta nu fi gl ste  _) (cwV 0 hts gX7_isItem_X7_wordHere rfl rfl rfl (by decide +kernel) ⟨Nat.le_of_ble_eq_true rfl, Nat.le_of_ble_eq_true rfl⟩) (kw_PreV (ci := 7) (q0 := 0) hs1 hP hD hK hN rfl rfl) rfl rfl hl.1 rfl (lv_room (Nat.le_of_ble_eq_true rfl)) dX7_isItem_1 ⟨Nat.le_of_ble_eq_true rfl, Nat.le_of_ble_eq_true rfl⟩) (fun r u H locs hq hP hD hS => ?_)
  obtain rfl := hq
  have hP : va_P D vwCl [(tx, .inr (7, [.ref by, .int 0, .int 0, .int sta, .int 0, .int nu, .ref wo, .ref fs, .ref sc, .int fi, .int gl, .int ste]))] H := hP
  have hD : va_D A [(tx, .inr (7, [.ref by, .int 0, .int 0, .int sta, .int 0, .int nu, .ref wo, .ref fs, .ref sc, .int fi, .int gl, .int ste]))] := hD
  refine lv_istore_n (lv' := [(2, .int (-1)), (0, .ref tx), (1, .int i)]) hx hb dX7_isItem_4 rfl hl (by decide) rfl (fun ls hl => ?_)
  refine lv_iload_n hx hb dX7_isItem_5 rfl (lv_at hl 0 rfl) ?_
  refine lv_iconst (v := (-1)) hx hb dX7_isItem_6 (by decide) ?_
  refine lv_icmp_eq (tgt := 31) hx hb dX7_isItem_7 (by decide) (fun _ => ?_) (fun h9 => absurd h9 (by decide))
  refine lv_iconst (v := 0) hx hb dX7_isItem_31 (by decide) ?_
  exact W.zret (v := 0) hx hb hr (by decide) (fun tZ ht hW => ⟨⟨0, (), rfl, rfl, by rw [ht]; exact hP.sub [0] rfl, hD.sub [0] (by decide) rfl⟩, hS.F ht⟩) hS.2.2 dX7_isItem_32

set_option maxHeartbeats 4000000 in
set_option maxRecDepth 100000 in
theorem ct_parse (l : Launch) (D : va_G) (y : Nat → ClassId) (tx : Nat) (by : Nat) (wo : Nat) (fs : Nat) (sc : Nat) : kw_Mi l yX7_parse wsX7_parse ({ frames := 3, cells := 0, slots := 0, locals := 83 }) D y [.ref tx] [(tx, .inr (7, [.ref by, .int 0, .int 0, .int 0, .int 0, .int 0, .ref wo, .ref fs, .ref sc, .int 0, .int 0, .int 0]))] (fun (r : Int32) (u : Unit) => r = (-10)) (fun _ => []) 0 0 := by
  refine kw_Mi.of (cc := cX7_parse) (maxL := 2) (ret := (some .int)) (by decide) rfl ?_
  intro pZ eZ s mZ beZ meZ cZ A hE
  obtain ⟨hx, hb, hr, hml, hts, hown, hlocks, hin, hA, hP, hD, hK, hN⟩ := hE
  have hS : va_S A s.heap s.heap [] := va_S.rf
  have hl := lv_entry ([.ref tx]) (n := 2) (Nat.le_of_ble_eq_true rfl)
  rw [lg_entry_eq]
  generalize (lg_sl ([.ref tx]) ++ List.replicate (2 - (lg_sl ([.ref tx])).length) Slot.unset).toArray = ls at hl ⊢
  have hl : lv_has ls 2 [(0, .ref tx)] := hl
  have f1 := hts (.fieldLink RX7 29 "GleanDusk$Text" "end" "I") (List.mem_of_getElem? (i := 1) rfl)
  have f2 := hts (.fieldLink RX7 32 "GleanDusk$Text" "fields" "I") (List.mem_of_getElem? (i := 2) rfl)
  have f3 := hts (.fieldLink RX7 35 "GleanDusk$Text" "gleaners" "I") (List.mem_of_getElem? (i := 3) rfl)
  have f4 := hts (.fieldLink RX7 38 "GleanDusk$Text" "steps" "I") (List.mem_of_getElem? (i := 4) rfl)
  have f5 := hts (.fieldLink RX7 44 "GleanDusk$Text" "token" "I") (List.mem_of_getElem? (i := 5) rfl)
  have f6 := hts (.fieldLink RX7 51 "GleanDusk$Text" "start" "I") (List.mem_of_getElem? (i := 6) rfl)
  have i7 : ∀ w ∈ wsX70, w ∈ wsX7_parse := fun _ h => List.mem_cons_of_mem _ (List.mem_append_right _ h)
  refine lv_aload_n hx hb dX7_parse_0 rfl (lv_at hl 0 rfl) ?_
  refine lv_iconst (v := 0) hx hb dX7_parse_1 (by decide) ?_
  refine va_put (D := D) (ci := 7) (v := .int 0) (ty := .int) (C := RX7) (T := TX7) (N := 12) hx hb hts i7 tyX7 tyX7_ok nmX7 hown hK hP hD hS 0 rfl rfl 4 (by decide) f1 (fun _ h9 => h9) rfl (by decide +kernel) rfl rfl (Nat.le_of_ble_eq_true rfl) dX7_parse_2 (fun H locs hP hD hS => ?_)
  have hP : va_P D vwCl [(tx, .inr (7, [.ref by, .int 0, .int 0, .int 0, .int 0, .int 0, .ref wo, .ref fs, .ref sc, .int 0, .int 0, .int 0]))] H := hP
  have hD : va_D A [(tx, .inr (7, [.ref by, .int 0, .int 0, .int 0, .int 0, .int 0, .ref wo, .ref fs, .ref sc, .int 0, .int 0, .int 0]))] := hD
  refine lv_aload_n hx hb dX7_parse_5 rfl (lv_at hl 0 rfl) ?_
  refine lv_iconst (v := 0) hx hb dX7_parse_6 (by decide) ?_
  refine va_put (D := D) (ci := 7) (v := .int 0) (ty := .int) (C := RX7) (T := TX7) (N := 12) hx hb hts i7 tyX7 tyX7_ok nmX7 hown hK hP hD hS 0 rfl rfl 9 (by decide) f2 (fun _ h9 => h9) rfl (by decide +kernel) rfl rfl (Nat.le_of_ble_eq_true rfl) dX7_parse_7 (fun H locs hP hD hS => ?_)
  have hP : va_P D vwCl [(tx, .inr (7, [.ref by, .int 0, .int 0, .int 0, .int 0, .int 0, .ref wo, .ref fs, .ref sc, .int 0, .int 0, .int 0]))] H := hP
  have hD : va_D A [(tx, .inr (7, [.ref by, .int 0, .int 0, .int 0, .int 0, .int 0, .ref wo, .ref fs, .ref sc, .int 0, .int 0, .int 0]))] := hD
  refine lv_aload_n hx hb dX7_parse_10 rfl (lv_at hl 0 rfl) ?_
  refine lv_iconst (v := 0) hx hb dX7_parse_11 (by decide) ?_
  refine va_put (D := D) (ci := 7) (v := .int 0) (ty := .int) (C := RX7) (T := TX7) (N := 12) hx hb hts i7 tyX7 tyX7_ok nmX7 hown hK hP hD hS 0 rfl rfl 10 (by decide) f3 (fun _ h9 => h9) rfl (by decide +kernel) rfl rfl (Nat.le_of_ble_eq_true rfl) dX7_parse_12 (fun H locs hP hD hS => ?_)
  have hP : va_P D vwCl [(tx, .inr (7, [.ref by, .int 0, .int 0, .int 0, .int 0, .int 0, .ref wo, .ref fs, .ref sc, .int 0, .int 0, .int 0]))] H := hP
  have hD : va_D A [(tx, .inr (7, [.ref by, .int 0, .int 0, .int 0, .int 0, .int 0, .ref wo, .ref fs, .ref sc, .int 0, .int 0, .int 0]))] := hD
  refine lv_aload_n hx hb dX7_parse_15 rfl (lv_at hl 0 rfl) ?_
  refine lv_bipush (v := 12) hx hb dX7_parse_16 (by decide) ?_
  refine va_put (D := D) (ci := 7) (v := .int 12) (ty := .int) (C := RX7) (T := TX7) (N := 12) hx hb hts i7 tyX7 tyX7_ok nmX7 hown hK hP hD hS 0 rfl rfl 11 (by decide) f4 (fun _ h9 => h9) rfl (by decide +kernel) rfl rfl (Nat.le_of_ble_eq_true rfl) dX7_parse_18 (fun H locs hP hD hS => ?_)
  have hP : va_P D vwCl [(tx, .inr (7, [.ref by, .int 0, .int 0, .int 0, .int 0, .int 0, .ref wo, .ref fs, .ref sc, .int 0, .int 0, .int 12]))] H := hP
  have hD : va_D A [(tx, .inr (7, [.ref by, .int 0, .int 0, .int 0, .int 0, .int 0, .ref wo, .ref fs, .ref sc, .int 0, .int 0, .int 12]))] := hD
  refine lv_iconst (v := 0) hx hb dX7_parse_21 (by decide) ?_
  refine lv_istore_n (lv' := [(1, .int 0), (0, .ref tx)]) hx hb dX7_parse_22 rfl hl (by decide) rfl (fun ls hl => ?_)
  refine lv_iload_n hx hb dX7_parse_23 rfl (lv_at hl 0 rfl) ?_
  refine lv_bipush (v := 25) hx hb dX7_parse_24 (by decide) ?_
  refine lv_icmp_ge (tgt := 78) hx hb dX7_parse_26 (by decide) (fun h9 => absurd h9 (by decide)) (fun _ => ?_)
  refine lv_aload_n hx hb dX7_parse_29 rfl (lv_at hl 1 rfl) ?_
  have hs1 : kw_Split [(tx, .inr (7, [.ref by, .int 0, .int 0, .int 0, .int 0, .int 0, .ref wo, .ref fs, .ref sc, .int 0, .int 0, .int 12]))] [(tx, .inr (7, [.ref by, .int 0, .int 0, .int 0, .int 0, .int 0, .ref wo, .ref fs, .ref sc, .int 0, .int 0, .int 12]))] [] [0] [] := ⟨rfl, rfl, rfl, rfl, rfl, by decide⟩
  refine kw_go_v hs1 hP hD hS hA (va_runV (As := []) (rest := []) ⟨hx, hb, hml, hown, hts⟩ (ct_advance l D y tx by wo fs sc 0 0 0 0 0 12  _) (cwV 0 hts gX7_parse_X7_advance rfl rfl rfl (by decide +kernel) ⟨Nat.le_of_ble_eq_true rfl, Nat.le_of_ble_eq_true rfl⟩) (kw_PreV (ci := 7) (q0 := 0) hs1 hP hD hK hN rfl rfl) rfl rfl hl.1 rfl (lv_room (Nat.le_of_ble_eq_true rfl)) dX7_parse_30 ⟨Nat.le_of_ble_eq_true rfl, Nat.le_of_ble_eq_true rfl⟩) (fun u H locs hq hP hD hS => ?_)
  obtain - := hq
  have hP : va_P D vwCl [(tx, .inr (7, [.ref by, .int 0, .int 0, .int 0, .int 0, .int 0, .ref wo, .ref fs, .ref sc, .int 0, .int 0, .int 12]))] H := hP
  have hD : va_D A [(tx, .inr (7, [.ref by, .int 0, .int 0, .int 0, .int 0, .int 0, .ref wo, .ref fs, .ref sc, .int 0, .int 0, .int 12]))] := hD
  refine lv_aload_n hx hb dX7_parse_33 rfl (lv_at hl 1 rfl) ?_
  refine va_get (D := D) (ci := 7) (v := .int 0) (C := RX7) (T := TX7) (N := 12) hx hb hts i7 hown hK hP 0 rfl rfl 2 (by decide) f5 (fun _ h9 => h9) rfl dX7_parse_34 ?_
  refine lv_if_ne (tgt := 46) hx hb dX7_parse_37 (by decide) (fun h9 => absurd h9 (by decide)) (fun _ => ?_)
  refine lv_iload_n hx hb dX7_parse_40 rfl (lv_at hl 0 rfl) ?_
  refine lv_if_le (tgt := 46) hx hb dX7_parse_41 (by decide) (fun _ => ?_) (fun h9 => absurd h9 (by decide))
  refine lv_aload_n hx hb dX7_parse_46 rfl (lv_at hl 1 rfl) ?_
  refine lv_iload_n hx hb dX7_parse_47 rfl (lv_at hl 0 rfl) ?_
  have hs2 : kw_Split [(tx, .inr (7, [.ref by, .int 0, .int 0, .int 0, .int 0, .int 0, .ref wo, .ref fs, .ref sc, .int 0, .int 0, .int 12]))] [(tx, .inr (7, [.ref by, .int 0, .int 0, .int 0, .int 0, .int 0, .ref wo, .ref fs, .ref sc, .int 0, .int 0, .int 12]))] [] [0] [] := ⟨rfl, rfl, rfl, rfl, rfl, by decide⟩
  refine kw_go_i hs2 hP hD hS hA (va_runV (As := [.int 0]) (rest := []) ⟨hx, hb, hml, hown, hts⟩ (ct_isItem l D y tx by wo fs sc 0 0 0 0 0 12  _) (cwV 1 hts gX7_parse_X7_isItem rfl rfl rfl (by decide +kernel) ⟨Nat.le_of_ble_eq_true rfl, Nat.le_of_ble_eq_true rfl⟩) (kw_PreV (ci := 7) (q0 := 0) hs2 hP hD hK hN rfl rfl) rfl rfl hl.1 rfl (lv_room (Nat.le_of_ble_eq_true rfl)) dX7_parse_48 ⟨Nat.le_of_ble_eq_true rfl, Nat.le_of_ble_eq_true rfl⟩) (fun r u H locs hq hP hD hS => ?_)
  obtain rfl := hq
  have hP : va_P D vwCl [(tx, .inr (7, [.ref by, .int 0, .int 0, .int 0, .int 0, .int 0, .ref wo, .ref fs, .ref sc, .int 0, .int 0, .int 12]))] H := hP
  have hD : va_D A [(tx, .inr (7, [.ref by, .int 0, .int 0, .int 0, .int 0, .int 0, .ref wo, .ref fs, .ref sc, .int 0, .int 0, .int 12]))] := hD
  refine lv_if_ne (tgt := 57) hx hb dX7_parse_51 (by decide) (fun h9 => absurd h9 (by decide)) (fun _ => ?_)
  refine lv_goto (tgt := 78) hx hb dX7_parse_54 (by decide) ?_
  refine lv_bipush (v := (-10)) hx hb dX7_parse_78 (by decide) ?_
  refine lv_aload_n hx hb dX7_parse_80 rfl (lv_at hl 1 rfl) ?_
  refine va_get (D := D) (ci := 7) (v := .int 0) (C := RX7) (T := TX7) (N := 12) hx hb hts i7 hown hK hP 0 rfl rfl 3 (by decide) f6 (fun _ h9 => h9) rfl dX7_parse_81 ?_
  refine lv_isub hx hb dX7_parse_84 ?_
  refine lv_topi (fun z3 hz3 => ?_)
  obtain rfl : z3 = (-10) := hz3.trans (by first | rfl | decide | (simp [upd]; done))
  exact W.iret (v := (-10)) hx hb hr (fun tZ ht hW => ⟨⟨(-10), (), rfl, rfl, by rw [ht]; exact hP.sub [] rfl, hD.sub [] (by decide) rfl⟩, hS.F ht⟩) hS.2.2 dX7_parse_85

set_option maxHeartbeats 4000000 in
set_option maxRecDepth 100000 in
theorem ct_mix (l : Launch) (D : va_G) (y : Nat → ClassId) (h : Int64) (v : Int64) : kw_Ml l yX10_mix wsX10_mix ({ frames := 1, cells := 0, slots := 0, locals := 40 }) D y [.long h, .long v] [] (fun (r : Int64) (u : Unit) => r = ((31 * h) + v)) (fun _ => []) 0 0 := by
  refine kw_Ml.of (cc := cX10_mix) (maxL := 4) (ret := (some .long)) (by decide) rfl ?_
  intro pZ eZ s mZ beZ meZ cZ A hE
  obtain ⟨hx, hb, hr, hml, hts, hown, hlocks, hin, hA, hP, hD, hK, hN⟩ := hE
  have hS : va_S A s.heap s.heap [] := va_S.rf
  have hl := lv_entry ([.long h, .long v]) (n := 4) (Nat.le_of_ble_eq_true rfl)
  rw [lg_entry_eq]
  generalize (lg_sl ([.long h, .long v]) ++ List.replicate (4 - (lg_sl ([.long h, .long v])).length) Slot.unset).toArray = ls at hl ⊢
  have hl : lv_has ls 4 [(0, .long h), (2, .long v)] := hl
  have f1 := hts (.constantLong RX10 303 (31)) (List.mem_of_getElem? (i := 1) rfl)
  refine lv_ldc2 (v := 31) hx hb hown f1 dX10_mix_0 ?_
  refine lv_lload_n hx hb dX10_mix_3 rfl (lv_at hl 0 rfl) ?_
  refine lv_lmul hx hb dX10_mix_4 ?_
  refine lv_lload_n hx hb dX10_mix_5 rfl (lv_at hl 1 rfl) ?_
  refine lv_ladd hx hb dX10_mix_6 ?_
  exact W.lret (v := ((31 * h) + v)) hx hb hr (fun tZ ht hW => ⟨⟨((31 * h) + v), (), rfl, rfl, by rw [ht]; exact hP.sub [] rfl, hD.sub [] (by decide) rfl⟩, hS.F ht⟩) hS.2.2 dX10_mix_7

set_option maxHeartbeats 4000000 in
set_option maxRecDepth 100000 in
theorem ct_showAll (l : Launch) (D : va_G) (y : Nat → ClassId) (g : Nat) (kk : Nat) (nw : Nat) (im : Nat) (kp : Nat) (tx : Nat) (tr : Nat) (be : Nat) (sh : Nat) (sd : Nat) (rf : Nat) (nk : Nat) (nd : Nat) (ne : Nat) (nm : Nat) (nn : Nat) (t : Int32) : kw_Mv l yX10_showAll wsX10_showAll ({ frames := 1, cells := 0, slots := 0, locals := 40 }) D y [.ref g, .int t] [(g, .inr (10, [.ref kk, .ref nw, .ref im, .ref kp, .ref tx, .ref tr, .ref be, .ref sh, .ref sd, .ref rf, .int 0, .int 1])), (nw, .inr (4, [.ref kk, .ref nk, .ref nd, .ref ne, .ref nm, .ref nn, .int 0, .int 0, .int 0, .int 0, .int 0]))] (fun (u : Unit) => True) (fun _ => [(g, .inr (10, [.ref kk, .ref nw, .ref im, .ref kp, .ref tx, .ref tr, .ref be, .ref sh, .ref sd, .ref rf, .int 0, .int 1])), (nw, .inr (4, [.ref kk, .ref nk, .ref nd, .ref ne, .ref nm, .ref nn, .int 0, .int 0, .int 0, .int 0, .int 0]))]) 0 0 := by
  refine kw_Mv.of (cc := cX10_showAll) (maxL := 3) (ret := none) (by decide) rfl ?_
  intro pZ eZ s mZ beZ meZ cZ A hE
  obtain ⟨hx, hb, hr, hml, hts, hown, hlocks, hin, hA, hP, hD, hK, hN⟩ := hE
  have hS : va_S A s.heap s.heap [] := va_S.rf
  have hl := lv_entry ([.ref g, .int t]) (n := 3) (Nat.le_of_ble_eq_true rfl)
  rw [lg_entry_eq]
  generalize (lg_sl ([.ref g, .int t]) ++ List.replicate (3 - (lg_sl ([.ref g, .int t])).length) Slot.unset).toArray = ls at hl ⊢
  have hl : lv_has ls 3 [(0, .ref g), (1, .int t)] := hl
  have f1 := hts (.fieldLink RX10 36 "GleanDusk" "now" "LGleanDusk$Parish;") (List.mem_of_getElem? (i := 1) rfl)
  have f2 := hts (.fieldLink RX10 94 "GleanDusk$Parish" "fields" "I") (List.mem_of_getElem? (i := 2) rfl)
  have i10 : ∀ w ∈ wsX100, w ∈ wsX10_showAll := fun _ h => List.mem_cons_of_mem _ (List.mem_append_left _ (List.mem_append_left _ (List.mem_append_right _ h)))
  have i4 : ∀ w ∈ wsX40, w ∈ wsX10_showAll := fun _ h => List.mem_cons_of_mem _ (List.mem_append_left _ (List.mem_append_right _ h))
  refine lv_iconst (v := 0) hx hb dX10_showAll_0 (by decide) ?_
  refine lv_istore_n (lv' := [(2, .int 0), (0, .ref g), (1, .int t)]) hx hb dX10_showAll_1 rfl hl (by decide) rfl (fun ls hl => ?_)
  refine lv_iload_n hx hb dX10_showAll_2 rfl (lv_at hl 0 rfl) ?_
  refine lv_aload_n hx hb dX10_showAll_3 rfl (lv_at hl 1 rfl) ?_
  refine va_get (D := D) (ci := 10) (v := .ref nw) (C := RX10) (T := TX10) (N := 12) hx hb hts i10 hown hK hP 0 rfl rfl 1 (by decide) f1 (fun _ h9 => h9) rfl dX10_showAll_4 ?_
  refine va_get (D := D) (ci := 4) (v := .int 0) (C := RX4) (T := TX4) (N := 11) hx hb hts i4 hown hK hP 1 rfl rfl 6 (by decide) f2 (fun _ h9 => h9) rfl dX10_showAll_7 ?_
  refine lv_icmp_ge (tgt := 41) hx hb dX10_showAll_10 (by decide) (fun _ => ?_) (fun h9 => absurd h9 (by decide))
  exact W.vret hx hb hr (fun tZ ht hW => ⟨⟨(), rfl, trivial, by rw [ht]; exact hP.sub [0, 1] rfl, hD.sub [0, 1] (by decide) rfl⟩, hS.F ht⟩) hS.2.2 dX10_showAll_41
end
section
set_option maxHeartbeats 4000000 in
set_option maxRecDepth 100000 in
theorem ct_howMany0 (l : Launch) (D : va_G) (y : Nat → ClassId) (g : Nat) (kk : Nat) (nw : Nat) (im : Nat) (kp : Nat) (tx : Nat) (tr : Nat) (be : Nat) (sh : Nat) (sd : Nat) (rf : Nat) (nk : Nat) (nd : Nat) (ne : Nat) (nm : Nat) (nn : Nat) (nl : Nat) (na : Nat) (ns : Nat) (by : Nat) (wo : Nat) (fs : Nat) (sc : Nat) : kw_Mi l yX10_howMany wsX10_howMany ({ frames := 1, cells := 0, slots := 0, locals := 40 }) D y [.ref g, .int 0] [(g, .inr (10, [.ref kk, .ref nw, .ref im, .ref kp, .ref tx, .ref tr, .ref be, .ref sh, .ref sd, .ref rf, .int 0, .int 1])), (nw, .inr (4, [.ref kk, .ref nk, .ref nd, .ref ne, .ref nm, .ref nn, .int 0, .int 0, .int 0, .int 0, .int 0])), (nd, .inr (1, [.ref nl, .ref na, .ref ns, .int 0, .int 0, .int 0])), (tx, .inr (7, [.ref by, .int 0, .int 0, .int 0, .int 0, .int 0, .ref wo, .ref fs, .ref sc, .int 0, .int 0, .int 0]))] (fun (r : Int32) (u : Unit) => r = 0) (fun _ => [(g, .inr (10, [.ref kk, .ref nw, .ref im, .ref kp, .ref tx, .ref tr, .ref be, .ref sh, .ref sd, .ref rf, .int 0, .int 1])), (nw, .inr (4, [.ref kk, .ref nk, .ref nd, .ref ne, .ref nm, .ref nn, .int 0, .int 0, .int 0, .int 0, .int 0])), (nd, .inr (1, [.ref nl, .ref na, .ref ns, .int 0, .int 0, .int 0])), (tx, .inr (7, [.ref by, .int 0, .int 0, .int 0, .int 0, .int 0, .ref wo, .ref fs, .ref sc, .int 0, .int 0, .int 0]))]) 0 0 := by
  refine kw_Mi.of (cc := cX10_howMany) (maxL := 2) (ret := (some .int)) (by decide) rfl ?_
  intro pZ eZ s mZ beZ meZ cZ A hE
  obtain ⟨hx, hb, hr, hml, hts, hown, hlocks, hin, hA, hP, hD, hK, hN⟩ := hE
  have hS : va_S A s.heap s.heap [] := va_S.rf
  have hl := lv_entry ([.ref g, .int 0]) (n := 2) (Nat.le_of_ble_eq_true rfl)
  rw [lg_entry_eq]
  generalize (lg_sl ([.ref g, .int 0]) ++ List.replicate (2 - (lg_sl ([.ref g, .int 0])).length) Slot.unset).toArray = ls at hl ⊢
  have hl : lv_has ls 2 [(0, .ref g), (1, .int 0)] := hl
  have f1 := hts (.fieldLink RX10 36 "GleanDusk" "now" "LGleanDusk$Parish;") (List.mem_of_getElem? (i := 1) rfl)
  have f2 := hts (.fieldLink RX10 94 "GleanDusk$Parish" "fields" "I") (List.mem_of_getElem? (i := 2) rfl)
  have i10 : ∀ w ∈ wsX100, w ∈ wsX10_howMany := fun _ h => List.mem_cons_of_mem _ (List.mem_append_left _ (List.mem_append_left _ (List.mem_append_left _ (List.mem_append_right _ h))))
  have i4 : ∀ w ∈ wsX40, w ∈ wsX10_howMany := fun _ h => List.mem_cons_of_mem _ (List.mem_append_left _ (List.mem_append_left _ (List.mem_append_right _ h)))
  refine lv_iload_n hx hb dX10_howMany_0 rfl (lv_at hl 1 rfl) ?_
  refine lv_tableIn (off := 47) (tgt := 48) hx hb dX10_howMany_1 (by decide) (by decide) (by decide +kernel) (by decide) ?_
  refine lv_aload_n hx hb dX10_howMany_48 rfl (lv_at hl 0 rfl) ?_
  refine va_get (D := D) (ci := 10) (v := .ref nw) (C := RX10) (T := TX10) (N := 12) hx hb hts i10 hown hK hP 0 rfl rfl 1 (by decide) f1 (fun _ h9 => h9) rfl dX10_howMany_49 ?_
  refine va_get (D := D) (ci := 4) (v := .int 0) (C := RX4) (T := TX4) (N := 11) hx hb hts i4 hown hK hP 1 rfl rfl 6 (by decide) f2 (fun _ h9 => h9) rfl dX10_howMany_52 ?_
  exact W.iret (v := 0) hx hb hr (fun tZ ht hW => ⟨⟨0, (), rfl, rfl, by rw [ht]; exact hP.sub [0, 1, 2, 3] rfl, hD.sub [0, 1, 2, 3] (by decide) rfl⟩, hS.F ht⟩) hS.2.2 dX10_howMany_55

set_option maxHeartbeats 4000000 in
set_option maxRecDepth 100000 in
theorem ct_howMany1 (l : Launch) (D : va_G) (y : Nat → ClassId) (g : Nat) (kk : Nat) (nw : Nat) (im : Nat) (kp : Nat) (tx : Nat) (tr : Nat) (be : Nat) (sh : Nat) (sd : Nat) (rf : Nat) (nk : Nat) (nd : Nat) (ne : Nat) (nm : Nat) (nn : Nat) (nl : Nat) (na : Nat) (ns : Nat) (by : Nat) (wo : Nat) (fs : Nat) (sc : Nat) : kw_Mi l yX10_howMany wsX10_howMany ({ frames := 1, cells := 0, slots := 0, locals := 40 }) D y [.ref g, .int 1] [(g, .inr (10, [.ref kk, .ref nw, .ref im, .ref kp, .ref tx, .ref tr, .ref be, .ref sh, .ref sd, .ref rf, .int 0, .int 1])), (nw, .inr (4, [.ref kk, .ref nk, .ref nd, .ref ne, .ref nm, .ref nn, .int 0, .int 0, .int 0, .int 0, .int 0])), (nd, .inr (1, [.ref nl, .ref na, .ref ns, .int 0, .int 0, .int 0])), (tx, .inr (7, [.ref by, .int 0, .int 0, .int 0, .int 0, .int 0, .ref wo, .ref fs, .ref sc, .int 0, .int 0, .int 0]))] (fun (r : Int32) (u : Unit) => r = 0) (fun _ => [(g, .inr (10, [.ref kk, .ref nw, .ref im, .ref kp, .ref tx, .ref tr, .ref be, .ref sh, .ref sd, .ref rf, .int 0, .int 1])), (nw, .inr (4, [.ref kk, .ref nk, .ref nd, .ref ne, .ref nm, .ref nn, .int 0, .int 0, .int 0, .int 0, .int 0])), (nd, .inr (1, [.ref nl, .ref na, .ref ns, .int 0, .int 0, .int 0])), (tx, .inr (7, [.ref by, .int 0, .int 0, .int 0, .int 0, .int 0, .ref wo, .ref fs, .ref sc, .int 0, .int 0, .int 0]))]) 0 0 := by
  refine kw_Mi.of (cc := cX10_howMany) (maxL := 2) (ret := (some .int)) (by decide) rfl ?_
  intro pZ eZ s mZ beZ meZ cZ A hE
  obtain ⟨hx, hb, hr, hml, hts, hown, hlocks, hin, hA, hP, hD, hK, hN⟩ := hE
  have hS : va_S A s.heap s.heap [] := va_S.rf
  have hl := lv_entry ([.ref g, .int 1]) (n := 2) (Nat.le_of_ble_eq_true rfl)
  rw [lg_entry_eq]
  generalize (lg_sl ([.ref g, .int 1]) ++ List.replicate (2 - (lg_sl ([.ref g, .int 1])).length) Slot.unset).toArray = ls at hl ⊢
  have hl : lv_has ls 2 [(0, .ref g), (1, .int 1)] := hl
  have f1 := hts (.fieldLink RX10 36 "GleanDusk" "now" "LGleanDusk$Parish;") (List.mem_of_getElem? (i := 1) rfl)
  have f2 := hts (.fieldLink RX10 115 "GleanDusk$Parish" "gleaners" "I") (List.mem_of_getElem? (i := 3) rfl)
  have i10 : ∀ w ∈ wsX100, w ∈ wsX10_howMany := fun _ h => List.mem_cons_of_mem _ (List.mem_append_left _ (List.mem_append_left _ (List.mem_append_left _ (List.mem_append_right _ h))))
  have i4 : ∀ w ∈ wsX40, w ∈ wsX10_howMany := fun _ h => List.mem_cons_of_mem _ (List.mem_append_left _ (List.mem_append_left _ (List.mem_append_right _ h)))
  refine lv_iload_n hx hb dX10_howMany_0 rfl (lv_at hl 1 rfl) ?_
  refine lv_tableIn (off := 55) (tgt := 56) hx hb dX10_howMany_1 (by decide) (by decide) (by decide +kernel) (by decide) ?_
  refine lv_aload_n hx hb dX10_howMany_56 rfl (lv_at hl 0 rfl) ?_
  refine va_get (D := D) (ci := 10) (v := .ref nw) (C := RX10) (T := TX10) (N := 12) hx hb hts i10 hown hK hP 0 rfl rfl 1 (by decide) f1 (fun _ h9 => h9) rfl dX10_howMany_57 ?_
  refine va_get (D := D) (ci := 4) (v := .int 0) (C := RX4) (T := TX4) (N := 11) hx hb hts i4 hown hK hP 1 rfl rfl 7 (by decide) f2 (fun _ h9 => h9) rfl dX10_howMany_60 ?_
  exact W.iret (v := 0) hx hb hr (fun tZ ht hW => ⟨⟨0, (), rfl, rfl, by rw [ht]; exact hP.sub [0, 1, 2, 3] rfl, hD.sub [0, 1, 2, 3] (by decide) rfl⟩, hS.F ht⟩) hS.2.2 dX10_howMany_63

set_option maxHeartbeats 4000000 in
set_option maxRecDepth 100000 in
theorem ct_howMany2 (l : Launch) (D : va_G) (y : Nat → ClassId) (g : Nat) (kk : Nat) (nw : Nat) (im : Nat) (kp : Nat) (tx : Nat) (tr : Nat) (be : Nat) (sh : Nat) (sd : Nat) (rf : Nat) (nk : Nat) (nd : Nat) (ne : Nat) (nm : Nat) (nn : Nat) (nl : Nat) (na : Nat) (ns : Nat) (by : Nat) (wo : Nat) (fs : Nat) (sc : Nat) : kw_Mi l yX10_howMany wsX10_howMany ({ frames := 1, cells := 0, slots := 0, locals := 40 }) D y [.ref g, .int 2] [(g, .inr (10, [.ref kk, .ref nw, .ref im, .ref kp, .ref tx, .ref tr, .ref be, .ref sh, .ref sd, .ref rf, .int 0, .int 1])), (nw, .inr (4, [.ref kk, .ref nk, .ref nd, .ref ne, .ref nm, .ref nn, .int 0, .int 0, .int 0, .int 0, .int 0])), (nd, .inr (1, [.ref nl, .ref na, .ref ns, .int 0, .int 0, .int 0])), (tx, .inr (7, [.ref by, .int 0, .int 0, .int 0, .int 0, .int 0, .ref wo, .ref fs, .ref sc, .int 0, .int 0, .int 0]))] (fun (r : Int32) (u : Unit) => r = 0) (fun _ => [(g, .inr (10, [.ref kk, .ref nw, .ref im, .ref kp, .ref tx, .ref tr, .ref be, .ref sh, .ref sd, .ref rf, .int 0, .int 1])), (nw, .inr (4, [.ref kk, .ref nk, .ref nd, .ref ne, .ref nm, .ref nn, .int 0, .int 0, .int 0, .int 0, .int 0])), (nd, .inr (1, [.ref nl, .ref na, .ref ns, .int 0, .int 0, .int 0])), (tx, .inr (7, [.ref by, .int 0, .int 0, .int 0, .int 0, .int 0, .ref wo, .ref fs, .ref sc, .int 0, .int 0, .int 0]))]) 0 0 := by
  refine kw_Mi.of (cc := cX10_howMany) (maxL := 2) (ret := (some .int)) (by decide) rfl ?_
  intro pZ eZ s mZ beZ meZ cZ A hE
  obtain ⟨hx, hb, hr, hml, hts, hown, hlocks, hin, hA, hP, hD, hK, hN⟩ := hE
  have hS : va_S A s.heap s.heap [] := va_S.rf
  have hl := lv_entry ([.ref g, .int 2]) (n := 2) (Nat.le_of_ble_eq_true rfl)
  rw [lg_entry_eq]
  generalize (lg_sl ([.ref g, .int 2]) ++ List.replicate (2 - (lg_sl ([.ref g, .int 2])).length) Slot.unset).toArray = ls at hl ⊢
  have hl : lv_has ls 2 [(0, .ref g), (1, .int 2)] := hl
  have f1 := hts (.fieldLink RX10 36 "GleanDusk" "now" "LGleanDusk$Parish;") (List.mem_of_getElem? (i := 1) rfl)
  have f2 := hts (.fieldLink RX10 140 "GleanDusk$Parish" "dusk" "LGleanDusk$Dusk;") (List.mem_of_getElem? (i := 4) rfl)
  have f3 := hts (.fieldLink RX10 151 "GleanDusk$Dusk" "step" "I") (List.mem_of_getElem? (i := 5) rfl)
  have i10 : ∀ w ∈ wsX100, w ∈ wsX10_howMany := fun _ h => List.mem_cons_of_mem _ (List.mem_append_left _ (List.mem_append_left _ (List.mem_append_left _ (List.mem_append_right _ h))))
  have i4 : ∀ w ∈ wsX40, w ∈ wsX10_howMany := fun _ h => List.mem_cons_of_mem _ (List.mem_append_left _ (List.mem_append_left _ (List.mem_append_right _ h)))
  have i1 : ∀ w ∈ wsX10, w ∈ wsX10_howMany := fun _ h => List.mem_cons_of_mem _ (List.mem_append_left _ (List.mem_append_right _ h))
  refine lv_iload_n hx hb dX10_howMany_0 rfl (lv_at hl 1 rfl) ?_
  refine lv_tableIn (off := 63) (tgt := 64) hx hb dX10_howMany_1 (by decide) (by decide) (by decide +kernel) (by decide) ?_
  refine lv_aload_n hx hb dX10_howMany_64 rfl (lv_at hl 0 rfl) ?_
  refine va_get (D := D) (ci := 10) (v := .ref nw) (C := RX10) (T := TX10) (N := 12) hx hb hts i10 hown hK hP 0 rfl rfl 1 (by decide) f1 (fun _ h9 => h9) rfl dX10_howMany_65 ?_
  refine va_get (D := D) (ci := 4) (v := .ref nd) (C := RX4) (T := TX4) (N := 11) hx hb hts i4 hown hK hP 1 rfl rfl 2 (by decide) f2 (fun _ h9 => h9) rfl dX10_howMany_68 ?_
  refine va_get (D := D) (ci := 1) (v := .int 0) (C := RX1) (T := TX1) (N := 6) hx hb hts i1 hown hK hP 2 rfl rfl 3 (by decide) f3 (fun _ h9 => h9) rfl dX10_howMany_71 ?_
  exact W.iret (v := 0) hx hb hr (fun tZ ht hW => ⟨⟨0, (), rfl, rfl, by rw [ht]; exact hP.sub [0, 1, 2, 3] rfl, hD.sub [0, 1, 2, 3] (by decide) rfl⟩, hS.F ht⟩) hS.2.2 dX10_howMany_74

set_option maxHeartbeats 4000000 in
set_option maxRecDepth 100000 in
theorem ct_howMany3 (l : Launch) (D : va_G) (y : Nat → ClassId) (g : Nat) (kk : Nat) (nw : Nat) (im : Nat) (kp : Nat) (tx : Nat) (tr : Nat) (be : Nat) (sh : Nat) (sd : Nat) (rf : Nat) (nk : Nat) (nd : Nat) (ne : Nat) (nm : Nat) (nn : Nat) (nl : Nat) (na : Nat) (ns : Nat) (by : Nat) (wo : Nat) (fs : Nat) (sc : Nat) : kw_Mi l yX10_howMany wsX10_howMany ({ frames := 1, cells := 0, slots := 0, locals := 40 }) D y [.ref g, .int 3] [(g, .inr (10, [.ref kk, .ref nw, .ref im, .ref kp, .ref tx, .ref tr, .ref be, .ref sh, .ref sd, .ref rf, .int 0, .int 1])), (nw, .inr (4, [.ref kk, .ref nk, .ref nd, .ref ne, .ref nm, .ref nn, .int 0, .int 0, .int 0, .int 0, .int 0])), (nd, .inr (1, [.ref nl, .ref na, .ref ns, .int 0, .int 0, .int 0])), (tx, .inr (7, [.ref by, .int 0, .int 0, .int 0, .int 0, .int 0, .ref wo, .ref fs, .ref sc, .int 0, .int 0, .int 0]))] (fun (r : Int32) (u : Unit) => r = 0) (fun _ => [(g, .inr (10, [.ref kk, .ref nw, .ref im, .ref kp, .ref tx, .ref tr, .ref be, .ref sh, .ref sd, .ref rf, .int 0, .int 1])), (nw, .inr (4, [.ref kk, .ref nk, .ref nd, .ref ne, .ref nm, .ref nn, .int 0, .int 0, .int 0, .int 0, .int 0])), (nd, .inr (1, [.ref nl, .ref na, .ref ns, .int 0, .int 0, .int 0])), (tx, .inr (7, [.ref by, .int 0, .int 0, .int 0, .int 0, .int 0, .ref wo, .ref fs, .ref sc, .int 0, .int 0, .int 0]))]) 0 0 := by
  refine kw_Mi.of (cc := cX10_howMany) (maxL := 2) (ret := (some .int)) (by decide) rfl ?_
  intro pZ eZ s mZ beZ meZ cZ A hE
  obtain ⟨hx, hb, hr, hml, hts, hown, hlocks, hin, hA, hP, hD, hK, hN⟩ := hE
  have hS : va_S A s.heap s.heap [] := va_S.rf
  have hl := lv_entry ([.ref g, .int 3]) (n := 2) (Nat.le_of_ble_eq_true rfl)
  rw [lg_entry_eq]
  generalize (lg_sl ([.ref g, .int 3]) ++ List.replicate (2 - (lg_sl ([.ref g, .int 3])).length) Slot.unset).toArray = ls at hl ⊢
  have hl : lv_has ls 2 [(0, .ref g), (1, .int 3)] := hl
  have f1 := hts (.fieldLink RX10 36 "GleanDusk" "now" "LGleanDusk$Parish;") (List.mem_of_getElem? (i := 1) rfl)
  have f2 := hts (.fieldLink RX10 140 "GleanDusk$Parish" "dusk" "LGleanDusk$Dusk;") (List.mem_of_getElem? (i := 4) rfl)
  have f3 := hts (.fieldLink RX10 173 "GleanDusk$Dusk" "cloud" "I") (List.mem_of_getElem? (i := 6) rfl)
  have i10 : ∀ w ∈ wsX100, w ∈ wsX10_howMany := fun _ h => List.mem_cons_of_mem _ (List.mem_append_left _ (List.mem_append_left _ (List.mem_append_left _ (List.mem_append_right _ h))))
  have i4 : ∀ w ∈ wsX40, w ∈ wsX10_howMany := fun _ h => List.mem_cons_of_mem _ (List.mem_append_left _ (List.mem_append_left _ (List.mem_append_right _ h)))
  have i1 : ∀ w ∈ wsX10, w ∈ wsX10_howMany := fun _ h => List.mem_cons_of_mem _ (List.mem_append_left _ (List.mem_append_right _ h))
  refine lv_iload_n hx hb dX10_howMany_0 rfl (lv_at hl 1 rfl) ?_
  refine lv_tableIn (off := 74) (tgt := 75) hx hb dX10_howMany_1 (by decide) (by decide) (by decide +kernel) (by decide) ?_
  refine lv_aload_n hx hb dX10_howMany_75 rfl (lv_at hl 0 rfl) ?_
  refine va_get (D := D) (ci := 10) (v := .ref nw) (C := RX10) (T := TX10) (N := 12) hx hb hts i10 hown hK hP 0 rfl rfl 1 (by decide) f1 (fun _ h9 => h9) rfl dX10_howMany_76 ?_
  refine va_get (D := D) (ci := 4) (v := .ref nd) (C := RX4) (T := TX4) (N := 11) hx hb hts i4 hown hK hP 1 rfl rfl 2 (by decide) f2 (fun _ h9 => h9) rfl dX10_howMany_79 ?_
  refine va_get (D := D) (ci := 1) (v := .int 0) (C := RX1) (T := TX1) (N := 6) hx hb hts i1 hown hK hP 2 rfl rfl 4 (by decide) f3 (fun _ h9 => h9) rfl dX10_howMany_82 ?_
  exact W.iret (v := 0) hx hb hr (fun tZ ht hW => ⟨⟨0, (), rfl, rfl, by rw [ht]; exact hP.sub [0, 1, 2, 3] rfl, hD.sub [0, 1, 2, 3] (by decide) rfl⟩, hS.F ht⟩) hS.2.2 dX10_howMany_85

set_option maxHeartbeats 4000000 in
set_option maxRecDepth 100000 in
theorem ct_howMany4 (l : Launch) (D : va_G) (y : Nat → ClassId) (g : Nat) (kk : Nat) (nw : Nat) (im : Nat) (kp : Nat) (tx : Nat) (tr : Nat) (be : Nat) (sh : Nat) (sd : Nat) (rf : Nat) (nk : Nat) (nd : Nat) (ne : Nat) (nm : Nat) (nn : Nat) (nl : Nat) (na : Nat) (ns : Nat) (by : Nat) (wo : Nat) (fs : Nat) (sc : Nat) : kw_Mi l yX10_howMany wsX10_howMany ({ frames := 1, cells := 0, slots := 0, locals := 40 }) D y [.ref g, .int 4] [(g, .inr (10, [.ref kk, .ref nw, .ref im, .ref kp, .ref tx, .ref tr, .ref be, .ref sh, .ref sd, .ref rf, .int 0, .int 1])), (nw, .inr (4, [.ref kk, .ref nk, .ref nd, .ref ne, .ref nm, .ref nn, .int 0, .int 0, .int 0, .int 0, .int 0])), (nd, .inr (1, [.ref nl, .ref na, .ref ns, .int 0, .int 0, .int 0])), (tx, .inr (7, [.ref by, .int 0, .int 0, .int 0, .int 0, .int 0, .ref wo, .ref fs, .ref sc, .int 0, .int 0, .int 0]))] (fun (r : Int32) (u : Unit) => r = 0) (fun _ => [(g, .inr (10, [.ref kk, .ref nw, .ref im, .ref kp, .ref tx, .ref tr, .ref be, .ref sh, .ref sd, .ref rf, .int 0, .int 1])), (nw, .inr (4, [.ref kk, .ref nk, .ref nd, .ref ne, .ref nm, .ref nn, .int 0, .int 0, .int 0, .int 0, .int 0])), (nd, .inr (1, [.ref nl, .ref na, .ref ns, .int 0, .int 0, .int 0])), (tx, .inr (7, [.ref by, .int 0, .int 0, .int 0, .int 0, .int 0, .ref wo, .ref fs, .ref sc, .int 0, .int 0, .int 0]))]) 0 0 := by
  refine kw_Mi.of (cc := cX10_howMany) (maxL := 2) (ret := (some .int)) (by decide) rfl ?_
  intro pZ eZ s mZ beZ meZ cZ A hE
  obtain ⟨hx, hb, hr, hml, hts, hown, hlocks, hin, hA, hP, hD, hK, hN⟩ := hE
  have hS : va_S A s.heap s.heap [] := va_S.rf
  have hl := lv_entry ([.ref g, .int 4]) (n := 2) (Nat.le_of_ble_eq_true rfl)
  rw [lg_entry_eq]
  generalize (lg_sl ([.ref g, .int 4]) ++ List.replicate (2 - (lg_sl ([.ref g, .int 4])).length) Slot.unset).toArray = ls at hl ⊢
  have hl : lv_has ls 2 [(0, .ref g), (1, .int 4)] := hl
  have f1 := hts (.fieldLink RX10 36 "GleanDusk" "now" "LGleanDusk$Parish;") (List.mem_of_getElem? (i := 1) rfl)
  have f2 := hts (.fieldLink RX10 140 "GleanDusk$Parish" "dusk" "LGleanDusk$Dusk;") (List.mem_of_getElem? (i := 4) rfl)
  have f3 := hts (.fieldLink RX10 164 "GleanDusk$Dusk" "number" "I") (List.mem_of_getElem? (i := 7) rfl)
  have i10 : ∀ w ∈ wsX100, w ∈ wsX10_howMany := fun _ h => List.mem_cons_of_mem _ (List.mem_append_left _ (List.mem_append_left _ (List.mem_append_left _ (List.mem_append_right _ h))))
  have i4 : ∀ w ∈ wsX40, w ∈ wsX10_howMany := fun _ h => List.mem_cons_of_mem _ (List.mem_append_left _ (List.mem_append_left _ (List.mem_append_right _ h)))
  have i1 : ∀ w ∈ wsX10, w ∈ wsX10_howMany := fun _ h => List.mem_cons_of_mem _ (List.mem_append_left _ (List.mem_append_right _ h))
  refine lv_iload_n hx hb dX10_howMany_0 rfl (lv_at hl 1 rfl) ?_
  refine lv_tableIn (off := 85) (tgt := 86) hx hb dX10_howMany_1 (by decide) (by decide) (by decide +kernel) (by decide) ?_
  refine lv_aload_n hx hb dX10_howMany_86 rfl (lv_at hl 0 rfl) ?_
  refine va_get (D := D) (ci := 10) (v := .ref nw) (C := RX10) (T := TX10) (N := 12) hx hb hts i10 hown hK hP 0 rfl rfl 1 (by decide) f1 (fun _ h9 => h9) rfl dX10_howMany_87 ?_
  refine va_get (D := D) (ci := 4) (v := .ref nd) (C := RX4) (T := TX4) (N := 11) hx hb hts i4 hown hK hP 1 rfl rfl 2 (by decide) f2 (fun _ h9 => h9) rfl dX10_howMany_90 ?_
  refine va_get (D := D) (ci := 1) (v := .int 0) (C := RX1) (T := TX1) (N := 6) hx hb hts i1 hown hK hP 2 rfl rfl 5 (by decide) f3 (fun _ h9 => h9) rfl dX10_howMany_93 ?_
  exact W.iret (v := 0) hx hb hr (fun tZ ht hW => ⟨⟨0, (), rfl, rfl, by rw [ht]; exact hP.sub [0, 1, 2, 3] rfl, hD.sub [0, 1, 2, 3] (by decide) rfl⟩, hS.F ht⟩) hS.2.2 dX10_howMany_96

set_option maxHeartbeats 4000000 in
set_option maxRecDepth 100000 in
theorem ct_howMany5 (l : Launch) (D : va_G) (y : Nat → ClassId) (g : Nat) (kk : Nat) (nw : Nat) (im : Nat) (kp : Nat) (tx : Nat) (tr : Nat) (be : Nat) (sh : Nat) (sd : Nat) (rf : Nat) (nk : Nat) (nd : Nat) (ne : Nat) (nm : Nat) (nn : Nat) (nl : Nat) (na : Nat) (ns : Nat) (by : Nat) (wo : Nat) (fs : Nat) (sc : Nat) : kw_Mi l yX10_howMany wsX10_howMany ({ frames := 1, cells := 0, slots := 0, locals := 40 }) D y [.ref g, .int 5] [(g, .inr (10, [.ref kk, .ref nw, .ref im, .ref kp, .ref tx, .ref tr, .ref be, .ref sh, .ref sd, .ref rf, .int 0, .int 1])), (nw, .inr (4, [.ref kk, .ref nk, .ref nd, .ref ne, .ref nm, .ref nn, .int 0, .int 0, .int 0, .int 0, .int 0])), (nd, .inr (1, [.ref nl, .ref na, .ref ns, .int 0, .int 0, .int 0])), (tx, .inr (7, [.ref by, .int 0, .int 0, .int 0, .int 0, .int 0, .ref wo, .ref fs, .ref sc, .int 0, .int 0, .int 0]))] (fun (r : Int32) (u : Unit) => r = 0) (fun _ => [(g, .inr (10, [.ref kk, .ref nw, .ref im, .ref kp, .ref tx, .ref tr, .ref be, .ref sh, .ref sd, .ref rf, .int 0, .int 1])), (nw, .inr (4, [.ref kk, .ref nk, .ref nd, .ref ne, .ref nm, .ref nn, .int 0, .int 0, .int 0, .int 0, .int 0])), (nd, .inr (1, [.ref nl, .ref na, .ref ns, .int 0, .int 0, .int 0])), (tx, .inr (7, [.ref by, .int 0, .int 0, .int 0, .int 0, .int 0, .ref wo, .ref fs, .ref sc, .int 0, .int 0, .int 0]))]) 0 0 := by
  refine kw_Mi.of (cc := cX10_howMany) (maxL := 2) (ret := (some .int)) (by decide) rfl ?_
  intro pZ eZ s mZ beZ meZ cZ A hE
  obtain ⟨hx, hb, hr, hml, hts, hown, hlocks, hin, hA, hP, hD, hK, hN⟩ := hE
  have hS : va_S A s.heap s.heap [] := va_S.rf
  have hl := lv_entry ([.ref g, .int 5]) (n := 2) (Nat.le_of_ble_eq_true rfl)
  rw [lg_entry_eq]
  generalize (lg_sl ([.ref g, .int 5]) ++ List.replicate (2 - (lg_sl ([.ref g, .int 5])).length) Slot.unset).toArray = ls at hl ⊢
  have hl : lv_has ls 2 [(0, .ref g), (1, .int 5)] := hl
  have f1 := hts (.fieldLink RX10 36 "GleanDusk" "now" "LGleanDusk$Parish;") (List.mem_of_getElem? (i := 1) rfl)
  have f2 := hts (.fieldLink RX10 240 "GleanDusk$Parish" "missedCount" "I") (List.mem_of_getElem? (i := 8) rfl)
  have i10 : ∀ w ∈ wsX100, w ∈ wsX10_howMany := fun _ h => List.mem_cons_of_mem _ (List.mem_append_left _ (List.mem_append_left _ (List.mem_append_left _ (List.mem_append_right _ h))))
  have i4 : ∀ w ∈ wsX40, w ∈ wsX10_howMany := fun _ h => List.mem_cons_of_mem _ (List.mem_append_left _ (List.mem_append_left _ (List.mem_append_right _ h)))
  refine lv_iload_n hx hb dX10_howMany_0 rfl (lv_at hl 1 rfl) ?_
  refine lv_tableIn (off := 96) (tgt := 97) hx hb dX10_howMany_1 (by decide) (by decide) (by decide +kernel) (by decide) ?_
  refine lv_aload_n hx hb dX10_howMany_97 rfl (lv_at hl 0 rfl) ?_
  refine va_get (D := D) (ci := 10) (v := .ref nw) (C := RX10) (T := TX10) (N := 12) hx hb hts i10 hown hK hP 0 rfl rfl 1 (by decide) f1 (fun _ h9 => h9) rfl dX10_howMany_98 ?_
  refine va_get (D := D) (ci := 4) (v := .int 0) (C := RX4) (T := TX4) (N := 11) hx hb hts i4 hown hK hP 1 rfl rfl 9 (by decide) f2 (fun _ h9 => h9) rfl dX10_howMany_101 ?_
  exact W.iret (v := 0) hx hb hr (fun tZ ht hW => ⟨⟨0, (), rfl, rfl, by rw [ht]; exact hP.sub [0, 1, 2, 3] rfl, hD.sub [0, 1, 2, 3] (by decide) rfl⟩, hS.F ht⟩) hS.2.2 dX10_howMany_104

set_option maxHeartbeats 4000000 in
set_option maxRecDepth 100000 in
theorem ct_howMany6 (l : Launch) (D : va_G) (y : Nat → ClassId) (g : Nat) (kk : Nat) (nw : Nat) (im : Nat) (kp : Nat) (tx : Nat) (tr : Nat) (be : Nat) (sh : Nat) (sd : Nat) (rf : Nat) (nk : Nat) (nd : Nat) (ne : Nat) (nm : Nat) (nn : Nat) (nl : Nat) (na : Nat) (ns : Nat) (by : Nat) (wo : Nat) (fs : Nat) (sc : Nat) : kw_Mi l yX10_howMany wsX10_howMany ({ frames := 1, cells := 0, slots := 0, locals := 40 }) D y [.ref g, .int 6] [(g, .inr (10, [.ref kk, .ref nw, .ref im, .ref kp, .ref tx, .ref tr, .ref be, .ref sh, .ref sd, .ref rf, .int 0, .int 1])), (nw, .inr (4, [.ref kk, .ref nk, .ref nd, .ref ne, .ref nm, .ref nn, .int 0, .int 0, .int 0, .int 0, .int 0])), (nd, .inr (1, [.ref nl, .ref na, .ref ns, .int 0, .int 0, .int 0])), (tx, .inr (7, [.ref by, .int 0, .int 0, .int 0, .int 0, .int 0, .ref wo, .ref fs, .ref sc, .int 0, .int 0, .int 0]))] (fun (r : Int32) (u : Unit) => r = 0) (fun _ => [(g, .inr (10, [.ref kk, .ref nw, .ref im, .ref kp, .ref tx, .ref tr, .ref be, .ref sh, .ref sd, .ref rf, .int 0, .int 1])), (nw, .inr (4, [.ref kk, .ref nk, .ref nd, .ref ne, .ref nm, .ref nn, .int 0, .int 0, .int 0, .int 0, .int 0])), (nd, .inr (1, [.ref nl, .ref na, .ref ns, .int 0, .int 0, .int 0])), (tx, .inr (7, [.ref by, .int 0, .int 0, .int 0, .int 0, .int 0, .ref wo, .ref fs, .ref sc, .int 0, .int 0, .int 0]))]) 0 0 := by
  refine kw_Mi.of (cc := cX10_howMany) (maxL := 2) (ret := (some .int)) (by decide) rfl ?_
  intro pZ eZ s mZ beZ meZ cZ A hE
  obtain ⟨hx, hb, hr, hml, hts, hown, hlocks, hin, hA, hP, hD, hK, hN⟩ := hE
  have hS : va_S A s.heap s.heap [] := va_S.rf
  have hl := lv_entry ([.ref g, .int 6]) (n := 2) (Nat.le_of_ble_eq_true rfl)
  rw [lg_entry_eq]
  generalize (lg_sl ([.ref g, .int 6]) ++ List.replicate (2 - (lg_sl ([.ref g, .int 6])).length) Slot.unset).toArray = ls at hl ⊢
  have hl : lv_has ls 2 [(0, .ref g), (1, .int 6)] := hl
  have f1 := hts (.fieldLink RX10 36 "GleanDusk" "now" "LGleanDusk$Parish;") (List.mem_of_getElem? (i := 1) rfl)
  have f2 := hts (.fieldLink RX10 250 "GleanDusk$Parish" "noteCount" "I") (List.mem_of_getElem? (i := 9) rfl)
  have i10 : ∀ w ∈ wsX100, w ∈ wsX10_howMany := fun _ h => List.mem_cons_of_mem _ (List.mem_append_left _ (List.mem_append_left _ (List.mem_append_left _ (List.mem_append_right _ h))))
  have i4 : ∀ w ∈ wsX40, w ∈ wsX10_howMany := fun _ h => List.mem_cons_of_mem _ (List.mem_append_left _ (List.mem_append_left _ (List.mem_append_right _ h)))
  refine lv_iload_n hx hb dX10_howMany_0 rfl (lv_at hl 1 rfl) ?_
  refine lv_tableIn (off := 104) (tgt := 105) hx hb dX10_howMany_1 (by decide) (by decide) (by decide +kernel) (by decide) ?_
  refine lv_aload_n hx hb dX10_howMany_105 rfl (lv_at hl 0 rfl) ?_
  refine va_get (D := D) (ci := 10) (v := .ref nw) (C := RX10) (T := TX10) (N := 12) hx hb hts i10 hown hK hP 0 rfl rfl 1 (by decide) f1 (fun _ h9 => h9) rfl dX10_howMany_106 ?_
  refine va_get (D := D) (ci := 4) (v := .int 0) (C := RX4) (T := TX4) (N := 11) hx hb hts i4 hown hK hP 1 rfl rfl 10 (by decide) f2 (fun _ h9 => h9) rfl dX10_howMany_109 ?_
  exact W.iret (v := 0) hx hb hr (fun tZ ht hW => ⟨⟨0, (), rfl, rfl, by rw [ht]; exact hP.sub [0, 1, 2, 3] rfl, hD.sub [0, 1, 2, 3] (by decide) rfl⟩, hS.F ht⟩) hS.2.2 dX10_howMany_112

set_option maxHeartbeats 4000000 in
set_option maxRecDepth 100000 in
theorem ct_howMany7 (l : Launch) (D : va_G) (y : Nat → ClassId) (g : Nat) (kk : Nat) (nw : Nat) (im : Nat) (kp : Nat) (tx : Nat) (tr : Nat) (be : Nat) (sh : Nat) (sd : Nat) (rf : Nat) (nk : Nat) (nd : Nat) (ne : Nat) (nm : Nat) (nn : Nat) (nl : Nat) (na : Nat) (ns : Nat) (by : Nat) (wo : Nat) (fs : Nat) (sc : Nat) : kw_Mi l yX10_howMany wsX10_howMany ({ frames := 1, cells := 0, slots := 0, locals := 40 }) D y [.ref g, .int 7] [(g, .inr (10, [.ref kk, .ref nw, .ref im, .ref kp, .ref tx, .ref tr, .ref be, .ref sh, .ref sd, .ref rf, .int 0, .int 1])), (nw, .inr (4, [.ref kk, .ref nk, .ref nd, .ref ne, .ref nm, .ref nn, .int 0, .int 0, .int 0, .int 0, .int 0])), (nd, .inr (1, [.ref nl, .ref na, .ref ns, .int 0, .int 0, .int 0])), (tx, .inr (7, [.ref by, .int 0, .int 0, .int 0, .int 0, .int 0, .ref wo, .ref fs, .ref sc, .int 0, .int 0, .int 0]))] (fun (r : Int32) (u : Unit) => r = 0) (fun _ => [(g, .inr (10, [.ref kk, .ref nw, .ref im, .ref kp, .ref tx, .ref tr, .ref be, .ref sh, .ref sd, .ref rf, .int 0, .int 1])), (nw, .inr (4, [.ref kk, .ref nk, .ref nd, .ref ne, .ref nm, .ref nn, .int 0, .int 0, .int 0, .int 0, .int 0])), (nd, .inr (1, [.ref nl, .ref na, .ref ns, .int 0, .int 0, .int 0])), (tx, .inr (7, [.ref by, .int 0, .int 0, .int 0, .int 0, .int 0, .ref wo, .ref fs, .ref sc, .int 0, .int 0, .int 0]))]) 0 0 := by
  refine kw_Mi.of (cc := cX10_howMany) (maxL := 2) (ret := (some .int)) (by decide) rfl ?_
  intro pZ eZ s mZ beZ meZ cZ A hE
  obtain ⟨hx, hb, hr, hml, hts, hown, hlocks, hin, hA, hP, hD, hK, hN⟩ := hE
  have hS : va_S A s.heap s.heap [] := va_S.rf
  have hl := lv_entry ([.ref g, .int 7]) (n := 2) (Nat.le_of_ble_eq_true rfl)
  rw [lg_entry_eq]
  generalize (lg_sl ([.ref g, .int 7]) ++ List.replicate (2 - (lg_sl ([.ref g, .int 7])).length) Slot.unset).toArray = ls at hl ⊢
  have hl : lv_has ls 2 [(0, .ref g), (1, .int 7)] := hl
  have f1 := hts (.fieldLink RX10 36 "GleanDusk" "now" "LGleanDusk$Parish;") (List.mem_of_getElem? (i := 1) rfl)
  have f2 := hts (.fieldLink RX10 176 "GleanDusk$Parish" "undoable" "I") (List.mem_of_getElem? (i := 10) rfl)
  have i10 : ∀ w ∈ wsX100, w ∈ wsX10_howMany := fun _ h => List.mem_cons_of_mem _ (List.mem_append_left _ (List.mem_append_left _ (List.mem_append_left _ (List.mem_append_right _ h))))
  have i4 : ∀ w ∈ wsX40, w ∈ wsX10_howMany := fun _ h => List.mem_cons_of_mem _ (List.mem_append_left _ (List.mem_append_left _ (List.mem_append_right _ h)))
  refine lv_iload_n hx hb dX10_howMany_0 rfl (lv_at hl 1 rfl) ?_
  refine lv_tableIn (off := 112) (tgt := 113) hx hb dX10_howMany_1 (by decide) (by decide) (by decide +kernel) (by decide) ?_
  refine lv_aload_n hx hb dX10_howMany_113 rfl (lv_at hl 0 rfl) ?_
  refine va_get (D := D) (ci := 10) (v := .ref nw) (C := RX10) (T := TX10) (N := 12) hx hb hts i10 hown hK hP 0 rfl rfl 1 (by decide) f1 (fun _ h9 => h9) rfl dX10_howMany_114 ?_
  refine va_get (D := D) (ci := 4) (v := .int 0) (C := RX4) (T := TX4) (N := 11) hx hb hts i4 hown hK hP 1 rfl rfl 8 (by decide) f2 (fun _ h9 => h9) rfl dX10_howMany_117 ?_
  exact W.iret (v := 0) hx hb hr (fun tZ ht hW => ⟨⟨0, (), rfl, rfl, by rw [ht]; exact hP.sub [0, 1, 2, 3] rfl, hD.sub [0, 1, 2, 3] (by decide) rfl⟩, hS.F ht⟩) hS.2.2 dX10_howMany_120

set_option maxHeartbeats 4000000 in
set_option maxRecDepth 100000 in
theorem ct_howMany8 (l : Launch) (D : va_G) (y : Nat → ClassId) (g : Nat) (kk : Nat) (nw : Nat) (im : Nat) (kp : Nat) (tx : Nat) (tr : Nat) (be : Nat) (sh : Nat) (sd : Nat) (rf : Nat) (nk : Nat) (nd : Nat) (ne : Nat) (nm : Nat) (nn : Nat) (nl : Nat) (na : Nat) (ns : Nat) (by : Nat) (wo : Nat) (fs : Nat) (sc : Nat) : kw_Mi l yX10_howMany wsX10_howMany ({ frames := 1, cells := 0, slots := 0, locals := 40 }) D y [.ref g, .int 8] [(g, .inr (10, [.ref kk, .ref nw, .ref im, .ref kp, .ref tx, .ref tr, .ref be, .ref sh, .ref sd, .ref rf, .int 0, .int 1])), (nw, .inr (4, [.ref kk, .ref nk, .ref nd, .ref ne, .ref nm, .ref nn, .int 0, .int 0, .int 0, .int 0, .int 0])), (nd, .inr (1, [.ref nl, .ref na, .ref ns, .int 0, .int 0, .int 0])), (tx, .inr (7, [.ref by, .int 0, .int 0, .int 0, .int 0, .int 0, .ref wo, .ref fs, .ref sc, .int 0, .int 0, .int 0]))] (fun (r : Int32) (u : Unit) => r = 0) (fun _ => [(g, .inr (10, [.ref kk, .ref nw, .ref im, .ref kp, .ref tx, .ref tr, .ref be, .ref sh, .ref sd, .ref rf, .int 0, .int 1])), (nw, .inr (4, [.ref kk, .ref nk, .ref nd, .ref ne, .ref nm, .ref nn, .int 0, .int 0, .int 0, .int 0, .int 0])), (nd, .inr (1, [.ref nl, .ref na, .ref ns, .int 0, .int 0, .int 0])), (tx, .inr (7, [.ref by, .int 0, .int 0, .int 0, .int 0, .int 0, .ref wo, .ref fs, .ref sc, .int 0, .int 0, .int 0]))]) 0 0 := by
  refine kw_Mi.of (cc := cX10_howMany) (maxL := 2) (ret := (some .int)) (by decide) rfl ?_
  intro pZ eZ s mZ beZ meZ cZ A hE
  obtain ⟨hx, hb, hr, hml, hts, hown, hlocks, hin, hA, hP, hD, hK, hN⟩ := hE
  have hS : va_S A s.heap s.heap [] := va_S.rf
  have hl := lv_entry ([.ref g, .int 8]) (n := 2) (Nat.le_of_ble_eq_true rfl)
  rw [lg_entry_eq]
  generalize (lg_sl ([.ref g, .int 8]) ++ List.replicate (2 - (lg_sl ([.ref g, .int 8])).length) Slot.unset).toArray = ls at hl ⊢
  have hl : lv_has ls 2 [(0, .ref g), (1, .int 8)] := hl
  have f1 := hts (.fieldLink RX10 51 "GleanDusk" "text" "LGleanDusk$Text;") (List.mem_of_getElem? (i := 11) rfl)
  have f2 := hts (.fieldLink RX10 122 "GleanDusk$Text" "length" "I") (List.mem_of_getElem? (i := 12) rfl)
  have i10 : ∀ w ∈ wsX100, w ∈ wsX10_howMany := fun _ h => List.mem_cons_of_mem _ (List.mem_append_left _ (List.mem_append_left _ (List.mem_append_left _ (List.mem_append_right _ h))))
  have i7 : ∀ w ∈ wsX70, w ∈ wsX10_howMany := fun _ h => List.mem_cons_of_mem _ (List.mem_append_right _ h)
  refine lv_iload_n hx hb dX10_howMany_0 rfl (lv_at hl 1 rfl) ?_
  refine lv_tableOut (tgt := 121) hx hb dX10_howMany_1 (by decide) (by decide) ?_
  refine lv_aload_n hx hb dX10_howMany_121 rfl (lv_at hl 0 rfl) ?_
  refine va_get (D := D) (ci := 10) (v := .ref tx) (C := RX10) (T := TX10) (N := 12) hx hb hts i10 hown hK hP 0 rfl rfl 4 (by decide) f1 (fun _ h9 => h9) rfl dX10_howMany_122 ?_
  refine va_get (D := D) (ci := 7) (v := .int 0) (C := RX7) (T := TX7) (N := 12) hx hb hts i7 hown hK hP 3 rfl rfl 1 (by decide) f2 (fun _ h9 => h9) rfl dX10_howMany_125 ?_
  exact W.iret (v := 0) hx hb hr (fun tZ ht hW => ⟨⟨0, (), rfl, rfl, by rw [ht]; exact hP.sub [0, 1, 2, 3] rfl, hD.sub [0, 1, 2, 3] (by decide) rfl⟩, hS.F ht⟩) hS.2.2 dX10_howMany_128

set_option maxHeartbeats 4000000 in
set_option maxRecDepth 100000 in
theorem ct_gather (l : Launch) (D : va_G) (y : Nat → ClassId) (nw : Nat) (kk : Nat) (nk : Nat) (nd : Nat) (ne : Nat) (nm : Nat) (nn : Nat) (d : Nat) (dl : Nat) (da : Nat) (ds : Nat) (st : Int32) (cl : Int32) (nu : Int32) (un : Int32) (NN : Nat) (hNN : NN < 2147483648): kw_Mi l yX4_gather wsX4_gather ({ frames := 1, cells := 0, slots := 0, locals := 40 }) D y [.ref nw, .ref d, .int (nI NN)] [(nw, .inr (4, [.ref kk, .ref nk, .ref nd, .ref ne, .ref nm, .ref nn, .int 0, .int 0, .int un, .int 0, .int 0])), (d, .inr (1, [.ref dl, .ref da, .ref ds, .int st, .int cl, .int nu]))] (fun (r : Int32) (u : Int32) => (nI NN) ≤ (nI j9) ∧ r = 0) (fun u => [(nw, .inr (4, [.ref kk, .ref nk, .ref nd, .ref ne, .ref nm, .ref nn, .int 0, .int 0, .int un, .int 0, .int 0])), (d, .inr (1, [.ref dl, .ref da, .ref ds, .int u, .int cl, .int nu]))]) 0 0 := by
  refine kw_Mi.of (cc := cX4_gather) (maxL := 6) (ret := (some .int)) (by decide) rfl ?_
  intro pZ eZ s mZ beZ meZ cZ A hE
  obtain ⟨hx, hb, hr, hml, hts, hown, hlocks, hin, hA, hP, hD, hK, hN⟩ := hE
  have hS : va_S A s.heap s.heap [] := va_S.rf
  have hl := lv_entry ([.ref nw, .ref d, .int (nI NN)]) (n := 6) (Nat.le_of_ble_eq_true rfl)
  rw [lg_entry_eq]
  generalize (lg_sl ([.ref nw, .ref d, .int (nI NN)]) ++ List.replicate (6 - (lg_sl ([.ref nw, .ref d, .int (nI NN)])).length) Slot.unset).toArray = ls at hl ⊢
  have hl : lv_has ls 6 [(0, .ref nw), (1, .ref d), (2, .int (nI NN))] := hl
  have f1 := hts (.fieldLink RX4 38 "GleanDusk$Parish" "fields" "I") (List.mem_of_getElem? (i := 1) rfl)
  have f2 := hts (.fieldLink RX4 54 "GleanDusk$Dusk" "step" "I") (List.mem_of_getElem? (i := 2) rfl)
  have i4 : ∀ w ∈ wsX40, w ∈ wsX4_gather := fun _ h => List.mem_cons_of_mem _ (List.mem_append_left _ (List.mem_append_right _ h))
  have i1 : ∀ w ∈ wsX10, w ∈ wsX4_gather := fun _ h => List.mem_cons_of_mem _ (List.mem_append_right _ h)
  refine lv_iconst (v := 0) hx hb dX4_gather_0 (by decide) ?_
  refine lv_istore_n (lv' := [(3, .int 0), (0, .ref nw), (1, .ref d), (2, .int (nI NN))]) hx hb dX4_gather_1 rfl hl (by decide) rfl (fun ls hl => ?_)
  refine lv_iconst (v := 0) hx hb dX4_gather_2 (by decide) ?_
  refine lv_istore (lv' := [(4, .int 0), (3, .int 0), (0, .ref nw), (1, .ref d), (2, .int (nI NN))]) hx hb dX4_gather_3 hl (by decide) rfl (fun ls hl => ?_)
  have lp1 : ∀ (f9 j9 : Nat) (st9 : Int32) (H : Heap) (locs : List Loc) (ls : Array Slot), j9 ≤ NN → NN - j9 < f9 → va_P D vwCl [(nw, .inr (4, [.ref kk, .ref nk, .ref nd, .ref ne, .ref nm, .ref nn, .int 0, .int 0, .int un, .int 0, .int 0])), (d, .inr (1, [.ref dl, .ref da, .ref ds, .int st9, .int cl, .int nu]))] H → va_D A [(nw, .inr (4, [.ref kk, .ref nk, .ref nd, .ref ne, .ref nm, .ref nn, .int 0, .int 0, .int un, .int 0, .int 0])), (d, .inr (1, [.ref dl, .ref da, .ref ds, .int st9, .int cl, .int nu]))] → va_S A s.heap H locs → lv_has ls 6 [(4, .int (nI j9)), (3, .int 0), (0, .ref nw), (1, .ref d), (2, .int (nI NN))] → W pZ l eZ ({ frames := 1, cells := 0, slots := 0, locals := 40 }) s mZ [.ref nw, .ref d, .int (nI NN)].toArray beZ meZ cZ H locs 0 0 (MQ beZ (va_Qi (fun (r : Int32) (u : Int32) => (nI NN) ≤ (nI j9) ∧ r = 0) (kw_B D (fun u => [(nw, .inr (4, [.ref kk, .ref nk, .ref nd, .ref ne, .ref nm, .ref nn, .int 0, .int 0, .int un, .int 0, .int 0])), (d, .inr (1, [.ref dl, .ref da, .ref ds, .int u, .int cl, .int nu]))]) A) A) [.ref nw, .ref d, .int (nI NN)].toArray s 0 0 A) (F0 mZ 5 ls []) := by
    intro f9
    induction f9 with
    | zero => intro j9 st9 H locs ls hj9 hf9; exact absurd hf9 (Nat.not_lt_zero _)
    | succ f9 ih =>
      intro j9 st9 H locs ls hj9 hf9  hP hD hS hl
      refine lv_iload hx hb dX4_gather_5 (lv_at hl 0 rfl) ?_
      refine lv_iload_n hx hb dX4_gather_7 rfl (lv_at hl 4 rfl) ?_
      refine lv_icmp_ge (tgt := 62) hx hb dX4_gather_8 (by decide) (fun h2 => ?_) (fun h3 => ?_)
      · skip
        refine lv_iload_n hx hb dX4_gather_62 rfl (lv_at hl 1 rfl) ?_
        exact W.iret (v := 0) hx hb hr (fun tZ ht hW => ⟨⟨0, st9, rfl, ⟨h2, rfl⟩, by rw [ht]; exact hP.sub [0, 1] rfl, hD.sub [0, 1] (by decide) rfl⟩, hS.F ht⟩) hS.2.2 dX4_gather_63
      · skip
        refine lv_iconst (v := 0) hx hb dX4_gather_11 (by decide) ?_
        refine lv_istore (lv' := [(5, .int 0), (4, .int (nI j9)), (3, .int 0), (0, .ref nw), (1, .ref d), (2, .int (nI NN))]) hx hb dX4_gather_12 hl (by decide) rfl (fun ls hl => ?_)
        refine lv_iload hx hb dX4_gather_14 (lv_at hl 0 rfl) ?_
        refine lv_aload_n hx hb dX4_gather_16 rfl (lv_at hl 3 rfl) ?_
        refine va_get (D := D) (ci := 4) (v := .int 0) (C := RX4) (T := TX4) (N := 11) hx hb hts i4 hown hK hP 0 rfl rfl 6 (by decide) f1 (fun _ h9 => h9) rfl dX4_gather_17 ?_
        refine lv_icmp_ge (tgt := 46) hx hb dX4_gather_20 (by decide) (fun _ => ?_) (fun h9 => absurd h9 (by decide))
        refine lv_aload_n hx hb dX4_gather_46 rfl (lv_at hl 4 rfl) ?_
        refine lv_dup hx hb dX4_gather_47 rfl ?_
        refine va_get (D := D) (ci := 1) (v := .int st9) (C := RX1) (T := TX1) (N := 6) hx hb hts i1 hown hK hP 1 rfl rfl 3 (by decide) f2 (fun _ h9 => h9) rfl dX4_gather_48 ?_
        refine lv_iconst (v := 1) hx hb dX4_gather_51 (by decide) ?_
        refine lv_iadd hx hb dX4_gather_52 ?_
        refine va_put (D := D) (ci := 1) (v := .int (st9 + 1)) (ty := .int) (C := RX1) (T := TX1) (N := 6) hx hb hts i1 tyX1 tyX1_ok nmX1 hown hK hP hD hS 1 rfl rfl 3 (by decide) f2 (fun _ h9 => h9) rfl (by decide +kernel) rfl rfl (Nat.le_of_ble_eq_true rfl) dX4_gather_53 (fun H locs hP hD hS => ?_)
        have hP : va_P D vwCl [(nw, .inr (4, [.ref kk, .ref nk, .ref nd, .ref ne, .ref nm, .ref nn, .int 0, .int 0, .int un, .int 0, .int 0])), (d, .inr (1, [.ref dl, .ref da, .ref ds, .int (st9 + 1), .int cl, .int nu]))] H := hP
        have hD : va_D A [(nw, .inr (4, [.ref kk, .ref nk, .ref nd, .ref ne, .ref nm, .ref nn, .int 0, .int 0, .int un, .int 0, .int 0])), (d, .inr (1, [.ref dl, .ref da, .ref ds, .int (st9 + 1), .int cl, .int nu]))] := hD
        refine lv_iinc (v := ((nI j9) + 1)) (lv' := [(4, .int ((nI j9) + 1)), (5, .int 0), (3, .int 0), (0, .ref nw), (1, .ref d), (2, .int (nI NN))]) hx hb dX4_gather_56 hl (k := 1) rfl (rfl) (by decide) rfl (fun ls hl => ?_)
        refine lv_goto (tgt := 5) hx hb dX4_gather_59 (by decide) ?_
        have hlt9 : j9 < NN := kw_nlt (nI_toInt (by omega)) (by omega) h3
        rw [nI_1 j9] at hl
        exact ih (j9 + 1) (st9 + 1) H locs ls (by omega) (by omega)  (hP.sub [0, 1] rfl) (hD.sub [0, 1] (by decide) rfl) hS (lv_sub hl [0, 2, 3, 4, 5] rfl)
  exact lp1 (NN + 1) 0 st _ _ _ (Nat.zero_le _) (by omega)  hP hD hS (lv_sub hl [0, 1, 2, 3, 4] rfl)
end
