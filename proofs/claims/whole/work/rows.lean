section
-- ===== PART A: goes FIRST, ahead of the names: the tables' words, and 'selects' of the private methods out of them =====
/-- a private method of a class that the tables say can be made, by its rows of tables_1 -/
def lw_okq (q : MethodName × Nat) : Prop := (q.1.cls ≠ "java/lang/invoke/MethodHandle" ∧ q.1.cls ≠ "java/lang/invoke/VarHandle") ∧ Cond.instantiable q.1.cls q.2 ∈ tables_1 ∧ Cond.privateMethod q.1 ∈ tables_1 ∧ Cond.instanceMethod q.1 ∈ tables_1
theorem lw_p0 : lw_okq (⟨"CountedMissing$Reader", "takes", "(ILCountedMissing$Folk;)Z"⟩, 2) := ⟨⟨by decide +kernel, by decide +kernel⟩, List.mem_of_getElem? (i := 35) (by decide +kernel), List.mem_of_getElem? (i := 269) (by decide +kernel), List.mem_of_getElem? (i := 270) (by decide +kernel)⟩
theorem lw_p1 : lw_okq (⟨"CountedMissing$Reader", "takesPart", "(ILCountedMissing$Folk;)Z"⟩, 2) := ⟨⟨by decide +kernel, by decide +kernel⟩, List.mem_of_getElem? (i := 35) (by decide +kernel), List.mem_of_getElem? (i := 273) (by decide +kernel), List.mem_of_getElem? (i := 274) (by decide +kernel)⟩
theorem lw_p2 : lw_okq (⟨"CountedMissing$Reader", "takesOfPerson", "(ILCountedMissing$Folk;)Z"⟩, 2) := ⟨⟨by decide +kernel, by decide +kernel⟩, List.mem_of_getElem? (i := 35) (by decide +kernel), List.mem_of_getElem? (i := 281) (by decide +kernel), List.mem_of_getElem? (i := 282) (by decide +kernel)⟩
theorem lw_p3 : lw_okq (⟨"CountedMissing$Reader", "takesOfPair", "(ILCountedMissing$Folk;)Z"⟩, 2) := ⟨⟨by decide +kernel, by decide +kernel⟩, List.mem_of_getElem? (i := 35) (by decide +kernel), List.mem_of_getElem? (i := 289) (by decide +kernel), List.mem_of_getElem? (i := 290) (by decide +kernel)⟩
theorem lw_p4 : lw_okq (⟨"CountedMissing", "aliveBits", "()I"⟩, 11) := ⟨⟨by decide +kernel, by decide +kernel⟩, List.mem_of_getElem? (i := 13) (by decide +kernel), List.mem_of_getElem? (i := 326) (by decide +kernel), List.mem_of_getElem? (i := 327) (by decide +kernel)⟩
theorem lw_p5 : lw_okq (⟨"CountedMissing", "everybody", "()I"⟩, 11) := ⟨⟨by decide +kernel, by decide +kernel⟩, List.mem_of_getElem? (i := 13) (by decide +kernel), List.mem_of_getElem? (i := 334) (by decide +kernel), List.mem_of_getElem? (i := 335) (by decide +kernel)⟩
theorem lw_p6 : lw_okq (⟨"CountedMissing", "missedOf", "(I)I"⟩, 11) := ⟨⟨by decide +kernel, by decide +kernel⟩, List.mem_of_getElem? (i := 13) (by decide +kernel), List.mem_of_getElem? (i := 338) (by decide +kernel), List.mem_of_getElem? (i := 339) (by decide +kernel)⟩
theorem lw_p7 : lw_okq (⟨"CountedMissing", "missedBy", "(II)I"⟩, 11) := ⟨⟨by decide +kernel, by decide +kernel⟩, List.mem_of_getElem? (i := 13) (by decide +kernel), List.mem_of_getElem? (i := 342) (by decide +kernel), List.mem_of_getElem? (i := 343) (by decide +kernel)⟩
theorem lw_p8 : lw_okq (⟨"CountedMissing", "isAtHome", "(I)Z"⟩, 11) := ⟨⟨by decide +kernel, by decide +kernel⟩, List.mem_of_getElem? (i := 13) (by decide +kernel), List.mem_of_getElem? (i := 346) (by decide +kernel), List.mem_of_getElem? (i := 347) (by decide +kernel)⟩
theorem lw_p9 : lw_okq (⟨"CountedMissing", "rememberedBy", "(II)I"⟩, 11) := ⟨⟨by decide +kernel, by decide +kernel⟩, List.mem_of_getElem? (i := 13) (by decide +kernel), List.mem_of_getElem? (i := 350) (by decide +kernel), List.mem_of_getElem? (i := 351) (by decide +kernel)⟩
theorem lw_p10 : lw_okq (⟨"CountedMissing", "isMissing", "(II)Z"⟩, 11) := ⟨⟨by decide +kernel, by decide +kernel⟩, List.mem_of_getElem? (i := 13) (by decide +kernel), List.mem_of_getElem? (i := 354) (by decide +kernel), List.mem_of_getElem? (i := 355) (by decide +kernel)⟩
theorem lw_p11 : lw_okq (⟨"CountedMissing", "countOf", "(I)I"⟩, 11) := ⟨⟨by decide +kernel, by decide +kernel⟩, List.mem_of_getElem? (i := 13) (by decide +kernel), List.mem_of_getElem? (i := 379) (by decide +kernel), List.mem_of_getElem? (i := 380) (by decide +kernel)⟩
theorem lw_p12 : lw_okq (⟨"CountedMissing", "fillMisses", "()V"⟩, 11) := ⟨⟨by decide +kernel, by decide +kernel⟩, List.mem_of_getElem? (i := 13) (by decide +kernel), List.mem_of_getElem? (i := 387) (by decide +kernel), List.mem_of_getElem? (i := 388) (by decide +kernel)⟩
theorem lw_p13 : lw_okq (⟨"CountedMissing", "countMissedBy", "(I)I"⟩, 11) := ⟨⟨by decide +kernel, by decide +kernel⟩, List.mem_of_getElem? (i := 13) (by decide +kernel), List.mem_of_getElem? (i := 391) (by decide +kernel), List.mem_of_getElem? (i := 392) (by decide +kernel)⟩
theorem lw_p14 : lw_okq (⟨"CountedMissing", "trulyIn", "(I)I"⟩, 11) := ⟨⟨by decide +kernel, by decide +kernel⟩, List.mem_of_getElem? (i := 13) (by decide +kernel), List.mem_of_getElem? (i := 413) (by decide +kernel), List.mem_of_getElem? (i := 414) (by decide +kernel)⟩
theorem lw_p15 : lw_okq (⟨"CountedMissing", "missingOf", "(I)I"⟩, 11) := ⟨⟨by decide +kernel, by decide +kernel⟩, List.mem_of_getElem? (i := 13) (by decide +kernel), List.mem_of_getElem? (i := 417) (by decide +kernel), List.mem_of_getElem? (i := 418) (by decide +kernel)⟩
def lw_privs_1 : List (MethodName × Nat) := [(⟨"CountedMissing$Reader", "takes", "(ILCountedMissing$Folk;)Z"⟩, 2), (⟨"CountedMissing$Reader", "takesPart", "(ILCountedMissing$Folk;)Z"⟩, 2), (⟨"CountedMissing$Reader", "takesOfPerson", "(ILCountedMissing$Folk;)Z"⟩, 2), (⟨"CountedMissing$Reader", "takesOfPair", "(ILCountedMissing$Folk;)Z"⟩, 2), (⟨"CountedMissing", "aliveBits", "()I"⟩, 11), (⟨"CountedMissing", "everybody", "()I"⟩, 11), (⟨"CountedMissing", "missedOf", "(I)I"⟩, 11), (⟨"CountedMissing", "missedBy", "(II)I"⟩, 11), (⟨"CountedMissing", "isAtHome", "(I)Z"⟩, 11), (⟨"CountedMissing", "rememberedBy", "(II)I"⟩, 11), (⟨"CountedMissing", "isMissing", "(II)Z"⟩, 11), (⟨"CountedMissing", "countOf", "(I)I"⟩, 11), (⟨"CountedMissing", "fillMisses", "()V"⟩, 11), (⟨"CountedMissing", "countMissedBy", "(I)I"⟩, 11), (⟨"CountedMissing", "trulyIn", "(I)I"⟩, 11), (⟨"CountedMissing", "missingOf", "(I)I"⟩, 11)]
theorem lw_r1 : ∀ q ∈ lw_privs_1, lw_okq q := List.forall_mem_cons.mpr ⟨lw_p0, List.forall_mem_cons.mpr ⟨lw_p1, List.forall_mem_cons.mpr ⟨lw_p2, List.forall_mem_cons.mpr ⟨lw_p3, List.forall_mem_cons.mpr ⟨lw_p4, List.forall_mem_cons.mpr ⟨lw_p5, List.forall_mem_cons.mpr ⟨lw_p6, List.forall_mem_cons.mpr ⟨lw_p7, List.forall_mem_cons.mpr ⟨lw_p8, List.forall_mem_cons.mpr ⟨lw_p9, List.forall_mem_cons.mpr ⟨lw_p10, List.forall_mem_cons.mpr ⟨lw_p11, List.forall_mem_cons.mpr ⟨lw_p12, List.forall_mem_cons.mpr ⟨lw_p13, List.forall_mem_cons.mpr ⟨lw_p14, List.forall_mem_cons.mpr ⟨lw_p15, fun _ h => absurd h List.not_mem_nil⟩⟩⟩⟩⟩⟩⟩⟩⟩⟩⟩⟩⟩⟩⟩⟩
theorem lw_p16 : lw_okq (⟨"CountedMissing", "isMissed", "(II)Z"⟩, 11) := ⟨⟨by decide +kernel, by decide +kernel⟩, List.mem_of_getElem? (i := 13) (by decide +kernel), List.mem_of_getElem? (i := 465) (by decide +kernel), List.mem_of_getElem? (i := 466) (by decide +kernel)⟩
theorem lw_p17 : lw_okq (⟨"CountedMissing", "mostCountByLies", "(I)I"⟩, 11) := ⟨⟨by decide +kernel, by decide +kernel⟩, List.mem_of_getElem? (i := 13) (by decide +kernel), List.mem_of_getElem? (i := 473) (by decide +kernel), List.mem_of_getElem? (i := 474) (by decide +kernel)⟩
theorem lw_p18 : lw_okq (⟨"CountedMissing", "atHomeIn", "(I)I"⟩, 11) := ⟨⟨by decide +kernel, by decide +kernel⟩, List.mem_of_getElem? (i := 13) (by decide +kernel), List.mem_of_getElem? (i := 481) (by decide +kernel), List.mem_of_getElem? (i := 482) (by decide +kernel)⟩
theorem lw_p19 : lw_okq (⟨"CountedMissing", "fewestToLeave", "(II)I"⟩, 11) := ⟨⟨by decide +kernel, by decide +kernel⟩, List.mem_of_getElem? (i := 13) (by decide +kernel), List.mem_of_getElem? (i := 485) (by decide +kernel), List.mem_of_getElem? (i := 486) (by decide +kernel)⟩
theorem lw_p20 : lw_okq (⟨"CountedMissing", "countIfAway", "(II)I"⟩, 11) := ⟨⟨by decide +kernel, by decide +kernel⟩, List.mem_of_getElem? (i := 13) (by decide +kernel), List.mem_of_getElem? (i := 497) (by decide +kernel), List.mem_of_getElem? (i := 498) (by decide +kernel)⟩
theorem lw_p21 : lw_okq (⟨"CountedMissing", "setsWithout", "(III)I"⟩, 11) := ⟨⟨by decide +kernel, by decide +kernel⟩, List.mem_of_getElem? (i := 13) (by decide +kernel), List.mem_of_getElem? (i := 511) (by decide +kernel), List.mem_of_getElem? (i := 512) (by decide +kernel)⟩
theorem lw_p22 : lw_okq (⟨"CountedMissing$Retelling", "countIn", "(LCountedMissing$Folk;II)I"⟩, 6) := ⟨⟨by decide +kernel, by decide +kernel⟩, List.mem_of_getElem? (i := 61) (by decide +kernel), List.mem_of_getElem? (i := 534) (by decide +kernel), List.mem_of_getElem? (i := 535) (by decide +kernel)⟩
theorem lw_p23 : lw_okq (⟨"CountedMissing$Retelling", "leftSince", "(II)I"⟩, 6) := ⟨⟨by decide +kernel, by decide +kernel⟩, List.mem_of_getElem? (i := 61) (by decide +kernel), List.mem_of_getElem? (i := 540) (by decide +kernel), List.mem_of_getElem? (i := 541) (by decide +kernel)⟩
theorem lw_p24 : lw_okq (⟨"CountedMissingModel", "readCensus", "()I"⟩, 33) := ⟨⟨by decide +kernel, by decide +kernel⟩, List.mem_of_getElem? (i := 569) (by decide +kernel), List.mem_of_getElem? (i := 691) (by decide +kernel), List.mem_of_getElem? (i := 692) (by decide +kernel)⟩
theorem lw_p25 : lw_okq (⟨"CountedMissingModel", "figure", "(III)I"⟩, 33) := ⟨⟨by decide +kernel, by decide +kernel⟩, List.mem_of_getElem? (i := 569) (by decide +kernel), List.mem_of_getElem? (i := 695) (by decide +kernel), List.mem_of_getElem? (i := 696) (by decide +kernel)⟩
theorem lw_p26 : lw_okq (⟨"CountedMissingModel", "readPart", "()Z"⟩, 33) := ⟨⟨by decide +kernel, by decide +kernel⟩, List.mem_of_getElem? (i := 569) (by decide +kernel), List.mem_of_getElem? (i := 699) (by decide +kernel), List.mem_of_getElem? (i := 700) (by decide +kernel)⟩
theorem lw_p27 : lw_okq (⟨"CountedMissingModel", "readPerson", "()Z"⟩, 33) := ⟨⟨by decide +kernel, by decide +kernel⟩, List.mem_of_getElem? (i := 569) (by decide +kernel), List.mem_of_getElem? (i := 703) (by decide +kernel), List.mem_of_getElem? (i := 704) (by decide +kernel)⟩
theorem lw_p28 : lw_okq (⟨"CountedMissingModel", "hasLeft", "()Z"⟩, 33) := ⟨⟨by decide +kernel, by decide +kernel⟩, List.mem_of_getElem? (i := 569) (by decide +kernel), List.mem_of_getElem? (i := 707) (by decide +kernel), List.mem_of_getElem? (i := 708) (by decide +kernel)⟩
theorem lw_p29 : lw_okq (⟨"CountedMissingModel", "left", "(I)I"⟩, 33) := ⟨⟨by decide +kernel, by decide +kernel⟩, List.mem_of_getElem? (i := 569) (by decide +kernel), List.mem_of_getElem? (i := 711) (by decide +kernel), List.mem_of_getElem? (i := 712) (by decide +kernel)⟩
theorem lw_p30 : lw_okq (⟨"CountedMissingModel", "readAsk", "()Z"⟩, 33) := ⟨⟨by decide +kernel, by decide +kernel⟩, List.mem_of_getElem? (i := 569) (by decide +kernel), List.mem_of_getElem? (i := 715) (by decide +kernel), List.mem_of_getElem? (i := 716) (by decide +kernel)⟩
theorem lw_p31 : lw_okq (⟨"CountedMissingModel", "missed", "(I)I"⟩, 33) := ⟨⟨by decide +kernel, by decide +kernel⟩, List.mem_of_getElem? (i := 569) (by decide +kernel), List.mem_of_getElem? (i := 733) (by decide +kernel), List.mem_of_getElem? (i := 734) (by decide +kernel)⟩
def lw_privs_2 : List (MethodName × Nat) := [(⟨"CountedMissing", "isMissed", "(II)Z"⟩, 11), (⟨"CountedMissing", "mostCountByLies", "(I)I"⟩, 11), (⟨"CountedMissing", "atHomeIn", "(I)I"⟩, 11), (⟨"CountedMissing", "fewestToLeave", "(II)I"⟩, 11), (⟨"CountedMissing", "countIfAway", "(II)I"⟩, 11), (⟨"CountedMissing", "setsWithout", "(III)I"⟩, 11), (⟨"CountedMissing$Retelling", "countIn", "(LCountedMissing$Folk;II)I"⟩, 6), (⟨"CountedMissing$Retelling", "leftSince", "(II)I"⟩, 6), (⟨"CountedMissingModel", "readCensus", "()I"⟩, 33), (⟨"CountedMissingModel", "figure", "(III)I"⟩, 33), (⟨"CountedMissingModel", "readPart", "()Z"⟩, 33), (⟨"CountedMissingModel", "readPerson", "()Z"⟩, 33), (⟨"CountedMissingModel", "hasLeft", "()Z"⟩, 33), (⟨"CountedMissingModel", "left", "(I)I"⟩, 33), (⟨"CountedMissingModel", "readAsk", "()Z"⟩, 33), (⟨"CountedMissingModel", "missed", "(I)I"⟩, 33)]
theorem lw_r2 : ∀ q ∈ lw_privs_2, lw_okq q := List.forall_mem_cons.mpr ⟨lw_p16, List.forall_mem_cons.mpr ⟨lw_p17, List.forall_mem_cons.mpr ⟨lw_p18, List.forall_mem_cons.mpr ⟨lw_p19, List.forall_mem_cons.mpr ⟨lw_p20, List.forall_mem_cons.mpr ⟨lw_p21, List.forall_mem_cons.mpr ⟨lw_p22, List.forall_mem_cons.mpr ⟨lw_p23, List.forall_mem_cons.mpr ⟨lw_p24, List.forall_mem_cons.mpr ⟨lw_p25, List.forall_mem_cons.mpr ⟨lw_p26, List.forall_mem_cons.mpr ⟨lw_p27, List.forall_mem_cons.mpr ⟨lw_p28, List.forall_mem_cons.mpr ⟨lw_p29, List.forall_mem_cons.mpr ⟨lw_p30, List.forall_mem_cons.mpr ⟨lw_p31, fun _ h => absurd h List.not_mem_nil⟩⟩⟩⟩⟩⟩⟩⟩⟩⟩⟩⟩⟩⟩⟩⟩
theorem lw_p32 : lw_okq (⟨"CountedMissingModel", "misses", "(II)I"⟩, 33) := ⟨⟨by decide +kernel, by decide +kernel⟩, List.mem_of_getElem? (i := 569) (by decide +kernel), List.mem_of_getElem? (i := 737) (by decide +kernel), List.mem_of_getElem? (i := 738) (by decide +kernel)⟩
theorem lw_p33 : lw_okq (⟨"CountedMissingModel", "isThere", "(I)Z"⟩, 33) := ⟨⟨by decide +kernel, by decide +kernel⟩, List.mem_of_getElem? (i := 569) (by decide +kernel), List.mem_of_getElem? (i := 741) (by decide +kernel), List.mem_of_getElem? (i := 742) (by decide +kernel)⟩
theorem lw_p34 : lw_okq (⟨"CountedMissingModel", "isMissing", "(II)Z"⟩, 33) := ⟨⟨by decide +kernel, by decide +kernel⟩, List.mem_of_getElem? (i := 569) (by decide +kernel), List.mem_of_getElem? (i := 745) (by decide +kernel), List.mem_of_getElem? (i := 746) (by decide +kernel)⟩
theorem lw_p35 : lw_okq (⟨"CountedMissingModel", "away", "(I)I"⟩, 33) := ⟨⟨by decide +kernel, by decide +kernel⟩, List.mem_of_getElem? (i := 569) (by decide +kernel), List.mem_of_getElem? (i := 749) (by decide +kernel), List.mem_of_getElem? (i := 750) (by decide +kernel)⟩
theorem lw_p36 : lw_okq (⟨"CountedMissingModel", "remembers", "(III)Z"⟩, 33) := ⟨⟨by decide +kernel, by decide +kernel⟩, List.mem_of_getElem? (i := 569) (by decide +kernel), List.mem_of_getElem? (i := 753) (by decide +kernel), List.mem_of_getElem? (i := 754) (by decide +kernel)⟩
theorem lw_p37 : lw_okq (⟨"CountedMissingModel", "noOne", "(I)Z"⟩, 33) := ⟨⟨by decide +kernel, by decide +kernel⟩, List.mem_of_getElem? (i := 569) (by decide +kernel), List.mem_of_getElem? (i := 761) (by decide +kernel), List.mem_of_getElem? (i := 762) (by decide +kernel)⟩
theorem lw_p38 : lw_okq (⟨"CountedMissingModel", "noTown", "(I)Z"⟩, 33) := ⟨⟨by decide +kernel, by decide +kernel⟩, List.mem_of_getElem? (i := 569) (by decide +kernel), List.mem_of_getElem? (i := 769) (by decide +kernel), List.mem_of_getElem? (i := 770) (by decide +kernel)⟩
theorem lw_p39 : lw_okq (⟨"CountedMissingModel", "count", "(II)I"⟩, 33) := ⟨⟨by decide +kernel, by decide +kernel⟩, List.mem_of_getElem? (i := 569) (by decide +kernel), List.mem_of_getElem? (i := 773) (by decide +kernel), List.mem_of_getElem? (i := 774) (by decide +kernel)⟩
theorem lw_p40 : lw_okq (⟨"CountedMissingModel", "counted", "(II)I"⟩, 33) := ⟨⟨by decide +kernel, by decide +kernel⟩, List.mem_of_getElem? (i := 569) (by decide +kernel), List.mem_of_getElem? (i := 777) (by decide +kernel), List.mem_of_getElem? (i := 778) (by decide +kernel)⟩
theorem lw_p41 : lw_okq (⟨"CountedMissingModel", "atHome", "(I)I"⟩, 33) := ⟨⟨by decide +kernel, by decide +kernel⟩, List.mem_of_getElem? (i := 569) (by decide +kernel), List.mem_of_getElem? (i := 781) (by decide +kernel), List.mem_of_getElem? (i := 782) (by decide +kernel)⟩
theorem lw_p42 : lw_okq (⟨"CountedMissingModel", "note", "()V"⟩, 33) := ⟨⟨by decide +kernel, by decide +kernel⟩, List.mem_of_getElem? (i := 569) (by decide +kernel), List.mem_of_getElem? (i := 794) (by decide +kernel), List.mem_of_getElem? (i := 795) (by decide +kernel)⟩
theorem lw_p43 : lw_okq (⟨"CountedMissingModel", "layPage", "([II)V"⟩, 33) := ⟨⟨by decide +kernel, by decide +kernel⟩, List.mem_of_getElem? (i := 569) (by decide +kernel), List.mem_of_getElem? (i := 798) (by decide +kernel), List.mem_of_getElem? (i := 799) (by decide +kernel)⟩
theorem lw_p44 : lw_okq (⟨"CountedMissingModel", "takePage", "([II)V"⟩, 33) := ⟨⟨by decide +kernel, by decide +kernel⟩, List.mem_of_getElem? (i := 569) (by decide +kernel), List.mem_of_getElem? (i := 819) (by decide +kernel), List.mem_of_getElem? (i := 820) (by decide +kernel)⟩
theorem lw_p45 : lw_okq (⟨"CountedMissingModel", "laySets", "(II)V"⟩, 33) := ⟨⟨by decide +kernel, by decide +kernel⟩, List.mem_of_getElem? (i := 569) (by decide +kernel), List.mem_of_getElem? (i := 840) (by decide +kernel), List.mem_of_getElem? (i := 841) (by decide +kernel)⟩
theorem lw_p46 : lw_okq (⟨"CountedMissingModel", "countBy", "(II)I"⟩, 33) := ⟨⟨by decide +kernel, by decide +kernel⟩, List.mem_of_getElem? (i := 569) (by decide +kernel), List.mem_of_getElem? (i := 844) (by decide +kernel), List.mem_of_getElem? (i := 845) (by decide +kernel)⟩
theorem lw_p47 : lw_okq (⟨"CountedMissingModel", "countIn", "(II)I"⟩, 33) := ⟨⟨by decide +kernel, by decide +kernel⟩, List.mem_of_getElem? (i := 569) (by decide +kernel), List.mem_of_getElem? (i := 856) (by decide +kernel), List.mem_of_getElem? (i := 857) (by decide +kernel)⟩
def lw_privs_3 : List (MethodName × Nat) := [(⟨"CountedMissingModel", "misses", "(II)I"⟩, 33), (⟨"CountedMissingModel", "isThere", "(I)Z"⟩, 33), (⟨"CountedMissingModel", "isMissing", "(II)Z"⟩, 33), (⟨"CountedMissingModel", "away", "(I)I"⟩, 33), (⟨"CountedMissingModel", "remembers", "(III)Z"⟩, 33), (⟨"CountedMissingModel", "noOne", "(I)Z"⟩, 33), (⟨"CountedMissingModel", "noTown", "(I)Z"⟩, 33), (⟨"CountedMissingModel", "count", "(II)I"⟩, 33), (⟨"CountedMissingModel", "counted", "(II)I"⟩, 33), (⟨"CountedMissingModel", "atHome", "(I)I"⟩, 33), (⟨"CountedMissingModel", "note", "()V"⟩, 33), (⟨"CountedMissingModel", "layPage", "([II)V"⟩, 33), (⟨"CountedMissingModel", "takePage", "([II)V"⟩, 33), (⟨"CountedMissingModel", "laySets", "(II)V"⟩, 33), (⟨"CountedMissingModel", "countBy", "(II)I"⟩, 33), (⟨"CountedMissingModel", "countIn", "(II)I"⟩, 33)]
theorem lw_r3 : ∀ q ∈ lw_privs_3, lw_okq q := List.forall_mem_cons.mpr ⟨lw_p32, List.forall_mem_cons.mpr ⟨lw_p33, List.forall_mem_cons.mpr ⟨lw_p34, List.forall_mem_cons.mpr ⟨lw_p35, List.forall_mem_cons.mpr ⟨lw_p36, List.forall_mem_cons.mpr ⟨lw_p37, List.forall_mem_cons.mpr ⟨lw_p38, List.forall_mem_cons.mpr ⟨lw_p39, List.forall_mem_cons.mpr ⟨lw_p40, List.forall_mem_cons.mpr ⟨lw_p41, List.forall_mem_cons.mpr ⟨lw_p42, List.forall_mem_cons.mpr ⟨lw_p43, List.forall_mem_cons.mpr ⟨lw_p44, List.forall_mem_cons.mpr ⟨lw_p45, List.forall_mem_cons.mpr ⟨lw_p46, List.forall_mem_cons.mpr ⟨lw_p47, fun _ h => absurd h List.not_mem_nil⟩⟩⟩⟩⟩⟩⟩⟩⟩⟩⟩⟩⟩⟩⟩⟩
def lw_privs : List (MethodName × Nat) := lw_privs_1 ++ (lw_privs_2 ++ (lw_privs_3))
def lw_tbl : List Cond := k2_sels lw_privs ++ tables_1
theorem lw_privs_ok : ∀ q ∈ lw_privs, lw_okq q := by
  show ∀ q ∈ lw_privs_1 ++ (lw_privs_2 ++ (lw_privs_3)), lw_okq q
  exact List.forall_mem_append.mpr ⟨lw_r1, List.forall_mem_append.mpr ⟨lw_r2, lw_r3⟩⟩
end
section
def RX0 : String := "CountedMissing$Folk"
def TX0 : u_T := fun k => match k with
  | 0 => ("CountedMissing$Folk", "law", "I", false)
  | 1 => ("CountedMissing$Folk", "towns", "I", false)
  | 2 => ("CountedMissing$Folk", "people", "I", false)
  | 3 => ("CountedMissing$Folk", "pairs", "I", false)
  | 4 => ("CountedMissing$Folk", "home", "[I", true)
  | 5 => ("CountedMissing$Folk", "name", "[I", true)
  | 6 => ("CountedMissing$Folk", "memory", "[I", true)
  | _ => ("CountedMissing$Folk", "asks", "[I", true)
def tyX0 : Nat → FieldType := fun k => match k with
  | 0 => .int
  | 1 => .int
  | 2 => .int
  | 3 => .int
  | 4 => .array .int
  | 5 => .array .int
  | 6 => .array .int
  | _ => .array .int
theorem nmX0 : ∀ a, a < 8 → ∀ b, b < 8 → a ≠ b → (TX0 a).2.1 ≠ (TX0 b).2.1 := by decide +kernel
theorem tyX0_ok : ∀ k, k < 8 → parseFieldDescriptor (TX0 k).2.2.1 = some (tyX0 k) := by decide +kernel
abbrev cX0_init : ByteArray := prog_2_method_1_code
def yX0_init : MethodName := ⟨RX0, "<init>", "()V"⟩
abbrev cX0_clear : ByteArray := prog_2_method_2_code
def yX0_clear : MethodName := ⟨RX0, "clear", "()V"⟩
abbrev cX0_hasTown : ByteArray := prog_2_method_3_code
def yX0_hasTown : MethodName := ⟨RX0, "hasTown", "(I)Z"⟩
abbrev cX0_hasPerson : ByteArray := prog_2_method_4_code
def yX0_hasPerson : MethodName := ⟨RX0, "hasPerson", "(I)Z"⟩
abbrev cX0_mayAddPair : ByteArray := prog_2_method_5_code
def yX0_mayAddPair : MethodName := ⟨RX0, "mayAddPair", "()Z"⟩
abbrev cX0_mayAskMore : ByteArray := prog_2_method_6_code
def yX0_mayAskMore : MethodName := ⟨RX0, "mayAskMore", "(I)Z"⟩
abbrev cX0_mayAsk : ByteArray := prog_2_method_7_code
def yX0_mayAsk : MethodName := ⟨RX0, "mayAsk", "(II)Z"⟩
abbrev cX0_ofHome : ByteArray := prog_2_method_8_code
def yX0_ofHome : MethodName := ⟨RX0, "ofHome", "(I)I"⟩
abbrev cX0_namesOf : ByteArray := prog_2_method_9_code
def yX0_namesOf : MethodName := ⟨RX0, "namesOf", "(I)I"⟩
def RX1 : String := "CountedMissing$History"
def TX1 : u_T := fun k => match k with
  | 0 => ("CountedMissing$History", "ahead", "[LCountedMissing$World;", true)
  | 1 => ("CountedMissing$History", "first", "I", false)
  | _ => ("CountedMissing$History", "count", "I", false)
def tyX1 : Nat → FieldType := fun k => match k with
  | 0 => .array (.object "CountedMissing$World")
  | 1 => .int
  | _ => .int
theorem nmX1 : ∀ a, a < 3 → ∀ b, b < 3 → a ≠ b → (TX1 a).2.1 ≠ (TX1 b).2.1 := by decide +kernel
theorem tyX1_ok : ∀ k, k < 3 → parseFieldDescriptor (TX1 k).2.2.1 = some (tyX1 k) := by decide +kernel
abbrev cX1_init : ByteArray := prog_3_method_1_code
def yX1_init : MethodName := ⟨RX1, "<init>", "()V"⟩
abbrev cX1_size : ByteArray := prog_3_method_2_code
def yX1_size : MethodName := ⟨RX1, "size", "()I"⟩
abbrev cX1_clear : ByteArray := prog_3_method_3_code
def yX1_clear : MethodName := ⟨RX1, "clear", "()V"⟩
abbrev cX1_remember : ByteArray := prog_3_method_4_code
def yX1_remember : MethodName := ⟨RX1, "remember", "(LCountedMissing$World;)V"⟩
abbrev cX1_bringBack : ByteArray := prog_3_method_5_code
def yX1_bringBack : MethodName := ⟨RX1, "bringBack", "(LCountedMissing$World;)V"⟩
def RX2 : String := "CountedMissing$Reader"
def TX2 : u_T := fun k => match k with
  | 0 => ("CountedMissing$Reader", "wants", "I", false)
  | _ => ("CountedMissing$Reader", "asker", "I", false)
def tyX2 : Nat → FieldType := fun k => match k with
  | 0 => .int
  | _ => .int
theorem nmX2 : ∀ a, a < 2 → ∀ b, b < 2 → a ≠ b → (TX2 a).2.1 ≠ (TX2 b).2.1 := by decide +kernel
theorem tyX2_ok : ∀ k, k < 2 → parseFieldDescriptor (TX2 k).2.2.1 = some (tyX2 k) := by decide +kernel
abbrev cX2_init : ByteArray := prog_4_method_1_code
def yX2_init : MethodName := ⟨RX2, "<init>", "()V"⟩
abbrev cX2_faultOf : ByteArray := prog_4_method_2_code
def yX2_faultOf : MethodName := ⟨RX2, "faultOf", "(LCountedMissing$Script;LCountedMissing$Folk;)I"⟩
abbrev cX2_takes : ByteArray := prog_4_method_3_code
def yX2_takes : MethodName := ⟨RX2, "takes", "(ILCountedMissing$Folk;)Z"⟩
abbrev cX2_takesPart : ByteArray := prog_4_method_4_code
def yX2_takesPart : MethodName := ⟨RX2, "takesPart", "(ILCountedMissing$Folk;)Z"⟩
abbrev cX2_takesOfPerson : ByteArray := prog_4_method_5_code
def yX2_takesOfPerson : MethodName := ⟨RX2, "takesOfPerson", "(ILCountedMissing$Folk;)Z"⟩
abbrev cX2_takesOfPair : ByteArray := prog_4_method_6_code
def yX2_takesOfPair : MethodName := ⟨RX2, "takesOfPair", "(ILCountedMissing$Folk;)Z"⟩
def RX3 : String := "CountedMissing$Retelling"
def TX3 : u_T := fun k => match k with
  | 0 => ("CountedMissing$Retelling", "left", "[I", true)
  | 1 => ("CountedMissing$Retelling", "counts", "[I", true)
  | 2 => ("CountedMissing$Retelling", "tally", "LCountedMissing$Tally;", true)
  | 3 => ("CountedMissing$Retelling", "years", "I", false)
  | 4 => ("CountedMissing$Retelling", "ways", "I", false)
  | _ => ("CountedMissing$Retelling", "surely", "I", false)
def tyX3 : Nat → FieldType := fun k => match k with
  | 0 => .array .int
  | 1 => .array .int
  | 2 => .object "CountedMissing$Tally"
  | 3 => .int
  | 4 => .int
  | _ => .int
theorem nmX3 : ∀ a, a < 6 → ∀ b, b < 6 → a ≠ b → (TX3 a).2.1 ≠ (TX3 b).2.1 := by decide +kernel
theorem tyX3_ok : ∀ k, k < 6 → parseFieldDescriptor (TX3 k).2.2.1 = some (tyX3 k) := by decide +kernel
abbrev cX3_init : ByteArray := prog_5_method_1_code
def yX3_init : MethodName := ⟨RX3, "<init>", "()V"⟩
abbrev cX3_tellAll : ByteArray := prog_5_method_2_code
def yX3_tellAll : MethodName := ⟨RX3, "tellAll", "(LCountedMissing$Folk;III)V"⟩
abbrev cX3_tellFrom : ByteArray := prog_5_method_3_code
def yX3_tellFrom : MethodName := ⟨RX3, "tellFrom", "(LCountedMissing$Retelling;LCountedMissing$Folk;II)V"⟩
abbrev cX3_countIn : ByteArray := prog_5_method_4_code
def yX3_countIn : MethodName := ⟨RX3, "countIn", "(LCountedMissing$Folk;II)I"⟩
abbrev cX3_leftSince : ByteArray := prog_5_method_5_code
def yX3_leftSince : MethodName := ⟨RX3, "leftSince", "(II)I"⟩
def RX4 : String := "CountedMissing$Script"
def TX4 : u_T := fun k => match k with
  | 0 => ("CountedMissing$Script", "bytes", "[B", true)
  | _ => ("CountedMissing$Script", "length", "I", false)
def tyX4 : Nat → FieldType := fun k => match k with
  | 0 => .array .byte
  | _ => .int
theorem nmX4 : ∀ a, a < 2 → ∀ b, b < 2 → a ≠ b → (TX4 a).2.1 ≠ (TX4 b).2.1 := by decide +kernel
theorem tyX4_ok : ∀ k, k < 2 → parseFieldDescriptor (TX4 k).2.2.1 = some (tyX4 k) := by decide +kernel
abbrev cX4_init : ByteArray := prog_6_method_1_code
def yX4_init : MethodName := ⟨RX4, "<init>", "()V"⟩
abbrev cX4_size : ByteArray := prog_6_method_2_code
def yX4_size : MethodName := ⟨RX4, "size", "()I"⟩
abbrev cX4_byteAt : ByteArray := prog_6_method_3_code
def yX4_byteAt : MethodName := ⟨RX4, "byteAt", "(I)I"⟩
abbrev cX4_takeBytes : ByteArray := prog_6_method_4_code
def yX4_takeBytes : MethodName := ⟨RX4, "takeBytes", "(IJ)Z"⟩
abbrev cX4_clear : ByteArray := prog_6_method_5_code
def yX4_clear : MethodName := ⟨RX4, "clear", "()V"⟩
def RX5 : String := "CountedMissing$Tally"
def TX5 : u_T := fun k => match k with
  | 0 => ("CountedMissing$Tally", "pairs", "I", false)
  | _ => ("CountedMissing$Tally", "missed", "I", false)
def tyX5 : Nat → FieldType := fun k => match k with
  | 0 => .int
  | _ => .int
theorem nmX5 : ∀ a, a < 2 → ∀ b, b < 2 → a ≠ b → (TX5 a).2.1 ≠ (TX5 b).2.1 := by decide +kernel
theorem tyX5_ok : ∀ k, k < 2 → parseFieldDescriptor (TX5 k).2.2.1 = some (tyX5 k) := by decide +kernel
abbrev cX5_init : ByteArray := prog_7_method_1_code
def yX5_init : MethodName := ⟨RX5, "<init>", "()V"⟩
abbrev cX5_clear : ByteArray := prog_7_method_2_code
def yX5_clear : MethodName := ⟨RX5, "clear", "()V"⟩
abbrev cX5_addMissed : ByteArray := prog_7_method_3_code
def yX5_addMissed : MethodName := ⟨RX5, "addMissed", "(I)V"⟩
abbrev cX5_countByLaw : ByteArray := prog_7_method_4_code
def yX5_countByLaw : MethodName := ⟨RX5, "countByLaw", "(LCountedMissing$Folk;)I"⟩
def RX6 : String := "CountedMissing$World"
def TX6 : u_T := fun k => match k with
  | 0 => ("CountedMissing$World", "year", "I", false)
  | 1 => ("CountedMissing$World", "where", "[I", true)
  | 2 => ("CountedMissing$World", "since", "[I", true)
  | 3 => ("CountedMissing$World", "died", "[I", true)
  | _ => ("CountedMissing$World", "rumours", "[I", true)
def tyX6 : Nat → FieldType := fun k => match k with
  | 0 => .int
  | 1 => .array .int
  | 2 => .array .int
  | 3 => .array .int
  | _ => .array .int
theorem nmX6 : ∀ a, a < 5 → ∀ b, b < 5 → a ≠ b → (TX6 a).2.1 ≠ (TX6 b).2.1 := by decide +kernel
theorem tyX6_ok : ∀ k, k < 5 → parseFieldDescriptor (TX6 k).2.2.1 = some (tyX6 k) := by decide +kernel
abbrev cX6_init : ByteArray := prog_8_method_1_code
def yX6_init : MethodName := ⟨RX6, "<init>", "()V"⟩
abbrev cX6_begin : ByteArray := prog_8_method_2_code
def yX6_begin : MethodName := ⟨RX6, "begin", "(LCountedMissing$Folk;)V"⟩
abbrev cX6_clearRumours : ByteArray := prog_8_method_3_code
def yX6_clearRumours : MethodName := ⟨RX6, "clearRumours", "()V"⟩
abbrev cX6_passYear : ByteArray := prog_8_method_4_code
def yX6_passYear : MethodName := ⟨RX6, "passYear", "()V"⟩
abbrev cX6_isAlive : ByteArray := prog_8_method_5_code
def yX6_isAlive : MethodName := ⟨RX6, "isAlive", "(I)Z"⟩
abbrev cX6_heardIn : ByteArray := prog_8_method_6_code
def yX6_heardIn : MethodName := ⟨RX6, "heardIn", "(ILCountedMissing$Folk;)I"⟩
abbrev cX6_copyFrom : ByteArray := prog_8_method_7_code
def yX6_copyFrom : MethodName := ⟨RX6, "copyFrom", "(LCountedMissing$World;)V"⟩
def RX7 : String := "CountedMissing"
def TX7 : u_T := fun k => match k with
  | 0 => ("CountedMissing", "script", "LCountedMissing$Script;", true)
  | 1 => ("CountedMissing", "reader", "LCountedMissing$Reader;", true)
  | 2 => ("CountedMissing", "tally", "LCountedMissing$Tally;", true)
  | 3 => ("CountedMissing", "retelling", "LCountedMissing$Retelling;", true)
  | 4 => ("CountedMissing", "acts", "LCountedMissing$History;", true)
  | 5 => ("CountedMissing", "now", "LCountedMissing$World;", true)
  | 6 => ("CountedMissing", "kept", "[LCountedMissing$World;", true)
  | 7 => ("CountedMissing", "isKept", "[Z", true)
  | 8 => ("CountedMissing", "misses", "[I", true)
  | 9 => ("CountedMissing", "folk", "LCountedMissing$Folk;", false)
  | _ => ("CountedMissing", "draft", "LCountedMissing$Folk;", false)
def tyX7 : Nat → FieldType := fun k => match k with
  | 0 => .object "CountedMissing$Script"
  | 1 => .object "CountedMissing$Reader"
  | 2 => .object "CountedMissing$Tally"
  | 3 => .object "CountedMissing$Retelling"
  | 4 => .object "CountedMissing$History"
  | 5 => .object "CountedMissing$World"
  | 6 => .array (.object "CountedMissing$World")
  | 7 => .array .boolean
  | 8 => .array .int
  | 9 => .object "CountedMissing$Folk"
  | _ => .object "CountedMissing$Folk"
theorem nmX7 : ∀ a, a < 11 → ∀ b, b < 11 → a ≠ b → (TX7 a).2.1 ≠ (TX7 b).2.1 := by decide +kernel
theorem tyX7_ok : ∀ k, k < 11 → parseFieldDescriptor (TX7 k).2.2.1 = some (tyX7 k) := by decide +kernel
abbrev cX7_init : ByteArray := prog_1_method_1_code
def yX7_init : MethodName := ⟨RX7, "<init>", "()V"⟩
abbrev cX7_write : ByteArray := prog_1_method_2_code
def yX7_write : MethodName := ⟨RX7, "write", "(IJ)I"⟩
abbrev cX7_wipe : ByteArray := prog_1_method_3_code
def yX7_wipe : MethodName := ⟨RX7, "wipe", "()I"⟩
abbrev cX7_fault : ByteArray := prog_1_method_4_code
def yX7_fault : MethodName := ⟨RX7, "fault", "()I"⟩
abbrev cX7_census : ByteArray := prog_1_method_5_code
def yX7_census : MethodName := ⟨RX7, "census", "()I"⟩
abbrev cX7_about : ByteArray := prog_1_method_6_code
def yX7_about : MethodName := ⟨RX7, "about", "(I)I"⟩
abbrev cX7_person : ByteArray := prog_1_method_7_code
def yX7_person : MethodName := ⟨RX7, "person", "(II)I"⟩
abbrev cX7_town : ByteArray := prog_1_method_8_code
def yX7_town : MethodName := ⟨RX7, "town", "(II)I"⟩
abbrev cX7_law : ByteArray := prog_1_method_9_code
def yX7_law : MethodName := ⟨RX7, "law", "(I)I"⟩
abbrev cX7_go : ByteArray := prog_1_method_10_code
def yX7_go : MethodName := ⟨RX7, "go", "(II)I"⟩
abbrev cX7_die : ByteArray := prog_1_method_11_code
def yX7_die : MethodName := ⟨RX7, "die", "(I)I"⟩
abbrev cX7_year : ByteArray := prog_1_method_12_code
def yX7_year : MethodName := ⟨RX7, "year", "()I"⟩
abbrev cX7_rumour : ByteArray := prog_1_method_13_code
def yX7_rumour : MethodName := ⟨RX7, "rumour", "(II)I"⟩
abbrev cX7_undo : ByteArray := prog_1_method_14_code
def yX7_undo : MethodName := ⟨RX7, "undo", "()I"⟩
abbrev cX7_forgotten : ByteArray := prog_1_method_15_code
def yX7_forgotten : MethodName := ⟨RX7, "forgotten", "(I)I"⟩
abbrev cX7_lie : ByteArray := prog_1_method_16_code
def yX7_lie : MethodName := ⟨RX7, "lie", "(II)I"⟩
abbrev cX7_leave : ByteArray := prog_1_method_17_code
def yX7_leave : MethodName := ⟨RX7, "leave", "(II)I"⟩
abbrev cX7_spans : ByteArray := prog_1_method_18_code
def yX7_spans : MethodName := ⟨RX7, "spans", "(III)I"⟩
abbrev cX7_toAsk : ByteArray := prog_1_method_19_code
def yX7_toAsk : MethodName := ⟨RX7, "toAsk", "(II)I"⟩
abbrev cX7_retold : ByteArray := prog_1_method_20_code
def yX7_retold : MethodName := ⟨RX7, "retold", "(IIII)I"⟩
abbrev cX7_chance : ByteArray := prog_1_method_21_code
def yX7_chance : MethodName := ⟨RX7, "chance", "(IIIZ)J"⟩
abbrev cX7_keep : ByteArray := prog_1_method_22_code
def yX7_keep : MethodName := ⟨RX7, "keep", "(I)I"⟩
abbrev cX7_again : ByteArray := prog_1_method_23_code
def yX7_again : MethodName := ⟨RX7, "again", "(I)I"⟩
abbrev cX7_everybody : ByteArray := prog_1_method_24_code
def yX7_everybody : MethodName := ⟨RX7, "everybody", "()I"⟩
abbrev cX7_aliveBits : ByteArray := prog_1_method_25_code
def yX7_aliveBits : MethodName := ⟨RX7, "aliveBits", "()I"⟩
abbrev cX7_trulyIn : ByteArray := prog_1_method_26_code
def yX7_trulyIn : MethodName := ⟨RX7, "trulyIn", "(I)I"⟩
abbrev cX7_atHomeIn : ByteArray := prog_1_method_27_code
def yX7_atHomeIn : MethodName := ⟨RX7, "atHomeIn", "(I)I"⟩
abbrev cX7_isAtHome : ByteArray := prog_1_method_28_code
def yX7_isAtHome : MethodName := ⟨RX7, "isAtHome", "(I)Z"⟩
abbrev cX7_isMissing : ByteArray := prog_1_method_29_code
def yX7_isMissing : MethodName := ⟨RX7, "isMissing", "(II)Z"⟩
abbrev cX7_missingOf : ByteArray := prog_1_method_30_code
def yX7_missingOf : MethodName := ⟨RX7, "missingOf", "(I)I"⟩
abbrev cX7_rememberedBy : ByteArray := prog_1_method_31_code
def yX7_rememberedBy : MethodName := ⟨RX7, "rememberedBy", "(II)I"⟩
abbrev cX7_missedBy : ByteArray := prog_1_method_32_code
def yX7_missedBy : MethodName := ⟨RX7, "missedBy", "(II)I"⟩
abbrev cX7_isMissed : ByteArray := prog_1_method_33_code
def yX7_isMissed : MethodName := ⟨RX7, "isMissed", "(II)Z"⟩
abbrev cX7_missedOf : ByteArray := prog_1_method_34_code
def yX7_missedOf : MethodName := ⟨RX7, "missedOf", "(I)I"⟩
abbrev cX7_countOf : ByteArray := prog_1_method_35_code
def yX7_countOf : MethodName := ⟨RX7, "countOf", "(I)I"⟩
abbrev cX7_fillMisses : ByteArray := prog_1_method_36_code
def yX7_fillMisses : MethodName := ⟨RX7, "fillMisses", "()V"⟩
abbrev cX7_countMissedBy : ByteArray := prog_1_method_37_code
def yX7_countMissedBy : MethodName := ⟨RX7, "countMissedBy", "(I)I"⟩
abbrev cX7_mostCountByLies : ByteArray := prog_1_method_38_code
def yX7_mostCountByLies : MethodName := ⟨RX7, "mostCountByLies", "(I)I"⟩
abbrev cX7_fewestToLeave : ByteArray := prog_1_method_39_code
def yX7_fewestToLeave : MethodName := ⟨RX7, "fewestToLeave", "(II)I"⟩
abbrev cX7_countIfAway : ByteArray := prog_1_method_40_code
def yX7_countIfAway : MethodName := ⟨RX7, "countIfAway", "(II)I"⟩
abbrev cX7_setsWithout : ByteArray := prog_1_method_41_code
def yX7_setsWithout : MethodName := ⟨RX7, "setsWithout", "(III)I"⟩
abbrev cX7_has : ByteArray := prog_1_method_42_code
def yX7_has : MethodName := ⟨RX7, "has", "(II)Z"⟩
abbrev cX7_nextPart : ByteArray := prog_1_method_43_code
def yX7_nextPart : MethodName := ⟨RX7, "nextPart", "(II)I"⟩
abbrev cX7_power : ByteArray := prog_1_method_44_code
def yX7_power : MethodName := ⟨RX7, "power", "(II)J"⟩
abbrev cX7_powerOfTen : ByteArray := prog_1_method_45_code
def yX7_powerOfTen : MethodName := ⟨RX7, "powerOfTen", "(I)I"⟩
abbrev cX7_commonDivisor : ByteArray := prog_1_method_46_code
def yX7_commonDivisor : MethodName := ⟨RX7, "commonDivisor", "(JJ)J"⟩
def RX8 : String := "CountedMissingModel"
def TX8 : u_T := fun k => match k with
  | 0 => ("CountedMissingModel", "thrown", "I", false)
  | 1 => ("CountedMissingModel", "text", "[I", true)
  | 2 => ("CountedMissingModel", "textSize", "I", false)
  | 3 => ("CountedMissingModel", "place", "I", false)
  | 4 => ("CountedMissingModel", "law", "I", false)
  | 5 => ("CountedMissingModel", "towns", "I", false)
  | 6 => ("CountedMissingModel", "people", "I", false)
  | 7 => ("CountedMissingModel", "home", "[I", true)
  | 8 => ("CountedMissingModel", "name", "[I", true)
  | 9 => ("CountedMissingModel", "keeps", "[I", true)
  | 10 => ("CountedMissingModel", "asks", "[I", true)
  | 11 => ("CountedMissingModel", "where", "[I", true)
  | 12 => ("CountedMissingModel", "since", "[I", true)
  | 13 => ("CountedMissingModel", "died", "[I", true)
  | 14 => ("CountedMissingModel", "rumours", "[I", true)
  | 15 => ("CountedMissingModel", "year", "I", false)
  | 16 => ("CountedMissingModel", "readLaw", "I", false)
  | 17 => ("CountedMissingModel", "readTowns", "I", false)
  | 18 => ("CountedMissingModel", "readPeople", "I", false)
  | 19 => ("CountedMissingModel", "readPairs", "I", false)
  | 20 => ("CountedMissingModel", "readHome", "[I", true)
  | 21 => ("CountedMissingModel", "readName", "[I", true)
  | 22 => ("CountedMissingModel", "readKeeps", "[I", true)
  | 23 => ("CountedMissingModel", "readAsks", "[I", true)
  | 24 => ("CountedMissingModel", "book", "[I", true)
  | 25 => ("CountedMissingModel", "acts", "I", false)
  | 26 => ("CountedMissingModel", "kept", "[I", true)
  | 27 => ("CountedMissingModel", "isKept", "[Z", true)
  | 28 => ("CountedMissingModel", "sets", "I", false)
  | 29 => ("CountedMissingModel", "aways", "[I", true)
  | 30 => ("CountedMissingModel", "fewest", "I", false)
  | 31 => ("CountedMissingModel", "most", "I", false)
  | _ => ("CountedMissingModel", "goes", "[I", true)
def tyX8 : Nat → FieldType := fun k => match k with
  | 0 => .int
  | 1 => .array .int
  | 2 => .int
  | 3 => .int
  | 4 => .int
  | 5 => .int
  | 6 => .int
  | 7 => .array .int
  | 8 => .array .int
  | 9 => .array .int
  | 10 => .array .int
  | 11 => .array .int
  | 12 => .array .int
  | 13 => .array .int
  | 14 => .array .int
  | 15 => .int
  | 16 => .int
  | 17 => .int
  | 18 => .int
  | 19 => .int
  | 20 => .array .int
  | 21 => .array .int
  | 22 => .array .int
  | 23 => .array .int
  | 24 => .array .int
  | 25 => .int
  | 26 => .array .int
  | 27 => .array .boolean
  | 28 => .int
  | 29 => .array .int
  | 30 => .int
  | 31 => .int
  | _ => .array .int
theorem nmX8 : ∀ a, a < 33 → ∀ b, b < 33 → a ≠ b → (TX8 a).2.1 ≠ (TX8 b).2.1 := by decide +kernel
theorem tyX8_ok : ∀ k, k < 33 → parseFieldDescriptor (TX8 k).2.2.1 = some (tyX8 k) := by decide +kernel
abbrev cX8_init : ByteArray := prog_10_method_1_code
def yX8_init : MethodName := ⟨RX8, "<init>", "()V"⟩
abbrev cX8_in : ByteArray := prog_10_method_3_code
def yX8_in : MethodName := ⟨RX8, "in", "(JJJ)Z"⟩
abbrev cX8_has : ByteArray := prog_10_method_4_code
def yX8_has : MethodName := ⟨RX8, "has", "(II)Z"⟩
abbrev cX8_many : ByteArray := prog_10_method_5_code
def yX8_many : MethodName := ⟨RX8, "many", "(I)I"⟩
abbrev cX8_noOne : ByteArray := prog_10_method_6_code
def yX8_noOne : MethodName := ⟨RX8, "noOne", "(I)Z"⟩
abbrev cX8_noTown : ByteArray := prog_10_method_7_code
def yX8_noTown : MethodName := ⟨RX8, "noTown", "(I)Z"⟩
abbrev cX8_write : ByteArray := prog_10_method_8_code
def yX8_write : MethodName := ⟨RX8, "write", "(IJ)I"⟩
abbrev cX8_wipe : ByteArray := prog_10_method_9_code
def yX8_wipe : MethodName := ⟨RX8, "wipe", "()I"⟩
abbrev cX8_figure : ByteArray := prog_10_method_10_code
def yX8_figure : MethodName := ⟨RX8, "figure", "(III)I"⟩
abbrev cX8_readPerson : ByteArray := prog_10_method_11_code
def yX8_readPerson : MethodName := ⟨RX8, "readPerson", "()Z"⟩
abbrev cX8_left : ByteArray := prog_10_method_12_code
def yX8_left : MethodName := ⟨RX8, "left", "(I)I"⟩
abbrev cX8_hasLeft : ByteArray := prog_10_method_13_code
def yX8_hasLeft : MethodName := ⟨RX8, "hasLeft", "()Z"⟩
abbrev cX8_readAsk : ByteArray := prog_10_method_14_code
def yX8_readAsk : MethodName := ⟨RX8, "readAsk", "()Z"⟩
abbrev cX8_readPart : ByteArray := prog_10_method_15_code
def yX8_readPart : MethodName := ⟨RX8, "readPart", "()Z"⟩
abbrev cX8_readCensus : ByteArray := prog_10_method_16_code
def yX8_readCensus : MethodName := ⟨RX8, "readCensus", "()I"⟩
abbrev cX8_fault : ByteArray := prog_10_method_17_code
def yX8_fault : MethodName := ⟨RX8, "fault", "()I"⟩
abbrev cX8_census : ByteArray := prog_10_method_18_code
def yX8_census : MethodName := ⟨RX8, "census", "()I"⟩
abbrev cX8_away : ByteArray := prog_10_method_19_code
def yX8_away : MethodName := ⟨RX8, "away", "(I)I"⟩
abbrev cX8_isMissing : ByteArray := prog_10_method_20_code
def yX8_isMissing : MethodName := ⟨RX8, "isMissing", "(II)Z"⟩
abbrev cX8_isThere : ByteArray := prog_10_method_21_code
def yX8_isThere : MethodName := ⟨RX8, "isThere", "(I)Z"⟩
abbrev cX8_remembers : ByteArray := prog_10_method_22_code
def yX8_remembers : MethodName := ⟨RX8, "remembers", "(III)Z"⟩
abbrev cX8_misses : ByteArray := prog_10_method_23_code
def yX8_misses : MethodName := ⟨RX8, "misses", "(II)I"⟩
abbrev cX8_atHome : ByteArray := prog_10_method_24_code
def yX8_atHome : MethodName := ⟨RX8, "atHome", "(I)I"⟩
abbrev cX8_counted : ByteArray := prog_10_method_25_code
def yX8_counted : MethodName := ⟨RX8, "counted", "(II)I"⟩
abbrev cX8_count : ByteArray := prog_10_method_26_code
def yX8_count : MethodName := ⟨RX8, "count", "(II)I"⟩
abbrev cX8_missed : ByteArray := prog_10_method_27_code
def yX8_missed : MethodName := ⟨RX8, "missed", "(I)I"⟩
abbrev cX8_about : ByteArray := prog_10_method_28_code
def yX8_about : MethodName := ⟨RX8, "about", "(I)I"⟩
abbrev cX8_person : ByteArray := prog_10_method_29_code
def yX8_person : MethodName := ⟨RX8, "person", "(II)I"⟩
abbrev cX8_town : ByteArray := prog_10_method_30_code
def yX8_town : MethodName := ⟨RX8, "town", "(II)I"⟩
abbrev cX8_law : ByteArray := prog_10_method_31_code
def yX8_law : MethodName := ⟨RX8, "law", "(I)I"⟩
abbrev cX8_layPage : ByteArray := prog_10_method_32_code
def yX8_layPage : MethodName := ⟨RX8, "layPage", "([II)V"⟩
abbrev cX8_takePage : ByteArray := prog_10_method_33_code
def yX8_takePage : MethodName := ⟨RX8, "takePage", "([II)V"⟩
abbrev cX8_note : ByteArray := prog_10_method_34_code
def yX8_note : MethodName := ⟨RX8, "note", "()V"⟩
abbrev cX8_go : ByteArray := prog_10_method_35_code
def yX8_go : MethodName := ⟨RX8, "go", "(II)I"⟩
abbrev cX8_die : ByteArray := prog_10_method_36_code
def yX8_die : MethodName := ⟨RX8, "die", "(I)I"⟩
abbrev cX8_year : ByteArray := prog_10_method_37_code
def yX8_year : MethodName := ⟨RX8, "year", "()I"⟩
abbrev cX8_rumour : ByteArray := prog_10_method_38_code
def yX8_rumour : MethodName := ⟨RX8, "rumour", "(II)I"⟩
abbrev cX8_undo : ByteArray := prog_10_method_39_code
def yX8_undo : MethodName := ⟨RX8, "undo", "()I"⟩
abbrev cX8_forgotten : ByteArray := prog_10_method_40_code
def yX8_forgotten : MethodName := ⟨RX8, "forgotten", "(I)I"⟩
abbrev cX8_lie : ByteArray := prog_10_method_41_code
def yX8_lie : MethodName := ⟨RX8, "lie", "(II)I"⟩
abbrev cX8_leave : ByteArray := prog_10_method_42_code
def yX8_leave : MethodName := ⟨RX8, "leave", "(II)I"⟩
abbrev cX8_countBy : ByteArray := prog_10_method_43_code
def yX8_countBy : MethodName := ⟨RX8, "countBy", "(II)I"⟩
abbrev cX8_laySets : ByteArray := prog_10_method_44_code
def yX8_laySets : MethodName := ⟨RX8, "laySets", "(II)V"⟩
abbrev cX8_spans : ByteArray := prog_10_method_45_code
def yX8_spans : MethodName := ⟨RX8, "spans", "(III)I"⟩
abbrev cX8_toAsk : ByteArray := prog_10_method_46_code
def yX8_toAsk : MethodName := ⟨RX8, "toAsk", "(II)I"⟩
abbrev cX8_countIn : ByteArray := prog_10_method_47_code
def yX8_countIn : MethodName := ⟨RX8, "countIn", "(II)I"⟩
abbrev cX8_retold : ByteArray := prog_10_method_48_code
def yX8_retold : MethodName := ⟨RX8, "retold", "(IIII)I"⟩
abbrev cX8_divisor : ByteArray := prog_10_method_49_code
def yX8_divisor : MethodName := ⟨RX8, "divisor", "(JJ)J"⟩
abbrev cX8_chance : ByteArray := prog_10_method_50_code
def yX8_chance : MethodName := ⟨RX8, "chance", "(IIIZ)J"⟩
abbrev cX8_keep : ByteArray := prog_10_method_51_code
def yX8_keep : MethodName := ⟨RX8, "keep", "(I)I"⟩
abbrev cX8_again : ByteArray := prog_10_method_52_code
def yX8_again : MethodName := ⟨RX8, "again", "(I)I"⟩
def RJ6 : String := "java/lang/Integer"
def TJ6 : u_T := fun k => match k with
  | _ => ("", "", "", false)
def tyJ6 : Nat → FieldType := fun k => match k with
  | _ => .int
theorem nmJ6 : ∀ a, a < 0 → ∀ b, b < 0 → a ≠ b → (TJ6 a).2.1 ≠ (TJ6 b).2.1 := by decide +kernel
theorem tyJ6_ok : ∀ k, k < 0 → parseFieldDescriptor (TJ6 k).2.2.1 = some (tyJ6 k) := by decide +kernel
abbrev cJ6_bitCount_0f7a4 : ByteArray := prog_11_method_49_code
def yJ6_bitCount_0f7a4 : MethodName := ⟨RJ6, "bitCount", "(I)I"⟩
def RJ9 : String := "java/lang/Math"
def TJ9 : u_T := fun k => match k with
  | _ => ("", "", "", false)
def tyJ9 : Nat → FieldType := fun k => match k with
  | _ => .int
theorem nmJ9 : ∀ a, a < 0 → ∀ b, b < 0 → a ≠ b → (TJ9 a).2.1 ≠ (TJ9 b).2.1 := by decide +kernel
theorem tyJ9_ok : ∀ k, k < 0 → parseFieldDescriptor (TJ9 k).2.2.1 = some (tyJ9 k) := by decide +kernel
abbrev cJ9_abs_0f7a4 : ByteArray := prog_12_method_59_code
def yJ9_abs_0f7a4 : MethodName := ⟨RJ9, "abs", "(I)I"⟩
abbrev cJ9_max_7cf53 : ByteArray := prog_12_method_65_code
def yJ9_max_7cf53 : MethodName := ⟨RJ9, "max", "(II)I"⟩
abbrev cJ9_max_f86c9 : ByteArray := prog_12_method_66_code
def yJ9_max_f86c9 : MethodName := ⟨RJ9, "max", "(JJ)J"⟩
abbrev cJ9_min_7cf53 : ByteArray := prog_12_method_69_code
def yJ9_min_7cf53 : MethodName := ⟨RJ9, "min", "(II)I"⟩
def RL : String := "CountedMissingLaw"
abbrev cL_law : ByteArray := code
def yL_law : MethodName := ⟨RL, "law", "([I)Z"⟩
abbrev vwCl : List vw_C := [(RX0, TX0, 8), (RX1, TX1, 3), (RX2, TX2, 2), (RX3, TX3, 6), (RX4, TX4, 2), (RX5, TX5, 2), (RX6, TX6, 5), (RX7, TX7, 11), (RX8, TX8, 33)]
end
section
theorem dX0_init_0 : decode cX0_init 0 = .ok (.aload_n 0, 1) := by decide +kernel
theorem dX0_init_1 : decode cX0_init 1 = .ok (.invokespecial 3, 3) := by decide +kernel
theorem dX0_init_4 : decode cX0_init 4 = .ok (.aload_n 0, 1) := by decide +kernel
theorem dX0_init_5 : decode cX0_init 5 = .ok (.iconst 1, 1) := by decide +kernel
theorem dX0_init_6 : decode cX0_init 6 = .ok (.putfield 9, 3) := by decide +kernel
theorem dX0_init_9 : decode cX0_init 9 = .ok (.aload_n 0, 1) := by decide +kernel
theorem dX0_init_10 : decode cX0_init 10 = .ok (.bipush 8, 2) := by decide +kernel
theorem dX0_init_12 : decode cX0_init 12 = .ok (.newarray .int, 2) := by decide +kernel
theorem dX0_init_14 : decode cX0_init 14 = .ok (.putfield 15, 3) := by decide +kernel
theorem dX0_init_17 : decode cX0_init 17 = .ok (.aload_n 0, 1) := by decide +kernel
theorem dX0_init_18 : decode cX0_init 18 = .ok (.bipush 8, 2) := by decide +kernel
theorem dX0_init_20 : decode cX0_init 20 = .ok (.newarray .int, 2) := by decide +kernel
theorem dX0_init_22 : decode cX0_init 22 = .ok (.putfield 19, 3) := by decide +kernel
theorem dX0_init_25 : decode cX0_init 25 = .ok (.aload_n 0, 1) := by decide +kernel
theorem dX0_init_26 : decode cX0_init 26 = .ok (.bipush 8, 2) := by decide +kernel
theorem dX0_init_28 : decode cX0_init 28 = .ok (.newarray .int, 2) := by decide +kernel
theorem dX0_init_30 : decode cX0_init 30 = .ok (.putfield 22, 3) := by decide +kernel
theorem dX0_init_33 : decode cX0_init 33 = .ok (.aload_n 0, 1) := by decide +kernel
theorem dX0_init_34 : decode cX0_init 34 = .ok (.bipush 8, 2) := by decide +kernel
theorem dX0_init_36 : decode cX0_init 36 = .ok (.newarray .int, 2) := by decide +kernel
theorem dX0_init_38 : decode cX0_init 38 = .ok (.putfield 25, 3) := by decide +kernel
theorem dX0_init_41 : decode cX0_init 41 = .ok (.return_, 1) := by decide +kernel
theorem dX0_clear_0 : decode cX0_clear 0 = .ok (.aload_n 0, 1) := by decide +kernel
theorem dX0_clear_1 : decode cX0_clear 1 = .ok (.iconst 0, 1) := by decide +kernel
theorem dX0_clear_2 : decode cX0_clear 2 = .ok (.putfield 28, 3) := by decide +kernel
theorem dX0_clear_5 : decode cX0_clear 5 = .ok (.aload_n 0, 1) := by decide +kernel
theorem dX0_clear_6 : decode cX0_clear 6 = .ok (.iconst 1, 1) := by decide +kernel
theorem dX0_clear_7 : decode cX0_clear 7 = .ok (.putfield 9, 3) := by decide +kernel
theorem dX0_clear_10 : decode cX0_clear 10 = .ok (.aload_n 0, 1) := by decide +kernel
theorem dX0_clear_11 : decode cX0_clear 11 = .ok (.iconst 0, 1) := by decide +kernel
theorem dX0_clear_12 : decode cX0_clear 12 = .ok (.putfield 31, 3) := by decide +kernel
theorem dX0_clear_15 : decode cX0_clear 15 = .ok (.aload_n 0, 1) := by decide +kernel
theorem dX0_clear_16 : decode cX0_clear 16 = .ok (.iconst 0, 1) := by decide +kernel
theorem dX0_clear_17 : decode cX0_clear 17 = .ok (.putfield 34, 3) := by decide +kernel
theorem dX0_clear_20 : decode cX0_clear 20 = .ok (.return_, 1) := by decide +kernel
theorem dX0_hasTown_0 : decode cX0_hasTown 0 = .ok (.iload_n 1, 1) := by decide +kernel
theorem dX0_hasTown_1 : decode cX0_hasTown 1 = .ok (.ifCond .lt 15, 3) := by decide +kernel
theorem dX0_hasTown_4 : decode cX0_hasTown 4 = .ok (.iload_n 1, 1) := by decide +kernel
theorem dX0_hasTown_5 : decode cX0_hasTown 5 = .ok (.aload_n 0, 1) := by decide +kernel
theorem dX0_hasTown_6 : decode cX0_hasTown 6 = .ok (.getfield 9, 3) := by decide +kernel
theorem dX0_hasTown_9 : decode cX0_hasTown 9 = .ok (.if_icmp .ge 7, 3) := by decide +kernel
theorem dX0_hasTown_12 : decode cX0_hasTown 12 = .ok (.iconst 1, 1) := by decide +kernel
theorem dX0_hasTown_13 : decode cX0_hasTown 13 = .ok (.goto 4, 3) := by decide +kernel
theorem dX0_hasTown_16 : decode cX0_hasTown 16 = .ok (.iconst 0, 1) := by decide +kernel
theorem dX0_hasTown_17 : decode cX0_hasTown 17 = .ok (.ireturn, 1) := by decide +kernel
theorem dX0_hasPerson_0 : decode cX0_hasPerson 0 = .ok (.iload_n 1, 1) := by decide +kernel
theorem dX0_hasPerson_1 : decode cX0_hasPerson 1 = .ok (.ifCond .lt 15, 3) := by decide +kernel
theorem dX0_hasPerson_4 : decode cX0_hasPerson 4 = .ok (.iload_n 1, 1) := by decide +kernel
theorem dX0_hasPerson_5 : decode cX0_hasPerson 5 = .ok (.aload_n 0, 1) := by decide +kernel
theorem dX0_hasPerson_6 : decode cX0_hasPerson 6 = .ok (.getfield 31, 3) := by decide +kernel
theorem dX0_hasPerson_9 : decode cX0_hasPerson 9 = .ok (.if_icmp .ge 7, 3) := by decide +kernel
theorem dX0_hasPerson_12 : decode cX0_hasPerson 12 = .ok (.iconst 1, 1) := by decide +kernel
theorem dX0_hasPerson_13 : decode cX0_hasPerson 13 = .ok (.goto 4, 3) := by decide +kernel
theorem dX0_hasPerson_16 : decode cX0_hasPerson 16 = .ok (.iconst 0, 1) := by decide +kernel
theorem dX0_hasPerson_17 : decode cX0_hasPerson 17 = .ok (.ireturn, 1) := by decide +kernel
theorem dX0_mayAddPair_0 : decode cX0_mayAddPair 0 = .ok (.aload_n 0, 1) := by decide +kernel
theorem dX0_mayAddPair_1 : decode cX0_mayAddPair 1 = .ok (.getfield 34, 3) := by decide +kernel
theorem dX0_mayAddPair_4 : decode cX0_mayAddPair 4 = .ok (.bipush 12, 2) := by decide +kernel
theorem dX0_mayAddPair_6 : decode cX0_mayAddPair 6 = .ok (.if_icmp .ge 25, 3) := by decide +kernel
theorem dX0_mayAddPair_9 : decode cX0_mayAddPair 9 = .ok (.aload_n 0, 1) := by decide +kernel
theorem dX0_mayAddPair_10 : decode cX0_mayAddPair 10 = .ok (.getfield 34, 3) := by decide +kernel
theorem dX0_mayAddPair_13 : decode cX0_mayAddPair 13 = .ok (.aload_n 0, 1) := by decide +kernel
theorem dX0_mayAddPair_14 : decode cX0_mayAddPair 14 = .ok (.getfield 31, 3) := by decide +kernel
theorem dX0_mayAddPair_17 : decode cX0_mayAddPair 17 = .ok (.aload_n 0, 1) := by decide +kernel
theorem dX0_mayAddPair_18 : decode cX0_mayAddPair 18 = .ok (.getfield 31, 3) := by decide +kernel
theorem dX0_mayAddPair_21 : decode cX0_mayAddPair 21 = .ok (.iconst 1, 1) := by decide +kernel
theorem dX0_mayAddPair_22 : decode cX0_mayAddPair 22 = .ok (.isub, 1) := by decide +kernel
theorem dX0_mayAddPair_23 : decode cX0_mayAddPair 23 = .ok (.imul, 1) := by decide +kernel
theorem dX0_mayAddPair_24 : decode cX0_mayAddPair 24 = .ok (.if_icmp .ge 7, 3) := by decide +kernel
theorem dX0_mayAddPair_27 : decode cX0_mayAddPair 27 = .ok (.iconst 1, 1) := by decide +kernel
theorem dX0_mayAddPair_28 : decode cX0_mayAddPair 28 = .ok (.goto 4, 3) := by decide +kernel
theorem dX0_mayAddPair_31 : decode cX0_mayAddPair 31 = .ok (.iconst 0, 1) := by decide +kernel
theorem dX0_mayAddPair_32 : decode cX0_mayAddPair 32 = .ok (.ireturn, 1) := by decide +kernel
theorem dX0_mayAskMore_0 : decode cX0_mayAskMore 0 = .ok (.aload_n 0, 1) := by decide +kernel
theorem dX0_mayAskMore_1 : decode cX0_mayAskMore 1 = .ok (.iload_n 1, 1) := by decide +kernel
theorem dX0_mayAskMore_2 : decode cX0_mayAskMore 2 = .ok (.invokevirtual 37, 3) := by decide +kernel
theorem dX0_mayAskMore_5 : decode cX0_mayAskMore 5 = .ok (.ifCond .eq 25, 3) := by decide +kernel
theorem dX0_mayAskMore_8 : decode cX0_mayAskMore 8 = .ok (.aload_n 0, 1) := by decide +kernel
theorem dX0_mayAskMore_9 : decode cX0_mayAskMore 9 = .ok (.getfield 25, 3) := by decide +kernel
theorem dX0_mayAskMore_12 : decode cX0_mayAskMore 12 = .ok (.iload_n 1, 1) := by decide +kernel
theorem dX0_mayAskMore_13 : decode cX0_mayAskMore 13 = .ok (.iaload, 1) := by decide +kernel
theorem dX0_mayAskMore_14 : decode cX0_mayAskMore 14 = .ok (.invokestatic 41, 3) := by decide +kernel
theorem dX0_mayAskMore_17 : decode cX0_mayAskMore 17 = .ok (.aload_n 0, 1) := by decide +kernel
theorem dX0_mayAskMore_18 : decode cX0_mayAskMore 18 = .ok (.getfield 31, 3) := by decide +kernel
theorem dX0_mayAskMore_21 : decode cX0_mayAskMore 21 = .ok (.iconst 1, 1) := by decide +kernel
theorem dX0_mayAskMore_22 : decode cX0_mayAskMore 22 = .ok (.isub, 1) := by decide +kernel
theorem dX0_mayAskMore_23 : decode cX0_mayAskMore 23 = .ok (.if_icmp .ge 7, 3) := by decide +kernel
theorem dX0_mayAskMore_26 : decode cX0_mayAskMore 26 = .ok (.iconst 1, 1) := by decide +kernel
theorem dX0_mayAskMore_27 : decode cX0_mayAskMore 27 = .ok (.goto 4, 3) := by decide +kernel
theorem dX0_mayAskMore_30 : decode cX0_mayAskMore 30 = .ok (.iconst 0, 1) := by decide +kernel
theorem dX0_mayAskMore_31 : decode cX0_mayAskMore 31 = .ok (.ireturn, 1) := by decide +kernel
theorem dX0_mayAsk_0 : decode cX0_mayAsk 0 = .ok (.aload_n 0, 1) := by decide +kernel
theorem dX0_mayAsk_1 : decode cX0_mayAsk 1 = .ok (.iload_n 1, 1) := by decide +kernel
theorem dX0_mayAsk_2 : decode cX0_mayAsk 2 = .ok (.invokevirtual 37, 3) := by decide +kernel
theorem dX0_mayAsk_5 : decode cX0_mayAsk 5 = .ok (.ifCond .eq 33, 3) := by decide +kernel
theorem dX0_mayAsk_8 : decode cX0_mayAsk 8 = .ok (.aload_n 0, 1) := by decide +kernel
theorem dX0_mayAsk_9 : decode cX0_mayAsk 9 = .ok (.iload_n 2, 1) := by decide +kernel
theorem dX0_mayAsk_10 : decode cX0_mayAsk 10 = .ok (.invokevirtual 37, 3) := by decide +kernel
theorem dX0_mayAsk_13 : decode cX0_mayAsk 13 = .ok (.ifCond .eq 25, 3) := by decide +kernel
theorem dX0_mayAsk_16 : decode cX0_mayAsk 16 = .ok (.iload_n 1, 1) := by decide +kernel
theorem dX0_mayAsk_17 : decode cX0_mayAsk 17 = .ok (.iload_n 2, 1) := by decide +kernel
theorem dX0_mayAsk_18 : decode cX0_mayAsk 18 = .ok (.if_icmp .eq 20, 3) := by decide +kernel
theorem dX0_mayAsk_21 : decode cX0_mayAsk 21 = .ok (.aload_n 0, 1) := by decide +kernel
theorem dX0_mayAsk_22 : decode cX0_mayAsk 22 = .ok (.getfield 25, 3) := by decide +kernel
theorem dX0_mayAsk_25 : decode cX0_mayAsk 25 = .ok (.iload_n 1, 1) := by decide +kernel
theorem dX0_mayAsk_26 : decode cX0_mayAsk 26 = .ok (.iaload, 1) := by decide +kernel
theorem dX0_mayAsk_27 : decode cX0_mayAsk 27 = .ok (.iload_n 2, 1) := by decide +kernel
theorem dX0_mayAsk_28 : decode cX0_mayAsk 28 = .ok (.invokestatic 47, 3) := by decide +kernel
theorem dX0_mayAsk_31 : decode cX0_mayAsk 31 = .ok (.ifCond .ne 7, 3) := by decide +kernel
theorem dX0_mayAsk_34 : decode cX0_mayAsk 34 = .ok (.iconst 1, 1) := by decide +kernel
theorem dX0_mayAsk_35 : decode cX0_mayAsk 35 = .ok (.goto 4, 3) := by decide +kernel
theorem dX0_mayAsk_38 : decode cX0_mayAsk 38 = .ok (.iconst 0, 1) := by decide +kernel
theorem dX0_mayAsk_39 : decode cX0_mayAsk 39 = .ok (.ireturn, 1) := by decide +kernel
theorem dX0_ofHome_0 : decode cX0_ofHome 0 = .ok (.iconst 0, 1) := by decide +kernel
theorem dX0_ofHome_1 : decode cX0_ofHome 1 = .ok (.istore_n 2, 1) := by decide +kernel
theorem dX0_ofHome_2 : decode cX0_ofHome 2 = .ok (.iconst 0, 1) := by decide +kernel
theorem dX0_ofHome_3 : decode cX0_ofHome 3 = .ok (.istore_n 3, 1) := by decide +kernel
theorem dX0_ofHome_4 : decode cX0_ofHome 4 = .ok (.iload_n 3, 1) := by decide +kernel
theorem dX0_ofHome_5 : decode cX0_ofHome 5 = .ok (.aload_n 0, 1) := by decide +kernel
theorem dX0_ofHome_6 : decode cX0_ofHome 6 = .ok (.getfield 31, 3) := by decide +kernel
theorem dX0_ofHome_9 : decode cX0_ofHome 9 = .ok (.if_icmp .ge 25, 3) := by decide +kernel
theorem dX0_ofHome_12 : decode cX0_ofHome 12 = .ok (.aload_n 0, 1) := by decide +kernel
theorem dX0_ofHome_13 : decode cX0_ofHome 13 = .ok (.getfield 15, 3) := by decide +kernel
theorem dX0_ofHome_16 : decode cX0_ofHome 16 = .ok (.iload_n 3, 1) := by decide +kernel
theorem dX0_ofHome_17 : decode cX0_ofHome 17 = .ok (.iaload, 1) := by decide +kernel
theorem dX0_ofHome_18 : decode cX0_ofHome 18 = .ok (.iload_n 1, 1) := by decide +kernel
theorem dX0_ofHome_19 : decode cX0_ofHome 19 = .ok (.if_icmp .ne 9, 3) := by decide +kernel
theorem dX0_ofHome_22 : decode cX0_ofHome 22 = .ok (.iload_n 2, 1) := by decide +kernel
theorem dX0_ofHome_23 : decode cX0_ofHome 23 = .ok (.iconst 1, 1) := by decide +kernel
theorem dX0_ofHome_24 : decode cX0_ofHome 24 = .ok (.iload_n 3, 1) := by decide +kernel
theorem dX0_ofHome_25 : decode cX0_ofHome 25 = .ok (.ishl, 1) := by decide +kernel
theorem dX0_ofHome_26 : decode cX0_ofHome 26 = .ok (.ior, 1) := by decide +kernel
theorem dX0_ofHome_27 : decode cX0_ofHome 27 = .ok (.istore_n 2, 1) := by decide +kernel
theorem dX0_ofHome_28 : decode cX0_ofHome 28 = .ok (.iinc 3 1, 3) := by decide +kernel
theorem dX0_ofHome_31 : decode cX0_ofHome 31 = .ok (.goto (-27), 3) := by decide +kernel
theorem dX0_ofHome_34 : decode cX0_ofHome 34 = .ok (.iload_n 2, 1) := by decide +kernel
theorem dX0_ofHome_35 : decode cX0_ofHome 35 = .ok (.ireturn, 1) := by decide +kernel
theorem dX0_namesOf_0 : decode cX0_namesOf 0 = .ok (.iconst 0, 1) := by decide +kernel
theorem dX0_namesOf_1 : decode cX0_namesOf 1 = .ok (.istore_n 2, 1) := by decide +kernel
theorem dX0_namesOf_2 : decode cX0_namesOf 2 = .ok (.iconst 0, 1) := by decide +kernel
theorem dX0_namesOf_3 : decode cX0_namesOf 3 = .ok (.istore_n 3, 1) := by decide +kernel
theorem dX0_namesOf_4 : decode cX0_namesOf 4 = .ok (.iload_n 3, 1) := by decide +kernel
theorem dX0_namesOf_5 : decode cX0_namesOf 5 = .ok (.aload_n 0, 1) := by decide +kernel
theorem dX0_namesOf_6 : decode cX0_namesOf 6 = .ok (.getfield 31, 3) := by decide +kernel
theorem dX0_namesOf_9 : decode cX0_namesOf 9 = .ok (.if_icmp .ge 28, 3) := by decide +kernel
theorem dX0_namesOf_12 : decode cX0_namesOf 12 = .ok (.iload_n 1, 1) := by decide +kernel
theorem dX0_namesOf_13 : decode cX0_namesOf 13 = .ok (.iload_n 3, 1) := by decide +kernel
theorem dX0_namesOf_14 : decode cX0_namesOf 14 = .ok (.invokestatic 47, 3) := by decide +kernel
theorem dX0_namesOf_17 : decode cX0_namesOf 17 = .ok (.ifCond .eq 14, 3) := by decide +kernel
theorem dX0_namesOf_20 : decode cX0_namesOf 20 = .ok (.iload_n 2, 1) := by decide +kernel
theorem dX0_namesOf_21 : decode cX0_namesOf 21 = .ok (.iconst 1, 1) := by decide +kernel
theorem dX0_namesOf_22 : decode cX0_namesOf 22 = .ok (.aload_n 0, 1) := by decide +kernel
theorem dX0_namesOf_23 : decode cX0_namesOf 23 = .ok (.getfield 19, 3) := by decide +kernel
theorem dX0_namesOf_26 : decode cX0_namesOf 26 = .ok (.iload_n 3, 1) := by decide +kernel
theorem dX0_namesOf_27 : decode cX0_namesOf 27 = .ok (.iaload, 1) := by decide +kernel
theorem dX0_namesOf_28 : decode cX0_namesOf 28 = .ok (.ishl, 1) := by decide +kernel
theorem dX0_namesOf_29 : decode cX0_namesOf 29 = .ok (.ior, 1) := by decide +kernel
theorem dX0_namesOf_30 : decode cX0_namesOf 30 = .ok (.istore_n 2, 1) := by decide +kernel
theorem dX0_namesOf_31 : decode cX0_namesOf 31 = .ok (.iinc 3 1, 3) := by decide +kernel
theorem dX0_namesOf_34 : decode cX0_namesOf 34 = .ok (.goto (-30), 3) := by decide +kernel
theorem dX0_namesOf_37 : decode cX0_namesOf 37 = .ok (.iload_n 2, 1) := by decide +kernel
theorem dX0_namesOf_38 : decode cX0_namesOf 38 = .ok (.ireturn, 1) := by decide +kernel
theorem dX1_init_0 : decode cX1_init 0 = .ok (.aload_n 0, 1) := by decide +kernel
theorem dX1_init_1 : decode cX1_init 1 = .ok (.invokespecial 3, 3) := by decide +kernel
theorem dX1_init_4 : decode cX1_init 4 = .ok (.aload_n 0, 1) := by decide +kernel
theorem dX1_init_5 : decode cX1_init 5 = .ok (.bipush 16, 2) := by decide +kernel
theorem dX1_init_7 : decode cX1_init 7 = .ok (.anewarray 9, 3) := by decide +kernel
theorem dX1_init_10 : decode cX1_init 10 = .ok (.putfield 11, 3) := by decide +kernel
theorem dX1_init_13 : decode cX1_init 13 = .ok (.iconst 0, 1) := by decide +kernel
theorem dX1_init_14 : decode cX1_init 14 = .ok (.istore_n 1, 1) := by decide +kernel
theorem dX1_init_15 : decode cX1_init 15 = .ok (.iload_n 1, 1) := by decide +kernel
theorem dX1_init_16 : decode cX1_init 16 = .ok (.bipush 16, 2) := by decide +kernel
theorem dX1_init_18 : decode cX1_init 18 = .ok (.if_icmp .ge 22, 3) := by decide +kernel
theorem dX1_init_21 : decode cX1_init 21 = .ok (.aload_n 0, 1) := by decide +kernel
theorem dX1_init_22 : decode cX1_init 22 = .ok (.getfield 11, 3) := by decide +kernel
theorem dX1_init_25 : decode cX1_init 25 = .ok (.iload_n 1, 1) := by decide +kernel
theorem dX1_init_26 : decode cX1_init 26 = .ok (.new 9, 3) := by decide +kernel
theorem dX1_init_29 : decode cX1_init 29 = .ok (.dup, 1) := by decide +kernel
theorem dX1_init_30 : decode cX1_init 30 = .ok (.invokespecial 17, 3) := by decide +kernel
theorem dX1_init_33 : decode cX1_init 33 = .ok (.aastore, 1) := by decide +kernel
theorem dX1_init_34 : decode cX1_init 34 = .ok (.iinc 1 1, 3) := by decide +kernel
theorem dX1_init_37 : decode cX1_init 37 = .ok (.goto (-22), 3) := by decide +kernel
theorem dX1_init_40 : decode cX1_init 40 = .ok (.return_, 1) := by decide +kernel
theorem dX1_size_0 : decode cX1_size 0 = .ok (.aload_n 0, 1) := by decide +kernel
theorem dX1_size_1 : decode cX1_size 1 = .ok (.getfield 18, 3) := by decide +kernel
theorem dX1_size_4 : decode cX1_size 4 = .ok (.ireturn, 1) := by decide +kernel
theorem dX1_clear_0 : decode cX1_clear 0 = .ok (.aload_n 0, 1) := by decide +kernel
theorem dX1_clear_1 : decode cX1_clear 1 = .ok (.iconst 0, 1) := by decide +kernel
theorem dX1_clear_2 : decode cX1_clear 2 = .ok (.putfield 18, 3) := by decide +kernel
theorem dX1_clear_5 : decode cX1_clear 5 = .ok (.return_, 1) := by decide +kernel
theorem dX1_remember_0 : decode cX1_remember 0 = .ok (.aload_n 0, 1) := by decide +kernel
theorem dX1_remember_1 : decode cX1_remember 1 = .ok (.getfield 18, 3) := by decide +kernel
theorem dX1_remember_4 : decode cX1_remember 4 = .ok (.bipush 16, 2) := by decide +kernel
theorem dX1_remember_6 : decode cX1_remember 6 = .ok (.if_icmp .ne 26, 3) := by decide +kernel
theorem dX1_remember_9 : decode cX1_remember 9 = .ok (.aload_n 0, 1) := by decide +kernel
theorem dX1_remember_10 : decode cX1_remember 10 = .ok (.aload_n 0, 1) := by decide +kernel
theorem dX1_remember_11 : decode cX1_remember 11 = .ok (.getfield 22, 3) := by decide +kernel
theorem dX1_remember_14 : decode cX1_remember 14 = .ok (.iconst 1, 1) := by decide +kernel
theorem dX1_remember_15 : decode cX1_remember 15 = .ok (.iadd, 1) := by decide +kernel
theorem dX1_remember_16 : decode cX1_remember 16 = .ok (.bipush 16, 2) := by decide +kernel
theorem dX1_remember_18 : decode cX1_remember 18 = .ok (.irem, 1) := by decide +kernel
theorem dX1_remember_19 : decode cX1_remember 19 = .ok (.putfield 22, 3) := by decide +kernel
theorem dX1_remember_22 : decode cX1_remember 22 = .ok (.aload_n 0, 1) := by decide +kernel
theorem dX1_remember_23 : decode cX1_remember 23 = .ok (.dup, 1) := by decide +kernel
theorem dX1_remember_24 : decode cX1_remember 24 = .ok (.getfield 18, 3) := by decide +kernel
theorem dX1_remember_27 : decode cX1_remember 27 = .ok (.iconst 1, 1) := by decide +kernel
theorem dX1_remember_28 : decode cX1_remember 28 = .ok (.isub, 1) := by decide +kernel
theorem dX1_remember_29 : decode cX1_remember 29 = .ok (.putfield 18, 3) := by decide +kernel
theorem dX1_remember_32 : decode cX1_remember 32 = .ok (.aload_n 0, 1) := by decide +kernel
theorem dX1_remember_33 : decode cX1_remember 33 = .ok (.getfield 11, 3) := by decide +kernel
theorem dX1_remember_36 : decode cX1_remember 36 = .ok (.aload_n 0, 1) := by decide +kernel
theorem dX1_remember_37 : decode cX1_remember 37 = .ok (.getfield 22, 3) := by decide +kernel
theorem dX1_remember_40 : decode cX1_remember 40 = .ok (.aload_n 0, 1) := by decide +kernel
theorem dX1_remember_41 : decode cX1_remember 41 = .ok (.getfield 18, 3) := by decide +kernel
theorem dX1_remember_44 : decode cX1_remember 44 = .ok (.iadd, 1) := by decide +kernel
theorem dX1_remember_45 : decode cX1_remember 45 = .ok (.bipush 16, 2) := by decide +kernel
theorem dX1_remember_47 : decode cX1_remember 47 = .ok (.irem, 1) := by decide +kernel
theorem dX1_remember_48 : decode cX1_remember 48 = .ok (.aaload, 1) := by decide +kernel
theorem dX1_remember_49 : decode cX1_remember 49 = .ok (.aload_n 1, 1) := by decide +kernel
theorem dX1_remember_50 : decode cX1_remember 50 = .ok (.invokevirtual 25, 3) := by decide +kernel
theorem dX1_remember_53 : decode cX1_remember 53 = .ok (.aload_n 0, 1) := by decide +kernel
theorem dX1_remember_54 : decode cX1_remember 54 = .ok (.dup, 1) := by decide +kernel
theorem dX1_remember_55 : decode cX1_remember 55 = .ok (.getfield 18, 3) := by decide +kernel
theorem dX1_remember_58 : decode cX1_remember 58 = .ok (.iconst 1, 1) := by decide +kernel
theorem dX1_remember_59 : decode cX1_remember 59 = .ok (.iadd, 1) := by decide +kernel
theorem dX1_remember_60 : decode cX1_remember 60 = .ok (.putfield 18, 3) := by decide +kernel
theorem dX1_remember_63 : decode cX1_remember 63 = .ok (.return_, 1) := by decide +kernel
theorem dX1_bringBack_0 : decode cX1_bringBack 0 = .ok (.aload_n 0, 1) := by decide +kernel
theorem dX1_bringBack_1 : decode cX1_bringBack 1 = .ok (.getfield 18, 3) := by decide +kernel
theorem dX1_bringBack_4 : decode cX1_bringBack 4 = .ok (.ifCond .le 34, 3) := by decide +kernel
theorem dX1_bringBack_7 : decode cX1_bringBack 7 = .ok (.aload_n 0, 1) := by decide +kernel
theorem dX1_bringBack_8 : decode cX1_bringBack 8 = .ok (.dup, 1) := by decide +kernel
theorem dX1_bringBack_9 : decode cX1_bringBack 9 = .ok (.getfield 18, 3) := by decide +kernel
theorem dX1_bringBack_12 : decode cX1_bringBack 12 = .ok (.iconst 1, 1) := by decide +kernel
theorem dX1_bringBack_13 : decode cX1_bringBack 13 = .ok (.isub, 1) := by decide +kernel
theorem dX1_bringBack_14 : decode cX1_bringBack 14 = .ok (.putfield 18, 3) := by decide +kernel
theorem dX1_bringBack_17 : decode cX1_bringBack 17 = .ok (.aload_n 1, 1) := by decide +kernel
theorem dX1_bringBack_18 : decode cX1_bringBack 18 = .ok (.aload_n 0, 1) := by decide +kernel
theorem dX1_bringBack_19 : decode cX1_bringBack 19 = .ok (.getfield 11, 3) := by decide +kernel
theorem dX1_bringBack_22 : decode cX1_bringBack 22 = .ok (.aload_n 0, 1) := by decide +kernel
theorem dX1_bringBack_23 : decode cX1_bringBack 23 = .ok (.getfield 22, 3) := by decide +kernel
theorem dX1_bringBack_26 : decode cX1_bringBack 26 = .ok (.aload_n 0, 1) := by decide +kernel
theorem dX1_bringBack_27 : decode cX1_bringBack 27 = .ok (.getfield 18, 3) := by decide +kernel
theorem dX1_bringBack_30 : decode cX1_bringBack 30 = .ok (.iadd, 1) := by decide +kernel
theorem dX1_bringBack_31 : decode cX1_bringBack 31 = .ok (.bipush 16, 2) := by decide +kernel
theorem dX1_bringBack_33 : decode cX1_bringBack 33 = .ok (.irem, 1) := by decide +kernel
theorem dX1_bringBack_34 : decode cX1_bringBack 34 = .ok (.aaload, 1) := by decide +kernel
theorem dX1_bringBack_35 : decode cX1_bringBack 35 = .ok (.invokevirtual 25, 3) := by decide +kernel
theorem dX1_bringBack_38 : decode cX1_bringBack 38 = .ok (.return_, 1) := by decide +kernel
theorem dX2_init_0 : decode cX2_init 0 = .ok (.aload_n 0, 1) := by decide +kernel
theorem dX2_init_1 : decode cX2_init 1 = .ok (.invokespecial 3, 3) := by decide +kernel
theorem dX2_init_4 : decode cX2_init 4 = .ok (.return_, 1) := by decide +kernel
theorem dX2_faultOf_0 : decode cX2_faultOf 0 = .ok (.aload_n 2, 1) := by decide +kernel
theorem dX2_faultOf_1 : decode cX2_faultOf 1 = .ok (.invokevirtual 9, 3) := by decide +kernel
theorem dX2_faultOf_4 : decode cX2_faultOf 4 = .ok (.aload_n 0, 1) := by decide +kernel
theorem dX2_faultOf_5 : decode cX2_faultOf 5 = .ok (.iconst 0, 1) := by decide +kernel
theorem dX2_faultOf_6 : decode cX2_faultOf 6 = .ok (.putfield 16, 3) := by decide +kernel
theorem dX2_faultOf_9 : decode cX2_faultOf 9 = .ok (.iconst 0, 1) := by decide +kernel
theorem dX2_faultOf_10 : decode cX2_faultOf 10 = .ok (.istore_n 3, 1) := by decide +kernel
theorem dX2_faultOf_11 : decode cX2_faultOf 11 = .ok (.iload_n 3, 1) := by decide +kernel
theorem dX2_faultOf_12 : decode cX2_faultOf 12 = .ok (.aload_n 1, 1) := by decide +kernel
theorem dX2_faultOf_13 : decode cX2_faultOf 13 = .ok (.invokevirtual 20, 3) := by decide +kernel
theorem dX2_faultOf_16 : decode cX2_faultOf 16 = .ok (.if_icmp .ge 24, 3) := by decide +kernel
theorem dX2_faultOf_19 : decode cX2_faultOf 19 = .ok (.aload_n 0, 1) := by decide +kernel
theorem dX2_faultOf_20 : decode cX2_faultOf 20 = .ok (.aload_n 1, 1) := by decide +kernel
theorem dX2_faultOf_21 : decode cX2_faultOf 21 = .ok (.iload_n 3, 1) := by decide +kernel
theorem dX2_faultOf_22 : decode cX2_faultOf 22 = .ok (.invokevirtual 26, 3) := by decide +kernel
theorem dX2_faultOf_25 : decode cX2_faultOf 25 = .ok (.aload_n 2, 1) := by decide +kernel
theorem dX2_faultOf_26 : decode cX2_faultOf 26 = .ok (.invokevirtual 30, 3) := by decide +kernel
theorem dX2_faultOf_29 : decode cX2_faultOf 29 = .ok (.ifCond .ne 5, 3) := by decide +kernel
theorem dX2_faultOf_32 : decode cX2_faultOf 32 = .ok (.iload_n 3, 1) := by decide +kernel
theorem dX2_faultOf_33 : decode cX2_faultOf 33 = .ok (.ireturn, 1) := by decide +kernel
theorem dX2_faultOf_34 : decode cX2_faultOf 34 = .ok (.iinc 3 1, 3) := by decide +kernel
theorem dX2_faultOf_37 : decode cX2_faultOf 37 = .ok (.goto (-26), 3) := by decide +kernel
theorem dX2_faultOf_40 : decode cX2_faultOf 40 = .ok (.aload_n 0, 1) := by decide +kernel
theorem dX2_faultOf_41 : decode cX2_faultOf 41 = .ok (.getfield 16, 3) := by decide +kernel
theorem dX2_faultOf_44 : decode cX2_faultOf 44 = .ok (.iconst 3, 1) := by decide +kernel
theorem dX2_faultOf_45 : decode cX2_faultOf 45 = .ok (.if_icmp .ne 8, 3) := by decide +kernel
theorem dX2_faultOf_48 : decode cX2_faultOf 48 = .ok (.bipush (-9), 2) := by decide +kernel
theorem dX2_faultOf_50 : decode cX2_faultOf 50 = .ok (.goto 7, 3) := by decide +kernel
theorem dX2_faultOf_53 : decode cX2_faultOf 53 = .ok (.aload_n 1, 1) := by decide +kernel
theorem dX2_faultOf_54 : decode cX2_faultOf 54 = .ok (.invokevirtual 20, 3) := by decide +kernel
theorem dX2_faultOf_57 : decode cX2_faultOf 57 = .ok (.ireturn, 1) := by decide +kernel
theorem dX2_takes_0 : decode cX2_takes 0 = .ok (.aload_n 0, 1) := by decide +kernel
theorem dX2_takes_1 : decode cX2_takes 1 = .ok (.getfield 16, 3) := by decide +kernel
theorem dX2_takes_4 : decode cX2_takes 4 = .ok (.tableswitch 144 0 6 #[44, 61, 95, 130, 137, 137, 137], 44) := by decide +kernel
theorem dX2_takes_48 : decode cX2_takes 48 = .ok (.aload_n 0, 1) := by decide +kernel
theorem dX2_takes_49 : decode cX2_takes 49 = .ok (.iconst 1, 1) := by decide +kernel
theorem dX2_takes_50 : decode cX2_takes 50 = .ok (.putfield 16, 3) := by decide +kernel
theorem dX2_takes_53 : decode cX2_takes 53 = .ok (.iload_n 1, 1) := by decide +kernel
theorem dX2_takes_54 : decode cX2_takes 54 = .ok (.bipush 90, 2) := by decide +kernel
theorem dX2_takes_56 : decode cX2_takes 56 = .ok (.if_icmp .ne 7, 3) := by decide +kernel
theorem dX2_takes_59 : decode cX2_takes 59 = .ok (.iconst 1, 1) := by decide +kernel
theorem dX2_takes_60 : decode cX2_takes 60 = .ok (.goto 4, 3) := by decide +kernel
theorem dX2_takes_63 : decode cX2_takes 63 = .ok (.iconst 0, 1) := by decide +kernel
theorem dX2_takes_64 : decode cX2_takes 64 = .ok (.ireturn, 1) := by decide +kernel
theorem dX2_takes_65 : decode cX2_takes 65 = .ok (.aload_n 2, 1) := by decide +kernel
theorem dX2_takes_66 : decode cX2_takes 66 = .ok (.iload_n 1, 1) := by decide +kernel
theorem dX2_takes_67 : decode cX2_takes 67 = .ok (.bipush 48, 2) := by decide +kernel
theorem dX2_takes_69 : decode cX2_takes 69 = .ok (.isub, 1) := by decide +kernel
theorem dX2_takes_70 : decode cX2_takes 70 = .ok (.putfield 34, 3) := by decide +kernel
theorem dX2_takes_73 : decode cX2_takes 73 = .ok (.aload_n 0, 1) := by decide +kernel
theorem dX2_takes_74 : decode cX2_takes 74 = .ok (.iconst 2, 1) := by decide +kernel
theorem dX2_takes_75 : decode cX2_takes 75 = .ok (.putfield 16, 3) := by decide +kernel
theorem dX2_takes_78 : decode cX2_takes 78 = .ok (.aload_n 2, 1) := by decide +kernel
theorem dX2_takes_79 : decode cX2_takes 79 = .ok (.getfield 34, 3) := by decide +kernel
theorem dX2_takes_82 : decode cX2_takes 82 = .ok (.ifCond .lt 15, 3) := by decide +kernel
theorem dX2_takes_85 : decode cX2_takes 85 = .ok (.aload_n 2, 1) := by decide +kernel
theorem dX2_takes_86 : decode cX2_takes 86 = .ok (.getfield 34, 3) := by decide +kernel
theorem dX2_takes_89 : decode cX2_takes 89 = .ok (.iconst 3, 1) := by decide +kernel
theorem dX2_takes_90 : decode cX2_takes 90 = .ok (.if_icmp .ge 7, 3) := by decide +kernel
theorem dX2_takes_93 : decode cX2_takes 93 = .ok (.iconst 1, 1) := by decide +kernel
theorem dX2_takes_94 : decode cX2_takes 94 = .ok (.goto 4, 3) := by decide +kernel
theorem dX2_takes_97 : decode cX2_takes 97 = .ok (.iconst 0, 1) := by decide +kernel
theorem dX2_takes_98 : decode cX2_takes 98 = .ok (.ireturn, 1) := by decide +kernel
theorem dX2_takes_99 : decode cX2_takes 99 = .ok (.aload_n 2, 1) := by decide +kernel
theorem dX2_takes_100 : decode cX2_takes 100 = .ok (.iload_n 1, 1) := by decide +kernel
theorem dX2_takes_101 : decode cX2_takes 101 = .ok (.bipush 48, 2) := by decide +kernel
theorem dX2_takes_103 : decode cX2_takes 103 = .ok (.isub, 1) := by decide +kernel
theorem dX2_takes_104 : decode cX2_takes 104 = .ok (.putfield 37, 3) := by decide +kernel
theorem dX2_takes_107 : decode cX2_takes 107 = .ok (.aload_n 0, 1) := by decide +kernel
theorem dX2_takes_108 : decode cX2_takes 108 = .ok (.iconst 3, 1) := by decide +kernel
theorem dX2_takes_109 : decode cX2_takes 109 = .ok (.putfield 16, 3) := by decide +kernel
theorem dX2_takes_112 : decode cX2_takes 112 = .ok (.aload_n 2, 1) := by decide +kernel
theorem dX2_takes_113 : decode cX2_takes 113 = .ok (.getfield 37, 3) := by decide +kernel
theorem dX2_takes_116 : decode cX2_takes 116 = .ok (.iconst 1, 1) := by decide +kernel
theorem dX2_takes_117 : decode cX2_takes 117 = .ok (.if_icmp .lt 15, 3) := by decide +kernel
theorem dX2_takes_120 : decode cX2_takes 120 = .ok (.aload_n 2, 1) := by decide +kernel
theorem dX2_takes_121 : decode cX2_takes 121 = .ok (.getfield 37, 3) := by decide +kernel
theorem dX2_takes_124 : decode cX2_takes 124 = .ok (.iconst 4, 1) := by decide +kernel
theorem dX2_takes_125 : decode cX2_takes 125 = .ok (.if_icmp .gt 7, 3) := by decide +kernel
theorem dX2_takes_128 : decode cX2_takes 128 = .ok (.iconst 1, 1) := by decide +kernel
theorem dX2_takes_129 : decode cX2_takes 129 = .ok (.goto 4, 3) := by decide +kernel
theorem dX2_takes_132 : decode cX2_takes 132 = .ok (.iconst 0, 1) := by decide +kernel
theorem dX2_takes_133 : decode cX2_takes 133 = .ok (.ireturn, 1) := by decide +kernel
theorem dX2_takes_134 : decode cX2_takes 134 = .ok (.aload_n 0, 1) := by decide +kernel
theorem dX2_takes_135 : decode cX2_takes 135 = .ok (.iload_n 1, 1) := by decide +kernel
theorem dX2_takes_136 : decode cX2_takes 136 = .ok (.aload_n 2, 1) := by decide +kernel
theorem dX2_takes_137 : decode cX2_takes 137 = .ok (.invokevirtual 40, 3) := by decide +kernel
theorem dX2_takes_140 : decode cX2_takes 140 = .ok (.ireturn, 1) := by decide +kernel
theorem dX2_takes_141 : decode cX2_takes 141 = .ok (.aload_n 0, 1) := by decide +kernel
theorem dX2_takes_142 : decode cX2_takes 142 = .ok (.iload_n 1, 1) := by decide +kernel
theorem dX2_takes_143 : decode cX2_takes 143 = .ok (.aload_n 2, 1) := by decide +kernel
theorem dX2_takes_144 : decode cX2_takes 144 = .ok (.invokevirtual 43, 3) := by decide +kernel
theorem dX2_takes_147 : decode cX2_takes 147 = .ok (.ireturn, 1) := by decide +kernel
theorem dX2_takes_148 : decode cX2_takes 148 = .ok (.aload_n 0, 1) := by decide +kernel
theorem dX2_takes_149 : decode cX2_takes 149 = .ok (.iload_n 1, 1) := by decide +kernel
theorem dX2_takes_150 : decode cX2_takes 150 = .ok (.bipush 48, 2) := by decide +kernel
theorem dX2_takes_152 : decode cX2_takes 152 = .ok (.isub, 1) := by decide +kernel
theorem dX2_takes_153 : decode cX2_takes 153 = .ok (.aload_n 2, 1) := by decide +kernel
theorem dX2_takes_154 : decode cX2_takes 154 = .ok (.invokevirtual 46, 3) := by decide +kernel
theorem dX2_takes_157 : decode cX2_takes 157 = .ok (.ireturn, 1) := by decide +kernel
theorem dX2_takesPart_0 : decode cX2_takesPart 0 = .ok (.iload_n 1, 1) := by decide +kernel
theorem dX2_takesPart_1 : decode cX2_takesPart 1 = .ok (.bipush 80, 2) := by decide +kernel
theorem dX2_takesPart_3 : decode cX2_takesPart 3 = .ok (.if_icmp .ne 23, 3) := by decide +kernel
theorem dX2_takesPart_6 : decode cX2_takesPart 6 = .ok (.aload_n 0, 1) := by decide +kernel
theorem dX2_takesPart_7 : decode cX2_takesPart 7 = .ok (.iconst 4, 1) := by decide +kernel
theorem dX2_takesPart_8 : decode cX2_takesPart 8 = .ok (.putfield 16, 3) := by decide +kernel
theorem dX2_takesPart_11 : decode cX2_takesPart 11 = .ok (.aload_n 2, 1) := by decide +kernel
theorem dX2_takesPart_12 : decode cX2_takesPart 12 = .ok (.getfield 49, 3) := by decide +kernel
theorem dX2_takesPart_15 : decode cX2_takesPart 15 = .ok (.bipush 8, 2) := by decide +kernel
theorem dX2_takesPart_17 : decode cX2_takesPart 17 = .ok (.if_icmp .ge 7, 3) := by decide +kernel
theorem dX2_takesPart_20 : decode cX2_takesPart 20 = .ok (.iconst 1, 1) := by decide +kernel
theorem dX2_takesPart_21 : decode cX2_takesPart 21 = .ok (.goto 4, 3) := by decide +kernel
theorem dX2_takesPart_24 : decode cX2_takesPart 24 = .ok (.iconst 0, 1) := by decide +kernel
theorem dX2_takesPart_25 : decode cX2_takesPart 25 = .ok (.ireturn, 1) := by decide +kernel
theorem dX2_takesPart_26 : decode cX2_takesPart 26 = .ok (.aload_n 0, 1) := by decide +kernel
theorem dX2_takesPart_27 : decode cX2_takesPart 27 = .ok (.bipush 7, 2) := by decide +kernel
theorem dX2_takesPart_29 : decode cX2_takesPart 29 = .ok (.putfield 16, 3) := by decide +kernel
theorem dX2_takesPart_32 : decode cX2_takesPart 32 = .ok (.iload_n 1, 1) := by decide +kernel
theorem dX2_takesPart_33 : decode cX2_takesPart 33 = .ok (.bipush 65, 2) := by decide +kernel
theorem dX2_takesPart_35 : decode cX2_takesPart 35 = .ok (.if_icmp .ne 14, 3) := by decide +kernel
theorem dX2_takesPart_38 : decode cX2_takesPart 38 = .ok (.aload_n 2, 1) := by decide +kernel
theorem dX2_takesPart_39 : decode cX2_takesPart 39 = .ok (.invokevirtual 52, 3) := by decide +kernel
theorem dX2_takesPart_42 : decode cX2_takesPart 42 = .ok (.ifCond .eq 7, 3) := by decide +kernel
theorem dX2_takesPart_45 : decode cX2_takesPart 45 = .ok (.iconst 1, 1) := by decide +kernel
theorem dX2_takesPart_46 : decode cX2_takesPart 46 = .ok (.goto 4, 3) := by decide +kernel
theorem dX2_takesPart_49 : decode cX2_takesPart 49 = .ok (.iconst 0, 1) := by decide +kernel
theorem dX2_takesPart_50 : decode cX2_takesPart 50 = .ok (.ireturn, 1) := by decide +kernel
theorem dX2_takesOfPerson_0 : decode cX2_takesOfPerson 0 = .ok (.aload_n 2, 1) := by decide +kernel
theorem dX2_takesOfPerson_1 : decode cX2_takesOfPerson 1 = .ok (.getfield 49, 3) := by decide +kernel
theorem dX2_takesOfPerson_4 : decode cX2_takesOfPerson 4 = .ok (.istore_n 3, 1) := by decide +kernel
theorem dX2_takesOfPerson_5 : decode cX2_takesOfPerson 5 = .ok (.iload_n 3, 1) := by decide +kernel
theorem dX2_takesOfPerson_6 : decode cX2_takesOfPerson 6 = .ok (.bipush 8, 2) := by decide +kernel
theorem dX2_takesOfPerson_8 : decode cX2_takesOfPerson 8 = .ok (.if_icmp .lt 5, 3) := by decide +kernel
theorem dX2_takesOfPerson_11 : decode cX2_takesOfPerson 11 = .ok (.iconst 0, 1) := by decide +kernel
theorem dX2_takesOfPerson_12 : decode cX2_takesOfPerson 12 = .ok (.ireturn, 1) := by decide +kernel
theorem dX2_takesOfPerson_13 : decode cX2_takesOfPerson 13 = .ok (.aload_n 0, 1) := by decide +kernel
theorem dX2_takesOfPerson_14 : decode cX2_takesOfPerson 14 = .ok (.getfield 16, 3) := by decide +kernel
theorem dX2_takesOfPerson_17 : decode cX2_takesOfPerson 17 = .ok (.iconst 4, 1) := by decide +kernel
theorem dX2_takesOfPerson_18 : decode cX2_takesOfPerson 18 = .ok (.if_icmp .ne 27, 3) := by decide +kernel
theorem dX2_takesOfPerson_21 : decode cX2_takesOfPerson 21 = .ok (.aload_n 2, 1) := by decide +kernel
theorem dX2_takesOfPerson_22 : decode cX2_takesOfPerson 22 = .ok (.getfield 56, 3) := by decide +kernel
theorem dX2_takesOfPerson_25 : decode cX2_takesOfPerson 25 = .ok (.iload_n 3, 1) := by decide +kernel
theorem dX2_takesOfPerson_26 : decode cX2_takesOfPerson 26 = .ok (.iload_n 1, 1) := by decide +kernel
theorem dX2_takesOfPerson_27 : decode cX2_takesOfPerson 27 = .ok (.bipush 48, 2) := by decide +kernel
theorem dX2_takesOfPerson_29 : decode cX2_takesOfPerson 29 = .ok (.isub, 1) := by decide +kernel
theorem dX2_takesOfPerson_30 : decode cX2_takesOfPerson 30 = .ok (.iastore, 1) := by decide +kernel
theorem dX2_takesOfPerson_31 : decode cX2_takesOfPerson 31 = .ok (.aload_n 0, 1) := by decide +kernel
theorem dX2_takesOfPerson_32 : decode cX2_takesOfPerson 32 = .ok (.iconst 5, 1) := by decide +kernel
theorem dX2_takesOfPerson_33 : decode cX2_takesOfPerson 33 = .ok (.putfield 16, 3) := by decide +kernel
theorem dX2_takesOfPerson_36 : decode cX2_takesOfPerson 36 = .ok (.aload_n 2, 1) := by decide +kernel
theorem dX2_takesOfPerson_37 : decode cX2_takesOfPerson 37 = .ok (.iload_n 1, 1) := by decide +kernel
theorem dX2_takesOfPerson_38 : decode cX2_takesOfPerson 38 = .ok (.bipush 48, 2) := by decide +kernel
theorem dX2_takesOfPerson_40 : decode cX2_takesOfPerson 40 = .ok (.isub, 1) := by decide +kernel
theorem dX2_takesOfPerson_41 : decode cX2_takesOfPerson 41 = .ok (.invokevirtual 60, 3) := by decide +kernel
theorem dX2_takesOfPerson_44 : decode cX2_takesOfPerson 44 = .ok (.ireturn, 1) := by decide +kernel
theorem dX2_takesOfPerson_45 : decode cX2_takesOfPerson 45 = .ok (.aload_n 0, 1) := by decide +kernel
theorem dX2_takesOfPerson_46 : decode cX2_takesOfPerson 46 = .ok (.getfield 16, 3) := by decide +kernel
theorem dX2_takesOfPerson_49 : decode cX2_takesOfPerson 49 = .ok (.iconst 5, 1) := by decide +kernel
theorem dX2_takesOfPerson_50 : decode cX2_takesOfPerson 50 = .ok (.if_icmp .ne 37, 3) := by decide +kernel
theorem dX2_takesOfPerson_53 : decode cX2_takesOfPerson 53 = .ok (.aload_n 2, 1) := by decide +kernel
theorem dX2_takesOfPerson_54 : decode cX2_takesOfPerson 54 = .ok (.getfield 64, 3) := by decide +kernel
theorem dX2_takesOfPerson_57 : decode cX2_takesOfPerson 57 = .ok (.iload_n 3, 1) := by decide +kernel
theorem dX2_takesOfPerson_58 : decode cX2_takesOfPerson 58 = .ok (.iload_n 1, 1) := by decide +kernel
theorem dX2_takesOfPerson_59 : decode cX2_takesOfPerson 59 = .ok (.bipush 97, 2) := by decide +kernel
theorem dX2_takesOfPerson_61 : decode cX2_takesOfPerson 61 = .ok (.isub, 1) := by decide +kernel
theorem dX2_takesOfPerson_62 : decode cX2_takesOfPerson 62 = .ok (.iastore, 1) := by decide +kernel
theorem dX2_takesOfPerson_63 : decode cX2_takesOfPerson 63 = .ok (.aload_n 0, 1) := by decide +kernel
theorem dX2_takesOfPerson_64 : decode cX2_takesOfPerson 64 = .ok (.bipush 6, 2) := by decide +kernel
theorem dX2_takesOfPerson_66 : decode cX2_takesOfPerson 66 = .ok (.putfield 16, 3) := by decide +kernel
theorem dX2_takesOfPerson_69 : decode cX2_takesOfPerson 69 = .ok (.iload_n 1, 1) := by decide +kernel
theorem dX2_takesOfPerson_70 : decode cX2_takesOfPerson 70 = .ok (.bipush 97, 2) := by decide +kernel
theorem dX2_takesOfPerson_72 : decode cX2_takesOfPerson 72 = .ok (.if_icmp .lt 13, 3) := by decide +kernel
theorem dX2_takesOfPerson_75 : decode cX2_takesOfPerson 75 = .ok (.iload_n 1, 1) := by decide +kernel
theorem dX2_takesOfPerson_76 : decode cX2_takesOfPerson 76 = .ok (.bipush 103, 2) := by decide +kernel
theorem dX2_takesOfPerson_78 : decode cX2_takesOfPerson 78 = .ok (.if_icmp .ge 7, 3) := by decide +kernel
theorem dX2_takesOfPerson_81 : decode cX2_takesOfPerson 81 = .ok (.iconst 1, 1) := by decide +kernel
theorem dX2_takesOfPerson_82 : decode cX2_takesOfPerson 82 = .ok (.goto 4, 3) := by decide +kernel
theorem dX2_takesOfPerson_85 : decode cX2_takesOfPerson 85 = .ok (.iconst 0, 1) := by decide +kernel
theorem dX2_takesOfPerson_86 : decode cX2_takesOfPerson 86 = .ok (.ireturn, 1) := by decide +kernel
theorem dX2_takesOfPerson_87 : decode cX2_takesOfPerson 87 = .ok (.aload_n 2, 1) := by decide +kernel
theorem dX2_takesOfPerson_88 : decode cX2_takesOfPerson 88 = .ok (.getfield 67, 3) := by decide +kernel
theorem dX2_takesOfPerson_91 : decode cX2_takesOfPerson 91 = .ok (.iload_n 3, 1) := by decide +kernel
theorem dX2_takesOfPerson_92 : decode cX2_takesOfPerson 92 = .ok (.iload_n 1, 1) := by decide +kernel
theorem dX2_takesOfPerson_93 : decode cX2_takesOfPerson 93 = .ok (.bipush 48, 2) := by decide +kernel
theorem dX2_takesOfPerson_95 : decode cX2_takesOfPerson 95 = .ok (.isub, 1) := by decide +kernel
theorem dX2_takesOfPerson_96 : decode cX2_takesOfPerson 96 = .ok (.iastore, 1) := by decide +kernel
theorem dX2_takesOfPerson_97 : decode cX2_takesOfPerson 97 = .ok (.aload_n 2, 1) := by decide +kernel
theorem dX2_takesOfPerson_98 : decode cX2_takesOfPerson 98 = .ok (.getfield 70, 3) := by decide +kernel
theorem dX2_takesOfPerson_101 : decode cX2_takesOfPerson 101 = .ok (.iload_n 3, 1) := by decide +kernel
theorem dX2_takesOfPerson_102 : decode cX2_takesOfPerson 102 = .ok (.iconst 0, 1) := by decide +kernel
theorem dX2_takesOfPerson_103 : decode cX2_takesOfPerson 103 = .ok (.iastore, 1) := by decide +kernel
theorem dX2_takesOfPerson_104 : decode cX2_takesOfPerson 104 = .ok (.aload_n 2, 1) := by decide +kernel
theorem dX2_takesOfPerson_105 : decode cX2_takesOfPerson 105 = .ok (.dup, 1) := by decide +kernel
theorem dX2_takesOfPerson_106 : decode cX2_takesOfPerson 106 = .ok (.getfield 49, 3) := by decide +kernel
theorem dX2_takesOfPerson_109 : decode cX2_takesOfPerson 109 = .ok (.iconst 1, 1) := by decide +kernel
theorem dX2_takesOfPerson_110 : decode cX2_takesOfPerson 110 = .ok (.iadd, 1) := by decide +kernel
theorem dX2_takesOfPerson_111 : decode cX2_takesOfPerson 111 = .ok (.putfield 49, 3) := by decide +kernel
theorem dX2_takesOfPerson_114 : decode cX2_takesOfPerson 114 = .ok (.aload_n 0, 1) := by decide +kernel
theorem dX2_takesOfPerson_115 : decode cX2_takesOfPerson 115 = .ok (.iconst 3, 1) := by decide +kernel
theorem dX2_takesOfPerson_116 : decode cX2_takesOfPerson 116 = .ok (.putfield 16, 3) := by decide +kernel
theorem dX2_takesOfPerson_119 : decode cX2_takesOfPerson 119 = .ok (.iload_n 1, 1) := by decide +kernel
theorem dX2_takesOfPerson_120 : decode cX2_takesOfPerson 120 = .ok (.bipush 48, 2) := by decide +kernel
theorem dX2_takesOfPerson_122 : decode cX2_takesOfPerson 122 = .ok (.if_icmp .lt 13, 3) := by decide +kernel
theorem dX2_takesOfPerson_125 : decode cX2_takesOfPerson 125 = .ok (.iload_n 1, 1) := by decide +kernel
theorem dX2_takesOfPerson_126 : decode cX2_takesOfPerson 126 = .ok (.bipush 57, 2) := by decide +kernel
theorem dX2_takesOfPerson_128 : decode cX2_takesOfPerson 128 = .ok (.if_icmp .gt 7, 3) := by decide +kernel
theorem dX2_takesOfPerson_131 : decode cX2_takesOfPerson 131 = .ok (.iconst 1, 1) := by decide +kernel
theorem dX2_takesOfPerson_132 : decode cX2_takesOfPerson 132 = .ok (.goto 4, 3) := by decide +kernel
theorem dX2_takesOfPerson_135 : decode cX2_takesOfPerson 135 = .ok (.iconst 0, 1) := by decide +kernel
theorem dX2_takesOfPerson_136 : decode cX2_takesOfPerson 136 = .ok (.ireturn, 1) := by decide +kernel
theorem dX2_takesOfPair_0 : decode cX2_takesOfPair 0 = .ok (.aload_n 0, 1) := by decide +kernel
theorem dX2_takesOfPair_1 : decode cX2_takesOfPair 1 = .ok (.getfield 16, 3) := by decide +kernel
theorem dX2_takesOfPair_4 : decode cX2_takesOfPair 4 = .ok (.bipush 7, 2) := by decide +kernel
theorem dX2_takesOfPair_6 : decode cX2_takesOfPair 6 = .ok (.if_icmp .ne 20, 3) := by decide +kernel
theorem dX2_takesOfPair_9 : decode cX2_takesOfPair 9 = .ok (.aload_n 0, 1) := by decide +kernel
theorem dX2_takesOfPair_10 : decode cX2_takesOfPair 10 = .ok (.iload_n 1, 1) := by decide +kernel
theorem dX2_takesOfPair_11 : decode cX2_takesOfPair 11 = .ok (.putfield 73, 3) := by decide +kernel
theorem dX2_takesOfPair_14 : decode cX2_takesOfPair 14 = .ok (.aload_n 0, 1) := by decide +kernel
theorem dX2_takesOfPair_15 : decode cX2_takesOfPair 15 = .ok (.bipush 8, 2) := by decide +kernel
theorem dX2_takesOfPair_17 : decode cX2_takesOfPair 17 = .ok (.putfield 16, 3) := by decide +kernel
theorem dX2_takesOfPair_20 : decode cX2_takesOfPair 20 = .ok (.aload_n 2, 1) := by decide +kernel
theorem dX2_takesOfPair_21 : decode cX2_takesOfPair 21 = .ok (.iload_n 1, 1) := by decide +kernel
theorem dX2_takesOfPair_22 : decode cX2_takesOfPair 22 = .ok (.invokevirtual 76, 3) := by decide +kernel
theorem dX2_takesOfPair_25 : decode cX2_takesOfPair 25 = .ok (.ireturn, 1) := by decide +kernel
theorem dX2_takesOfPair_26 : decode cX2_takesOfPair 26 = .ok (.aload_n 0, 1) := by decide +kernel
theorem dX2_takesOfPair_27 : decode cX2_takesOfPair 27 = .ok (.iconst 3, 1) := by decide +kernel
theorem dX2_takesOfPair_28 : decode cX2_takesOfPair 28 = .ok (.putfield 16, 3) := by decide +kernel
theorem dX2_takesOfPair_31 : decode cX2_takesOfPair 31 = .ok (.aload_n 2, 1) := by decide +kernel
theorem dX2_takesOfPair_32 : decode cX2_takesOfPair 32 = .ok (.aload_n 0, 1) := by decide +kernel
theorem dX2_takesOfPair_33 : decode cX2_takesOfPair 33 = .ok (.getfield 73, 3) := by decide +kernel
theorem dX2_takesOfPair_36 : decode cX2_takesOfPair 36 = .ok (.iload_n 1, 1) := by decide +kernel
theorem dX2_takesOfPair_37 : decode cX2_takesOfPair 37 = .ok (.invokevirtual 79, 3) := by decide +kernel
theorem dX2_takesOfPair_40 : decode cX2_takesOfPair 40 = .ok (.ifCond .ne 5, 3) := by decide +kernel
theorem dX2_takesOfPair_43 : decode cX2_takesOfPair 43 = .ok (.iconst 0, 1) := by decide +kernel
theorem dX2_takesOfPair_44 : decode cX2_takesOfPair 44 = .ok (.ireturn, 1) := by decide +kernel
theorem dX2_takesOfPair_45 : decode cX2_takesOfPair 45 = .ok (.aload_n 2, 1) := by decide +kernel
theorem dX2_takesOfPair_46 : decode cX2_takesOfPair 46 = .ok (.getfield 70, 3) := by decide +kernel
theorem dX2_takesOfPair_49 : decode cX2_takesOfPair 49 = .ok (.aload_n 0, 1) := by decide +kernel
theorem dX2_takesOfPair_50 : decode cX2_takesOfPair 50 = .ok (.getfield 73, 3) := by decide +kernel
theorem dX2_takesOfPair_53 : decode cX2_takesOfPair 53 = .ok (.dup2, 1) := by decide +kernel
theorem dX2_takesOfPair_54 : decode cX2_takesOfPair 54 = .ok (.iaload, 1) := by decide +kernel
theorem dX2_takesOfPair_55 : decode cX2_takesOfPair 55 = .ok (.iconst 1, 1) := by decide +kernel
theorem dX2_takesOfPair_56 : decode cX2_takesOfPair 56 = .ok (.iload_n 1, 1) := by decide +kernel
theorem dX2_takesOfPair_57 : decode cX2_takesOfPair 57 = .ok (.ishl, 1) := by decide +kernel
theorem dX2_takesOfPair_58 : decode cX2_takesOfPair 58 = .ok (.ior, 1) := by decide +kernel
theorem dX2_takesOfPair_59 : decode cX2_takesOfPair 59 = .ok (.iastore, 1) := by decide +kernel
theorem dX2_takesOfPair_60 : decode cX2_takesOfPair 60 = .ok (.aload_n 2, 1) := by decide +kernel
theorem dX2_takesOfPair_61 : decode cX2_takesOfPair 61 = .ok (.dup, 1) := by decide +kernel
theorem dX2_takesOfPair_62 : decode cX2_takesOfPair 62 = .ok (.getfield 83, 3) := by decide +kernel
theorem dX2_takesOfPair_65 : decode cX2_takesOfPair 65 = .ok (.iconst 1, 1) := by decide +kernel
theorem dX2_takesOfPair_66 : decode cX2_takesOfPair 66 = .ok (.iadd, 1) := by decide +kernel
theorem dX2_takesOfPair_67 : decode cX2_takesOfPair 67 = .ok (.putfield 83, 3) := by decide +kernel
theorem dX2_takesOfPair_70 : decode cX2_takesOfPair 70 = .ok (.iconst 1, 1) := by decide +kernel
theorem dX2_takesOfPair_71 : decode cX2_takesOfPair 71 = .ok (.ireturn, 1) := by decide +kernel
theorem dX3_init_0 : decode cX3_init 0 = .ok (.aload_n 0, 1) := by decide +kernel
theorem dX3_init_1 : decode cX3_init 1 = .ok (.invokespecial 3, 3) := by decide +kernel
theorem dX3_init_4 : decode cX3_init 4 = .ok (.aload_n 0, 1) := by decide +kernel
theorem dX3_init_5 : decode cX3_init 5 = .ok (.iconst 3, 1) := by decide +kernel
theorem dX3_init_6 : decode cX3_init 6 = .ok (.newarray .int, 2) := by decide +kernel
theorem dX3_init_8 : decode cX3_init 8 = .ok (.putfield 9, 3) := by decide +kernel
theorem dX3_init_11 : decode cX3_init 11 = .ok (.aload_n 0, 1) := by decide +kernel
theorem dX3_init_12 : decode cX3_init 12 = .ok (.iconst 3, 1) := by decide +kernel
theorem dX3_init_13 : decode cX3_init 13 = .ok (.newarray .int, 2) := by decide +kernel
theorem dX3_init_15 : decode cX3_init 15 = .ok (.putfield 15, 3) := by decide +kernel
theorem dX3_init_18 : decode cX3_init 18 = .ok (.aload_n 0, 1) := by decide +kernel
theorem dX3_init_19 : decode cX3_init 19 = .ok (.new 18, 3) := by decide +kernel
theorem dX3_init_22 : decode cX3_init 22 = .ok (.dup, 1) := by decide +kernel
theorem dX3_init_23 : decode cX3_init 23 = .ok (.invokespecial 20, 3) := by decide +kernel
theorem dX3_init_26 : decode cX3_init 26 = .ok (.putfield 21, 3) := by decide +kernel
theorem dX3_init_29 : decode cX3_init 29 = .ok (.return_, 1) := by decide +kernel
theorem dX3_tellAll_0 : decode cX3_tellAll 0 = .ok (.aload_n 0, 1) := by decide +kernel
theorem dX3_tellAll_1 : decode cX3_tellAll 1 = .ok (.iload_n 3, 1) := by decide +kernel
theorem dX3_tellAll_2 : decode cX3_tellAll 2 = .ok (.iconst 3, 1) := by decide +kernel
theorem dX3_tellAll_3 : decode cX3_tellAll 3 = .ok (.invokestatic 25, 3) := by decide +kernel
theorem dX3_tellAll_6 : decode cX3_tellAll 6 = .ok (.putfield 31, 3) := by decide +kernel
theorem dX3_tellAll_9 : decode cX3_tellAll 9 = .ok (.iload 4, 2) := by decide +kernel
theorem dX3_tellAll_11 : decode cX3_tellAll 11 = .ok (.istore 5, 2) := by decide +kernel
theorem dX3_tellAll_13 : decode cX3_tellAll 13 = .ok (.aload_n 0, 1) := by decide +kernel
theorem dX3_tellAll_14 : decode cX3_tellAll 14 = .ok (.getfield 31, 3) := by decide +kernel
theorem dX3_tellAll_17 : decode cX3_tellAll 17 = .ok (.iconst 1, 1) := by decide +kernel
theorem dX3_tellAll_18 : decode cX3_tellAll 18 = .ok (.isub, 1) := by decide +kernel
theorem dX3_tellAll_19 : decode cX3_tellAll 19 = .ok (.istore 6, 2) := by decide +kernel
theorem dX3_tellAll_21 : decode cX3_tellAll 21 = .ok (.iload 6, 2) := by decide +kernel
theorem dX3_tellAll_23 : decode cX3_tellAll 23 = .ok (.ifCond .lt 28, 3) := by decide +kernel
theorem dX3_tellAll_26 : decode cX3_tellAll 26 = .ok (.aload_n 0, 1) := by decide +kernel
theorem dX3_tellAll_27 : decode cX3_tellAll 27 = .ok (.getfield 15, 3) := by decide +kernel
theorem dX3_tellAll_30 : decode cX3_tellAll 30 = .ok (.iload 6, 2) := by decide +kernel
theorem dX3_tellAll_32 : decode cX3_tellAll 32 = .ok (.iload 5, 2) := by decide +kernel
theorem dX3_tellAll_34 : decode cX3_tellAll 34 = .ok (.bipush 10, 2) := by decide +kernel
theorem dX3_tellAll_36 : decode cX3_tellAll 36 = .ok (.irem, 1) := by decide +kernel
theorem dX3_tellAll_37 : decode cX3_tellAll 37 = .ok (.iastore, 1) := by decide +kernel
theorem dX3_tellAll_38 : decode cX3_tellAll 38 = .ok (.iload 5, 2) := by decide +kernel
theorem dX3_tellAll_40 : decode cX3_tellAll 40 = .ok (.bipush 10, 2) := by decide +kernel
theorem dX3_tellAll_42 : decode cX3_tellAll 42 = .ok (.idiv, 1) := by decide +kernel
theorem dX3_tellAll_43 : decode cX3_tellAll 43 = .ok (.istore 5, 2) := by decide +kernel
theorem dX3_tellAll_45 : decode cX3_tellAll 45 = .ok (.iinc 6 (-1), 3) := by decide +kernel
theorem dX3_tellAll_48 : decode cX3_tellAll 48 = .ok (.goto (-27), 3) := by decide +kernel
theorem dX3_tellAll_51 : decode cX3_tellAll 51 = .ok (.aload_n 0, 1) := by decide +kernel
theorem dX3_tellAll_52 : decode cX3_tellAll 52 = .ok (.iconst 0, 1) := by decide +kernel
theorem dX3_tellAll_53 : decode cX3_tellAll 53 = .ok (.putfield 35, 3) := by decide +kernel
theorem dX3_tellAll_56 : decode cX3_tellAll 56 = .ok (.aload_n 0, 1) := by decide +kernel
theorem dX3_tellAll_57 : decode cX3_tellAll 57 = .ok (.iload_n 2, 1) := by decide +kernel
theorem dX3_tellAll_58 : decode cX3_tellAll 58 = .ok (.putfield 38, 3) := by decide +kernel
theorem dX3_tellAll_61 : decode cX3_tellAll 61 = .ok (.aload_n 0, 1) := by decide +kernel
theorem dX3_tellAll_62 : decode cX3_tellAll 62 = .ok (.aload_n 1, 1) := by decide +kernel
theorem dX3_tellAll_63 : decode cX3_tellAll 63 = .ok (.iconst 0, 1) := by decide +kernel
theorem dX3_tellAll_64 : decode cX3_tellAll 64 = .ok (.iload_n 2, 1) := by decide +kernel
theorem dX3_tellAll_65 : decode cX3_tellAll 65 = .ok (.invokestatic 41, 3) := by decide +kernel
theorem dX3_tellAll_68 : decode cX3_tellAll 68 = .ok (.return_, 1) := by decide +kernel
theorem dX3_tellFrom_0 : decode cX3_tellFrom 0 = .ok (.iload_n 2, 1) := by decide +kernel
theorem dX3_tellFrom_1 : decode cX3_tellFrom 1 = .ok (.aload_n 0, 1) := by decide +kernel
theorem dX3_tellFrom_2 : decode cX3_tellFrom 2 = .ok (.getfield 31, 3) := by decide +kernel
theorem dX3_tellFrom_5 : decode cX3_tellFrom 5 = .ok (.if_icmp .lt 26, 3) := by decide +kernel
theorem dX3_tellFrom_8 : decode cX3_tellFrom 8 = .ok (.aload_n 0, 1) := by decide +kernel
theorem dX3_tellFrom_9 : decode cX3_tellFrom 9 = .ok (.dup, 1) := by decide +kernel
theorem dX3_tellFrom_10 : decode cX3_tellFrom 10 = .ok (.getfield 35, 3) := by decide +kernel
theorem dX3_tellFrom_13 : decode cX3_tellFrom 13 = .ok (.iconst 1, 1) := by decide +kernel
theorem dX3_tellFrom_14 : decode cX3_tellFrom 14 = .ok (.iadd, 1) := by decide +kernel
theorem dX3_tellFrom_15 : decode cX3_tellFrom 15 = .ok (.putfield 35, 3) := by decide +kernel
theorem dX3_tellFrom_18 : decode cX3_tellFrom 18 = .ok (.aload_n 0, 1) := by decide +kernel
theorem dX3_tellFrom_19 : decode cX3_tellFrom 19 = .ok (.dup, 1) := by decide +kernel
theorem dX3_tellFrom_20 : decode cX3_tellFrom 20 = .ok (.getfield 38, 3) := by decide +kernel
theorem dX3_tellFrom_23 : decode cX3_tellFrom 23 = .ok (.iload_n 3, 1) := by decide +kernel
theorem dX3_tellFrom_24 : decode cX3_tellFrom 24 = .ok (.iconst (-1), 1) := by decide +kernel
theorem dX3_tellFrom_25 : decode cX3_tellFrom 25 = .ok (.ixor, 1) := by decide +kernel
theorem dX3_tellFrom_26 : decode cX3_tellFrom 26 = .ok (.iand, 1) := by decide +kernel
theorem dX3_tellFrom_27 : decode cX3_tellFrom 27 = .ok (.putfield 38, 3) := by decide +kernel
theorem dX3_tellFrom_30 : decode cX3_tellFrom 30 = .ok (.return_, 1) := by decide +kernel
theorem dX3_tellFrom_31 : decode cX3_tellFrom 31 = .ok (.iconst 1, 1) := by decide +kernel
theorem dX3_tellFrom_32 : decode cX3_tellFrom 32 = .ok (.iload_n 3, 1) := by decide +kernel
theorem dX3_tellFrom_33 : decode cX3_tellFrom 33 = .ok (.invokestatic 45, 3) := by decide +kernel
theorem dX3_tellFrom_36 : decode cX3_tellFrom 36 = .ok (.ishl, 1) := by decide +kernel
theorem dX3_tellFrom_37 : decode cX3_tellFrom 37 = .ok (.istore 4, 2) := by decide +kernel
theorem dX3_tellFrom_39 : decode cX3_tellFrom 39 = .ok (.iconst 0, 1) := by decide +kernel
theorem dX3_tellFrom_40 : decode cX3_tellFrom 40 = .ok (.istore 5, 2) := by decide +kernel
theorem dX3_tellFrom_42 : decode cX3_tellFrom 42 = .ok (.iconst 0, 1) := by decide +kernel
theorem dX3_tellFrom_43 : decode cX3_tellFrom 43 = .ok (.istore 6, 2) := by decide +kernel
theorem dX3_tellFrom_45 : decode cX3_tellFrom 45 = .ok (.iload 6, 2) := by decide +kernel
theorem dX3_tellFrom_47 : decode cX3_tellFrom 47 = .ok (.iload 4, 2) := by decide +kernel
theorem dX3_tellFrom_49 : decode cX3_tellFrom 49 = .ok (.if_icmp .ge 60, 3) := by decide +kernel
theorem dX3_tellFrom_52 : decode cX3_tellFrom 52 = .ok (.aload_n 0, 1) := by decide +kernel
theorem dX3_tellFrom_53 : decode cX3_tellFrom 53 = .ok (.getfield 9, 3) := by decide +kernel
theorem dX3_tellFrom_56 : decode cX3_tellFrom 56 = .ok (.iload_n 2, 1) := by decide +kernel
theorem dX3_tellFrom_57 : decode cX3_tellFrom 57 = .ok (.iload 5, 2) := by decide +kernel
theorem dX3_tellFrom_59 : decode cX3_tellFrom 59 = .ok (.iastore, 1) := by decide +kernel
theorem dX3_tellFrom_60 : decode cX3_tellFrom 60 = .ok (.aload_n 0, 1) := by decide +kernel
theorem dX3_tellFrom_61 : decode cX3_tellFrom 61 = .ok (.aload_n 1, 1) := by decide +kernel
theorem dX3_tellFrom_62 : decode cX3_tellFrom 62 = .ok (.iload_n 2, 1) := by decide +kernel
theorem dX3_tellFrom_63 : decode cX3_tellFrom 63 = .ok (.iload_n 3, 1) := by decide +kernel
theorem dX3_tellFrom_64 : decode cX3_tellFrom 64 = .ok (.iload 5, 2) := by decide +kernel
theorem dX3_tellFrom_66 : decode cX3_tellFrom 66 = .ok (.iconst (-1), 1) := by decide +kernel
theorem dX3_tellFrom_67 : decode cX3_tellFrom 67 = .ok (.ixor, 1) := by decide +kernel
theorem dX3_tellFrom_68 : decode cX3_tellFrom 68 = .ok (.iand, 1) := by decide +kernel
theorem dX3_tellFrom_69 : decode cX3_tellFrom 69 = .ok (.invokevirtual 51, 3) := by decide +kernel
theorem dX3_tellFrom_72 : decode cX3_tellFrom 72 = .ok (.aload_n 0, 1) := by decide +kernel
theorem dX3_tellFrom_73 : decode cX3_tellFrom 73 = .ok (.getfield 15, 3) := by decide +kernel
theorem dX3_tellFrom_76 : decode cX3_tellFrom 76 = .ok (.iload_n 2, 1) := by decide +kernel
theorem dX3_tellFrom_77 : decode cX3_tellFrom 77 = .ok (.iaload, 1) := by decide +kernel
theorem dX3_tellFrom_78 : decode cX3_tellFrom 78 = .ok (.if_icmp .ne 17, 3) := by decide +kernel
theorem dX3_tellFrom_81 : decode cX3_tellFrom 81 = .ok (.aload_n 0, 1) := by decide +kernel
theorem dX3_tellFrom_82 : decode cX3_tellFrom 82 = .ok (.aload_n 1, 1) := by decide +kernel
theorem dX3_tellFrom_83 : decode cX3_tellFrom 83 = .ok (.iload_n 2, 1) := by decide +kernel
theorem dX3_tellFrom_84 : decode cX3_tellFrom 84 = .ok (.iconst 1, 1) := by decide +kernel
theorem dX3_tellFrom_85 : decode cX3_tellFrom 85 = .ok (.iadd, 1) := by decide +kernel
theorem dX3_tellFrom_86 : decode cX3_tellFrom 86 = .ok (.iload_n 3, 1) := by decide +kernel
theorem dX3_tellFrom_87 : decode cX3_tellFrom 87 = .ok (.iload 5, 2) := by decide +kernel
theorem dX3_tellFrom_89 : decode cX3_tellFrom 89 = .ok (.iconst (-1), 1) := by decide +kernel
theorem dX3_tellFrom_90 : decode cX3_tellFrom 90 = .ok (.ixor, 1) := by decide +kernel
theorem dX3_tellFrom_91 : decode cX3_tellFrom 91 = .ok (.iand, 1) := by decide +kernel
theorem dX3_tellFrom_92 : decode cX3_tellFrom 92 = .ok (.invokestatic 41, 3) := by decide +kernel
theorem dX3_tellFrom_95 : decode cX3_tellFrom 95 = .ok (.iload 5, 2) := by decide +kernel
theorem dX3_tellFrom_97 : decode cX3_tellFrom 97 = .ok (.iload_n 3, 1) := by decide +kernel
theorem dX3_tellFrom_98 : decode cX3_tellFrom 98 = .ok (.invokestatic 55, 3) := by decide +kernel
theorem dX3_tellFrom_101 : decode cX3_tellFrom 101 = .ok (.istore 5, 2) := by decide +kernel
theorem dX3_tellFrom_103 : decode cX3_tellFrom 103 = .ok (.iinc 6 1, 3) := by decide +kernel
theorem dX3_tellFrom_106 : decode cX3_tellFrom 106 = .ok (.goto (-61), 3) := by decide +kernel
theorem dX3_tellFrom_109 : decode cX3_tellFrom 109 = .ok (.return_, 1) := by decide +kernel
theorem dX3_countIn_0 : decode cX3_countIn 0 = .ok (.aload_n 0, 1) := by decide +kernel
theorem dX3_countIn_1 : decode cX3_countIn 1 = .ok (.getfield 21, 3) := by decide +kernel
theorem dX3_countIn_4 : decode cX3_countIn 4 = .ok (.invokevirtual 58, 3) := by decide +kernel
theorem dX3_countIn_7 : decode cX3_countIn 7 = .ok (.iconst 0, 1) := by decide +kernel
theorem dX3_countIn_8 : decode cX3_countIn 8 = .ok (.istore 4, 2) := by decide +kernel
theorem dX3_countIn_10 : decode cX3_countIn 10 = .ok (.iload 4, 2) := by decide +kernel
theorem dX3_countIn_12 : decode cX3_countIn 12 = .ok (.aload_n 1, 1) := by decide +kernel
theorem dX3_countIn_13 : decode cX3_countIn 13 = .ok (.getfield 61, 3) := by decide +kernel
theorem dX3_countIn_16 : decode cX3_countIn 16 = .ok (.if_icmp .ge 47, 3) := by decide +kernel
theorem dX3_countIn_19 : decode cX3_countIn 19 = .ok (.iload_n 3, 1) := by decide +kernel
theorem dX3_countIn_20 : decode cX3_countIn 20 = .ok (.iload 4, 2) := by decide +kernel
theorem dX3_countIn_22 : decode cX3_countIn 22 = .ok (.invokestatic 66, 3) := by decide +kernel
theorem dX3_countIn_25 : decode cX3_countIn 25 = .ok (.ifCond .eq 32, 3) := by decide +kernel
theorem dX3_countIn_28 : decode cX3_countIn 28 = .ok (.aload_n 0, 1) := by decide +kernel
theorem dX3_countIn_29 : decode cX3_countIn 29 = .ok (.getfield 21, 3) := by decide +kernel
theorem dX3_countIn_32 : decode cX3_countIn 32 = .ok (.aload_n 1, 1) := by decide +kernel
theorem dX3_countIn_33 : decode cX3_countIn 33 = .ok (.getfield 70, 3) := by decide +kernel
theorem dX3_countIn_36 : decode cX3_countIn 36 = .ok (.iload 4, 2) := by decide +kernel
theorem dX3_countIn_38 : decode cX3_countIn 38 = .ok (.iaload, 1) := by decide +kernel
theorem dX3_countIn_39 : decode cX3_countIn 39 = .ok (.aload_n 0, 1) := by decide +kernel
theorem dX3_countIn_40 : decode cX3_countIn 40 = .ok (.iload_n 2, 1) := by decide +kernel
theorem dX3_countIn_41 : decode cX3_countIn 41 = .ok (.aload_n 1, 1) := by decide +kernel
theorem dX3_countIn_42 : decode cX3_countIn 42 = .ok (.getfield 73, 3) := by decide +kernel
theorem dX3_countIn_45 : decode cX3_countIn 45 = .ok (.iload 4, 2) := by decide +kernel
theorem dX3_countIn_47 : decode cX3_countIn 47 = .ok (.iaload, 1) := by decide +kernel
theorem dX3_countIn_48 : decode cX3_countIn 48 = .ok (.isub, 1) := by decide +kernel
theorem dX3_countIn_49 : decode cX3_countIn 49 = .ok (.iload_n 2, 1) := by decide +kernel
theorem dX3_countIn_50 : decode cX3_countIn 50 = .ok (.invokevirtual 76, 3) := by decide +kernel
theorem dX3_countIn_53 : decode cX3_countIn 53 = .ok (.iand, 1) := by decide +kernel
theorem dX3_countIn_54 : decode cX3_countIn 54 = .ok (.invokevirtual 79, 3) := by decide +kernel
theorem dX3_countIn_57 : decode cX3_countIn 57 = .ok (.iinc 4 1, 3) := by decide +kernel
theorem dX3_countIn_60 : decode cX3_countIn 60 = .ok (.goto (-50), 3) := by decide +kernel
theorem dX3_countIn_63 : decode cX3_countIn 63 = .ok (.aload_n 0, 1) := by decide +kernel
theorem dX3_countIn_64 : decode cX3_countIn 64 = .ok (.getfield 21, 3) := by decide +kernel
theorem dX3_countIn_67 : decode cX3_countIn 67 = .ok (.aload_n 1, 1) := by decide +kernel
theorem dX3_countIn_68 : decode cX3_countIn 68 = .ok (.invokevirtual 83, 3) := by decide +kernel
theorem dX3_countIn_71 : decode cX3_countIn 71 = .ok (.ireturn, 1) := by decide +kernel
theorem dX3_leftSince_0 : decode cX3_leftSince 0 = .ok (.iconst 0, 1) := by decide +kernel
theorem dX3_leftSince_1 : decode cX3_leftSince 1 = .ok (.istore_n 3, 1) := by decide +kernel
theorem dX3_leftSince_2 : decode cX3_leftSince 2 = .ok (.iload_n 1, 1) := by decide +kernel
theorem dX3_leftSince_3 : decode cX3_leftSince 3 = .ok (.iconst 0, 1) := by decide +kernel
theorem dX3_leftSince_4 : decode cX3_leftSince 4 = .ok (.invokestatic 87, 3) := by decide +kernel
theorem dX3_leftSince_7 : decode cX3_leftSince 7 = .ok (.istore 4, 2) := by decide +kernel
theorem dX3_leftSince_9 : decode cX3_leftSince 9 = .ok (.iload 4, 2) := by decide +kernel
theorem dX3_leftSince_11 : decode cX3_leftSince 11 = .ok (.iload_n 2, 1) := by decide +kernel
theorem dX3_leftSince_12 : decode cX3_leftSince 12 = .ok (.if_icmp .gt 25, 3) := by decide +kernel
theorem dX3_leftSince_15 : decode cX3_leftSince 15 = .ok (.iload 4, 2) := by decide +kernel
theorem dX3_leftSince_17 : decode cX3_leftSince 17 = .ok (.iconst 3, 1) := by decide +kernel
theorem dX3_leftSince_18 : decode cX3_leftSince 18 = .ok (.if_icmp .ge 19, 3) := by decide +kernel
theorem dX3_leftSince_21 : decode cX3_leftSince 21 = .ok (.iload_n 3, 1) := by decide +kernel
theorem dX3_leftSince_22 : decode cX3_leftSince 22 = .ok (.aload_n 0, 1) := by decide +kernel
theorem dX3_leftSince_23 : decode cX3_leftSince 23 = .ok (.getfield 9, 3) := by decide +kernel
theorem dX3_leftSince_26 : decode cX3_leftSince 26 = .ok (.iload 4, 2) := by decide +kernel
theorem dX3_leftSince_28 : decode cX3_leftSince 28 = .ok (.iaload, 1) := by decide +kernel
theorem dX3_leftSince_29 : decode cX3_leftSince 29 = .ok (.ior, 1) := by decide +kernel
theorem dX3_leftSince_30 : decode cX3_leftSince 30 = .ok (.istore_n 3, 1) := by decide +kernel
theorem dX3_leftSince_31 : decode cX3_leftSince 31 = .ok (.iinc 4 1, 3) := by decide +kernel
theorem dX3_leftSince_34 : decode cX3_leftSince 34 = .ok (.goto (-25), 3) := by decide +kernel
theorem dX3_leftSince_37 : decode cX3_leftSince 37 = .ok (.iload_n 3, 1) := by decide +kernel
theorem dX3_leftSince_38 : decode cX3_leftSince 38 = .ok (.ireturn, 1) := by decide +kernel
theorem dX4_init_0 : decode cX4_init 0 = .ok (.aload_n 0, 1) := by decide +kernel
theorem dX4_init_1 : decode cX4_init 1 = .ok (.invokespecial 3, 3) := by decide +kernel
theorem dX4_init_4 : decode cX4_init 4 = .ok (.aload_n 0, 1) := by decide +kernel
theorem dX4_init_5 : decode cX4_init 5 = .ok (.bipush 80, 2) := by decide +kernel
theorem dX4_init_7 : decode cX4_init 7 = .ok (.newarray .byte, 2) := by decide +kernel
theorem dX4_init_9 : decode cX4_init 9 = .ok (.putfield 9, 3) := by decide +kernel
theorem dX4_init_12 : decode cX4_init 12 = .ok (.return_, 1) := by decide +kernel
theorem dX4_size_0 : decode cX4_size 0 = .ok (.aload_n 0, 1) := by decide +kernel
theorem dX4_size_1 : decode cX4_size 1 = .ok (.getfield 15, 3) := by decide +kernel
theorem dX4_size_4 : decode cX4_size 4 = .ok (.ireturn, 1) := by decide +kernel
theorem dX4_byteAt_0 : decode cX4_byteAt 0 = .ok (.iload_n 1, 1) := by decide +kernel
theorem dX4_byteAt_1 : decode cX4_byteAt 1 = .ok (.ifCond .lt 24, 3) := by decide +kernel
theorem dX4_byteAt_4 : decode cX4_byteAt 4 = .ok (.iload_n 1, 1) := by decide +kernel
theorem dX4_byteAt_5 : decode cX4_byteAt 5 = .ok (.aload_n 0, 1) := by decide +kernel
theorem dX4_byteAt_6 : decode cX4_byteAt 6 = .ok (.getfield 15, 3) := by decide +kernel
theorem dX4_byteAt_9 : decode cX4_byteAt 9 = .ok (.if_icmp .ge 16, 3) := by decide +kernel
theorem dX4_byteAt_12 : decode cX4_byteAt 12 = .ok (.aload_n 0, 1) := by decide +kernel
theorem dX4_byteAt_13 : decode cX4_byteAt 13 = .ok (.getfield 9, 3) := by decide +kernel
theorem dX4_byteAt_16 : decode cX4_byteAt 16 = .ok (.iload_n 1, 1) := by decide +kernel
theorem dX4_byteAt_17 : decode cX4_byteAt 17 = .ok (.baload, 1) := by decide +kernel
theorem dX4_byteAt_18 : decode cX4_byteAt 18 = .ok (.sipush 255, 3) := by decide +kernel
theorem dX4_byteAt_21 : decode cX4_byteAt 21 = .ok (.iand, 1) := by decide +kernel
theorem dX4_byteAt_22 : decode cX4_byteAt 22 = .ok (.goto 4, 3) := by decide +kernel
theorem dX4_byteAt_25 : decode cX4_byteAt 25 = .ok (.iconst (-1), 1) := by decide +kernel
theorem dX4_byteAt_26 : decode cX4_byteAt 26 = .ok (.ireturn, 1) := by decide +kernel
theorem dX4_takeBytes_0 : decode cX4_takeBytes 0 = .ok (.aload_n 0, 1) := by decide +kernel
theorem dX4_takeBytes_1 : decode cX4_takeBytes 1 = .ok (.getfield 15, 3) := by decide +kernel
theorem dX4_takeBytes_4 : decode cX4_takeBytes 4 = .ok (.iload_n 1, 1) := by decide +kernel
theorem dX4_takeBytes_5 : decode cX4_takeBytes 5 = .ok (.iadd, 1) := by decide +kernel
theorem dX4_takeBytes_6 : decode cX4_takeBytes 6 = .ok (.bipush 80, 2) := by decide +kernel
theorem dX4_takeBytes_8 : decode cX4_takeBytes 8 = .ok (.if_icmp .le 5, 3) := by decide +kernel
theorem dX4_takeBytes_11 : decode cX4_takeBytes 11 = .ok (.iconst 0, 1) := by decide +kernel
theorem dX4_takeBytes_12 : decode cX4_takeBytes 12 = .ok (.ireturn, 1) := by decide +kernel
theorem dX4_takeBytes_13 : decode cX4_takeBytes 13 = .ok (.iload_n 1, 1) := by decide +kernel
theorem dX4_takeBytes_14 : decode cX4_takeBytes 14 = .ok (.iconst 1, 1) := by decide +kernel
theorem dX4_takeBytes_15 : decode cX4_takeBytes 15 = .ok (.isub, 1) := by decide +kernel
theorem dX4_takeBytes_16 : decode cX4_takeBytes 16 = .ok (.istore 4, 2) := by decide +kernel
theorem dX4_takeBytes_18 : decode cX4_takeBytes 18 = .ok (.iload 4, 2) := by decide +kernel
theorem dX4_takeBytes_20 : decode cX4_takeBytes 20 = .ok (.ifCond .lt 37, 3) := by decide +kernel
theorem dX4_takeBytes_23 : decode cX4_takeBytes 23 = .ok (.aload_n 0, 1) := by decide +kernel
theorem dX4_takeBytes_24 : decode cX4_takeBytes 24 = .ok (.getfield 9, 3) := by decide +kernel
theorem dX4_takeBytes_27 : decode cX4_takeBytes 27 = .ok (.aload_n 0, 1) := by decide +kernel
theorem dX4_takeBytes_28 : decode cX4_takeBytes 28 = .ok (.getfield 15, 3) := by decide +kernel
theorem dX4_takeBytes_31 : decode cX4_takeBytes 31 = .ok (.lload_n 2, 1) := by decide +kernel
theorem dX4_takeBytes_32 : decode cX4_takeBytes 32 = .ok (.bipush 8, 2) := by decide +kernel
theorem dX4_takeBytes_34 : decode cX4_takeBytes 34 = .ok (.iload 4, 2) := by decide +kernel
theorem dX4_takeBytes_36 : decode cX4_takeBytes 36 = .ok (.imul, 1) := by decide +kernel
theorem dX4_takeBytes_37 : decode cX4_takeBytes 37 = .ok (.lshr, 1) := by decide +kernel
theorem dX4_takeBytes_38 : decode cX4_takeBytes 38 = .ok (.l2i, 1) := by decide +kernel
theorem dX4_takeBytes_39 : decode cX4_takeBytes 39 = .ok (.i2b, 1) := by decide +kernel
theorem dX4_takeBytes_40 : decode cX4_takeBytes 40 = .ok (.bastore, 1) := by decide +kernel
theorem dX4_takeBytes_41 : decode cX4_takeBytes 41 = .ok (.aload_n 0, 1) := by decide +kernel
theorem dX4_takeBytes_42 : decode cX4_takeBytes 42 = .ok (.dup, 1) := by decide +kernel
theorem dX4_takeBytes_43 : decode cX4_takeBytes 43 = .ok (.getfield 15, 3) := by decide +kernel
theorem dX4_takeBytes_46 : decode cX4_takeBytes 46 = .ok (.iconst 1, 1) := by decide +kernel
theorem dX4_takeBytes_47 : decode cX4_takeBytes 47 = .ok (.iadd, 1) := by decide +kernel
theorem dX4_takeBytes_48 : decode cX4_takeBytes 48 = .ok (.putfield 15, 3) := by decide +kernel
theorem dX4_takeBytes_51 : decode cX4_takeBytes 51 = .ok (.iinc 4 (-1), 3) := by decide +kernel
theorem dX4_takeBytes_54 : decode cX4_takeBytes 54 = .ok (.goto (-36), 3) := by decide +kernel
theorem dX4_takeBytes_57 : decode cX4_takeBytes 57 = .ok (.iconst 1, 1) := by decide +kernel
theorem dX4_takeBytes_58 : decode cX4_takeBytes 58 = .ok (.ireturn, 1) := by decide +kernel
theorem dX4_clear_0 : decode cX4_clear 0 = .ok (.aload_n 0, 1) := by decide +kernel
theorem dX4_clear_1 : decode cX4_clear 1 = .ok (.iconst 0, 1) := by decide +kernel
theorem dX4_clear_2 : decode cX4_clear 2 = .ok (.putfield 15, 3) := by decide +kernel
theorem dX4_clear_5 : decode cX4_clear 5 = .ok (.return_, 1) := by decide +kernel
theorem dX5_init_0 : decode cX5_init 0 = .ok (.aload_n 0, 1) := by decide +kernel
theorem dX5_init_1 : decode cX5_init 1 = .ok (.invokespecial 3, 3) := by decide +kernel
theorem dX5_init_4 : decode cX5_init 4 = .ok (.return_, 1) := by decide +kernel
theorem dX5_clear_0 : decode cX5_clear 0 = .ok (.aload_n 0, 1) := by decide +kernel
theorem dX5_clear_1 : decode cX5_clear 1 = .ok (.iconst 0, 1) := by decide +kernel
theorem dX5_clear_2 : decode cX5_clear 2 = .ok (.putfield 9, 3) := by decide +kernel
theorem dX5_clear_5 : decode cX5_clear 5 = .ok (.aload_n 0, 1) := by decide +kernel
theorem dX5_clear_6 : decode cX5_clear 6 = .ok (.iconst 0, 1) := by decide +kernel
theorem dX5_clear_7 : decode cX5_clear 7 = .ok (.putfield 15, 3) := by decide +kernel
theorem dX5_clear_10 : decode cX5_clear 10 = .ok (.return_, 1) := by decide +kernel
theorem dX5_addMissed_0 : decode cX5_addMissed 0 = .ok (.aload_n 0, 1) := by decide +kernel
theorem dX5_addMissed_1 : decode cX5_addMissed 1 = .ok (.dup, 1) := by decide +kernel
theorem dX5_addMissed_2 : decode cX5_addMissed 2 = .ok (.getfield 9, 3) := by decide +kernel
theorem dX5_addMissed_5 : decode cX5_addMissed 5 = .ok (.iload_n 1, 1) := by decide +kernel
theorem dX5_addMissed_6 : decode cX5_addMissed 6 = .ok (.invokestatic 18, 3) := by decide +kernel
theorem dX5_addMissed_9 : decode cX5_addMissed 9 = .ok (.iadd, 1) := by decide +kernel
theorem dX5_addMissed_10 : decode cX5_addMissed 10 = .ok (.putfield 9, 3) := by decide +kernel
theorem dX5_addMissed_13 : decode cX5_addMissed 13 = .ok (.aload_n 0, 1) := by decide +kernel
theorem dX5_addMissed_14 : decode cX5_addMissed 14 = .ok (.dup, 1) := by decide +kernel
theorem dX5_addMissed_15 : decode cX5_addMissed 15 = .ok (.getfield 15, 3) := by decide +kernel
theorem dX5_addMissed_18 : decode cX5_addMissed 18 = .ok (.iload_n 1, 1) := by decide +kernel
theorem dX5_addMissed_19 : decode cX5_addMissed 19 = .ok (.ior, 1) := by decide +kernel
theorem dX5_addMissed_20 : decode cX5_addMissed 20 = .ok (.putfield 15, 3) := by decide +kernel
theorem dX5_addMissed_23 : decode cX5_addMissed 23 = .ok (.return_, 1) := by decide +kernel
theorem dX5_countByLaw_0 : decode cX5_countByLaw 0 = .ok (.aload_n 1, 1) := by decide +kernel
theorem dX5_countByLaw_1 : decode cX5_countByLaw 1 = .ok (.getfield 24, 3) := by decide +kernel
theorem dX5_countByLaw_4 : decode cX5_countByLaw 4 = .ok (.ifCond .ne 8, 3) := by decide +kernel
theorem dX5_countByLaw_7 : decode cX5_countByLaw 7 = .ok (.aload_n 0, 1) := by decide +kernel
theorem dX5_countByLaw_8 : decode cX5_countByLaw 8 = .ok (.getfield 9, 3) := by decide +kernel
theorem dX5_countByLaw_11 : decode cX5_countByLaw 11 = .ok (.ireturn, 1) := by decide +kernel
theorem dX5_countByLaw_12 : decode cX5_countByLaw 12 = .ok (.aload_n 1, 1) := by decide +kernel
theorem dX5_countByLaw_13 : decode cX5_countByLaw 13 = .ok (.getfield 24, 3) := by decide +kernel
theorem dX5_countByLaw_16 : decode cX5_countByLaw 16 = .ok (.iconst 1, 1) := by decide +kernel
theorem dX5_countByLaw_17 : decode cX5_countByLaw 17 = .ok (.if_icmp .ne 10, 3) := by decide +kernel
theorem dX5_countByLaw_20 : decode cX5_countByLaw 20 = .ok (.aload_n 0, 1) := by decide +kernel
theorem dX5_countByLaw_21 : decode cX5_countByLaw 21 = .ok (.getfield 15, 3) := by decide +kernel
theorem dX5_countByLaw_24 : decode cX5_countByLaw 24 = .ok (.goto 11, 3) := by decide +kernel
theorem dX5_countByLaw_27 : decode cX5_countByLaw 27 = .ok (.aload_n 1, 1) := by decide +kernel
theorem dX5_countByLaw_28 : decode cX5_countByLaw 28 = .ok (.aload_n 0, 1) := by decide +kernel
theorem dX5_countByLaw_29 : decode cX5_countByLaw 29 = .ok (.getfield 15, 3) := by decide +kernel
theorem dX5_countByLaw_32 : decode cX5_countByLaw 32 = .ok (.invokevirtual 29, 3) := by decide +kernel
theorem dX5_countByLaw_35 : decode cX5_countByLaw 35 = .ok (.invokestatic 18, 3) := by decide +kernel
theorem dX5_countByLaw_38 : decode cX5_countByLaw 38 = .ok (.ireturn, 1) := by decide +kernel
theorem dX6_init_0 : decode cX6_init 0 = .ok (.aload_n 0, 1) := by decide +kernel
theorem dX6_init_1 : decode cX6_init 1 = .ok (.invokespecial 3, 3) := by decide +kernel
theorem dX6_init_4 : decode cX6_init 4 = .ok (.aload_n 0, 1) := by decide +kernel
theorem dX6_init_5 : decode cX6_init 5 = .ok (.bipush 8, 2) := by decide +kernel
theorem dX6_init_7 : decode cX6_init 7 = .ok (.newarray .int, 2) := by decide +kernel
theorem dX6_init_9 : decode cX6_init 9 = .ok (.putfield 9, 3) := by decide +kernel
theorem dX6_init_12 : decode cX6_init 12 = .ok (.aload_n 0, 1) := by decide +kernel
theorem dX6_init_13 : decode cX6_init 13 = .ok (.bipush 8, 2) := by decide +kernel
theorem dX6_init_15 : decode cX6_init 15 = .ok (.newarray .int, 2) := by decide +kernel
theorem dX6_init_17 : decode cX6_init 17 = .ok (.putfield 15, 3) := by decide +kernel
theorem dX6_init_20 : decode cX6_init 20 = .ok (.aload_n 0, 1) := by decide +kernel
theorem dX6_init_21 : decode cX6_init 21 = .ok (.bipush 8, 2) := by decide +kernel
theorem dX6_init_23 : decode cX6_init 23 = .ok (.newarray .int, 2) := by decide +kernel
theorem dX6_init_25 : decode cX6_init 25 = .ok (.putfield 18, 3) := by decide +kernel
theorem dX6_init_28 : decode cX6_init 28 = .ok (.aload_n 0, 1) := by decide +kernel
theorem dX6_init_29 : decode cX6_init 29 = .ok (.iconst 4, 1) := by decide +kernel
theorem dX6_init_30 : decode cX6_init 30 = .ok (.newarray .int, 2) := by decide +kernel
theorem dX6_init_32 : decode cX6_init 32 = .ok (.putfield 21, 3) := by decide +kernel
theorem dX6_init_35 : decode cX6_init 35 = .ok (.return_, 1) := by decide +kernel
theorem dX6_begin_0 : decode cX6_begin 0 = .ok (.aload_n 0, 1) := by decide +kernel
theorem dX6_begin_1 : decode cX6_begin 1 = .ok (.iconst 0, 1) := by decide +kernel
theorem dX6_begin_2 : decode cX6_begin 2 = .ok (.putfield 24, 3) := by decide +kernel
theorem dX6_begin_5 : decode cX6_begin 5 = .ok (.iconst 0, 1) := by decide +kernel
theorem dX6_begin_6 : decode cX6_begin 6 = .ok (.istore_n 2, 1) := by decide +kernel
theorem dX6_begin_7 : decode cX6_begin 7 = .ok (.iload_n 2, 1) := by decide +kernel
theorem dX6_begin_8 : decode cX6_begin 8 = .ok (.bipush 8, 2) := by decide +kernel
theorem dX6_begin_10 : decode cX6_begin 10 = .ok (.if_icmp .ge 36, 3) := by decide +kernel
theorem dX6_begin_13 : decode cX6_begin 13 = .ok (.aload_n 0, 1) := by decide +kernel
theorem dX6_begin_14 : decode cX6_begin 14 = .ok (.getfield 9, 3) := by decide +kernel
theorem dX6_begin_17 : decode cX6_begin 17 = .ok (.iload_n 2, 1) := by decide +kernel
theorem dX6_begin_18 : decode cX6_begin 18 = .ok (.aload_n 1, 1) := by decide +kernel
theorem dX6_begin_19 : decode cX6_begin 19 = .ok (.getfield 28, 3) := by decide +kernel
theorem dX6_begin_22 : decode cX6_begin 22 = .ok (.iload_n 2, 1) := by decide +kernel
theorem dX6_begin_23 : decode cX6_begin 23 = .ok (.iaload, 1) := by decide +kernel
theorem dX6_begin_24 : decode cX6_begin 24 = .ok (.iastore, 1) := by decide +kernel
theorem dX6_begin_25 : decode cX6_begin 25 = .ok (.aload_n 0, 1) := by decide +kernel
theorem dX6_begin_26 : decode cX6_begin 26 = .ok (.getfield 15, 3) := by decide +kernel
theorem dX6_begin_29 : decode cX6_begin 29 = .ok (.iload_n 2, 1) := by decide +kernel
theorem dX6_begin_30 : decode cX6_begin 30 = .ok (.iconst 0, 1) := by decide +kernel
theorem dX6_begin_31 : decode cX6_begin 31 = .ok (.iastore, 1) := by decide +kernel
theorem dX6_begin_32 : decode cX6_begin 32 = .ok (.aload_n 0, 1) := by decide +kernel
theorem dX6_begin_33 : decode cX6_begin 33 = .ok (.getfield 18, 3) := by decide +kernel
theorem dX6_begin_36 : decode cX6_begin 36 = .ok (.iload_n 2, 1) := by decide +kernel
theorem dX6_begin_37 : decode cX6_begin 37 = .ok (.bipush (-9), 2) := by decide +kernel
theorem dX6_begin_39 : decode cX6_begin 39 = .ok (.iastore, 1) := by decide +kernel
theorem dX6_begin_40 : decode cX6_begin 40 = .ok (.iinc 2 1, 3) := by decide +kernel
theorem dX6_begin_43 : decode cX6_begin 43 = .ok (.goto (-36), 3) := by decide +kernel
theorem dX6_begin_46 : decode cX6_begin 46 = .ok (.aload_n 0, 1) := by decide +kernel
theorem dX6_begin_47 : decode cX6_begin 47 = .ok (.invokevirtual 33, 3) := by decide +kernel
theorem dX6_begin_50 : decode cX6_begin 50 = .ok (.return_, 1) := by decide +kernel
theorem dX6_clearRumours_0 : decode cX6_clearRumours 0 = .ok (.iconst 0, 1) := by decide +kernel
theorem dX6_clearRumours_1 : decode cX6_clearRumours 1 = .ok (.istore_n 1, 1) := by decide +kernel
theorem dX6_clearRumours_2 : decode cX6_clearRumours 2 = .ok (.iload_n 1, 1) := by decide +kernel
theorem dX6_clearRumours_3 : decode cX6_clearRumours 3 = .ok (.iconst 4, 1) := by decide +kernel
theorem dX6_clearRumours_4 : decode cX6_clearRumours 4 = .ok (.if_icmp .ge 16, 3) := by decide +kernel
theorem dX6_clearRumours_7 : decode cX6_clearRumours 7 = .ok (.aload_n 0, 1) := by decide +kernel
theorem dX6_clearRumours_8 : decode cX6_clearRumours 8 = .ok (.getfield 21, 3) := by decide +kernel
theorem dX6_clearRumours_11 : decode cX6_clearRumours 11 = .ok (.iload_n 1, 1) := by decide +kernel
theorem dX6_clearRumours_12 : decode cX6_clearRumours 12 = .ok (.iconst 0, 1) := by decide +kernel
theorem dX6_clearRumours_13 : decode cX6_clearRumours 13 = .ok (.iastore, 1) := by decide +kernel
theorem dX6_clearRumours_14 : decode cX6_clearRumours 14 = .ok (.iinc 1 1, 3) := by decide +kernel
theorem dX6_clearRumours_17 : decode cX6_clearRumours 17 = .ok (.goto (-15), 3) := by decide +kernel
theorem dX6_clearRumours_20 : decode cX6_clearRumours 20 = .ok (.return_, 1) := by decide +kernel
theorem dX6_passYear_0 : decode cX6_passYear 0 = .ok (.aload_n 0, 1) := by decide +kernel
theorem dX6_passYear_1 : decode cX6_passYear 1 = .ok (.dup, 1) := by decide +kernel
theorem dX6_passYear_2 : decode cX6_passYear 2 = .ok (.getfield 24, 3) := by decide +kernel
theorem dX6_passYear_5 : decode cX6_passYear 5 = .ok (.iconst 1, 1) := by decide +kernel
theorem dX6_passYear_6 : decode cX6_passYear 6 = .ok (.iadd, 1) := by decide +kernel
theorem dX6_passYear_7 : decode cX6_passYear 7 = .ok (.putfield 24, 3) := by decide +kernel
theorem dX6_passYear_10 : decode cX6_passYear 10 = .ok (.aload_n 0, 1) := by decide +kernel
theorem dX6_passYear_11 : decode cX6_passYear 11 = .ok (.invokevirtual 33, 3) := by decide +kernel
theorem dX6_passYear_14 : decode cX6_passYear 14 = .ok (.return_, 1) := by decide +kernel
theorem dX6_isAlive_0 : decode cX6_isAlive 0 = .ok (.aload_n 0, 1) := by decide +kernel
theorem dX6_isAlive_1 : decode cX6_isAlive 1 = .ok (.getfield 18, 3) := by decide +kernel
theorem dX6_isAlive_4 : decode cX6_isAlive 4 = .ok (.iload_n 1, 1) := by decide +kernel
theorem dX6_isAlive_5 : decode cX6_isAlive 5 = .ok (.iaload, 1) := by decide +kernel
theorem dX6_isAlive_6 : decode cX6_isAlive 6 = .ok (.bipush (-9), 2) := by decide +kernel
theorem dX6_isAlive_8 : decode cX6_isAlive 8 = .ok (.if_icmp .ne 7, 3) := by decide +kernel
theorem dX6_isAlive_11 : decode cX6_isAlive 11 = .ok (.iconst 1, 1) := by decide +kernel
theorem dX6_isAlive_12 : decode cX6_isAlive 12 = .ok (.goto 4, 3) := by decide +kernel
theorem dX6_isAlive_15 : decode cX6_isAlive 15 = .ok (.iconst 0, 1) := by decide +kernel
theorem dX6_isAlive_16 : decode cX6_isAlive 16 = .ok (.ireturn, 1) := by decide +kernel
theorem dX6_heardIn_0 : decode cX6_heardIn 0 = .ok (.aload_n 0, 1) := by decide +kernel
theorem dX6_heardIn_1 : decode cX6_heardIn 1 = .ok (.getfield 18, 3) := by decide +kernel
theorem dX6_heardIn_4 : decode cX6_heardIn 4 = .ok (.iload_n 1, 1) := by decide +kernel
theorem dX6_heardIn_5 : decode cX6_heardIn 5 = .ok (.iaload, 1) := by decide +kernel
theorem dX6_heardIn_6 : decode cX6_heardIn 6 = .ok (.aload_n 0, 1) := by decide +kernel
theorem dX6_heardIn_7 : decode cX6_heardIn 7 = .ok (.getfield 9, 3) := by decide +kernel
theorem dX6_heardIn_10 : decode cX6_heardIn 10 = .ok (.iload_n 1, 1) := by decide +kernel
theorem dX6_heardIn_11 : decode cX6_heardIn 11 = .ok (.iaload, 1) := by decide +kernel
theorem dX6_heardIn_12 : decode cX6_heardIn 12 = .ok (.aload_n 2, 1) := by decide +kernel
theorem dX6_heardIn_13 : decode cX6_heardIn 13 = .ok (.getfield 28, 3) := by decide +kernel
theorem dX6_heardIn_16 : decode cX6_heardIn 16 = .ok (.iload_n 1, 1) := by decide +kernel
theorem dX6_heardIn_17 : decode cX6_heardIn 17 = .ok (.iaload, 1) := by decide +kernel
theorem dX6_heardIn_18 : decode cX6_heardIn 18 = .ok (.isub, 1) := by decide +kernel
theorem dX6_heardIn_19 : decode cX6_heardIn 19 = .ok (.invokestatic 36, 3) := by decide +kernel
theorem dX6_heardIn_22 : decode cX6_heardIn 22 = .ok (.iadd, 1) := by decide +kernel
theorem dX6_heardIn_23 : decode cX6_heardIn 23 = .ok (.ireturn, 1) := by decide +kernel
theorem dX6_copyFrom_0 : decode cX6_copyFrom 0 = .ok (.aload_n 0, 1) := by decide +kernel
theorem dX6_copyFrom_1 : decode cX6_copyFrom 1 = .ok (.aload_n 1, 1) := by decide +kernel
theorem dX6_copyFrom_2 : decode cX6_copyFrom 2 = .ok (.getfield 24, 3) := by decide +kernel
theorem dX6_copyFrom_5 : decode cX6_copyFrom 5 = .ok (.putfield 24, 3) := by decide +kernel
theorem dX6_copyFrom_8 : decode cX6_copyFrom 8 = .ok (.iconst 0, 1) := by decide +kernel
theorem dX6_copyFrom_9 : decode cX6_copyFrom 9 = .ok (.istore_n 2, 1) := by decide +kernel
theorem dX6_copyFrom_10 : decode cX6_copyFrom 10 = .ok (.iload_n 2, 1) := by decide +kernel
theorem dX6_copyFrom_11 : decode cX6_copyFrom 11 = .ok (.bipush 8, 2) := by decide +kernel
theorem dX6_copyFrom_13 : decode cX6_copyFrom 13 = .ok (.if_icmp .ge 45, 3) := by decide +kernel
theorem dX6_copyFrom_16 : decode cX6_copyFrom 16 = .ok (.aload_n 0, 1) := by decide +kernel
theorem dX6_copyFrom_17 : decode cX6_copyFrom 17 = .ok (.getfield 9, 3) := by decide +kernel
theorem dX6_copyFrom_20 : decode cX6_copyFrom 20 = .ok (.iload_n 2, 1) := by decide +kernel
theorem dX6_copyFrom_21 : decode cX6_copyFrom 21 = .ok (.aload_n 1, 1) := by decide +kernel
theorem dX6_copyFrom_22 : decode cX6_copyFrom 22 = .ok (.getfield 9, 3) := by decide +kernel
theorem dX6_copyFrom_25 : decode cX6_copyFrom 25 = .ok (.iload_n 2, 1) := by decide +kernel
theorem dX6_copyFrom_26 : decode cX6_copyFrom 26 = .ok (.iaload, 1) := by decide +kernel
theorem dX6_copyFrom_27 : decode cX6_copyFrom 27 = .ok (.iastore, 1) := by decide +kernel
theorem dX6_copyFrom_28 : decode cX6_copyFrom 28 = .ok (.aload_n 0, 1) := by decide +kernel
theorem dX6_copyFrom_29 : decode cX6_copyFrom 29 = .ok (.getfield 15, 3) := by decide +kernel
theorem dX6_copyFrom_32 : decode cX6_copyFrom 32 = .ok (.iload_n 2, 1) := by decide +kernel
theorem dX6_copyFrom_33 : decode cX6_copyFrom 33 = .ok (.aload_n 1, 1) := by decide +kernel
theorem dX6_copyFrom_34 : decode cX6_copyFrom 34 = .ok (.getfield 15, 3) := by decide +kernel
theorem dX6_copyFrom_37 : decode cX6_copyFrom 37 = .ok (.iload_n 2, 1) := by decide +kernel
theorem dX6_copyFrom_38 : decode cX6_copyFrom 38 = .ok (.iaload, 1) := by decide +kernel
theorem dX6_copyFrom_39 : decode cX6_copyFrom 39 = .ok (.iastore, 1) := by decide +kernel
theorem dX6_copyFrom_40 : decode cX6_copyFrom 40 = .ok (.aload_n 0, 1) := by decide +kernel
theorem dX6_copyFrom_41 : decode cX6_copyFrom 41 = .ok (.getfield 18, 3) := by decide +kernel
theorem dX6_copyFrom_44 : decode cX6_copyFrom 44 = .ok (.iload_n 2, 1) := by decide +kernel
theorem dX6_copyFrom_45 : decode cX6_copyFrom 45 = .ok (.aload_n 1, 1) := by decide +kernel
theorem dX6_copyFrom_46 : decode cX6_copyFrom 46 = .ok (.getfield 18, 3) := by decide +kernel
theorem dX6_copyFrom_49 : decode cX6_copyFrom 49 = .ok (.iload_n 2, 1) := by decide +kernel
theorem dX6_copyFrom_50 : decode cX6_copyFrom 50 = .ok (.iaload, 1) := by decide +kernel
theorem dX6_copyFrom_51 : decode cX6_copyFrom 51 = .ok (.iastore, 1) := by decide +kernel
theorem dX6_copyFrom_52 : decode cX6_copyFrom 52 = .ok (.iinc 2 1, 3) := by decide +kernel
theorem dX6_copyFrom_55 : decode cX6_copyFrom 55 = .ok (.goto (-45), 3) := by decide +kernel
theorem dX6_copyFrom_58 : decode cX6_copyFrom 58 = .ok (.iconst 0, 1) := by decide +kernel
theorem dX6_copyFrom_59 : decode cX6_copyFrom 59 = .ok (.istore_n 2, 1) := by decide +kernel
theorem dX6_copyFrom_60 : decode cX6_copyFrom 60 = .ok (.iload_n 2, 1) := by decide +kernel
theorem dX6_copyFrom_61 : decode cX6_copyFrom 61 = .ok (.iconst 4, 1) := by decide +kernel
theorem dX6_copyFrom_62 : decode cX6_copyFrom 62 = .ok (.if_icmp .ge 21, 3) := by decide +kernel
theorem dX6_copyFrom_65 : decode cX6_copyFrom 65 = .ok (.aload_n 0, 1) := by decide +kernel
theorem dX6_copyFrom_66 : decode cX6_copyFrom 66 = .ok (.getfield 21, 3) := by decide +kernel
theorem dX6_copyFrom_69 : decode cX6_copyFrom 69 = .ok (.iload_n 2, 1) := by decide +kernel
theorem dX6_copyFrom_70 : decode cX6_copyFrom 70 = .ok (.aload_n 1, 1) := by decide +kernel
theorem dX6_copyFrom_71 : decode cX6_copyFrom 71 = .ok (.getfield 21, 3) := by decide +kernel
theorem dX6_copyFrom_74 : decode cX6_copyFrom 74 = .ok (.iload_n 2, 1) := by decide +kernel
theorem dX6_copyFrom_75 : decode cX6_copyFrom 75 = .ok (.iaload, 1) := by decide +kernel
theorem dX6_copyFrom_76 : decode cX6_copyFrom 76 = .ok (.iastore, 1) := by decide +kernel
theorem dX6_copyFrom_77 : decode cX6_copyFrom 77 = .ok (.iinc 2 1, 3) := by decide +kernel
theorem dX6_copyFrom_80 : decode cX6_copyFrom 80 = .ok (.goto (-20), 3) := by decide +kernel
theorem dX6_copyFrom_83 : decode cX6_copyFrom 83 = .ok (.return_, 1) := by decide +kernel
theorem dX7_init_0 : decode cX7_init 0 = .ok (.aload_n 0, 1) := by decide +kernel
theorem dX7_init_1 : decode cX7_init 1 = .ok (.invokespecial 1, 3) := by decide +kernel
theorem dX7_init_4 : decode cX7_init 4 = .ok (.aload_n 0, 1) := by decide +kernel
theorem dX7_init_5 : decode cX7_init 5 = .ok (.new 7, 3) := by decide +kernel
theorem dX7_init_8 : decode cX7_init 8 = .ok (.dup, 1) := by decide +kernel
theorem dX7_init_9 : decode cX7_init 9 = .ok (.invokespecial 9, 3) := by decide +kernel
theorem dX7_init_12 : decode cX7_init 12 = .ok (.putfield 10, 3) := by decide +kernel
theorem dX7_init_15 : decode cX7_init 15 = .ok (.aload_n 0, 1) := by decide +kernel
theorem dX7_init_16 : decode cX7_init 16 = .ok (.new 16, 3) := by decide +kernel
theorem dX7_init_19 : decode cX7_init 19 = .ok (.dup, 1) := by decide +kernel
theorem dX7_init_20 : decode cX7_init 20 = .ok (.invokespecial 18, 3) := by decide +kernel
theorem dX7_init_23 : decode cX7_init 23 = .ok (.putfield 19, 3) := by decide +kernel
theorem dX7_init_26 : decode cX7_init 26 = .ok (.aload_n 0, 1) := by decide +kernel
theorem dX7_init_27 : decode cX7_init 27 = .ok (.new 23, 3) := by decide +kernel
theorem dX7_init_30 : decode cX7_init 30 = .ok (.dup, 1) := by decide +kernel
theorem dX7_init_31 : decode cX7_init 31 = .ok (.invokespecial 25, 3) := by decide +kernel
theorem dX7_init_34 : decode cX7_init 34 = .ok (.putfield 26, 3) := by decide +kernel
theorem dX7_init_37 : decode cX7_init 37 = .ok (.aload_n 0, 1) := by decide +kernel
theorem dX7_init_38 : decode cX7_init 38 = .ok (.new 30, 3) := by decide +kernel
theorem dX7_init_41 : decode cX7_init 41 = .ok (.dup, 1) := by decide +kernel
theorem dX7_init_42 : decode cX7_init 42 = .ok (.invokespecial 32, 3) := by decide +kernel
theorem dX7_init_45 : decode cX7_init 45 = .ok (.putfield 33, 3) := by decide +kernel
theorem dX7_init_48 : decode cX7_init 48 = .ok (.aload_n 0, 1) := by decide +kernel
theorem dX7_init_49 : decode cX7_init 49 = .ok (.new 37, 3) := by decide +kernel
theorem dX7_init_52 : decode cX7_init 52 = .ok (.dup, 1) := by decide +kernel
theorem dX7_init_53 : decode cX7_init 53 = .ok (.invokespecial 39, 3) := by decide +kernel
theorem dX7_init_56 : decode cX7_init 56 = .ok (.putfield 40, 3) := by decide +kernel
theorem dX7_init_59 : decode cX7_init 59 = .ok (.aload_n 0, 1) := by decide +kernel
theorem dX7_init_60 : decode cX7_init 60 = .ok (.new 44, 3) := by decide +kernel
theorem dX7_init_63 : decode cX7_init 63 = .ok (.dup, 1) := by decide +kernel
theorem dX7_init_64 : decode cX7_init 64 = .ok (.invokespecial 46, 3) := by decide +kernel
theorem dX7_init_67 : decode cX7_init 67 = .ok (.putfield 47, 3) := by decide +kernel
theorem dX7_init_70 : decode cX7_init 70 = .ok (.aload_n 0, 1) := by decide +kernel
theorem dX7_init_71 : decode cX7_init 71 = .ok (.iconst 2, 1) := by decide +kernel
theorem dX7_init_72 : decode cX7_init 72 = .ok (.anewarray 44, 3) := by decide +kernel
theorem dX7_init_75 : decode cX7_init 75 = .ok (.dup, 1) := by decide +kernel
theorem dX7_init_76 : decode cX7_init 76 = .ok (.iconst 0, 1) := by decide +kernel
theorem dX7_init_77 : decode cX7_init 77 = .ok (.new 44, 3) := by decide +kernel
theorem dX7_init_80 : decode cX7_init 80 = .ok (.dup, 1) := by decide +kernel
theorem dX7_init_81 : decode cX7_init 81 = .ok (.invokespecial 46, 3) := by decide +kernel
theorem dX7_init_84 : decode cX7_init 84 = .ok (.aastore, 1) := by decide +kernel
theorem dX7_init_85 : decode cX7_init 85 = .ok (.dup, 1) := by decide +kernel
theorem dX7_init_86 : decode cX7_init 86 = .ok (.iconst 1, 1) := by decide +kernel
theorem dX7_init_87 : decode cX7_init 87 = .ok (.new 44, 3) := by decide +kernel
theorem dX7_init_90 : decode cX7_init 90 = .ok (.dup, 1) := by decide +kernel
theorem dX7_init_91 : decode cX7_init 91 = .ok (.invokespecial 46, 3) := by decide +kernel
theorem dX7_init_94 : decode cX7_init 94 = .ok (.aastore, 1) := by decide +kernel
theorem dX7_init_95 : decode cX7_init 95 = .ok (.putfield 51, 3) := by decide +kernel
theorem dX7_init_98 : decode cX7_init 98 = .ok (.aload_n 0, 1) := by decide +kernel
theorem dX7_init_99 : decode cX7_init 99 = .ok (.iconst 2, 1) := by decide +kernel
theorem dX7_init_100 : decode cX7_init 100 = .ok (.newarray .boolean, 2) := by decide +kernel
theorem dX7_init_102 : decode cX7_init 102 = .ok (.putfield 55, 3) := by decide +kernel
theorem dX7_init_105 : decode cX7_init 105 = .ok (.aload_n 0, 1) := by decide +kernel
theorem dX7_init_106 : decode cX7_init 106 = .ok (.bipush 8, 2) := by decide +kernel
theorem dX7_init_108 : decode cX7_init 108 = .ok (.newarray .int, 2) := by decide +kernel
theorem dX7_init_110 : decode cX7_init 110 = .ok (.putfield 59, 3) := by decide +kernel
theorem dX7_init_113 : decode cX7_init 113 = .ok (.aload_n 0, 1) := by decide +kernel
theorem dX7_init_114 : decode cX7_init 114 = .ok (.new 63, 3) := by decide +kernel
theorem dX7_init_117 : decode cX7_init 117 = .ok (.dup, 1) := by decide +kernel
theorem dX7_init_118 : decode cX7_init 118 = .ok (.invokespecial 65, 3) := by decide +kernel
theorem dX7_init_121 : decode cX7_init 121 = .ok (.putfield 66, 3) := by decide +kernel
theorem dX7_init_124 : decode cX7_init 124 = .ok (.aload_n 0, 1) := by decide +kernel
theorem dX7_init_125 : decode cX7_init 125 = .ok (.new 63, 3) := by decide +kernel
theorem dX7_init_128 : decode cX7_init 128 = .ok (.dup, 1) := by decide +kernel
theorem dX7_init_129 : decode cX7_init 129 = .ok (.invokespecial 65, 3) := by decide +kernel
theorem dX7_init_132 : decode cX7_init 132 = .ok (.putfield 70, 3) := by decide +kernel
theorem dX7_init_135 : decode cX7_init 135 = .ok (.aload_n 0, 1) := by decide +kernel
theorem dX7_init_136 : decode cX7_init 136 = .ok (.getfield 47, 3) := by decide +kernel
theorem dX7_init_139 : decode cX7_init 139 = .ok (.aload_n 0, 1) := by decide +kernel
theorem dX7_init_140 : decode cX7_init 140 = .ok (.getfield 66, 3) := by decide +kernel
theorem dX7_init_143 : decode cX7_init 143 = .ok (.invokevirtual 73, 3) := by decide +kernel
theorem dX7_init_146 : decode cX7_init 146 = .ok (.return_, 1) := by decide +kernel
theorem dX7_write_0 : decode cX7_write 0 = .ok (.iload_n 1, 1) := by decide +kernel
theorem dX7_write_1 : decode cX7_write 1 = .ok (.iconst 1, 1) := by decide +kernel
theorem dX7_write_2 : decode cX7_write 2 = .ok (.if_icmp .lt 9, 3) := by decide +kernel
theorem dX7_write_5 : decode cX7_write 5 = .ok (.iload_n 1, 1) := by decide +kernel
theorem dX7_write_6 : decode cX7_write 6 = .ok (.bipush 8, 2) := by decide +kernel
theorem dX7_write_8 : decode cX7_write 8 = .ok (.if_icmp .le 6, 3) := by decide +kernel
theorem dX7_write_11 : decode cX7_write 11 = .ok (.bipush (-2), 2) := by decide +kernel
theorem dX7_write_13 : decode cX7_write 13 = .ok (.ireturn, 1) := by decide +kernel
theorem dX7_write_14 : decode cX7_write 14 = .ok (.aload_n 0, 1) := by decide +kernel
theorem dX7_write_15 : decode cX7_write 15 = .ok (.getfield 10, 3) := by decide +kernel
theorem dX7_write_18 : decode cX7_write 18 = .ok (.iload_n 1, 1) := by decide +kernel
theorem dX7_write_19 : decode cX7_write 19 = .ok (.lload_n 2, 1) := by decide +kernel
theorem dX7_write_20 : decode cX7_write 20 = .ok (.invokevirtual 77, 3) := by decide +kernel
theorem dX7_write_23 : decode cX7_write 23 = .ok (.ifCond .eq 13, 3) := by decide +kernel
theorem dX7_write_26 : decode cX7_write 26 = .ok (.aload_n 0, 1) := by decide +kernel
theorem dX7_write_27 : decode cX7_write 27 = .ok (.getfield 10, 3) := by decide +kernel
theorem dX7_write_30 : decode cX7_write 30 = .ok (.invokevirtual 81, 3) := by decide +kernel
theorem dX7_write_33 : decode cX7_write 33 = .ok (.goto 5, 3) := by decide +kernel
theorem dX7_write_36 : decode cX7_write 36 = .ok (.bipush (-4), 2) := by decide +kernel
theorem dX7_write_38 : decode cX7_write 38 = .ok (.ireturn, 1) := by decide +kernel
theorem dX7_wipe_0 : decode cX7_wipe 0 = .ok (.aload_n 0, 1) := by decide +kernel
theorem dX7_wipe_1 : decode cX7_wipe 1 = .ok (.getfield 10, 3) := by decide +kernel
theorem dX7_wipe_4 : decode cX7_wipe 4 = .ok (.invokevirtual 81, 3) := by decide +kernel
theorem dX7_wipe_7 : decode cX7_wipe 7 = .ok (.istore_n 1, 1) := by decide +kernel
theorem dX7_wipe_8 : decode cX7_wipe 8 = .ok (.aload_n 0, 1) := by decide +kernel
theorem dX7_wipe_9 : decode cX7_wipe 9 = .ok (.getfield 10, 3) := by decide +kernel
theorem dX7_wipe_12 : decode cX7_wipe 12 = .ok (.invokevirtual 85, 3) := by decide +kernel
theorem dX7_wipe_15 : decode cX7_wipe 15 = .ok (.iload_n 1, 1) := by decide +kernel
theorem dX7_wipe_16 : decode cX7_wipe 16 = .ok (.ireturn, 1) := by decide +kernel
theorem dX7_fault_0 : decode cX7_fault 0 = .ok (.aload_n 0, 1) := by decide +kernel
theorem dX7_fault_1 : decode cX7_fault 1 = .ok (.getfield 19, 3) := by decide +kernel
theorem dX7_fault_4 : decode cX7_fault 4 = .ok (.aload_n 0, 1) := by decide +kernel
theorem dX7_fault_5 : decode cX7_fault 5 = .ok (.getfield 10, 3) := by decide +kernel
theorem dX7_fault_8 : decode cX7_fault 8 = .ok (.aload_n 0, 1) := by decide +kernel
theorem dX7_fault_9 : decode cX7_fault 9 = .ok (.getfield 70, 3) := by decide +kernel
theorem dX7_fault_12 : decode cX7_fault 12 = .ok (.invokevirtual 88, 3) := by decide +kernel
theorem dX7_fault_15 : decode cX7_fault 15 = .ok (.ireturn, 1) := by decide +kernel
theorem dX7_census_0 : decode cX7_census 0 = .ok (.aload_n 0, 1) := by decide +kernel
theorem dX7_census_1 : decode cX7_census 1 = .ok (.getfield 19, 3) := by decide +kernel
theorem dX7_census_4 : decode cX7_census 4 = .ok (.aload_n 0, 1) := by decide +kernel
theorem dX7_census_5 : decode cX7_census 5 = .ok (.getfield 10, 3) := by decide +kernel
theorem dX7_census_8 : decode cX7_census 8 = .ok (.aload_n 0, 1) := by decide +kernel
theorem dX7_census_9 : decode cX7_census 9 = .ok (.getfield 70, 3) := by decide +kernel
theorem dX7_census_12 : decode cX7_census 12 = .ok (.invokevirtual 88, 3) := by decide +kernel
theorem dX7_census_15 : decode cX7_census 15 = .ok (.bipush (-9), 2) := by decide +kernel
theorem dX7_census_17 : decode cX7_census 17 = .ok (.if_icmp .eq 6, 3) := by decide +kernel
theorem dX7_census_20 : decode cX7_census 20 = .ok (.bipush (-3), 2) := by decide +kernel
theorem dX7_census_22 : decode cX7_census 22 = .ok (.ireturn, 1) := by decide +kernel
theorem dX7_census_23 : decode cX7_census 23 = .ok (.aload_n 0, 1) := by decide +kernel
theorem dX7_census_24 : decode cX7_census 24 = .ok (.getfield 66, 3) := by decide +kernel
theorem dX7_census_27 : decode cX7_census 27 = .ok (.astore_n 1, 1) := by decide +kernel
theorem dX7_census_28 : decode cX7_census 28 = .ok (.aload_n 0, 1) := by decide +kernel
theorem dX7_census_29 : decode cX7_census 29 = .ok (.aload_n 0, 1) := by decide +kernel
theorem dX7_census_30 : decode cX7_census 30 = .ok (.getfield 70, 3) := by decide +kernel
theorem dX7_census_33 : decode cX7_census 33 = .ok (.putfield 66, 3) := by decide +kernel
theorem dX7_census_36 : decode cX7_census 36 = .ok (.aload_n 0, 1) := by decide +kernel
theorem dX7_census_37 : decode cX7_census 37 = .ok (.aload_n 1, 1) := by decide +kernel
theorem dX7_census_38 : decode cX7_census 38 = .ok (.putfield 70, 3) := by decide +kernel
theorem dX7_census_41 : decode cX7_census 41 = .ok (.aload_n 0, 1) := by decide +kernel
theorem dX7_census_42 : decode cX7_census 42 = .ok (.getfield 47, 3) := by decide +kernel
theorem dX7_census_45 : decode cX7_census 45 = .ok (.aload_n 0, 1) := by decide +kernel
theorem dX7_census_46 : decode cX7_census 46 = .ok (.getfield 66, 3) := by decide +kernel
theorem dX7_census_49 : decode cX7_census 49 = .ok (.invokevirtual 73, 3) := by decide +kernel
theorem dX7_census_52 : decode cX7_census 52 = .ok (.aload_n 0, 1) := by decide +kernel
theorem dX7_census_53 : decode cX7_census 53 = .ok (.getfield 40, 3) := by decide +kernel
theorem dX7_census_56 : decode cX7_census 56 = .ok (.invokevirtual 92, 3) := by decide +kernel
theorem dX7_census_59 : decode cX7_census 59 = .ok (.iconst 0, 1) := by decide +kernel
theorem dX7_census_60 : decode cX7_census 60 = .ok (.istore_n 2, 1) := by decide +kernel
theorem dX7_census_61 : decode cX7_census 61 = .ok (.iload_n 2, 1) := by decide +kernel
theorem dX7_census_62 : decode cX7_census 62 = .ok (.iconst 2, 1) := by decide +kernel
theorem dX7_census_63 : decode cX7_census 63 = .ok (.if_icmp .ge 16, 3) := by decide +kernel
theorem dX7_census_66 : decode cX7_census 66 = .ok (.aload_n 0, 1) := by decide +kernel
theorem dX7_census_67 : decode cX7_census 67 = .ok (.getfield 55, 3) := by decide +kernel
theorem dX7_census_70 : decode cX7_census 70 = .ok (.iload_n 2, 1) := by decide +kernel
theorem dX7_census_71 : decode cX7_census 71 = .ok (.iconst 0, 1) := by decide +kernel
theorem dX7_census_72 : decode cX7_census 72 = .ok (.bastore, 1) := by decide +kernel
theorem dX7_census_73 : decode cX7_census 73 = .ok (.iinc 2 1, 3) := by decide +kernel
theorem dX7_census_76 : decode cX7_census 76 = .ok (.goto (-15), 3) := by decide +kernel
theorem dX7_census_79 : decode cX7_census 79 = .ok (.aload_n 0, 1) := by decide +kernel
theorem dX7_census_80 : decode cX7_census 80 = .ok (.getfield 66, 3) := by decide +kernel
theorem dX7_census_83 : decode cX7_census 83 = .ok (.getfield 93, 3) := by decide +kernel
theorem dX7_census_86 : decode cX7_census 86 = .ok (.ireturn, 1) := by decide +kernel
theorem dX7_about_0 : decode cX7_about 0 = .ok (.iload_n 1, 1) := by decide +kernel
theorem dX7_about_1 : decode cX7_about 1 = .ok (.tableswitch 121 0 8 #[51, 59, 67, 75, 83, 88, 97, 105, 113], 51) := by decide +kernel
theorem dX7_about_52 : decode cX7_about 52 = .ok (.aload_n 0, 1) := by decide +kernel
theorem dX7_about_53 : decode cX7_about 53 = .ok (.getfield 66, 3) := by decide +kernel
theorem dX7_about_56 : decode cX7_about 56 = .ok (.getfield 97, 3) := by decide +kernel
theorem dX7_about_59 : decode cX7_about 59 = .ok (.ireturn, 1) := by decide +kernel
theorem dX7_about_60 : decode cX7_about 60 = .ok (.aload_n 0, 1) := by decide +kernel
theorem dX7_about_61 : decode cX7_about 61 = .ok (.getfield 66, 3) := by decide +kernel
theorem dX7_about_64 : decode cX7_about 64 = .ok (.getfield 93, 3) := by decide +kernel
theorem dX7_about_67 : decode cX7_about 67 = .ok (.ireturn, 1) := by decide +kernel
theorem dX7_about_68 : decode cX7_about 68 = .ok (.aload_n 0, 1) := by decide +kernel
theorem dX7_about_69 : decode cX7_about 69 = .ok (.getfield 66, 3) := by decide +kernel
theorem dX7_about_72 : decode cX7_about 72 = .ok (.getfield 100, 3) := by decide +kernel
theorem dX7_about_75 : decode cX7_about 75 = .ok (.ireturn, 1) := by decide +kernel
theorem dX7_about_76 : decode cX7_about 76 = .ok (.aload_n 0, 1) := by decide +kernel
theorem dX7_about_77 : decode cX7_about 77 = .ok (.getfield 47, 3) := by decide +kernel
theorem dX7_about_80 : decode cX7_about 80 = .ok (.getfield 103, 3) := by decide +kernel
theorem dX7_about_83 : decode cX7_about 83 = .ok (.ireturn, 1) := by decide +kernel
theorem dX7_about_84 : decode cX7_about 84 = .ok (.aload_n 0, 1) := by decide +kernel
theorem dX7_about_85 : decode cX7_about 85 = .ok (.invokevirtual 106, 3) := by decide +kernel
theorem dX7_about_88 : decode cX7_about 88 = .ok (.ireturn, 1) := by decide +kernel
theorem dX7_about_89 : decode cX7_about 89 = .ok (.aload_n 0, 1) := by decide +kernel
theorem dX7_about_90 : decode cX7_about 90 = .ok (.aload_n 0, 1) := by decide +kernel
theorem dX7_about_91 : decode cX7_about 91 = .ok (.invokevirtual 109, 3) := by decide +kernel
theorem dX7_about_94 : decode cX7_about 94 = .ok (.invokevirtual 112, 3) := by decide +kernel
theorem dX7_about_97 : decode cX7_about 97 = .ok (.ireturn, 1) := by decide +kernel
theorem dX7_about_98 : decode cX7_about 98 = .ok (.aload_n 0, 1) := by decide +kernel
theorem dX7_about_99 : decode cX7_about 99 = .ok (.getfield 66, 3) := by decide +kernel
theorem dX7_about_102 : decode cX7_about 102 = .ok (.getfield 116, 3) := by decide +kernel
theorem dX7_about_105 : decode cX7_about 105 = .ok (.ireturn, 1) := by decide +kernel
theorem dX7_about_106 : decode cX7_about 106 = .ok (.aload_n 0, 1) := by decide +kernel
theorem dX7_about_107 : decode cX7_about 107 = .ok (.getfield 40, 3) := by decide +kernel
theorem dX7_about_110 : decode cX7_about 110 = .ok (.invokevirtual 119, 3) := by decide +kernel
theorem dX7_about_113 : decode cX7_about 113 = .ok (.ireturn, 1) := by decide +kernel
theorem dX7_about_114 : decode cX7_about 114 = .ok (.aload_n 0, 1) := by decide +kernel
theorem dX7_about_115 : decode cX7_about 115 = .ok (.getfield 10, 3) := by decide +kernel
theorem dX7_about_118 : decode cX7_about 118 = .ok (.invokevirtual 81, 3) := by decide +kernel
theorem dX7_about_121 : decode cX7_about 121 = .ok (.ireturn, 1) := by decide +kernel
theorem dX7_about_122 : decode cX7_about 122 = .ok (.bipush (-2), 2) := by decide +kernel
theorem dX7_about_124 : decode cX7_about 124 = .ok (.ireturn, 1) := by decide +kernel
theorem dX7_person_0 : decode cX7_person 0 = .ok (.aload_n 0, 1) := by decide +kernel
theorem dX7_person_1 : decode cX7_person 1 = .ok (.getfield 66, 3) := by decide +kernel
theorem dX7_person_4 : decode cX7_person 4 = .ok (.iload_n 1, 1) := by decide +kernel
theorem dX7_person_5 : decode cX7_person 5 = .ok (.invokevirtual 120, 3) := by decide +kernel
theorem dX7_person_8 : decode cX7_person 8 = .ok (.ifCond .ne 5, 3) := by decide +kernel
theorem dX7_person_11 : decode cX7_person 11 = .ok (.iconst (-1), 1) := by decide +kernel
theorem dX7_person_12 : decode cX7_person 12 = .ok (.ireturn, 1) := by decide +kernel
theorem dX7_person_13 : decode cX7_person 13 = .ok (.iload_n 2, 1) := by decide +kernel
theorem dX7_person_14 : decode cX7_person 14 = .ok (.tableswitch 129 0 7 #[46, 56, 66, 76, 86, 96, 106, 116], 46) := by decide +kernel
theorem dX7_person_60 : decode cX7_person 60 = .ok (.aload_n 0, 1) := by decide +kernel
theorem dX7_person_61 : decode cX7_person 61 = .ok (.getfield 66, 3) := by decide +kernel
theorem dX7_person_64 : decode cX7_person 64 = .ok (.getfield 124, 3) := by decide +kernel
theorem dX7_person_67 : decode cX7_person 67 = .ok (.iload_n 1, 1) := by decide +kernel
theorem dX7_person_68 : decode cX7_person 68 = .ok (.iaload, 1) := by decide +kernel
theorem dX7_person_69 : decode cX7_person 69 = .ok (.ireturn, 1) := by decide +kernel
theorem dX7_person_70 : decode cX7_person 70 = .ok (.aload_n 0, 1) := by decide +kernel
theorem dX7_person_71 : decode cX7_person 71 = .ok (.getfield 66, 3) := by decide +kernel
theorem dX7_person_74 : decode cX7_person 74 = .ok (.getfield 127, 3) := by decide +kernel
theorem dX7_person_77 : decode cX7_person 77 = .ok (.iload_n 1, 1) := by decide +kernel
theorem dX7_person_78 : decode cX7_person 78 = .ok (.iaload, 1) := by decide +kernel
theorem dX7_person_79 : decode cX7_person 79 = .ok (.ireturn, 1) := by decide +kernel
theorem dX7_person_80 : decode cX7_person 80 = .ok (.aload_n 0, 1) := by decide +kernel
theorem dX7_person_81 : decode cX7_person 81 = .ok (.getfield 66, 3) := by decide +kernel
theorem dX7_person_84 : decode cX7_person 84 = .ok (.getfield 130, 3) := by decide +kernel
theorem dX7_person_87 : decode cX7_person 87 = .ok (.iload_n 1, 1) := by decide +kernel
theorem dX7_person_88 : decode cX7_person 88 = .ok (.iaload, 1) := by decide +kernel
theorem dX7_person_89 : decode cX7_person 89 = .ok (.ireturn, 1) := by decide +kernel
theorem dX7_person_90 : decode cX7_person 90 = .ok (.aload_n 0, 1) := by decide +kernel
theorem dX7_person_91 : decode cX7_person 91 = .ok (.getfield 47, 3) := by decide +kernel
theorem dX7_person_94 : decode cX7_person 94 = .ok (.getfield 133, 3) := by decide +kernel
theorem dX7_person_97 : decode cX7_person 97 = .ok (.iload_n 1, 1) := by decide +kernel
theorem dX7_person_98 : decode cX7_person 98 = .ok (.iaload, 1) := by decide +kernel
theorem dX7_person_99 : decode cX7_person 99 = .ok (.ireturn, 1) := by decide +kernel
theorem dX7_person_100 : decode cX7_person 100 = .ok (.aload_n 0, 1) := by decide +kernel
theorem dX7_person_101 : decode cX7_person 101 = .ok (.getfield 47, 3) := by decide +kernel
theorem dX7_person_104 : decode cX7_person 104 = .ok (.getfield 136, 3) := by decide +kernel
theorem dX7_person_107 : decode cX7_person 107 = .ok (.iload_n 1, 1) := by decide +kernel
theorem dX7_person_108 : decode cX7_person 108 = .ok (.iaload, 1) := by decide +kernel
theorem dX7_person_109 : decode cX7_person 109 = .ok (.ireturn, 1) := by decide +kernel
theorem dX7_person_110 : decode cX7_person 110 = .ok (.aload_n 0, 1) := by decide +kernel
theorem dX7_person_111 : decode cX7_person 111 = .ok (.getfield 47, 3) := by decide +kernel
theorem dX7_person_114 : decode cX7_person 114 = .ok (.getfield 139, 3) := by decide +kernel
theorem dX7_person_117 : decode cX7_person 117 = .ok (.iload_n 1, 1) := by decide +kernel
theorem dX7_person_118 : decode cX7_person 118 = .ok (.iaload, 1) := by decide +kernel
theorem dX7_person_119 : decode cX7_person 119 = .ok (.ireturn, 1) := by decide +kernel
theorem dX7_person_120 : decode cX7_person 120 = .ok (.aload_n 0, 1) := by decide +kernel
theorem dX7_person_121 : decode cX7_person 121 = .ok (.getfield 66, 3) := by decide +kernel
theorem dX7_person_124 : decode cX7_person 124 = .ok (.getfield 142, 3) := by decide +kernel
theorem dX7_person_127 : decode cX7_person 127 = .ok (.iload_n 1, 1) := by decide +kernel
theorem dX7_person_128 : decode cX7_person 128 = .ok (.iaload, 1) := by decide +kernel
theorem dX7_person_129 : decode cX7_person 129 = .ok (.ireturn, 1) := by decide +kernel
theorem dX7_person_130 : decode cX7_person 130 = .ok (.aload_n 0, 1) := by decide +kernel
theorem dX7_person_131 : decode cX7_person 131 = .ok (.iload_n 1, 1) := by decide +kernel
theorem dX7_person_132 : decode cX7_person 132 = .ok (.aload_n 0, 1) := by decide +kernel
theorem dX7_person_133 : decode cX7_person 133 = .ok (.getfield 47, 3) := by decide +kernel
theorem dX7_person_136 : decode cX7_person 136 = .ok (.getfield 103, 3) := by decide +kernel
theorem dX7_person_139 : decode cX7_person 139 = .ok (.invokevirtual 145, 3) := by decide +kernel
theorem dX7_person_142 : decode cX7_person 142 = .ok (.ireturn, 1) := by decide +kernel
theorem dX7_person_143 : decode cX7_person 143 = .ok (.bipush (-2), 2) := by decide +kernel
theorem dX7_person_145 : decode cX7_person 145 = .ok (.ireturn, 1) := by decide +kernel
theorem dX7_town_0 : decode cX7_town 0 = .ok (.aload_n 0, 1) := by decide +kernel
theorem dX7_town_1 : decode cX7_town 1 = .ok (.getfield 66, 3) := by decide +kernel
theorem dX7_town_4 : decode cX7_town 4 = .ok (.iload_n 1, 1) := by decide +kernel
theorem dX7_town_5 : decode cX7_town 5 = .ok (.invokevirtual 149, 3) := by decide +kernel
theorem dX7_town_8 : decode cX7_town 8 = .ok (.ifCond .ne 5, 3) := by decide +kernel
theorem dX7_town_11 : decode cX7_town 11 = .ok (.iconst (-1), 1) := by decide +kernel
theorem dX7_town_12 : decode cX7_town 12 = .ok (.ireturn, 1) := by decide +kernel
theorem dX7_town_13 : decode cX7_town 13 = .ok (.iload_n 2, 1) := by decide +kernel
theorem dX7_town_14 : decode cX7_town 14 = .ok (.tableswitch 88 0 5 #[38, 44, 50, 60, 69, 75], 38) := by decide +kernel
theorem dX7_town_52 : decode cX7_town 52 = .ok (.aload_n 0, 1) := by decide +kernel
theorem dX7_town_53 : decode cX7_town 53 = .ok (.iload_n 1, 1) := by decide +kernel
theorem dX7_town_54 : decode cX7_town 54 = .ok (.invokevirtual 152, 3) := by decide +kernel
theorem dX7_town_57 : decode cX7_town 57 = .ok (.ireturn, 1) := by decide +kernel
theorem dX7_town_58 : decode cX7_town 58 = .ok (.aload_n 0, 1) := by decide +kernel
theorem dX7_town_59 : decode cX7_town 59 = .ok (.iload_n 1, 1) := by decide +kernel
theorem dX7_town_60 : decode cX7_town 60 = .ok (.invokevirtual 155, 3) := by decide +kernel
theorem dX7_town_63 : decode cX7_town 63 = .ok (.ireturn, 1) := by decide +kernel
theorem dX7_town_64 : decode cX7_town 64 = .ok (.aload_n 0, 1) := by decide +kernel
theorem dX7_town_65 : decode cX7_town 65 = .ok (.getfield 47, 3) := by decide +kernel
theorem dX7_town_68 : decode cX7_town 68 = .ok (.getfield 158, 3) := by decide +kernel
theorem dX7_town_71 : decode cX7_town 71 = .ok (.iload_n 1, 1) := by decide +kernel
theorem dX7_town_72 : decode cX7_town 72 = .ok (.iaload, 1) := by decide +kernel
theorem dX7_town_73 : decode cX7_town 73 = .ok (.ireturn, 1) := by decide +kernel
theorem dX7_town_74 : decode cX7_town 74 = .ok (.aload_n 0, 1) := by decide +kernel
theorem dX7_town_75 : decode cX7_town 75 = .ok (.getfield 66, 3) := by decide +kernel
theorem dX7_town_78 : decode cX7_town 78 = .ok (.iload_n 1, 1) := by decide +kernel
theorem dX7_town_79 : decode cX7_town 79 = .ok (.invokevirtual 161, 3) := by decide +kernel
theorem dX7_town_82 : decode cX7_town 82 = .ok (.ireturn, 1) := by decide +kernel
theorem dX7_town_83 : decode cX7_town 83 = .ok (.aload_n 0, 1) := by decide +kernel
theorem dX7_town_84 : decode cX7_town 84 = .ok (.iload_n 1, 1) := by decide +kernel
theorem dX7_town_85 : decode cX7_town 85 = .ok (.invokevirtual 164, 3) := by decide +kernel
theorem dX7_town_88 : decode cX7_town 88 = .ok (.ireturn, 1) := by decide +kernel
theorem dX7_town_89 : decode cX7_town 89 = .ok (.aload_n 0, 1) := by decide +kernel
theorem dX7_town_90 : decode cX7_town 90 = .ok (.aload_n 0, 1) := by decide +kernel
theorem dX7_town_91 : decode cX7_town 91 = .ok (.getfield 66, 3) := by decide +kernel
theorem dX7_town_94 : decode cX7_town 94 = .ok (.iload_n 1, 1) := by decide +kernel
theorem dX7_town_95 : decode cX7_town 95 = .ok (.invokevirtual 161, 3) := by decide +kernel
theorem dX7_town_98 : decode cX7_town 98 = .ok (.invokevirtual 112, 3) := by decide +kernel
theorem dX7_town_101 : decode cX7_town 101 = .ok (.ireturn, 1) := by decide +kernel
theorem dX7_town_102 : decode cX7_town 102 = .ok (.bipush (-2), 2) := by decide +kernel
theorem dX7_town_104 : decode cX7_town 104 = .ok (.ireturn, 1) := by decide +kernel
theorem dX7_law_0 : decode cX7_law 0 = .ok (.iload_n 1, 1) := by decide +kernel
theorem dX7_law_1 : decode cX7_law 1 = .ok (.ifCond .lt 8, 3) := by decide +kernel
theorem dX7_law_4 : decode cX7_law 4 = .ok (.iload_n 1, 1) := by decide +kernel
theorem dX7_law_5 : decode cX7_law 5 = .ok (.iconst 3, 1) := by decide +kernel
theorem dX7_law_6 : decode cX7_law 6 = .ok (.if_icmp .lt 6, 3) := by decide +kernel
theorem dX7_law_9 : decode cX7_law 9 = .ok (.bipush (-2), 2) := by decide +kernel
theorem dX7_law_11 : decode cX7_law 11 = .ok (.ireturn, 1) := by decide +kernel
theorem dX7_law_12 : decode cX7_law 12 = .ok (.aload_n 0, 1) := by decide +kernel
theorem dX7_law_13 : decode cX7_law 13 = .ok (.getfield 66, 3) := by decide +kernel
theorem dX7_law_16 : decode cX7_law 16 = .ok (.getfield 100, 3) := by decide +kernel
theorem dX7_law_19 : decode cX7_law 19 = .ok (.istore_n 2, 1) := by decide +kernel
theorem dX7_law_20 : decode cX7_law 20 = .ok (.aload_n 0, 1) := by decide +kernel
theorem dX7_law_21 : decode cX7_law 21 = .ok (.getfield 66, 3) := by decide +kernel
theorem dX7_law_24 : decode cX7_law 24 = .ok (.iload_n 1, 1) := by decide +kernel
theorem dX7_law_25 : decode cX7_law 25 = .ok (.putfield 100, 3) := by decide +kernel
theorem dX7_law_28 : decode cX7_law 28 = .ok (.iload_n 2, 1) := by decide +kernel
theorem dX7_law_29 : decode cX7_law 29 = .ok (.ireturn, 1) := by decide +kernel
theorem dX7_go_0 : decode cX7_go 0 = .ok (.aload_n 0, 1) := by decide +kernel
theorem dX7_go_1 : decode cX7_go 1 = .ok (.getfield 66, 3) := by decide +kernel
theorem dX7_go_4 : decode cX7_go 4 = .ok (.iload_n 1, 1) := by decide +kernel
theorem dX7_go_5 : decode cX7_go 5 = .ok (.invokevirtual 120, 3) := by decide +kernel
theorem dX7_go_8 : decode cX7_go 8 = .ok (.ifCond .eq 14, 3) := by decide +kernel
theorem dX7_go_11 : decode cX7_go 11 = .ok (.aload_n 0, 1) := by decide +kernel
theorem dX7_go_12 : decode cX7_go 12 = .ok (.getfield 66, 3) := by decide +kernel
theorem dX7_go_15 : decode cX7_go 15 = .ok (.iload_n 2, 1) := by decide +kernel
theorem dX7_go_16 : decode cX7_go 16 = .ok (.invokevirtual 149, 3) := by decide +kernel
theorem dX7_go_19 : decode cX7_go 19 = .ok (.ifCond .ne 5, 3) := by decide +kernel
theorem dX7_go_22 : decode cX7_go 22 = .ok (.iconst (-1), 1) := by decide +kernel
theorem dX7_go_23 : decode cX7_go 23 = .ok (.ireturn, 1) := by decide +kernel
theorem dX7_go_24 : decode cX7_go 24 = .ok (.aload_n 0, 1) := by decide +kernel
theorem dX7_go_25 : decode cX7_go 25 = .ok (.getfield 47, 3) := by decide +kernel
theorem dX7_go_28 : decode cX7_go 28 = .ok (.iload_n 1, 1) := by decide +kernel
theorem dX7_go_29 : decode cX7_go 29 = .ok (.invokevirtual 167, 3) := by decide +kernel
theorem dX7_go_32 : decode cX7_go 32 = .ok (.ifCond .eq 16, 3) := by decide +kernel
theorem dX7_go_35 : decode cX7_go 35 = .ok (.aload_n 0, 1) := by decide +kernel
theorem dX7_go_36 : decode cX7_go 36 = .ok (.getfield 47, 3) := by decide +kernel
theorem dX7_go_39 : decode cX7_go 39 = .ok (.getfield 133, 3) := by decide +kernel
theorem dX7_go_42 : decode cX7_go 42 = .ok (.iload_n 1, 1) := by decide +kernel
theorem dX7_go_43 : decode cX7_go 43 = .ok (.iaload, 1) := by decide +kernel
theorem dX7_go_44 : decode cX7_go 44 = .ok (.iload_n 2, 1) := by decide +kernel
theorem dX7_go_45 : decode cX7_go 45 = .ok (.if_icmp .ne 6, 3) := by decide +kernel
theorem dX7_go_48 : decode cX7_go 48 = .ok (.bipush (-3), 2) := by decide +kernel
theorem dX7_go_50 : decode cX7_go 50 = .ok (.ireturn, 1) := by decide +kernel
theorem dX7_go_51 : decode cX7_go 51 = .ok (.aload_n 0, 1) := by decide +kernel
theorem dX7_go_52 : decode cX7_go 52 = .ok (.getfield 40, 3) := by decide +kernel
theorem dX7_go_55 : decode cX7_go 55 = .ok (.aload_n 0, 1) := by decide +kernel
theorem dX7_go_56 : decode cX7_go 56 = .ok (.getfield 47, 3) := by decide +kernel
theorem dX7_go_59 : decode cX7_go 59 = .ok (.invokevirtual 170, 3) := by decide +kernel
theorem dX7_go_62 : decode cX7_go 62 = .ok (.aload_n 0, 1) := by decide +kernel
theorem dX7_go_63 : decode cX7_go 63 = .ok (.getfield 47, 3) := by decide +kernel
theorem dX7_go_66 : decode cX7_go 66 = .ok (.getfield 136, 3) := by decide +kernel
theorem dX7_go_69 : decode cX7_go 69 = .ok (.iload_n 1, 1) := by decide +kernel
theorem dX7_go_70 : decode cX7_go 70 = .ok (.iaload, 1) := by decide +kernel
theorem dX7_go_71 : decode cX7_go 71 = .ok (.istore_n 3, 1) := by decide +kernel
theorem dX7_go_72 : decode cX7_go 72 = .ok (.aload_n 0, 1) := by decide +kernel
theorem dX7_go_73 : decode cX7_go 73 = .ok (.getfield 47, 3) := by decide +kernel
theorem dX7_go_76 : decode cX7_go 76 = .ok (.getfield 133, 3) := by decide +kernel
theorem dX7_go_79 : decode cX7_go 79 = .ok (.iload_n 1, 1) := by decide +kernel
theorem dX7_go_80 : decode cX7_go 80 = .ok (.iload_n 2, 1) := by decide +kernel
theorem dX7_go_81 : decode cX7_go 81 = .ok (.iastore, 1) := by decide +kernel
theorem dX7_go_82 : decode cX7_go 82 = .ok (.aload_n 0, 1) := by decide +kernel
theorem dX7_go_83 : decode cX7_go 83 = .ok (.getfield 47, 3) := by decide +kernel
theorem dX7_go_86 : decode cX7_go 86 = .ok (.getfield 136, 3) := by decide +kernel
theorem dX7_go_89 : decode cX7_go 89 = .ok (.iload_n 1, 1) := by decide +kernel
theorem dX7_go_90 : decode cX7_go 90 = .ok (.aload_n 0, 1) := by decide +kernel
theorem dX7_go_91 : decode cX7_go 91 = .ok (.getfield 47, 3) := by decide +kernel
theorem dX7_go_94 : decode cX7_go 94 = .ok (.getfield 103, 3) := by decide +kernel
theorem dX7_go_97 : decode cX7_go 97 = .ok (.iastore, 1) := by decide +kernel
theorem dX7_go_98 : decode cX7_go 98 = .ok (.iload_n 3, 1) := by decide +kernel
theorem dX7_go_99 : decode cX7_go 99 = .ok (.ireturn, 1) := by decide +kernel
theorem dX7_die_0 : decode cX7_die 0 = .ok (.aload_n 0, 1) := by decide +kernel
theorem dX7_die_1 : decode cX7_die 1 = .ok (.getfield 66, 3) := by decide +kernel
theorem dX7_die_4 : decode cX7_die 4 = .ok (.iload_n 1, 1) := by decide +kernel
theorem dX7_die_5 : decode cX7_die 5 = .ok (.invokevirtual 120, 3) := by decide +kernel
theorem dX7_die_8 : decode cX7_die 8 = .ok (.ifCond .ne 5, 3) := by decide +kernel
theorem dX7_die_11 : decode cX7_die 11 = .ok (.iconst (-1), 1) := by decide +kernel
theorem dX7_die_12 : decode cX7_die 12 = .ok (.ireturn, 1) := by decide +kernel
theorem dX7_die_13 : decode cX7_die 13 = .ok (.aload_n 0, 1) := by decide +kernel
theorem dX7_die_14 : decode cX7_die 14 = .ok (.getfield 47, 3) := by decide +kernel
theorem dX7_die_17 : decode cX7_die 17 = .ok (.iload_n 1, 1) := by decide +kernel
theorem dX7_die_18 : decode cX7_die 18 = .ok (.invokevirtual 167, 3) := by decide +kernel
theorem dX7_die_21 : decode cX7_die 21 = .ok (.ifCond .ne 6, 3) := by decide +kernel
theorem dX7_die_24 : decode cX7_die 24 = .ok (.bipush (-3), 2) := by decide +kernel
theorem dX7_die_26 : decode cX7_die 26 = .ok (.ireturn, 1) := by decide +kernel
theorem dX7_die_27 : decode cX7_die 27 = .ok (.aload_n 0, 1) := by decide +kernel
theorem dX7_die_28 : decode cX7_die 28 = .ok (.getfield 40, 3) := by decide +kernel
theorem dX7_die_31 : decode cX7_die 31 = .ok (.aload_n 0, 1) := by decide +kernel
theorem dX7_die_32 : decode cX7_die 32 = .ok (.getfield 47, 3) := by decide +kernel
theorem dX7_die_35 : decode cX7_die 35 = .ok (.invokevirtual 170, 3) := by decide +kernel
theorem dX7_die_38 : decode cX7_die 38 = .ok (.aload_n 0, 1) := by decide +kernel
theorem dX7_die_39 : decode cX7_die 39 = .ok (.getfield 47, 3) := by decide +kernel
theorem dX7_die_42 : decode cX7_die 42 = .ok (.getfield 139, 3) := by decide +kernel
theorem dX7_die_45 : decode cX7_die 45 = .ok (.iload_n 1, 1) := by decide +kernel
theorem dX7_die_46 : decode cX7_die 46 = .ok (.aload_n 0, 1) := by decide +kernel
theorem dX7_die_47 : decode cX7_die 47 = .ok (.getfield 47, 3) := by decide +kernel
theorem dX7_die_50 : decode cX7_die 50 = .ok (.getfield 103, 3) := by decide +kernel
theorem dX7_die_53 : decode cX7_die 53 = .ok (.iastore, 1) := by decide +kernel
theorem dX7_die_54 : decode cX7_die 54 = .ok (.aload_n 0, 1) := by decide +kernel
theorem dX7_die_55 : decode cX7_die 55 = .ok (.getfield 47, 3) := by decide +kernel
theorem dX7_die_58 : decode cX7_die 58 = .ok (.iload_n 1, 1) := by decide +kernel
theorem dX7_die_59 : decode cX7_die 59 = .ok (.aload_n 0, 1) := by decide +kernel
theorem dX7_die_60 : decode cX7_die 60 = .ok (.getfield 66, 3) := by decide +kernel
theorem dX7_die_63 : decode cX7_die 63 = .ok (.invokevirtual 174, 3) := by decide +kernel
theorem dX7_die_66 : decode cX7_die 66 = .ok (.ireturn, 1) := by decide +kernel
theorem dX7_year_0 : decode cX7_year 0 = .ok (.aload_n 0, 1) := by decide +kernel
theorem dX7_year_1 : decode cX7_year 1 = .ok (.getfield 40, 3) := by decide +kernel
theorem dX7_year_4 : decode cX7_year 4 = .ok (.aload_n 0, 1) := by decide +kernel
theorem dX7_year_5 : decode cX7_year 5 = .ok (.getfield 47, 3) := by decide +kernel
theorem dX7_year_8 : decode cX7_year 8 = .ok (.invokevirtual 170, 3) := by decide +kernel
theorem dX7_year_11 : decode cX7_year 11 = .ok (.aload_n 0, 1) := by decide +kernel
theorem dX7_year_12 : decode cX7_year 12 = .ok (.getfield 47, 3) := by decide +kernel
theorem dX7_year_15 : decode cX7_year 15 = .ok (.invokevirtual 178, 3) := by decide +kernel
theorem dX7_year_18 : decode cX7_year 18 = .ok (.aload_n 0, 1) := by decide +kernel
theorem dX7_year_19 : decode cX7_year 19 = .ok (.getfield 47, 3) := by decide +kernel
theorem dX7_year_22 : decode cX7_year 22 = .ok (.getfield 103, 3) := by decide +kernel
theorem dX7_year_25 : decode cX7_year 25 = .ok (.ireturn, 1) := by decide +kernel
theorem dX7_rumour_0 : decode cX7_rumour 0 = .ok (.aload_n 0, 1) := by decide +kernel
theorem dX7_rumour_1 : decode cX7_rumour 1 = .ok (.getfield 66, 3) := by decide +kernel
theorem dX7_rumour_4 : decode cX7_rumour 4 = .ok (.iload_n 1, 1) := by decide +kernel
theorem dX7_rumour_5 : decode cX7_rumour 5 = .ok (.invokevirtual 149, 3) := by decide +kernel
theorem dX7_rumour_8 : decode cX7_rumour 8 = .ok (.ifCond .ne 5, 3) := by decide +kernel
theorem dX7_rumour_11 : decode cX7_rumour 11 = .ok (.iconst (-1), 1) := by decide +kernel
theorem dX7_rumour_12 : decode cX7_rumour 12 = .ok (.ireturn, 1) := by decide +kernel
theorem dX7_rumour_13 : decode cX7_rumour 13 = .ok (.iload_n 2, 1) := by decide +kernel
theorem dX7_rumour_14 : decode cX7_rumour 14 = .ok (.iconst 1, 1) := by decide +kernel
theorem dX7_rumour_15 : decode cX7_rumour 15 = .ok (.if_icmp .lt 9, 3) := by decide +kernel
theorem dX7_rumour_18 : decode cX7_rumour 18 = .ok (.iload_n 2, 1) := by decide +kernel
theorem dX7_rumour_19 : decode cX7_rumour 19 = .ok (.bipush 9, 2) := by decide +kernel
theorem dX7_rumour_21 : decode cX7_rumour 21 = .ok (.if_icmp .le 6, 3) := by decide +kernel
theorem dX7_rumour_24 : decode cX7_rumour 24 = .ok (.bipush (-2), 2) := by decide +kernel
theorem dX7_rumour_26 : decode cX7_rumour 26 = .ok (.ireturn, 1) := by decide +kernel
theorem dX7_rumour_27 : decode cX7_rumour 27 = .ok (.aload_n 0, 1) := by decide +kernel
theorem dX7_rumour_28 : decode cX7_rumour 28 = .ok (.getfield 47, 3) := by decide +kernel
theorem dX7_rumour_31 : decode cX7_rumour 31 = .ok (.getfield 158, 3) := by decide +kernel
theorem dX7_rumour_34 : decode cX7_rumour 34 = .ok (.iload_n 1, 1) := by decide +kernel
theorem dX7_rumour_35 : decode cX7_rumour 35 = .ok (.iaload, 1) := by decide +kernel
theorem dX7_rumour_36 : decode cX7_rumour 36 = .ok (.iload_n 2, 1) := by decide +kernel
theorem dX7_rumour_37 : decode cX7_rumour 37 = .ok (.iadd, 1) := by decide +kernel
theorem dX7_rumour_38 : decode cX7_rumour 38 = .ok (.bipush 99, 2) := by decide +kernel
theorem dX7_rumour_40 : decode cX7_rumour 40 = .ok (.if_icmp .le 6, 3) := by decide +kernel
theorem dX7_rumour_43 : decode cX7_rumour 43 = .ok (.bipush (-4), 2) := by decide +kernel
theorem dX7_rumour_45 : decode cX7_rumour 45 = .ok (.ireturn, 1) := by decide +kernel
theorem dX7_rumour_46 : decode cX7_rumour 46 = .ok (.aload_n 0, 1) := by decide +kernel
theorem dX7_rumour_47 : decode cX7_rumour 47 = .ok (.getfield 40, 3) := by decide +kernel
theorem dX7_rumour_50 : decode cX7_rumour 50 = .ok (.aload_n 0, 1) := by decide +kernel
theorem dX7_rumour_51 : decode cX7_rumour 51 = .ok (.getfield 47, 3) := by decide +kernel
theorem dX7_rumour_54 : decode cX7_rumour 54 = .ok (.invokevirtual 170, 3) := by decide +kernel
theorem dX7_rumour_57 : decode cX7_rumour 57 = .ok (.aload_n 0, 1) := by decide +kernel
theorem dX7_rumour_58 : decode cX7_rumour 58 = .ok (.getfield 47, 3) := by decide +kernel
theorem dX7_rumour_61 : decode cX7_rumour 61 = .ok (.getfield 158, 3) := by decide +kernel
theorem dX7_rumour_64 : decode cX7_rumour 64 = .ok (.iload_n 1, 1) := by decide +kernel
theorem dX7_rumour_65 : decode cX7_rumour 65 = .ok (.dup2, 1) := by decide +kernel
theorem dX7_rumour_66 : decode cX7_rumour 66 = .ok (.iaload, 1) := by decide +kernel
theorem dX7_rumour_67 : decode cX7_rumour 67 = .ok (.iload_n 2, 1) := by decide +kernel
theorem dX7_rumour_68 : decode cX7_rumour 68 = .ok (.iadd, 1) := by decide +kernel
theorem dX7_rumour_69 : decode cX7_rumour 69 = .ok (.iastore, 1) := by decide +kernel
theorem dX7_rumour_70 : decode cX7_rumour 70 = .ok (.aload_n 0, 1) := by decide +kernel
theorem dX7_rumour_71 : decode cX7_rumour 71 = .ok (.getfield 47, 3) := by decide +kernel
theorem dX7_rumour_74 : decode cX7_rumour 74 = .ok (.getfield 158, 3) := by decide +kernel
theorem dX7_rumour_77 : decode cX7_rumour 77 = .ok (.iload_n 1, 1) := by decide +kernel
theorem dX7_rumour_78 : decode cX7_rumour 78 = .ok (.iaload, 1) := by decide +kernel
theorem dX7_rumour_79 : decode cX7_rumour 79 = .ok (.ireturn, 1) := by decide +kernel
theorem dX7_undo_0 : decode cX7_undo 0 = .ok (.aload_n 0, 1) := by decide +kernel
theorem dX7_undo_1 : decode cX7_undo 1 = .ok (.getfield 40, 3) := by decide +kernel
theorem dX7_undo_4 : decode cX7_undo 4 = .ok (.invokevirtual 119, 3) := by decide +kernel
theorem dX7_undo_7 : decode cX7_undo 7 = .ok (.ifCond .ne 6, 3) := by decide +kernel
theorem dX7_undo_10 : decode cX7_undo 10 = .ok (.bipush (-3), 2) := by decide +kernel
theorem dX7_undo_12 : decode cX7_undo 12 = .ok (.ireturn, 1) := by decide +kernel
theorem dX7_undo_13 : decode cX7_undo 13 = .ok (.aload_n 0, 1) := by decide +kernel
theorem dX7_undo_14 : decode cX7_undo 14 = .ok (.getfield 40, 3) := by decide +kernel
theorem dX7_undo_17 : decode cX7_undo 17 = .ok (.aload_n 0, 1) := by decide +kernel
theorem dX7_undo_18 : decode cX7_undo 18 = .ok (.getfield 47, 3) := by decide +kernel
theorem dX7_undo_21 : decode cX7_undo 21 = .ok (.invokevirtual 181, 3) := by decide +kernel
theorem dX7_undo_24 : decode cX7_undo 24 = .ok (.aload_n 0, 1) := by decide +kernel
theorem dX7_undo_25 : decode cX7_undo 25 = .ok (.getfield 40, 3) := by decide +kernel
theorem dX7_undo_28 : decode cX7_undo 28 = .ok (.invokevirtual 119, 3) := by decide +kernel
theorem dX7_undo_31 : decode cX7_undo 31 = .ok (.ireturn, 1) := by decide +kernel
theorem dX7_forgotten_0 : decode cX7_forgotten 0 = .ok (.aload_n 0, 1) := by decide +kernel
theorem dX7_forgotten_1 : decode cX7_forgotten 1 = .ok (.getfield 66, 3) := by decide +kernel
theorem dX7_forgotten_4 : decode cX7_forgotten 4 = .ok (.iload_n 1, 1) := by decide +kernel
theorem dX7_forgotten_5 : decode cX7_forgotten 5 = .ok (.invokevirtual 120, 3) := by decide +kernel
theorem dX7_forgotten_8 : decode cX7_forgotten 8 = .ok (.ifCond .ne 5, 3) := by decide +kernel
theorem dX7_forgotten_11 : decode cX7_forgotten 11 = .ok (.iconst (-1), 1) := by decide +kernel
theorem dX7_forgotten_12 : decode cX7_forgotten 12 = .ok (.ireturn, 1) := by decide +kernel
theorem dX7_forgotten_13 : decode cX7_forgotten 13 = .ok (.aload_n 0, 1) := by decide +kernel
theorem dX7_forgotten_14 : decode cX7_forgotten 14 = .ok (.getfield 47, 3) := by decide +kernel
theorem dX7_forgotten_17 : decode cX7_forgotten 17 = .ok (.getfield 103, 3) := by decide +kernel
theorem dX7_forgotten_20 : decode cX7_forgotten 20 = .ok (.istore_n 2, 1) := by decide +kernel
theorem dX7_forgotten_21 : decode cX7_forgotten 21 = .ok (.iconst 0, 1) := by decide +kernel
theorem dX7_forgotten_22 : decode cX7_forgotten 22 = .ok (.istore_n 3, 1) := by decide +kernel
theorem dX7_forgotten_23 : decode cX7_forgotten 23 = .ok (.iload_n 3, 1) := by decide +kernel
theorem dX7_forgotten_24 : decode cX7_forgotten 24 = .ok (.bipush 9, 2) := by decide +kernel
theorem dX7_forgotten_26 : decode cX7_forgotten 26 = .ok (.if_icmp .gt 21, 3) := by decide +kernel
theorem dX7_forgotten_29 : decode cX7_forgotten 29 = .ok (.aload_n 0, 1) := by decide +kernel
theorem dX7_forgotten_30 : decode cX7_forgotten 30 = .ok (.iload_n 1, 1) := by decide +kernel
theorem dX7_forgotten_31 : decode cX7_forgotten 31 = .ok (.iload_n 2, 1) := by decide +kernel
theorem dX7_forgotten_32 : decode cX7_forgotten 32 = .ok (.invokevirtual 184, 3) := by decide +kernel
theorem dX7_forgotten_35 : decode cX7_forgotten 35 = .ok (.ifCond .eq 12, 3) := by decide +kernel
theorem dX7_forgotten_38 : decode cX7_forgotten 38 = .ok (.iinc 2 1, 3) := by decide +kernel
theorem dX7_forgotten_41 : decode cX7_forgotten 41 = .ok (.iinc 3 1, 3) := by decide +kernel
theorem dX7_forgotten_44 : decode cX7_forgotten 44 = .ok (.goto (-21), 3) := by decide +kernel
theorem dX7_forgotten_47 : decode cX7_forgotten 47 = .ok (.iload_n 2, 1) := by decide +kernel
theorem dX7_forgotten_48 : decode cX7_forgotten 48 = .ok (.ireturn, 1) := by decide +kernel
theorem dX7_lie_0 : decode cX7_lie 0 = .ok (.aload_n 0, 1) := by decide +kernel
theorem dX7_lie_1 : decode cX7_lie 1 = .ok (.getfield 66, 3) := by decide +kernel
theorem dX7_lie_4 : decode cX7_lie 4 = .ok (.iload_n 1, 1) := by decide +kernel
theorem dX7_lie_5 : decode cX7_lie 5 = .ok (.invokevirtual 149, 3) := by decide +kernel
theorem dX7_lie_8 : decode cX7_lie 8 = .ok (.ifCond .ne 5, 3) := by decide +kernel
theorem dX7_lie_11 : decode cX7_lie 11 = .ok (.iconst (-1), 1) := by decide +kernel
theorem dX7_lie_12 : decode cX7_lie 12 = .ok (.ireturn, 1) := by decide +kernel
theorem dX7_lie_13 : decode cX7_lie 13 = .ok (.iload_n 2, 1) := by decide +kernel
theorem dX7_lie_14 : decode cX7_lie 14 = .ok (.ifCond .lt 9, 3) := by decide +kernel
theorem dX7_lie_17 : decode cX7_lie 17 = .ok (.iload_n 2, 1) := by decide +kernel
theorem dX7_lie_18 : decode cX7_lie 18 = .ok (.bipush 99, 2) := by decide +kernel
theorem dX7_lie_20 : decode cX7_lie 20 = .ok (.if_icmp .le 6, 3) := by decide +kernel
theorem dX7_lie_23 : decode cX7_lie 23 = .ok (.bipush (-2), 2) := by decide +kernel
theorem dX7_lie_25 : decode cX7_lie 25 = .ok (.ireturn, 1) := by decide +kernel
theorem dX7_lie_26 : decode cX7_lie 26 = .ok (.aload_n 0, 1) := by decide +kernel
theorem dX7_lie_27 : decode cX7_lie 27 = .ok (.iload_n 1, 1) := by decide +kernel
theorem dX7_lie_28 : decode cX7_lie 28 = .ok (.invokevirtual 152, 3) := by decide +kernel
theorem dX7_lie_31 : decode cX7_lie 31 = .ok (.istore_n 3, 1) := by decide +kernel
theorem dX7_lie_32 : decode cX7_lie 32 = .ok (.iload_n 3, 1) := by decide +kernel
theorem dX7_lie_33 : decode cX7_lie 33 = .ok (.iload_n 2, 1) := by decide +kernel
theorem dX7_lie_34 : decode cX7_lie 34 = .ok (.if_icmp .lt 5, 3) := by decide +kernel
theorem dX7_lie_37 : decode cX7_lie 37 = .ok (.iconst 0, 1) := by decide +kernel
theorem dX7_lie_38 : decode cX7_lie 38 = .ok (.ireturn, 1) := by decide +kernel
theorem dX7_lie_39 : decode cX7_lie 39 = .ok (.aload_n 0, 1) := by decide +kernel
theorem dX7_lie_40 : decode cX7_lie 40 = .ok (.iload_n 1, 1) := by decide +kernel
theorem dX7_lie_41 : decode cX7_lie 41 = .ok (.invokevirtual 188, 3) := by decide +kernel
theorem dX7_lie_44 : decode cX7_lie 44 = .ok (.iload_n 2, 1) := by decide +kernel
theorem dX7_lie_45 : decode cX7_lie 45 = .ok (.if_icmp .lt 9, 3) := by decide +kernel
theorem dX7_lie_48 : decode cX7_lie 48 = .ok (.iload_n 2, 1) := by decide +kernel
theorem dX7_lie_49 : decode cX7_lie 49 = .ok (.iload_n 3, 1) := by decide +kernel
theorem dX7_lie_50 : decode cX7_lie 50 = .ok (.isub, 1) := by decide +kernel
theorem dX7_lie_51 : decode cX7_lie 51 = .ok (.goto 5, 3) := by decide +kernel
theorem dX7_lie_54 : decode cX7_lie 54 = .ok (.bipush (-9), 2) := by decide +kernel
theorem dX7_lie_56 : decode cX7_lie 56 = .ok (.ireturn, 1) := by decide +kernel
theorem dX7_leave_0 : decode cX7_leave 0 = .ok (.aload_n 0, 1) := by decide +kernel
theorem dX7_leave_1 : decode cX7_leave 1 = .ok (.getfield 66, 3) := by decide +kernel
theorem dX7_leave_4 : decode cX7_leave 4 = .ok (.iload_n 1, 1) := by decide +kernel
theorem dX7_leave_5 : decode cX7_leave 5 = .ok (.invokevirtual 149, 3) := by decide +kernel
theorem dX7_leave_8 : decode cX7_leave 8 = .ok (.ifCond .ne 5, 3) := by decide +kernel
theorem dX7_leave_11 : decode cX7_leave 11 = .ok (.iconst (-1), 1) := by decide +kernel
theorem dX7_leave_12 : decode cX7_leave 12 = .ok (.ireturn, 1) := by decide +kernel
theorem dX7_leave_13 : decode cX7_leave 13 = .ok (.iload_n 2, 1) := by decide +kernel
theorem dX7_leave_14 : decode cX7_leave 14 = .ok (.ifCond .lt 9, 3) := by decide +kernel
theorem dX7_leave_17 : decode cX7_leave 17 = .ok (.iload_n 2, 1) := by decide +kernel
theorem dX7_leave_18 : decode cX7_leave 18 = .ok (.bipush 99, 2) := by decide +kernel
theorem dX7_leave_20 : decode cX7_leave 20 = .ok (.if_icmp .le 6, 3) := by decide +kernel
theorem dX7_leave_23 : decode cX7_leave 23 = .ok (.bipush (-2), 2) := by decide +kernel
theorem dX7_leave_25 : decode cX7_leave 25 = .ok (.ireturn, 1) := by decide +kernel
theorem dX7_leave_26 : decode cX7_leave 26 = .ok (.aload_n 0, 1) := by decide +kernel
theorem dX7_leave_27 : decode cX7_leave 27 = .ok (.getfield 47, 3) := by decide +kernel
theorem dX7_leave_30 : decode cX7_leave 30 = .ok (.getfield 158, 3) := by decide +kernel
theorem dX7_leave_33 : decode cX7_leave 33 = .ok (.iload_n 1, 1) := by decide +kernel
theorem dX7_leave_34 : decode cX7_leave 34 = .ok (.iaload, 1) := by decide +kernel
theorem dX7_leave_35 : decode cX7_leave 35 = .ok (.iload_n 2, 1) := by decide +kernel
theorem dX7_leave_36 : decode cX7_leave 36 = .ok (.if_icmp .le 6, 3) := by decide +kernel
theorem dX7_leave_39 : decode cX7_leave 39 = .ok (.bipush (-9), 2) := by decide +kernel
theorem dX7_leave_41 : decode cX7_leave 41 = .ok (.ireturn, 1) := by decide +kernel
theorem dX7_leave_42 : decode cX7_leave 42 = .ok (.aload_n 0, 1) := by decide +kernel
theorem dX7_leave_43 : decode cX7_leave 43 = .ok (.aload_n 0, 1) := by decide +kernel
theorem dX7_leave_44 : decode cX7_leave 44 = .ok (.iload_n 1, 1) := by decide +kernel
theorem dX7_leave_45 : decode cX7_leave 45 = .ok (.invokevirtual 191, 3) := by decide +kernel
theorem dX7_leave_48 : decode cX7_leave 48 = .ok (.iload_n 2, 1) := by decide +kernel
theorem dX7_leave_49 : decode cX7_leave 49 = .ok (.aload_n 0, 1) := by decide +kernel
theorem dX7_leave_50 : decode cX7_leave 50 = .ok (.getfield 47, 3) := by decide +kernel
theorem dX7_leave_53 : decode cX7_leave 53 = .ok (.getfield 158, 3) := by decide +kernel
theorem dX7_leave_56 : decode cX7_leave 56 = .ok (.iload_n 1, 1) := by decide +kernel
theorem dX7_leave_57 : decode cX7_leave 57 = .ok (.iaload, 1) := by decide +kernel
theorem dX7_leave_58 : decode cX7_leave 58 = .ok (.isub, 1) := by decide +kernel
theorem dX7_leave_59 : decode cX7_leave 59 = .ok (.invokevirtual 194, 3) := by decide +kernel
theorem dX7_leave_62 : decode cX7_leave 62 = .ok (.ireturn, 1) := by decide +kernel
theorem dX7_spans_0 : decode cX7_spans 0 = .ok (.aload_n 0, 1) := by decide +kernel
theorem dX7_spans_1 : decode cX7_spans 1 = .ok (.getfield 66, 3) := by decide +kernel
theorem dX7_spans_4 : decode cX7_spans 4 = .ok (.iload_n 1, 1) := by decide +kernel
theorem dX7_spans_5 : decode cX7_spans 5 = .ok (.invokevirtual 149, 3) := by decide +kernel
theorem dX7_spans_8 : decode cX7_spans 8 = .ok (.ifCond .ne 5, 3) := by decide +kernel
theorem dX7_spans_11 : decode cX7_spans 11 = .ok (.iconst (-1), 1) := by decide +kernel
theorem dX7_spans_12 : decode cX7_spans 12 = .ok (.ireturn, 1) := by decide +kernel
theorem dX7_spans_13 : decode cX7_spans 13 = .ok (.iload_n 2, 1) := by decide +kernel
theorem dX7_spans_14 : decode cX7_spans 14 = .ok (.ifCond .lt 18, 3) := by decide +kernel
theorem dX7_spans_17 : decode cX7_spans 17 = .ok (.iload_n 2, 1) := by decide +kernel
theorem dX7_spans_18 : decode cX7_spans 18 = .ok (.bipush 99, 2) := by decide +kernel
theorem dX7_spans_20 : decode cX7_spans 20 = .ok (.if_icmp .gt 12, 3) := by decide +kernel
theorem dX7_spans_23 : decode cX7_spans 23 = .ok (.iload_n 3, 1) := by decide +kernel
theorem dX7_spans_24 : decode cX7_spans 24 = .ok (.ifCond .lt 8, 3) := by decide +kernel
theorem dX7_spans_27 : decode cX7_spans 27 = .ok (.iload_n 3, 1) := by decide +kernel
theorem dX7_spans_28 : decode cX7_spans 28 = .ok (.iconst 2, 1) := by decide +kernel
theorem dX7_spans_29 : decode cX7_spans 29 = .ok (.if_icmp .le 6, 3) := by decide +kernel
theorem dX7_spans_32 : decode cX7_spans 32 = .ok (.bipush (-2), 2) := by decide +kernel
theorem dX7_spans_34 : decode cX7_spans 34 = .ok (.ireturn, 1) := by decide +kernel
theorem dX7_spans_35 : decode cX7_spans 35 = .ok (.aload_n 0, 1) := by decide +kernel
theorem dX7_spans_36 : decode cX7_spans 36 = .ok (.getfield 66, 3) := by decide +kernel
theorem dX7_spans_39 : decode cX7_spans 39 = .ok (.iload_n 1, 1) := by decide +kernel
theorem dX7_spans_40 : decode cX7_spans 40 = .ok (.invokevirtual 161, 3) := by decide +kernel
theorem dX7_spans_43 : decode cX7_spans 43 = .ok (.istore 4, 2) := by decide +kernel
theorem dX7_spans_45 : decode cX7_spans 45 = .ok (.iconst 1, 1) := by decide +kernel
theorem dX7_spans_46 : decode cX7_spans 46 = .ok (.iload 4, 2) := by decide +kernel
theorem dX7_spans_48 : decode cX7_spans 48 = .ok (.invokestatic 197, 3) := by decide +kernel
theorem dX7_spans_51 : decode cX7_spans 51 = .ok (.ishl, 1) := by decide +kernel
theorem dX7_spans_52 : decode cX7_spans 52 = .ok (.istore 5, 2) := by decide +kernel
theorem dX7_spans_54 : decode cX7_spans 54 = .ok (.iconst 0, 1) := by decide +kernel
theorem dX7_spans_55 : decode cX7_spans 55 = .ok (.istore 6, 2) := by decide +kernel
theorem dX7_spans_57 : decode cX7_spans 57 = .ok (.bipush (-9), 2) := by decide +kernel
theorem dX7_spans_59 : decode cX7_spans 59 = .ok (.istore 7, 2) := by decide +kernel
theorem dX7_spans_61 : decode cX7_spans 61 = .ok (.bipush (-9), 2) := by decide +kernel
theorem dX7_spans_63 : decode cX7_spans 63 = .ok (.istore 8, 2) := by decide +kernel
theorem dX7_spans_65 : decode cX7_spans 65 = .ok (.iconst 0, 1) := by decide +kernel
theorem dX7_spans_66 : decode cX7_spans 66 = .ok (.istore 9, 2) := by decide +kernel
theorem dX7_spans_68 : decode cX7_spans 68 = .ok (.iconst 0, 1) := by decide +kernel
theorem dX7_spans_69 : decode cX7_spans 69 = .ok (.istore 10, 2) := by decide +kernel
theorem dX7_spans_71 : decode cX7_spans 71 = .ok (.iload 10, 2) := by decide +kernel
theorem dX7_spans_73 : decode cX7_spans 73 = .ok (.iload 5, 2) := by decide +kernel
theorem dX7_spans_75 : decode cX7_spans 75 = .ok (.if_icmp .ge 73, 3) := by decide +kernel
theorem dX7_spans_78 : decode cX7_spans 78 = .ok (.aload_n 0, 1) := by decide +kernel
theorem dX7_spans_79 : decode cX7_spans 79 = .ok (.iload 4, 2) := by decide +kernel
theorem dX7_spans_81 : decode cX7_spans 81 = .ok (.iload 9, 2) := by decide +kernel
theorem dX7_spans_83 : decode cX7_spans 83 = .ok (.invokevirtual 202, 3) := by decide +kernel
theorem dX7_spans_86 : decode cX7_spans 86 = .ok (.iload_n 2, 1) := by decide +kernel
theorem dX7_spans_87 : decode cX7_spans 87 = .ok (.if_icmp .ne 46, 3) := by decide +kernel
theorem dX7_spans_90 : decode cX7_spans 90 = .ok (.iload 4, 2) := by decide +kernel
theorem dX7_spans_92 : decode cX7_spans 92 = .ok (.iload 9, 2) := by decide +kernel
theorem dX7_spans_94 : decode cX7_spans 94 = .ok (.iconst (-1), 1) := by decide +kernel
theorem dX7_spans_95 : decode cX7_spans 95 = .ok (.ixor, 1) := by decide +kernel
theorem dX7_spans_96 : decode cX7_spans 96 = .ok (.iand, 1) := by decide +kernel
theorem dX7_spans_97 : decode cX7_spans 97 = .ok (.invokestatic 197, 3) := by decide +kernel
theorem dX7_spans_100 : decode cX7_spans 100 = .ok (.istore 11, 2) := by decide +kernel
theorem dX7_spans_102 : decode cX7_spans 102 = .ok (.iload 6, 2) := by decide +kernel
theorem dX7_spans_104 : decode cX7_spans 104 = .ok (.ifCond .ne 8, 3) := by decide +kernel
theorem dX7_spans_107 : decode cX7_spans 107 = .ok (.iload 11, 2) := by decide +kernel
theorem dX7_spans_109 : decode cX7_spans 109 = .ok (.goto 10, 3) := by decide +kernel
theorem dX7_spans_112 : decode cX7_spans 112 = .ok (.iload 7, 2) := by decide +kernel
theorem dX7_spans_114 : decode cX7_spans 114 = .ok (.iload 11, 2) := by decide +kernel
theorem dX7_spans_116 : decode cX7_spans 116 = .ok (.invokestatic 205, 3) := by decide +kernel
theorem dX7_spans_119 : decode cX7_spans 119 = .ok (.istore 7, 2) := by decide +kernel
theorem dX7_spans_121 : decode cX7_spans 121 = .ok (.iload 8, 2) := by decide +kernel
theorem dX7_spans_123 : decode cX7_spans 123 = .ok (.iload 11, 2) := by decide +kernel
theorem dX7_spans_125 : decode cX7_spans 125 = .ok (.invokestatic 210, 3) := by decide +kernel
theorem dX7_spans_128 : decode cX7_spans 128 = .ok (.istore 8, 2) := by decide +kernel
theorem dX7_spans_130 : decode cX7_spans 130 = .ok (.iinc 6 1, 3) := by decide +kernel
theorem dX7_spans_133 : decode cX7_spans 133 = .ok (.iload 9, 2) := by decide +kernel
theorem dX7_spans_135 : decode cX7_spans 135 = .ok (.iload 4, 2) := by decide +kernel
theorem dX7_spans_137 : decode cX7_spans 137 = .ok (.invokestatic 213, 3) := by decide +kernel
theorem dX7_spans_140 : decode cX7_spans 140 = .ok (.istore 9, 2) := by decide +kernel
theorem dX7_spans_142 : decode cX7_spans 142 = .ok (.iinc 10 1, 3) := by decide +kernel
theorem dX7_spans_145 : decode cX7_spans 145 = .ok (.goto (-74), 3) := by decide +kernel
theorem dX7_spans_148 : decode cX7_spans 148 = .ok (.iload_n 3, 1) := by decide +kernel
theorem dX7_spans_149 : decode cX7_spans 149 = .ok (.ifCond .ne 8, 3) := by decide +kernel
theorem dX7_spans_152 : decode cX7_spans 152 = .ok (.iload 6, 2) := by decide +kernel
theorem dX7_spans_154 : decode cX7_spans 154 = .ok (.goto 15, 3) := by decide +kernel
theorem dX7_spans_157 : decode cX7_spans 157 = .ok (.iload_n 3, 1) := by decide +kernel
theorem dX7_spans_158 : decode cX7_spans 158 = .ok (.iconst 1, 1) := by decide +kernel
theorem dX7_spans_159 : decode cX7_spans 159 = .ok (.if_icmp .ne 8, 3) := by decide +kernel
theorem dX7_spans_162 : decode cX7_spans 162 = .ok (.iload 7, 2) := by decide +kernel
theorem dX7_spans_164 : decode cX7_spans 164 = .ok (.goto 5, 3) := by decide +kernel
theorem dX7_spans_167 : decode cX7_spans 167 = .ok (.iload 8, 2) := by decide +kernel
theorem dX7_spans_169 : decode cX7_spans 169 = .ok (.ireturn, 1) := by decide +kernel
theorem dX7_toAsk_0 : decode cX7_toAsk 0 = .ok (.aload_n 0, 1) := by decide +kernel
theorem dX7_toAsk_1 : decode cX7_toAsk 1 = .ok (.getfield 66, 3) := by decide +kernel
theorem dX7_toAsk_4 : decode cX7_toAsk 4 = .ok (.iload_n 1, 1) := by decide +kernel
theorem dX7_toAsk_5 : decode cX7_toAsk 5 = .ok (.invokevirtual 149, 3) := by decide +kernel
theorem dX7_toAsk_8 : decode cX7_toAsk 8 = .ok (.ifCond .ne 5, 3) := by decide +kernel
theorem dX7_toAsk_11 : decode cX7_toAsk 11 = .ok (.iconst (-1), 1) := by decide +kernel
theorem dX7_toAsk_12 : decode cX7_toAsk 12 = .ok (.ireturn, 1) := by decide +kernel
theorem dX7_toAsk_13 : decode cX7_toAsk 13 = .ok (.iload_n 2, 1) := by decide +kernel
theorem dX7_toAsk_14 : decode cX7_toAsk 14 = .ok (.ifCond .lt 9, 3) := by decide +kernel
theorem dX7_toAsk_17 : decode cX7_toAsk 17 = .ok (.iload_n 2, 1) := by decide +kernel
theorem dX7_toAsk_18 : decode cX7_toAsk 18 = .ok (.bipush 99, 2) := by decide +kernel
theorem dX7_toAsk_20 : decode cX7_toAsk 20 = .ok (.if_icmp .le 6, 3) := by decide +kernel
theorem dX7_toAsk_23 : decode cX7_toAsk 23 = .ok (.bipush (-2), 2) := by decide +kernel
theorem dX7_toAsk_25 : decode cX7_toAsk 25 = .ok (.ireturn, 1) := by decide +kernel
theorem dX7_toAsk_26 : decode cX7_toAsk 26 = .ok (.aload_n 0, 1) := by decide +kernel
theorem dX7_toAsk_27 : decode cX7_toAsk 27 = .ok (.getfield 66, 3) := by decide +kernel
theorem dX7_toAsk_30 : decode cX7_toAsk 30 = .ok (.iload_n 1, 1) := by decide +kernel
theorem dX7_toAsk_31 : decode cX7_toAsk 31 = .ok (.invokevirtual 161, 3) := by decide +kernel
theorem dX7_toAsk_34 : decode cX7_toAsk 34 = .ok (.istore_n 3, 1) := by decide +kernel
theorem dX7_toAsk_35 : decode cX7_toAsk 35 = .ok (.bipush (-9), 2) := by decide +kernel
theorem dX7_toAsk_37 : decode cX7_toAsk 37 = .ok (.istore 4, 2) := by decide +kernel
theorem dX7_toAsk_39 : decode cX7_toAsk 39 = .ok (.iconst (-1), 1) := by decide +kernel
theorem dX7_toAsk_40 : decode cX7_toAsk 40 = .ok (.istore 5, 2) := by decide +kernel
theorem dX7_toAsk_42 : decode cX7_toAsk 42 = .ok (.aload_n 0, 1) := by decide +kernel
theorem dX7_toAsk_43 : decode cX7_toAsk 43 = .ok (.iload_n 3, 1) := by decide +kernel
theorem dX7_toAsk_44 : decode cX7_toAsk 44 = .ok (.iload_n 2, 1) := by decide +kernel
theorem dX7_toAsk_45 : decode cX7_toAsk 45 = .ok (.iconst 0, 1) := by decide +kernel
theorem dX7_toAsk_46 : decode cX7_toAsk 46 = .ok (.invokevirtual 216, 3) := by decide +kernel
theorem dX7_toAsk_49 : decode cX7_toAsk 49 = .ok (.istore 6, 2) := by decide +kernel
theorem dX7_toAsk_51 : decode cX7_toAsk 51 = .ok (.iconst 0, 1) := by decide +kernel
theorem dX7_toAsk_52 : decode cX7_toAsk 52 = .ok (.istore 7, 2) := by decide +kernel
theorem dX7_toAsk_54 : decode cX7_toAsk 54 = .ok (.iload 7, 2) := by decide +kernel
theorem dX7_toAsk_56 : decode cX7_toAsk 56 = .ok (.aload_n 0, 1) := by decide +kernel
theorem dX7_toAsk_57 : decode cX7_toAsk 57 = .ok (.getfield 66, 3) := by decide +kernel
theorem dX7_toAsk_60 : decode cX7_toAsk 60 = .ok (.getfield 93, 3) := by decide +kernel
theorem dX7_toAsk_63 : decode cX7_toAsk 63 = .ok (.if_icmp .ge 65, 3) := by decide +kernel
theorem dX7_toAsk_66 : decode cX7_toAsk 66 = .ok (.iload 6, 2) := by decide +kernel
theorem dX7_toAsk_68 : decode cX7_toAsk 68 = .ok (.ifCond .le 60, 3) := by decide +kernel
theorem dX7_toAsk_71 : decode cX7_toAsk 71 = .ok (.iload_n 3, 1) := by decide +kernel
theorem dX7_toAsk_72 : decode cX7_toAsk 72 = .ok (.iload 7, 2) := by decide +kernel
theorem dX7_toAsk_74 : decode cX7_toAsk 74 = .ok (.invokestatic 220, 3) := by decide +kernel
theorem dX7_toAsk_77 : decode cX7_toAsk 77 = .ok (.ifCond .ne 6, 3) := by decide +kernel
theorem dX7_toAsk_80 : decode cX7_toAsk 80 = .ok (.goto 42, 3) := by decide +kernel
theorem dX7_toAsk_83 : decode cX7_toAsk 83 = .ok (.aload_n 0, 1) := by decide +kernel
theorem dX7_toAsk_84 : decode cX7_toAsk 84 = .ok (.iload_n 3, 1) := by decide +kernel
theorem dX7_toAsk_85 : decode cX7_toAsk 85 = .ok (.iload_n 2, 1) := by decide +kernel
theorem dX7_toAsk_86 : decode cX7_toAsk 86 = .ok (.iconst 1, 1) := by decide +kernel
theorem dX7_toAsk_87 : decode cX7_toAsk 87 = .ok (.iload 7, 2) := by decide +kernel
theorem dX7_toAsk_89 : decode cX7_toAsk 89 = .ok (.ishl, 1) := by decide +kernel
theorem dX7_toAsk_90 : decode cX7_toAsk 90 = .ok (.invokevirtual 216, 3) := by decide +kernel
theorem dX7_toAsk_93 : decode cX7_toAsk 93 = .ok (.istore 8, 2) := by decide +kernel
theorem dX7_toAsk_95 : decode cX7_toAsk 95 = .ok (.iload 8, 2) := by decide +kernel
theorem dX7_toAsk_97 : decode cX7_toAsk 97 = .ok (.iload 6, 2) := by decide +kernel
theorem dX7_toAsk_99 : decode cX7_toAsk 99 = .ok (.iload 8, 2) := by decide +kernel
theorem dX7_toAsk_101 : decode cX7_toAsk 101 = .ok (.isub, 1) := by decide +kernel
theorem dX7_toAsk_102 : decode cX7_toAsk 102 = .ok (.invokestatic 205, 3) := by decide +kernel
theorem dX7_toAsk_105 : decode cX7_toAsk 105 = .ok (.istore 9, 2) := by decide +kernel
theorem dX7_toAsk_107 : decode cX7_toAsk 107 = .ok (.iload 9, 2) := by decide +kernel
theorem dX7_toAsk_109 : decode cX7_toAsk 109 = .ok (.iload 5, 2) := by decide +kernel
theorem dX7_toAsk_111 : decode cX7_toAsk 111 = .ok (.if_icmp .le 11, 3) := by decide +kernel
theorem dX7_toAsk_114 : decode cX7_toAsk 114 = .ok (.iload 7, 2) := by decide +kernel
theorem dX7_toAsk_116 : decode cX7_toAsk 116 = .ok (.istore 4, 2) := by decide +kernel
theorem dX7_toAsk_118 : decode cX7_toAsk 118 = .ok (.iload 9, 2) := by decide +kernel
theorem dX7_toAsk_120 : decode cX7_toAsk 120 = .ok (.istore 5, 2) := by decide +kernel
theorem dX7_toAsk_122 : decode cX7_toAsk 122 = .ok (.iinc 7 1, 3) := by decide +kernel
theorem dX7_toAsk_125 : decode cX7_toAsk 125 = .ok (.goto (-71), 3) := by decide +kernel
theorem dX7_toAsk_128 : decode cX7_toAsk 128 = .ok (.iload 4, 2) := by decide +kernel
theorem dX7_toAsk_130 : decode cX7_toAsk 130 = .ok (.ireturn, 1) := by decide +kernel
theorem dX7_retold_0 : decode cX7_retold 0 = .ok (.aload_n 0, 1) := by decide +kernel
theorem dX7_retold_1 : decode cX7_retold 1 = .ok (.getfield 66, 3) := by decide +kernel
theorem dX7_retold_4 : decode cX7_retold 4 = .ok (.iload_n 1, 1) := by decide +kernel
theorem dX7_retold_5 : decode cX7_retold 5 = .ok (.invokevirtual 149, 3) := by decide +kernel
theorem dX7_retold_8 : decode cX7_retold 8 = .ok (.ifCond .ne 5, 3) := by decide +kernel
theorem dX7_retold_11 : decode cX7_retold 11 = .ok (.iconst (-1), 1) := by decide +kernel
theorem dX7_retold_12 : decode cX7_retold 12 = .ok (.ireturn, 1) := by decide +kernel
theorem dX7_retold_13 : decode cX7_retold 13 = .ok (.iload_n 2, 1) := by decide +kernel
theorem dX7_retold_14 : decode cX7_retold 14 = .ok (.iconst 1, 1) := by decide +kernel
theorem dX7_retold_15 : decode cX7_retold 15 = .ok (.if_icmp .lt 31, 3) := by decide +kernel
theorem dX7_retold_18 : decode cX7_retold 18 = .ok (.iload_n 2, 1) := by decide +kernel
theorem dX7_retold_19 : decode cX7_retold 19 = .ok (.iconst 3, 1) := by decide +kernel
theorem dX7_retold_20 : decode cX7_retold 20 = .ok (.if_icmp .gt 26, 3) := by decide +kernel
theorem dX7_retold_23 : decode cX7_retold 23 = .ok (.iload_n 3, 1) := by decide +kernel
theorem dX7_retold_24 : decode cX7_retold 24 = .ok (.ifCond .lt 22, 3) := by decide +kernel
theorem dX7_retold_27 : decode cX7_retold 27 = .ok (.iload_n 3, 1) := by decide +kernel
theorem dX7_retold_28 : decode cX7_retold 28 = .ok (.iload_n 2, 1) := by decide +kernel
theorem dX7_retold_29 : decode cX7_retold 29 = .ok (.invokestatic 223, 3) := by decide +kernel
theorem dX7_retold_32 : decode cX7_retold 32 = .ok (.if_icmp .ge 14, 3) := by decide +kernel
theorem dX7_retold_35 : decode cX7_retold 35 = .ok (.iload 4, 2) := by decide +kernel
theorem dX7_retold_37 : decode cX7_retold 37 = .ok (.ifCond .lt 9, 3) := by decide +kernel
theorem dX7_retold_40 : decode cX7_retold 40 = .ok (.iload 4, 2) := by decide +kernel
theorem dX7_retold_42 : decode cX7_retold 42 = .ok (.iconst 1, 1) := by decide +kernel
theorem dX7_retold_43 : decode cX7_retold 43 = .ok (.if_icmp .le 6, 3) := by decide +kernel
theorem dX7_retold_46 : decode cX7_retold 46 = .ok (.bipush (-2), 2) := by decide +kernel
theorem dX7_retold_48 : decode cX7_retold 48 = .ok (.ireturn, 1) := by decide +kernel
theorem dX7_retold_49 : decode cX7_retold 49 = .ok (.aload_n 0, 1) := by decide +kernel
theorem dX7_retold_50 : decode cX7_retold 50 = .ok (.getfield 66, 3) := by decide +kernel
theorem dX7_retold_53 : decode cX7_retold 53 = .ok (.iload_n 1, 1) := by decide +kernel
theorem dX7_retold_54 : decode cX7_retold 54 = .ok (.invokevirtual 161, 3) := by decide +kernel
theorem dX7_retold_57 : decode cX7_retold 57 = .ok (.istore 5, 2) := by decide +kernel
theorem dX7_retold_59 : decode cX7_retold 59 = .ok (.iload 5, 2) := by decide +kernel
theorem dX7_retold_61 : decode cX7_retold 61 = .ok (.invokestatic 197, 3) := by decide +kernel
theorem dX7_retold_64 : decode cX7_retold 64 = .ok (.bipush 6, 2) := by decide +kernel
theorem dX7_retold_66 : decode cX7_retold 66 = .ok (.if_icmp .le 6, 3) := by decide +kernel
theorem dX7_retold_69 : decode cX7_retold 69 = .ok (.bipush (-3), 2) := by decide +kernel
theorem dX7_retold_71 : decode cX7_retold 71 = .ok (.ireturn, 1) := by decide +kernel
theorem dX7_retold_72 : decode cX7_retold 72 = .ok (.aload_n 0, 1) := by decide +kernel
theorem dX7_retold_73 : decode cX7_retold 73 = .ok (.getfield 33, 3) := by decide +kernel
theorem dX7_retold_76 : decode cX7_retold 76 = .ok (.aload_n 0, 1) := by decide +kernel
theorem dX7_retold_77 : decode cX7_retold 77 = .ok (.getfield 66, 3) := by decide +kernel
theorem dX7_retold_80 : decode cX7_retold 80 = .ok (.iload 5, 2) := by decide +kernel
theorem dX7_retold_82 : decode cX7_retold 82 = .ok (.iload_n 2, 1) := by decide +kernel
theorem dX7_retold_83 : decode cX7_retold 83 = .ok (.iload_n 3, 1) := by decide +kernel
theorem dX7_retold_84 : decode cX7_retold 84 = .ok (.invokevirtual 226, 3) := by decide +kernel
theorem dX7_retold_87 : decode cX7_retold 87 = .ok (.iload 4, 2) := by decide +kernel
theorem dX7_retold_89 : decode cX7_retold 89 = .ok (.ifCond .ne 11, 3) := by decide +kernel
theorem dX7_retold_92 : decode cX7_retold 92 = .ok (.aload_n 0, 1) := by decide +kernel
theorem dX7_retold_93 : decode cX7_retold 93 = .ok (.getfield 33, 3) := by decide +kernel
theorem dX7_retold_96 : decode cX7_retold 96 = .ok (.getfield 230, 3) := by decide +kernel
theorem dX7_retold_99 : decode cX7_retold 99 = .ok (.ireturn, 1) := by decide +kernel
theorem dX7_retold_100 : decode cX7_retold 100 = .ok (.aload_n 0, 1) := by decide +kernel
theorem dX7_retold_101 : decode cX7_retold 101 = .ok (.getfield 33, 3) := by decide +kernel
theorem dX7_retold_104 : decode cX7_retold 104 = .ok (.getfield 230, 3) := by decide +kernel
theorem dX7_retold_107 : decode cX7_retold 107 = .ok (.ifCond .ne 8, 3) := by decide +kernel
theorem dX7_retold_110 : decode cX7_retold 110 = .ok (.bipush (-9), 2) := by decide +kernel
theorem dX7_retold_112 : decode cX7_retold 112 = .ok (.goto 10, 3) := by decide +kernel
theorem dX7_retold_115 : decode cX7_retold 115 = .ok (.aload_n 0, 1) := by decide +kernel
theorem dX7_retold_116 : decode cX7_retold 116 = .ok (.getfield 33, 3) := by decide +kernel
theorem dX7_retold_119 : decode cX7_retold 119 = .ok (.getfield 233, 3) := by decide +kernel
theorem dX7_retold_122 : decode cX7_retold 122 = .ok (.ireturn, 1) := by decide +kernel
theorem dX7_chance_0 : decode cX7_chance 0 = .ok (.aload_n 0, 1) := by decide +kernel
theorem dX7_chance_1 : decode cX7_chance 1 = .ok (.getfield 66, 3) := by decide +kernel
theorem dX7_chance_4 : decode cX7_chance 4 = .ok (.iload_n 1, 1) := by decide +kernel
theorem dX7_chance_5 : decode cX7_chance 5 = .ok (.invokevirtual 149, 3) := by decide +kernel
theorem dX7_chance_8 : decode cX7_chance 8 = .ok (.ifCond .ne 7, 3) := by decide +kernel
theorem dX7_chance_11 : decode cX7_chance 11 = .ok (.ldc2_w 236, 3) := by decide +kernel
theorem dX7_chance_14 : decode cX7_chance 14 = .ok (.lreturn, 1) := by decide +kernel
theorem dX7_chance_15 : decode cX7_chance 15 = .ok (.iload_n 2, 1) := by decide +kernel
theorem dX7_chance_16 : decode cX7_chance 16 = .ok (.ifCond .lt 19, 3) := by decide +kernel
theorem dX7_chance_19 : decode cX7_chance 19 = .ok (.iload_n 2, 1) := by decide +kernel
theorem dX7_chance_20 : decode cX7_chance 20 = .ok (.bipush 99, 2) := by decide +kernel
theorem dX7_chance_22 : decode cX7_chance 22 = .ok (.if_icmp .gt 13, 3) := by decide +kernel
theorem dX7_chance_25 : decode cX7_chance 25 = .ok (.iload_n 3, 1) := by decide +kernel
theorem dX7_chance_26 : decode cX7_chance 26 = .ok (.ifCond .lt 9, 3) := by decide +kernel
theorem dX7_chance_29 : decode cX7_chance 29 = .ok (.iload_n 3, 1) := by decide +kernel
theorem dX7_chance_30 : decode cX7_chance 30 = .ok (.bipush 10, 2) := by decide +kernel
theorem dX7_chance_32 : decode cX7_chance 32 = .ok (.if_icmp .le 7, 3) := by decide +kernel
theorem dX7_chance_35 : decode cX7_chance 35 = .ok (.ldc2_w 238, 3) := by decide +kernel
theorem dX7_chance_38 : decode cX7_chance 38 = .ok (.lreturn, 1) := by decide +kernel
theorem dX7_chance_39 : decode cX7_chance 39 = .ok (.aload_n 0, 1) := by decide +kernel
theorem dX7_chance_40 : decode cX7_chance 40 = .ok (.getfield 66, 3) := by decide +kernel
theorem dX7_chance_43 : decode cX7_chance 43 = .ok (.iload_n 1, 1) := by decide +kernel
theorem dX7_chance_44 : decode cX7_chance 44 = .ok (.invokevirtual 161, 3) := by decide +kernel
theorem dX7_chance_47 : decode cX7_chance 47 = .ok (.istore 5, 2) := by decide +kernel
theorem dX7_chance_49 : decode cX7_chance 49 = .ok (.iload 5, 2) := by decide +kernel
theorem dX7_chance_51 : decode cX7_chance 51 = .ok (.invokestatic 197, 3) := by decide +kernel
theorem dX7_chance_54 : decode cX7_chance 54 = .ok (.istore 6, 2) := by decide +kernel
theorem dX7_chance_56 : decode cX7_chance 56 = .ok (.iconst 1, 1) := by decide +kernel
theorem dX7_chance_57 : decode cX7_chance 57 = .ok (.iload 6, 2) := by decide +kernel
theorem dX7_chance_59 : decode cX7_chance 59 = .ok (.ishl, 1) := by decide +kernel
theorem dX7_chance_60 : decode cX7_chance 60 = .ok (.istore 7, 2) := by decide +kernel
theorem dX7_chance_62 : decode cX7_chance 62 = .ok (.lconst 0, 1) := by decide +kernel
theorem dX7_chance_63 : decode cX7_chance 63 = .ok (.lstore 8, 2) := by decide +kernel
theorem dX7_chance_65 : decode cX7_chance 65 = .ok (.iconst 0, 1) := by decide +kernel
theorem dX7_chance_66 : decode cX7_chance 66 = .ok (.istore 10, 2) := by decide +kernel
theorem dX7_chance_68 : decode cX7_chance 68 = .ok (.iconst 0, 1) := by decide +kernel
theorem dX7_chance_69 : decode cX7_chance 69 = .ok (.istore 11, 2) := by decide +kernel
theorem dX7_chance_71 : decode cX7_chance 71 = .ok (.iload 11, 2) := by decide +kernel
theorem dX7_chance_73 : decode cX7_chance 73 = .ok (.iload 7, 2) := by decide +kernel
theorem dX7_chance_75 : decode cX7_chance 75 = .ok (.if_icmp .ge 61, 3) := by decide +kernel
theorem dX7_chance_78 : decode cX7_chance 78 = .ok (.aload_n 0, 1) := by decide +kernel
theorem dX7_chance_79 : decode cX7_chance 79 = .ok (.iload 5, 2) := by decide +kernel
theorem dX7_chance_81 : decode cX7_chance 81 = .ok (.iload 10, 2) := by decide +kernel
theorem dX7_chance_83 : decode cX7_chance 83 = .ok (.invokevirtual 202, 3) := by decide +kernel
theorem dX7_chance_86 : decode cX7_chance 86 = .ok (.iload_n 2, 1) := by decide +kernel
theorem dX7_chance_87 : decode cX7_chance 87 = .ok (.if_icmp .lt 34, 3) := by decide +kernel
theorem dX7_chance_90 : decode cX7_chance 90 = .ok (.iload 10, 2) := by decide +kernel
theorem dX7_chance_92 : decode cX7_chance 92 = .ok (.invokestatic 197, 3) := by decide +kernel
theorem dX7_chance_95 : decode cX7_chance 95 = .ok (.istore 12, 2) := by decide +kernel
theorem dX7_chance_97 : decode cX7_chance 97 = .ok (.lload 8, 2) := by decide +kernel
theorem dX7_chance_99 : decode cX7_chance 99 = .ok (.iload_n 3, 1) := by decide +kernel
theorem dX7_chance_100 : decode cX7_chance 100 = .ok (.iload 12, 2) := by decide +kernel
theorem dX7_chance_102 : decode cX7_chance 102 = .ok (.invokestatic 240, 3) := by decide +kernel
theorem dX7_chance_105 : decode cX7_chance 105 = .ok (.bipush 10, 2) := by decide +kernel
theorem dX7_chance_107 : decode cX7_chance 107 = .ok (.iload_n 3, 1) := by decide +kernel
theorem dX7_chance_108 : decode cX7_chance 108 = .ok (.isub, 1) := by decide +kernel
theorem dX7_chance_109 : decode cX7_chance 109 = .ok (.iload 6, 2) := by decide +kernel
theorem dX7_chance_111 : decode cX7_chance 111 = .ok (.iload 12, 2) := by decide +kernel
theorem dX7_chance_113 : decode cX7_chance 113 = .ok (.isub, 1) := by decide +kernel
theorem dX7_chance_114 : decode cX7_chance 114 = .ok (.invokestatic 240, 3) := by decide +kernel
theorem dX7_chance_117 : decode cX7_chance 117 = .ok (.lmul, 1) := by decide +kernel
theorem dX7_chance_118 : decode cX7_chance 118 = .ok (.ladd, 1) := by decide +kernel
theorem dX7_chance_119 : decode cX7_chance 119 = .ok (.lstore 8, 2) := by decide +kernel
theorem dX7_chance_121 : decode cX7_chance 121 = .ok (.iload 10, 2) := by decide +kernel
theorem dX7_chance_123 : decode cX7_chance 123 = .ok (.iload 5, 2) := by decide +kernel
theorem dX7_chance_125 : decode cX7_chance 125 = .ok (.invokestatic 213, 3) := by decide +kernel
theorem dX7_chance_128 : decode cX7_chance 128 = .ok (.istore 10, 2) := by decide +kernel
theorem dX7_chance_130 : decode cX7_chance 130 = .ok (.iinc 11 1, 3) := by decide +kernel
theorem dX7_chance_133 : decode cX7_chance 133 = .ok (.goto (-62), 3) := by decide +kernel
theorem dX7_chance_136 : decode cX7_chance 136 = .ok (.iload 6, 2) := by decide +kernel
theorem dX7_chance_138 : decode cX7_chance 138 = .ok (.invokestatic 223, 3) := by decide +kernel
theorem dX7_chance_141 : decode cX7_chance 141 = .ok (.i2l, 1) := by decide +kernel
theorem dX7_chance_142 : decode cX7_chance 142 = .ok (.lstore 11, 2) := by decide +kernel
theorem dX7_chance_144 : decode cX7_chance 144 = .ok (.lconst 1, 1) := by decide +kernel
theorem dX7_chance_145 : decode cX7_chance 145 = .ok (.lload 8, 2) := by decide +kernel
theorem dX7_chance_147 : decode cX7_chance 147 = .ok (.lload 11, 2) := by decide +kernel
theorem dX7_chance_149 : decode cX7_chance 149 = .ok (.invokestatic 244, 3) := by decide +kernel
theorem dX7_chance_152 : decode cX7_chance 152 = .ok (.invokestatic 248, 3) := by decide +kernel
theorem dX7_chance_155 : decode cX7_chance 155 = .ok (.lstore 13, 2) := by decide +kernel
theorem dX7_chance_157 : decode cX7_chance 157 = .ok (.iload 4, 2) := by decide +kernel
theorem dX7_chance_159 : decode cX7_chance 159 = .ok (.ifCond .eq 8, 3) := by decide +kernel
theorem dX7_chance_162 : decode cX7_chance 162 = .ok (.lload 8, 2) := by decide +kernel
theorem dX7_chance_164 : decode cX7_chance 164 = .ok (.goto 5, 3) := by decide +kernel
theorem dX7_chance_167 : decode cX7_chance 167 = .ok (.lload 11, 2) := by decide +kernel
theorem dX7_chance_169 : decode cX7_chance 169 = .ok (.lload 13, 2) := by decide +kernel
theorem dX7_chance_171 : decode cX7_chance 171 = .ok (.ldiv, 1) := by decide +kernel
theorem dX7_chance_172 : decode cX7_chance 172 = .ok (.lreturn, 1) := by decide +kernel
theorem dX7_keep_0 : decode cX7_keep 0 = .ok (.iload_n 1, 1) := by decide +kernel
theorem dX7_keep_1 : decode cX7_keep 1 = .ok (.ifCond .lt 8, 3) := by decide +kernel
theorem dX7_keep_4 : decode cX7_keep 4 = .ok (.iload_n 1, 1) := by decide +kernel
theorem dX7_keep_5 : decode cX7_keep 5 = .ok (.iconst 2, 1) := by decide +kernel
theorem dX7_keep_6 : decode cX7_keep 6 = .ok (.if_icmp .lt 5, 3) := by decide +kernel
theorem dX7_keep_9 : decode cX7_keep 9 = .ok (.iconst (-1), 1) := by decide +kernel
theorem dX7_keep_10 : decode cX7_keep 10 = .ok (.ireturn, 1) := by decide +kernel
theorem dX7_keep_11 : decode cX7_keep 11 = .ok (.aload_n 0, 1) := by decide +kernel
theorem dX7_keep_12 : decode cX7_keep 12 = .ok (.getfield 51, 3) := by decide +kernel
theorem dX7_keep_15 : decode cX7_keep 15 = .ok (.iload_n 1, 1) := by decide +kernel
theorem dX7_keep_16 : decode cX7_keep 16 = .ok (.aaload, 1) := by decide +kernel
theorem dX7_keep_17 : decode cX7_keep 17 = .ok (.aload_n 0, 1) := by decide +kernel
theorem dX7_keep_18 : decode cX7_keep 18 = .ok (.getfield 47, 3) := by decide +kernel
theorem dX7_keep_21 : decode cX7_keep 21 = .ok (.invokevirtual 250, 3) := by decide +kernel
theorem dX7_keep_24 : decode cX7_keep 24 = .ok (.aload_n 0, 1) := by decide +kernel
theorem dX7_keep_25 : decode cX7_keep 25 = .ok (.getfield 55, 3) := by decide +kernel
theorem dX7_keep_28 : decode cX7_keep 28 = .ok (.iload_n 1, 1) := by decide +kernel
theorem dX7_keep_29 : decode cX7_keep 29 = .ok (.iconst 1, 1) := by decide +kernel
theorem dX7_keep_30 : decode cX7_keep 30 = .ok (.bastore, 1) := by decide +kernel
theorem dX7_keep_31 : decode cX7_keep 31 = .ok (.aload_n 0, 1) := by decide +kernel
theorem dX7_keep_32 : decode cX7_keep 32 = .ok (.getfield 47, 3) := by decide +kernel
theorem dX7_keep_35 : decode cX7_keep 35 = .ok (.getfield 103, 3) := by decide +kernel
theorem dX7_keep_38 : decode cX7_keep 38 = .ok (.ireturn, 1) := by decide +kernel
theorem dX7_again_0 : decode cX7_again 0 = .ok (.iload_n 1, 1) := by decide +kernel
theorem dX7_again_1 : decode cX7_again 1 = .ok (.ifCond .lt 8, 3) := by decide +kernel
theorem dX7_again_4 : decode cX7_again 4 = .ok (.iload_n 1, 1) := by decide +kernel
theorem dX7_again_5 : decode cX7_again 5 = .ok (.iconst 2, 1) := by decide +kernel
theorem dX7_again_6 : decode cX7_again 6 = .ok (.if_icmp .lt 5, 3) := by decide +kernel
theorem dX7_again_9 : decode cX7_again 9 = .ok (.iconst (-1), 1) := by decide +kernel
theorem dX7_again_10 : decode cX7_again 10 = .ok (.ireturn, 1) := by decide +kernel
theorem dX7_again_11 : decode cX7_again 11 = .ok (.aload_n 0, 1) := by decide +kernel
theorem dX7_again_12 : decode cX7_again 12 = .ok (.getfield 55, 3) := by decide +kernel
theorem dX7_again_15 : decode cX7_again 15 = .ok (.iload_n 1, 1) := by decide +kernel
theorem dX7_again_16 : decode cX7_again 16 = .ok (.baload, 1) := by decide +kernel
theorem dX7_again_17 : decode cX7_again 17 = .ok (.ifCond .ne 6, 3) := by decide +kernel
theorem dX7_again_20 : decode cX7_again 20 = .ok (.bipush (-3), 2) := by decide +kernel
theorem dX7_again_22 : decode cX7_again 22 = .ok (.ireturn, 1) := by decide +kernel
theorem dX7_again_23 : decode cX7_again 23 = .ok (.aload_n 0, 1) := by decide +kernel
theorem dX7_again_24 : decode cX7_again 24 = .ok (.getfield 47, 3) := by decide +kernel
theorem dX7_again_27 : decode cX7_again 27 = .ok (.aload_n 0, 1) := by decide +kernel
theorem dX7_again_28 : decode cX7_again 28 = .ok (.getfield 51, 3) := by decide +kernel
theorem dX7_again_31 : decode cX7_again 31 = .ok (.iload_n 1, 1) := by decide +kernel
theorem dX7_again_32 : decode cX7_again 32 = .ok (.aaload, 1) := by decide +kernel
theorem dX7_again_33 : decode cX7_again 33 = .ok (.invokevirtual 250, 3) := by decide +kernel
theorem dX7_again_36 : decode cX7_again 36 = .ok (.aload_n 0, 1) := by decide +kernel
theorem dX7_again_37 : decode cX7_again 37 = .ok (.getfield 40, 3) := by decide +kernel
theorem dX7_again_40 : decode cX7_again 40 = .ok (.invokevirtual 92, 3) := by decide +kernel
theorem dX7_again_43 : decode cX7_again 43 = .ok (.aload_n 0, 1) := by decide +kernel
theorem dX7_again_44 : decode cX7_again 44 = .ok (.getfield 47, 3) := by decide +kernel
theorem dX7_again_47 : decode cX7_again 47 = .ok (.getfield 103, 3) := by decide +kernel
theorem dX7_again_50 : decode cX7_again 50 = .ok (.ireturn, 1) := by decide +kernel
theorem dX7_everybody_0 : decode cX7_everybody 0 = .ok (.iconst 1, 1) := by decide +kernel
theorem dX7_everybody_1 : decode cX7_everybody 1 = .ok (.aload_n 0, 1) := by decide +kernel
theorem dX7_everybody_2 : decode cX7_everybody 2 = .ok (.getfield 66, 3) := by decide +kernel
theorem dX7_everybody_5 : decode cX7_everybody 5 = .ok (.getfield 93, 3) := by decide +kernel
theorem dX7_everybody_8 : decode cX7_everybody 8 = .ok (.ishl, 1) := by decide +kernel
theorem dX7_everybody_9 : decode cX7_everybody 9 = .ok (.iconst 1, 1) := by decide +kernel
theorem dX7_everybody_10 : decode cX7_everybody 10 = .ok (.isub, 1) := by decide +kernel
theorem dX7_everybody_11 : decode cX7_everybody 11 = .ok (.ireturn, 1) := by decide +kernel
theorem dX7_aliveBits_0 : decode cX7_aliveBits 0 = .ok (.iconst 0, 1) := by decide +kernel
theorem dX7_aliveBits_1 : decode cX7_aliveBits 1 = .ok (.istore_n 1, 1) := by decide +kernel
theorem dX7_aliveBits_2 : decode cX7_aliveBits 2 = .ok (.iconst 0, 1) := by decide +kernel
theorem dX7_aliveBits_3 : decode cX7_aliveBits 3 = .ok (.istore_n 2, 1) := by decide +kernel
theorem dX7_aliveBits_4 : decode cX7_aliveBits 4 = .ok (.iload_n 2, 1) := by decide +kernel
theorem dX7_aliveBits_5 : decode cX7_aliveBits 5 = .ok (.aload_n 0, 1) := by decide +kernel
theorem dX7_aliveBits_6 : decode cX7_aliveBits 6 = .ok (.getfield 66, 3) := by decide +kernel
theorem dX7_aliveBits_9 : decode cX7_aliveBits 9 = .ok (.getfield 93, 3) := by decide +kernel
theorem dX7_aliveBits_12 : decode cX7_aliveBits 12 = .ok (.if_icmp .ge 26, 3) := by decide +kernel
theorem dX7_aliveBits_15 : decode cX7_aliveBits 15 = .ok (.aload_n 0, 1) := by decide +kernel
theorem dX7_aliveBits_16 : decode cX7_aliveBits 16 = .ok (.getfield 47, 3) := by decide +kernel
theorem dX7_aliveBits_19 : decode cX7_aliveBits 19 = .ok (.iload_n 2, 1) := by decide +kernel
theorem dX7_aliveBits_20 : decode cX7_aliveBits 20 = .ok (.invokevirtual 167, 3) := by decide +kernel
theorem dX7_aliveBits_23 : decode cX7_aliveBits 23 = .ok (.ifCond .eq 9, 3) := by decide +kernel
theorem dX7_aliveBits_26 : decode cX7_aliveBits 26 = .ok (.iload_n 1, 1) := by decide +kernel
theorem dX7_aliveBits_27 : decode cX7_aliveBits 27 = .ok (.iconst 1, 1) := by decide +kernel
theorem dX7_aliveBits_28 : decode cX7_aliveBits 28 = .ok (.iload_n 2, 1) := by decide +kernel
theorem dX7_aliveBits_29 : decode cX7_aliveBits 29 = .ok (.ishl, 1) := by decide +kernel
theorem dX7_aliveBits_30 : decode cX7_aliveBits 30 = .ok (.ior, 1) := by decide +kernel
theorem dX7_aliveBits_31 : decode cX7_aliveBits 31 = .ok (.istore_n 1, 1) := by decide +kernel
theorem dX7_aliveBits_32 : decode cX7_aliveBits 32 = .ok (.iinc 2 1, 3) := by decide +kernel
theorem dX7_aliveBits_35 : decode cX7_aliveBits 35 = .ok (.goto (-31), 3) := by decide +kernel
theorem dX7_aliveBits_38 : decode cX7_aliveBits 38 = .ok (.iload_n 1, 1) := by decide +kernel
theorem dX7_aliveBits_39 : decode cX7_aliveBits 39 = .ok (.ireturn, 1) := by decide +kernel
theorem dX7_trulyIn_0 : decode cX7_trulyIn 0 = .ok (.iconst 0, 1) := by decide +kernel
theorem dX7_trulyIn_1 : decode cX7_trulyIn 1 = .ok (.istore_n 2, 1) := by decide +kernel
theorem dX7_trulyIn_2 : decode cX7_trulyIn 2 = .ok (.iconst 0, 1) := by decide +kernel
theorem dX7_trulyIn_3 : decode cX7_trulyIn 3 = .ok (.istore_n 3, 1) := by decide +kernel
theorem dX7_trulyIn_4 : decode cX7_trulyIn 4 = .ok (.iload_n 3, 1) := by decide +kernel
theorem dX7_trulyIn_5 : decode cX7_trulyIn 5 = .ok (.aload_n 0, 1) := by decide +kernel
theorem dX7_trulyIn_6 : decode cX7_trulyIn 6 = .ok (.getfield 66, 3) := by decide +kernel
theorem dX7_trulyIn_9 : decode cX7_trulyIn 9 = .ok (.getfield 93, 3) := by decide +kernel
theorem dX7_trulyIn_12 : decode cX7_trulyIn 12 = .ok (.if_icmp .ge 36, 3) := by decide +kernel
theorem dX7_trulyIn_15 : decode cX7_trulyIn 15 = .ok (.aload_n 0, 1) := by decide +kernel
theorem dX7_trulyIn_16 : decode cX7_trulyIn 16 = .ok (.getfield 47, 3) := by decide +kernel
theorem dX7_trulyIn_19 : decode cX7_trulyIn 19 = .ok (.iload_n 3, 1) := by decide +kernel
theorem dX7_trulyIn_20 : decode cX7_trulyIn 20 = .ok (.invokevirtual 167, 3) := by decide +kernel
theorem dX7_trulyIn_23 : decode cX7_trulyIn 23 = .ok (.ifCond .eq 19, 3) := by decide +kernel
theorem dX7_trulyIn_26 : decode cX7_trulyIn 26 = .ok (.aload_n 0, 1) := by decide +kernel
theorem dX7_trulyIn_27 : decode cX7_trulyIn 27 = .ok (.getfield 47, 3) := by decide +kernel
theorem dX7_trulyIn_30 : decode cX7_trulyIn 30 = .ok (.getfield 133, 3) := by decide +kernel
theorem dX7_trulyIn_33 : decode cX7_trulyIn 33 = .ok (.iload_n 3, 1) := by decide +kernel
theorem dX7_trulyIn_34 : decode cX7_trulyIn 34 = .ok (.iaload, 1) := by decide +kernel
theorem dX7_trulyIn_35 : decode cX7_trulyIn 35 = .ok (.iload_n 1, 1) := by decide +kernel
theorem dX7_trulyIn_36 : decode cX7_trulyIn 36 = .ok (.if_icmp .ne 6, 3) := by decide +kernel
theorem dX7_trulyIn_39 : decode cX7_trulyIn 39 = .ok (.iinc 2 1, 3) := by decide +kernel
theorem dX7_trulyIn_42 : decode cX7_trulyIn 42 = .ok (.iinc 3 1, 3) := by decide +kernel
theorem dX7_trulyIn_45 : decode cX7_trulyIn 45 = .ok (.goto (-41), 3) := by decide +kernel
theorem dX7_trulyIn_48 : decode cX7_trulyIn 48 = .ok (.iload_n 2, 1) := by decide +kernel
theorem dX7_trulyIn_49 : decode cX7_trulyIn 49 = .ok (.ireturn, 1) := by decide +kernel
theorem dX7_atHomeIn_0 : decode cX7_atHomeIn 0 = .ok (.iconst 0, 1) := by decide +kernel
theorem dX7_atHomeIn_1 : decode cX7_atHomeIn 1 = .ok (.istore_n 2, 1) := by decide +kernel
theorem dX7_atHomeIn_2 : decode cX7_atHomeIn 2 = .ok (.iconst 0, 1) := by decide +kernel
theorem dX7_atHomeIn_3 : decode cX7_atHomeIn 3 = .ok (.istore_n 3, 1) := by decide +kernel
theorem dX7_atHomeIn_4 : decode cX7_atHomeIn 4 = .ok (.iload_n 3, 1) := by decide +kernel
theorem dX7_atHomeIn_5 : decode cX7_atHomeIn 5 = .ok (.aload_n 0, 1) := by decide +kernel
theorem dX7_atHomeIn_6 : decode cX7_atHomeIn 6 = .ok (.getfield 66, 3) := by decide +kernel
theorem dX7_atHomeIn_9 : decode cX7_atHomeIn 9 = .ok (.getfield 93, 3) := by decide +kernel
theorem dX7_atHomeIn_12 : decode cX7_atHomeIn 12 = .ok (.if_icmp .ge 36, 3) := by decide +kernel
theorem dX7_atHomeIn_15 : decode cX7_atHomeIn 15 = .ok (.aload_n 0, 1) := by decide +kernel
theorem dX7_atHomeIn_16 : decode cX7_atHomeIn 16 = .ok (.getfield 66, 3) := by decide +kernel
theorem dX7_atHomeIn_19 : decode cX7_atHomeIn 19 = .ok (.getfield 124, 3) := by decide +kernel
theorem dX7_atHomeIn_22 : decode cX7_atHomeIn 22 = .ok (.iload_n 3, 1) := by decide +kernel
theorem dX7_atHomeIn_23 : decode cX7_atHomeIn 23 = .ok (.iaload, 1) := by decide +kernel
theorem dX7_atHomeIn_24 : decode cX7_atHomeIn 24 = .ok (.iload_n 1, 1) := by decide +kernel
theorem dX7_atHomeIn_25 : decode cX7_atHomeIn 25 = .ok (.if_icmp .ne 17, 3) := by decide +kernel
theorem dX7_atHomeIn_28 : decode cX7_atHomeIn 28 = .ok (.aload_n 0, 1) := by decide +kernel
theorem dX7_atHomeIn_29 : decode cX7_atHomeIn 29 = .ok (.iload_n 3, 1) := by decide +kernel
theorem dX7_atHomeIn_30 : decode cX7_atHomeIn 30 = .ok (.invokevirtual 253, 3) := by decide +kernel
theorem dX7_atHomeIn_33 : decode cX7_atHomeIn 33 = .ok (.ifCond .eq 9, 3) := by decide +kernel
theorem dX7_atHomeIn_36 : decode cX7_atHomeIn 36 = .ok (.iload_n 2, 1) := by decide +kernel
theorem dX7_atHomeIn_37 : decode cX7_atHomeIn 37 = .ok (.iconst 1, 1) := by decide +kernel
theorem dX7_atHomeIn_38 : decode cX7_atHomeIn 38 = .ok (.iload_n 3, 1) := by decide +kernel
theorem dX7_atHomeIn_39 : decode cX7_atHomeIn 39 = .ok (.ishl, 1) := by decide +kernel
theorem dX7_atHomeIn_40 : decode cX7_atHomeIn 40 = .ok (.ior, 1) := by decide +kernel
theorem dX7_atHomeIn_41 : decode cX7_atHomeIn 41 = .ok (.istore_n 2, 1) := by decide +kernel
theorem dX7_atHomeIn_42 : decode cX7_atHomeIn 42 = .ok (.iinc 3 1, 3) := by decide +kernel
theorem dX7_atHomeIn_45 : decode cX7_atHomeIn 45 = .ok (.goto (-41), 3) := by decide +kernel
theorem dX7_atHomeIn_48 : decode cX7_atHomeIn 48 = .ok (.iload_n 2, 1) := by decide +kernel
theorem dX7_atHomeIn_49 : decode cX7_atHomeIn 49 = .ok (.ireturn, 1) := by decide +kernel
theorem dX7_isAtHome_0 : decode cX7_isAtHome 0 = .ok (.aload_n 0, 1) := by decide +kernel
theorem dX7_isAtHome_1 : decode cX7_isAtHome 1 = .ok (.getfield 47, 3) := by decide +kernel
theorem dX7_isAtHome_4 : decode cX7_isAtHome 4 = .ok (.iload_n 1, 1) := by decide +kernel
theorem dX7_isAtHome_5 : decode cX7_isAtHome 5 = .ok (.invokevirtual 167, 3) := by decide +kernel
theorem dX7_isAtHome_8 : decode cX7_isAtHome 8 = .ok (.ifCond .eq 28, 3) := by decide +kernel
theorem dX7_isAtHome_11 : decode cX7_isAtHome 11 = .ok (.aload_n 0, 1) := by decide +kernel
theorem dX7_isAtHome_12 : decode cX7_isAtHome 12 = .ok (.getfield 47, 3) := by decide +kernel
theorem dX7_isAtHome_15 : decode cX7_isAtHome 15 = .ok (.getfield 133, 3) := by decide +kernel
theorem dX7_isAtHome_18 : decode cX7_isAtHome 18 = .ok (.iload_n 1, 1) := by decide +kernel
theorem dX7_isAtHome_19 : decode cX7_isAtHome 19 = .ok (.iaload, 1) := by decide +kernel
theorem dX7_isAtHome_20 : decode cX7_isAtHome 20 = .ok (.aload_n 0, 1) := by decide +kernel
theorem dX7_isAtHome_21 : decode cX7_isAtHome 21 = .ok (.getfield 66, 3) := by decide +kernel
theorem dX7_isAtHome_24 : decode cX7_isAtHome 24 = .ok (.getfield 124, 3) := by decide +kernel
theorem dX7_isAtHome_27 : decode cX7_isAtHome 27 = .ok (.iload_n 1, 1) := by decide +kernel
theorem dX7_isAtHome_28 : decode cX7_isAtHome 28 = .ok (.iaload, 1) := by decide +kernel
theorem dX7_isAtHome_29 : decode cX7_isAtHome 29 = .ok (.if_icmp .ne 7, 3) := by decide +kernel
theorem dX7_isAtHome_32 : decode cX7_isAtHome 32 = .ok (.iconst 1, 1) := by decide +kernel
theorem dX7_isAtHome_33 : decode cX7_isAtHome 33 = .ok (.goto 4, 3) := by decide +kernel
theorem dX7_isAtHome_36 : decode cX7_isAtHome 36 = .ok (.iconst 0, 1) := by decide +kernel
theorem dX7_isAtHome_37 : decode cX7_isAtHome 37 = .ok (.ireturn, 1) := by decide +kernel
theorem dX7_isMissing_0 : decode cX7_isMissing 0 = .ok (.aload_n 0, 1) := by decide +kernel
theorem dX7_isMissing_1 : decode cX7_isMissing 1 = .ok (.getfield 47, 3) := by decide +kernel
theorem dX7_isMissing_4 : decode cX7_isMissing 4 = .ok (.iload_n 1, 1) := by decide +kernel
theorem dX7_isMissing_5 : decode cX7_isMissing 5 = .ok (.invokevirtual 167, 3) := by decide +kernel
theorem dX7_isMissing_8 : decode cX7_isMissing 8 = .ok (.ifCond .eq 30, 3) := by decide +kernel
theorem dX7_isMissing_11 : decode cX7_isMissing 11 = .ok (.aload_n 0, 1) := by decide +kernel
theorem dX7_isMissing_12 : decode cX7_isMissing 12 = .ok (.getfield 47, 3) := by decide +kernel
theorem dX7_isMissing_15 : decode cX7_isMissing 15 = .ok (.getfield 133, 3) := by decide +kernel
theorem dX7_isMissing_18 : decode cX7_isMissing 18 = .ok (.iload_n 1, 1) := by decide +kernel
theorem dX7_isMissing_19 : decode cX7_isMissing 19 = .ok (.iaload, 1) := by decide +kernel
theorem dX7_isMissing_20 : decode cX7_isMissing 20 = .ok (.aload_n 0, 1) := by decide +kernel
theorem dX7_isMissing_21 : decode cX7_isMissing 21 = .ok (.getfield 66, 3) := by decide +kernel
theorem dX7_isMissing_24 : decode cX7_isMissing 24 = .ok (.getfield 124, 3) := by decide +kernel
theorem dX7_isMissing_27 : decode cX7_isMissing 27 = .ok (.iload_n 1, 1) := by decide +kernel
theorem dX7_isMissing_28 : decode cX7_isMissing 28 = .ok (.iaload, 1) := by decide +kernel
theorem dX7_isMissing_29 : decode cX7_isMissing 29 = .ok (.if_icmp .eq 7, 3) := by decide +kernel
theorem dX7_isMissing_32 : decode cX7_isMissing 32 = .ok (.iconst 1, 1) := by decide +kernel
theorem dX7_isMissing_33 : decode cX7_isMissing 33 = .ok (.goto 4, 3) := by decide +kernel
theorem dX7_isMissing_36 : decode cX7_isMissing 36 = .ok (.iconst 0, 1) := by decide +kernel
theorem dX7_isMissing_37 : decode cX7_isMissing 37 = .ok (.ireturn, 1) := by decide +kernel
theorem dX7_isMissing_38 : decode cX7_isMissing 38 = .ok (.iload_n 2, 1) := by decide +kernel
theorem dX7_isMissing_39 : decode cX7_isMissing 39 = .ok (.aload_n 0, 1) := by decide +kernel
theorem dX7_isMissing_40 : decode cX7_isMissing 40 = .ok (.getfield 47, 3) := by decide +kernel
theorem dX7_isMissing_43 : decode cX7_isMissing 43 = .ok (.iload_n 1, 1) := by decide +kernel
theorem dX7_isMissing_44 : decode cX7_isMissing 44 = .ok (.aload_n 0, 1) := by decide +kernel
theorem dX7_isMissing_45 : decode cX7_isMissing 45 = .ok (.getfield 66, 3) := by decide +kernel
theorem dX7_isMissing_48 : decode cX7_isMissing 48 = .ok (.invokevirtual 174, 3) := by decide +kernel
theorem dX7_isMissing_51 : decode cX7_isMissing 51 = .ok (.if_icmp .ge 7, 3) := by decide +kernel
theorem dX7_isMissing_54 : decode cX7_isMissing 54 = .ok (.iconst 1, 1) := by decide +kernel
theorem dX7_isMissing_55 : decode cX7_isMissing 55 = .ok (.goto 4, 3) := by decide +kernel
theorem dX7_isMissing_58 : decode cX7_isMissing 58 = .ok (.iconst 0, 1) := by decide +kernel
theorem dX7_isMissing_59 : decode cX7_isMissing 59 = .ok (.ireturn, 1) := by decide +kernel
theorem dX7_missingOf_0 : decode cX7_missingOf 0 = .ok (.iconst 0, 1) := by decide +kernel
theorem dX7_missingOf_1 : decode cX7_missingOf 1 = .ok (.istore_n 2, 1) := by decide +kernel
theorem dX7_missingOf_2 : decode cX7_missingOf 2 = .ok (.iconst 0, 1) := by decide +kernel
theorem dX7_missingOf_3 : decode cX7_missingOf 3 = .ok (.istore_n 3, 1) := by decide +kernel
theorem dX7_missingOf_4 : decode cX7_missingOf 4 = .ok (.iload_n 3, 1) := by decide +kernel
theorem dX7_missingOf_5 : decode cX7_missingOf 5 = .ok (.aload_n 0, 1) := by decide +kernel
theorem dX7_missingOf_6 : decode cX7_missingOf 6 = .ok (.getfield 66, 3) := by decide +kernel
theorem dX7_missingOf_9 : decode cX7_missingOf 9 = .ok (.getfield 93, 3) := by decide +kernel
theorem dX7_missingOf_12 : decode cX7_missingOf 12 = .ok (.if_icmp .ge 43, 3) := by decide +kernel
theorem dX7_missingOf_15 : decode cX7_missingOf 15 = .ok (.aload_n 0, 1) := by decide +kernel
theorem dX7_missingOf_16 : decode cX7_missingOf 16 = .ok (.getfield 66, 3) := by decide +kernel
theorem dX7_missingOf_19 : decode cX7_missingOf 19 = .ok (.getfield 124, 3) := by decide +kernel
theorem dX7_missingOf_22 : decode cX7_missingOf 22 = .ok (.iload_n 3, 1) := by decide +kernel
theorem dX7_missingOf_23 : decode cX7_missingOf 23 = .ok (.iaload, 1) := by decide +kernel
theorem dX7_missingOf_24 : decode cX7_missingOf 24 = .ok (.iload_n 1, 1) := by decide +kernel
theorem dX7_missingOf_25 : decode cX7_missingOf 25 = .ok (.if_icmp .ne 24, 3) := by decide +kernel
theorem dX7_missingOf_28 : decode cX7_missingOf 28 = .ok (.aload_n 0, 1) := by decide +kernel
theorem dX7_missingOf_29 : decode cX7_missingOf 29 = .ok (.iload_n 3, 1) := by decide +kernel
theorem dX7_missingOf_30 : decode cX7_missingOf 30 = .ok (.aload_n 0, 1) := by decide +kernel
theorem dX7_missingOf_31 : decode cX7_missingOf 31 = .ok (.getfield 47, 3) := by decide +kernel
theorem dX7_missingOf_34 : decode cX7_missingOf 34 = .ok (.getfield 103, 3) := by decide +kernel
theorem dX7_missingOf_37 : decode cX7_missingOf 37 = .ok (.invokevirtual 256, 3) := by decide +kernel
theorem dX7_missingOf_40 : decode cX7_missingOf 40 = .ok (.ifCond .eq 9, 3) := by decide +kernel
theorem dX7_missingOf_43 : decode cX7_missingOf 43 = .ok (.iload_n 2, 1) := by decide +kernel
theorem dX7_missingOf_44 : decode cX7_missingOf 44 = .ok (.iconst 1, 1) := by decide +kernel
theorem dX7_missingOf_45 : decode cX7_missingOf 45 = .ok (.iload_n 3, 1) := by decide +kernel
theorem dX7_missingOf_46 : decode cX7_missingOf 46 = .ok (.ishl, 1) := by decide +kernel
theorem dX7_missingOf_47 : decode cX7_missingOf 47 = .ok (.ior, 1) := by decide +kernel
theorem dX7_missingOf_48 : decode cX7_missingOf 48 = .ok (.istore_n 2, 1) := by decide +kernel
theorem dX7_missingOf_49 : decode cX7_missingOf 49 = .ok (.iinc 3 1, 3) := by decide +kernel
theorem dX7_missingOf_52 : decode cX7_missingOf 52 = .ok (.goto (-48), 3) := by decide +kernel
theorem dX7_missingOf_55 : decode cX7_missingOf 55 = .ok (.iload_n 2, 1) := by decide +kernel
theorem dX7_missingOf_56 : decode cX7_missingOf 56 = .ok (.ireturn, 1) := by decide +kernel
theorem dX7_rememberedBy_0 : decode cX7_rememberedBy 0 = .ok (.iconst 0, 1) := by decide +kernel
theorem dX7_rememberedBy_1 : decode cX7_rememberedBy 1 = .ok (.istore_n 3, 1) := by decide +kernel
theorem dX7_rememberedBy_2 : decode cX7_rememberedBy 2 = .ok (.iconst 0, 1) := by decide +kernel
theorem dX7_rememberedBy_3 : decode cX7_rememberedBy 3 = .ok (.istore 4, 2) := by decide +kernel
theorem dX7_rememberedBy_5 : decode cX7_rememberedBy 5 = .ok (.iload 4, 2) := by decide +kernel
theorem dX7_rememberedBy_7 : decode cX7_rememberedBy 7 = .ok (.aload_n 0, 1) := by decide +kernel
theorem dX7_rememberedBy_8 : decode cX7_rememberedBy 8 = .ok (.getfield 66, 3) := by decide +kernel
theorem dX7_rememberedBy_11 : decode cX7_rememberedBy 11 = .ok (.getfield 93, 3) := by decide +kernel
theorem dX7_rememberedBy_14 : decode cX7_rememberedBy 14 = .ok (.if_icmp .ge 72, 3) := by decide +kernel
theorem dX7_rememberedBy_17 : decode cX7_rememberedBy 17 = .ok (.aload_n 0, 1) := by decide +kernel
theorem dX7_rememberedBy_18 : decode cX7_rememberedBy 18 = .ok (.getfield 66, 3) := by decide +kernel
theorem dX7_rememberedBy_21 : decode cX7_rememberedBy 21 = .ok (.getfield 124, 3) := by decide +kernel
theorem dX7_rememberedBy_24 : decode cX7_rememberedBy 24 = .ok (.iload 4, 2) := by decide +kernel
theorem dX7_rememberedBy_26 : decode cX7_rememberedBy 26 = .ok (.iaload, 1) := by decide +kernel
theorem dX7_rememberedBy_27 : decode cX7_rememberedBy 27 = .ok (.aload_n 0, 1) := by decide +kernel
theorem dX7_rememberedBy_28 : decode cX7_rememberedBy 28 = .ok (.getfield 66, 3) := by decide +kernel
theorem dX7_rememberedBy_31 : decode cX7_rememberedBy 31 = .ok (.getfield 124, 3) := by decide +kernel
theorem dX7_rememberedBy_34 : decode cX7_rememberedBy 34 = .ok (.iload_n 1, 1) := by decide +kernel
theorem dX7_rememberedBy_35 : decode cX7_rememberedBy 35 = .ok (.iaload, 1) := by decide +kernel
theorem dX7_rememberedBy_36 : decode cX7_rememberedBy 36 = .ok (.if_icmp .ne 44, 3) := by decide +kernel
theorem dX7_rememberedBy_39 : decode cX7_rememberedBy 39 = .ok (.aload_n 0, 1) := by decide +kernel
theorem dX7_rememberedBy_40 : decode cX7_rememberedBy 40 = .ok (.iload 4, 2) := by decide +kernel
theorem dX7_rememberedBy_42 : decode cX7_rememberedBy 42 = .ok (.iload_n 2, 1) := by decide +kernel
theorem dX7_rememberedBy_43 : decode cX7_rememberedBy 43 = .ok (.invokevirtual 256, 3) := by decide +kernel
theorem dX7_rememberedBy_46 : decode cX7_rememberedBy 46 = .ok (.ifCond .eq 34, 3) := by decide +kernel
theorem dX7_rememberedBy_49 : decode cX7_rememberedBy 49 = .ok (.iload_n 2, 1) := by decide +kernel
theorem dX7_rememberedBy_50 : decode cX7_rememberedBy 50 = .ok (.aload_n 0, 1) := by decide +kernel
theorem dX7_rememberedBy_51 : decode cX7_rememberedBy 51 = .ok (.getfield 47, 3) := by decide +kernel
theorem dX7_rememberedBy_54 : decode cX7_rememberedBy 54 = .ok (.getfield 136, 3) := by decide +kernel
theorem dX7_rememberedBy_57 : decode cX7_rememberedBy 57 = .ok (.iload 4, 2) := by decide +kernel
theorem dX7_rememberedBy_59 : decode cX7_rememberedBy 59 = .ok (.iaload, 1) := by decide +kernel
theorem dX7_rememberedBy_60 : decode cX7_rememberedBy 60 = .ok (.isub, 1) := by decide +kernel
theorem dX7_rememberedBy_61 : decode cX7_rememberedBy 61 = .ok (.aload_n 0, 1) := by decide +kernel
theorem dX7_rememberedBy_62 : decode cX7_rememberedBy 62 = .ok (.getfield 66, 3) := by decide +kernel
theorem dX7_rememberedBy_65 : decode cX7_rememberedBy 65 = .ok (.getfield 130, 3) := by decide +kernel
theorem dX7_rememberedBy_68 : decode cX7_rememberedBy 68 = .ok (.iload_n 1, 1) := by decide +kernel
theorem dX7_rememberedBy_69 : decode cX7_rememberedBy 69 = .ok (.iaload, 1) := by decide +kernel
theorem dX7_rememberedBy_70 : decode cX7_rememberedBy 70 = .ok (.if_icmp .gt 10, 3) := by decide +kernel
theorem dX7_rememberedBy_73 : decode cX7_rememberedBy 73 = .ok (.iload_n 3, 1) := by decide +kernel
theorem dX7_rememberedBy_74 : decode cX7_rememberedBy 74 = .ok (.iconst 1, 1) := by decide +kernel
theorem dX7_rememberedBy_75 : decode cX7_rememberedBy 75 = .ok (.iload 4, 2) := by decide +kernel
theorem dX7_rememberedBy_77 : decode cX7_rememberedBy 77 = .ok (.ishl, 1) := by decide +kernel
theorem dX7_rememberedBy_78 : decode cX7_rememberedBy 78 = .ok (.ior, 1) := by decide +kernel
theorem dX7_rememberedBy_79 : decode cX7_rememberedBy 79 = .ok (.istore_n 3, 1) := by decide +kernel
theorem dX7_rememberedBy_80 : decode cX7_rememberedBy 80 = .ok (.iinc 4 1, 3) := by decide +kernel
theorem dX7_rememberedBy_83 : decode cX7_rememberedBy 83 = .ok (.goto (-78), 3) := by decide +kernel
theorem dX7_rememberedBy_86 : decode cX7_rememberedBy 86 = .ok (.iload_n 3, 1) := by decide +kernel
theorem dX7_rememberedBy_87 : decode cX7_rememberedBy 87 = .ok (.ireturn, 1) := by decide +kernel
theorem dX7_missedBy_0 : decode cX7_missedBy 0 = .ok (.aload_n 0, 1) := by decide +kernel
theorem dX7_missedBy_1 : decode cX7_missedBy 1 = .ok (.iload_n 1, 1) := by decide +kernel
theorem dX7_missedBy_2 : decode cX7_missedBy 2 = .ok (.invokevirtual 253, 3) := by decide +kernel
theorem dX7_missedBy_5 : decode cX7_missedBy 5 = .ok (.ifCond .eq 22, 3) := by decide +kernel
theorem dX7_missedBy_8 : decode cX7_missedBy 8 = .ok (.aload_n 0, 1) := by decide +kernel
theorem dX7_missedBy_9 : decode cX7_missedBy 9 = .ok (.getfield 66, 3) := by decide +kernel
theorem dX7_missedBy_12 : decode cX7_missedBy 12 = .ok (.getfield 142, 3) := by decide +kernel
theorem dX7_missedBy_15 : decode cX7_missedBy 15 = .ok (.iload_n 1, 1) := by decide +kernel
theorem dX7_missedBy_16 : decode cX7_missedBy 16 = .ok (.iaload, 1) := by decide +kernel
theorem dX7_missedBy_17 : decode cX7_missedBy 17 = .ok (.aload_n 0, 1) := by decide +kernel
theorem dX7_missedBy_18 : decode cX7_missedBy 18 = .ok (.iload_n 1, 1) := by decide +kernel
theorem dX7_missedBy_19 : decode cX7_missedBy 19 = .ok (.iload_n 2, 1) := by decide +kernel
theorem dX7_missedBy_20 : decode cX7_missedBy 20 = .ok (.invokevirtual 259, 3) := by decide +kernel
theorem dX7_missedBy_23 : decode cX7_missedBy 23 = .ok (.iand, 1) := by decide +kernel
theorem dX7_missedBy_24 : decode cX7_missedBy 24 = .ok (.goto 4, 3) := by decide +kernel
theorem dX7_missedBy_27 : decode cX7_missedBy 27 = .ok (.iconst 0, 1) := by decide +kernel
theorem dX7_missedBy_28 : decode cX7_missedBy 28 = .ok (.ireturn, 1) := by decide +kernel
theorem dX7_isMissed_0 : decode cX7_isMissed 0 = .ok (.iconst 0, 1) := by decide +kernel
theorem dX7_isMissed_1 : decode cX7_isMissed 1 = .ok (.istore_n 3, 1) := by decide +kernel
theorem dX7_isMissed_2 : decode cX7_isMissed 2 = .ok (.iload_n 3, 1) := by decide +kernel
theorem dX7_isMissed_3 : decode cX7_isMissed 3 = .ok (.aload_n 0, 1) := by decide +kernel
theorem dX7_isMissed_4 : decode cX7_isMissed 4 = .ok (.getfield 66, 3) := by decide +kernel
theorem dX7_isMissed_7 : decode cX7_isMissed 7 = .ok (.getfield 93, 3) := by decide +kernel
theorem dX7_isMissed_10 : decode cX7_isMissed 10 = .ok (.if_icmp .ge 24, 3) := by decide +kernel
theorem dX7_isMissed_13 : decode cX7_isMissed 13 = .ok (.aload_n 0, 1) := by decide +kernel
theorem dX7_isMissed_14 : decode cX7_isMissed 14 = .ok (.iload_n 3, 1) := by decide +kernel
theorem dX7_isMissed_15 : decode cX7_isMissed 15 = .ok (.iload_n 2, 1) := by decide +kernel
theorem dX7_isMissed_16 : decode cX7_isMissed 16 = .ok (.invokevirtual 145, 3) := by decide +kernel
theorem dX7_isMissed_19 : decode cX7_isMissed 19 = .ok (.iload_n 1, 1) := by decide +kernel
theorem dX7_isMissed_20 : decode cX7_isMissed 20 = .ok (.invokestatic 220, 3) := by decide +kernel
theorem dX7_isMissed_23 : decode cX7_isMissed 23 = .ok (.ifCond .eq 5, 3) := by decide +kernel
theorem dX7_isMissed_26 : decode cX7_isMissed 26 = .ok (.iconst 1, 1) := by decide +kernel
theorem dX7_isMissed_27 : decode cX7_isMissed 27 = .ok (.ireturn, 1) := by decide +kernel
theorem dX7_isMissed_28 : decode cX7_isMissed 28 = .ok (.iinc 3 1, 3) := by decide +kernel
theorem dX7_isMissed_31 : decode cX7_isMissed 31 = .ok (.goto (-29), 3) := by decide +kernel
theorem dX7_isMissed_34 : decode cX7_isMissed 34 = .ok (.iconst 0, 1) := by decide +kernel
theorem dX7_isMissed_35 : decode cX7_isMissed 35 = .ok (.ireturn, 1) := by decide +kernel
theorem dX7_missedOf_0 : decode cX7_missedOf 0 = .ok (.iconst 0, 1) := by decide +kernel
theorem dX7_missedOf_1 : decode cX7_missedOf 1 = .ok (.istore_n 2, 1) := by decide +kernel
theorem dX7_missedOf_2 : decode cX7_missedOf 2 = .ok (.iconst 0, 1) := by decide +kernel
theorem dX7_missedOf_3 : decode cX7_missedOf 3 = .ok (.istore_n 3, 1) := by decide +kernel
theorem dX7_missedOf_4 : decode cX7_missedOf 4 = .ok (.iload_n 3, 1) := by decide +kernel
theorem dX7_missedOf_5 : decode cX7_missedOf 5 = .ok (.aload_n 0, 1) := by decide +kernel
theorem dX7_missedOf_6 : decode cX7_missedOf 6 = .ok (.getfield 66, 3) := by decide +kernel
theorem dX7_missedOf_9 : decode cX7_missedOf 9 = .ok (.getfield 93, 3) := by decide +kernel
theorem dX7_missedOf_12 : decode cX7_missedOf 12 = .ok (.if_icmp .ge 24, 3) := by decide +kernel
theorem dX7_missedOf_15 : decode cX7_missedOf 15 = .ok (.iload_n 2, 1) := by decide +kernel
theorem dX7_missedOf_16 : decode cX7_missedOf 16 = .ok (.aload_n 0, 1) := by decide +kernel
theorem dX7_missedOf_17 : decode cX7_missedOf 17 = .ok (.iload_n 3, 1) := by decide +kernel
theorem dX7_missedOf_18 : decode cX7_missedOf 18 = .ok (.aload_n 0, 1) := by decide +kernel
theorem dX7_missedOf_19 : decode cX7_missedOf 19 = .ok (.getfield 47, 3) := by decide +kernel
theorem dX7_missedOf_22 : decode cX7_missedOf 22 = .ok (.getfield 103, 3) := by decide +kernel
theorem dX7_missedOf_25 : decode cX7_missedOf 25 = .ok (.invokevirtual 145, 3) := by decide +kernel
theorem dX7_missedOf_28 : decode cX7_missedOf 28 = .ok (.ior, 1) := by decide +kernel
theorem dX7_missedOf_29 : decode cX7_missedOf 29 = .ok (.istore_n 2, 1) := by decide +kernel
theorem dX7_missedOf_30 : decode cX7_missedOf 30 = .ok (.iinc 3 1, 3) := by decide +kernel
theorem dX7_missedOf_33 : decode cX7_missedOf 33 = .ok (.goto (-29), 3) := by decide +kernel
theorem dX7_missedOf_36 : decode cX7_missedOf 36 = .ok (.iload_n 2, 1) := by decide +kernel
theorem dX7_missedOf_37 : decode cX7_missedOf 37 = .ok (.iload_n 1, 1) := by decide +kernel
theorem dX7_missedOf_38 : decode cX7_missedOf 38 = .ok (.iand, 1) := by decide +kernel
theorem dX7_missedOf_39 : decode cX7_missedOf 39 = .ok (.ireturn, 1) := by decide +kernel
theorem dX7_countOf_0 : decode cX7_countOf 0 = .ok (.aload_n 0, 1) := by decide +kernel
theorem dX7_countOf_1 : decode cX7_countOf 1 = .ok (.getfield 66, 3) := by decide +kernel
theorem dX7_countOf_4 : decode cX7_countOf 4 = .ok (.iload_n 1, 1) := by decide +kernel
theorem dX7_countOf_5 : decode cX7_countOf 5 = .ok (.invokevirtual 161, 3) := by decide +kernel
theorem dX7_countOf_8 : decode cX7_countOf 8 = .ok (.istore_n 2, 1) := by decide +kernel
theorem dX7_countOf_9 : decode cX7_countOf 9 = .ok (.aload_n 0, 1) := by decide +kernel
theorem dX7_countOf_10 : decode cX7_countOf 10 = .ok (.invokevirtual 262, 3) := by decide +kernel
theorem dX7_countOf_13 : decode cX7_countOf 13 = .ok (.aload_n 0, 1) := by decide +kernel
theorem dX7_countOf_14 : decode cX7_countOf 14 = .ok (.iload_n 2, 1) := by decide +kernel
theorem dX7_countOf_15 : decode cX7_countOf 15 = .ok (.invokevirtual 265, 3) := by decide +kernel
theorem dX7_countOf_18 : decode cX7_countOf 18 = .ok (.aload_n 0, 1) := by decide +kernel
theorem dX7_countOf_19 : decode cX7_countOf 19 = .ok (.getfield 47, 3) := by decide +kernel
theorem dX7_countOf_22 : decode cX7_countOf 22 = .ok (.getfield 158, 3) := by decide +kernel
theorem dX7_countOf_25 : decode cX7_countOf 25 = .ok (.iload_n 1, 1) := by decide +kernel
theorem dX7_countOf_26 : decode cX7_countOf 26 = .ok (.iaload, 1) := by decide +kernel
theorem dX7_countOf_27 : decode cX7_countOf 27 = .ok (.iadd, 1) := by decide +kernel
theorem dX7_countOf_28 : decode cX7_countOf 28 = .ok (.ireturn, 1) := by decide +kernel
theorem dX7_fillMisses_0 : decode cX7_fillMisses 0 = .ok (.iconst 0, 1) := by decide +kernel
theorem dX7_fillMisses_1 : decode cX7_fillMisses 1 = .ok (.istore_n 1, 1) := by decide +kernel
theorem dX7_fillMisses_2 : decode cX7_fillMisses 2 = .ok (.iload_n 1, 1) := by decide +kernel
theorem dX7_fillMisses_3 : decode cX7_fillMisses 3 = .ok (.aload_n 0, 1) := by decide +kernel
theorem dX7_fillMisses_4 : decode cX7_fillMisses 4 = .ok (.getfield 66, 3) := by decide +kernel
theorem dX7_fillMisses_7 : decode cX7_fillMisses 7 = .ok (.getfield 93, 3) := by decide +kernel
theorem dX7_fillMisses_10 : decode cX7_fillMisses 10 = .ok (.if_icmp .ge 27, 3) := by decide +kernel
theorem dX7_fillMisses_13 : decode cX7_fillMisses 13 = .ok (.aload_n 0, 1) := by decide +kernel
theorem dX7_fillMisses_14 : decode cX7_fillMisses 14 = .ok (.getfield 59, 3) := by decide +kernel
theorem dX7_fillMisses_17 : decode cX7_fillMisses 17 = .ok (.iload_n 1, 1) := by decide +kernel
theorem dX7_fillMisses_18 : decode cX7_fillMisses 18 = .ok (.aload_n 0, 1) := by decide +kernel
theorem dX7_fillMisses_19 : decode cX7_fillMisses 19 = .ok (.iload_n 1, 1) := by decide +kernel
theorem dX7_fillMisses_20 : decode cX7_fillMisses 20 = .ok (.aload_n 0, 1) := by decide +kernel
theorem dX7_fillMisses_21 : decode cX7_fillMisses 21 = .ok (.getfield 47, 3) := by decide +kernel
theorem dX7_fillMisses_24 : decode cX7_fillMisses 24 = .ok (.getfield 103, 3) := by decide +kernel
theorem dX7_fillMisses_27 : decode cX7_fillMisses 27 = .ok (.invokevirtual 145, 3) := by decide +kernel
theorem dX7_fillMisses_30 : decode cX7_fillMisses 30 = .ok (.iastore, 1) := by decide +kernel
theorem dX7_fillMisses_31 : decode cX7_fillMisses 31 = .ok (.iinc 1 1, 3) := by decide +kernel
theorem dX7_fillMisses_34 : decode cX7_fillMisses 34 = .ok (.goto (-32), 3) := by decide +kernel
theorem dX7_fillMisses_37 : decode cX7_fillMisses 37 = .ok (.return_, 1) := by decide +kernel
theorem dX7_countMissedBy_0 : decode cX7_countMissedBy 0 = .ok (.aload_n 0, 1) := by decide +kernel
theorem dX7_countMissedBy_1 : decode cX7_countMissedBy 1 = .ok (.getfield 26, 3) := by decide +kernel
theorem dX7_countMissedBy_4 : decode cX7_countMissedBy 4 = .ok (.invokevirtual 268, 3) := by decide +kernel
theorem dX7_countMissedBy_7 : decode cX7_countMissedBy 7 = .ok (.iconst 0, 1) := by decide +kernel
theorem dX7_countMissedBy_8 : decode cX7_countMissedBy 8 = .ok (.istore_n 2, 1) := by decide +kernel
theorem dX7_countMissedBy_9 : decode cX7_countMissedBy 9 = .ok (.iload_n 2, 1) := by decide +kernel
theorem dX7_countMissedBy_10 : decode cX7_countMissedBy 10 = .ok (.aload_n 0, 1) := by decide +kernel
theorem dX7_countMissedBy_11 : decode cX7_countMissedBy 11 = .ok (.getfield 66, 3) := by decide +kernel
theorem dX7_countMissedBy_14 : decode cX7_countMissedBy 14 = .ok (.getfield 93, 3) := by decide +kernel
theorem dX7_countMissedBy_17 : decode cX7_countMissedBy 17 = .ok (.if_icmp .ge 30, 3) := by decide +kernel
theorem dX7_countMissedBy_20 : decode cX7_countMissedBy 20 = .ok (.iload_n 1, 1) := by decide +kernel
theorem dX7_countMissedBy_21 : decode cX7_countMissedBy 21 = .ok (.iload_n 2, 1) := by decide +kernel
theorem dX7_countMissedBy_22 : decode cX7_countMissedBy 22 = .ok (.invokestatic 220, 3) := by decide +kernel
theorem dX7_countMissedBy_25 : decode cX7_countMissedBy 25 = .ok (.ifCond .eq 16, 3) := by decide +kernel
theorem dX7_countMissedBy_28 : decode cX7_countMissedBy 28 = .ok (.aload_n 0, 1) := by decide +kernel
theorem dX7_countMissedBy_29 : decode cX7_countMissedBy 29 = .ok (.getfield 26, 3) := by decide +kernel
theorem dX7_countMissedBy_32 : decode cX7_countMissedBy 32 = .ok (.aload_n 0, 1) := by decide +kernel
theorem dX7_countMissedBy_33 : decode cX7_countMissedBy 33 = .ok (.getfield 59, 3) := by decide +kernel
theorem dX7_countMissedBy_36 : decode cX7_countMissedBy 36 = .ok (.iload_n 2, 1) := by decide +kernel
theorem dX7_countMissedBy_37 : decode cX7_countMissedBy 37 = .ok (.iaload, 1) := by decide +kernel
theorem dX7_countMissedBy_38 : decode cX7_countMissedBy 38 = .ok (.invokevirtual 269, 3) := by decide +kernel
theorem dX7_countMissedBy_41 : decode cX7_countMissedBy 41 = .ok (.iinc 2 1, 3) := by decide +kernel
theorem dX7_countMissedBy_44 : decode cX7_countMissedBy 44 = .ok (.goto (-35), 3) := by decide +kernel
theorem dX7_countMissedBy_47 : decode cX7_countMissedBy 47 = .ok (.aload_n 0, 1) := by decide +kernel
theorem dX7_countMissedBy_48 : decode cX7_countMissedBy 48 = .ok (.getfield 26, 3) := by decide +kernel
theorem dX7_countMissedBy_51 : decode cX7_countMissedBy 51 = .ok (.aload_n 0, 1) := by decide +kernel
theorem dX7_countMissedBy_52 : decode cX7_countMissedBy 52 = .ok (.getfield 66, 3) := by decide +kernel
theorem dX7_countMissedBy_55 : decode cX7_countMissedBy 55 = .ok (.invokevirtual 273, 3) := by decide +kernel
theorem dX7_countMissedBy_58 : decode cX7_countMissedBy 58 = .ok (.ireturn, 1) := by decide +kernel
theorem dX7_mostCountByLies_0 : decode cX7_mostCountByLies 0 = .ok (.aload_n 0, 1) := by decide +kernel
theorem dX7_mostCountByLies_1 : decode cX7_mostCountByLies 1 = .ok (.getfield 26, 3) := by decide +kernel
theorem dX7_mostCountByLies_4 : decode cX7_mostCountByLies 4 = .ok (.invokevirtual 268, 3) := by decide +kernel
theorem dX7_mostCountByLies_7 : decode cX7_mostCountByLies 7 = .ok (.iconst 0, 1) := by decide +kernel
theorem dX7_mostCountByLies_8 : decode cX7_mostCountByLies 8 = .ok (.istore_n 2, 1) := by decide +kernel
theorem dX7_mostCountByLies_9 : decode cX7_mostCountByLies 9 = .ok (.iload_n 2, 1) := by decide +kernel
theorem dX7_mostCountByLies_10 : decode cX7_mostCountByLies 10 = .ok (.aload_n 0, 1) := by decide +kernel
theorem dX7_mostCountByLies_11 : decode cX7_mostCountByLies 11 = .ok (.getfield 66, 3) := by decide +kernel
theorem dX7_mostCountByLies_14 : decode cX7_mostCountByLies 14 = .ok (.getfield 93, 3) := by decide +kernel
theorem dX7_mostCountByLies_17 : decode cX7_mostCountByLies 17 = .ok (.if_icmp .ge 49, 3) := by decide +kernel
theorem dX7_mostCountByLies_20 : decode cX7_mostCountByLies 20 = .ok (.aload_n 0, 1) := by decide +kernel
theorem dX7_mostCountByLies_21 : decode cX7_mostCountByLies 21 = .ok (.getfield 66, 3) := by decide +kernel
theorem dX7_mostCountByLies_24 : decode cX7_mostCountByLies 24 = .ok (.getfield 124, 3) := by decide +kernel
theorem dX7_mostCountByLies_27 : decode cX7_mostCountByLies 27 = .ok (.iload_n 2, 1) := by decide +kernel
theorem dX7_mostCountByLies_28 : decode cX7_mostCountByLies 28 = .ok (.iaload, 1) := by decide +kernel
theorem dX7_mostCountByLies_29 : decode cX7_mostCountByLies 29 = .ok (.iload_n 1, 1) := by decide +kernel
theorem dX7_mostCountByLies_30 : decode cX7_mostCountByLies 30 = .ok (.if_icmp .ne 30, 3) := by decide +kernel
theorem dX7_mostCountByLies_33 : decode cX7_mostCountByLies 33 = .ok (.aload_n 0, 1) := by decide +kernel
theorem dX7_mostCountByLies_34 : decode cX7_mostCountByLies 34 = .ok (.iload_n 2, 1) := by decide +kernel
theorem dX7_mostCountByLies_35 : decode cX7_mostCountByLies 35 = .ok (.invokevirtual 253, 3) := by decide +kernel
theorem dX7_mostCountByLies_38 : decode cX7_mostCountByLies 38 = .ok (.ifCond .eq 22, 3) := by decide +kernel
theorem dX7_mostCountByLies_41 : decode cX7_mostCountByLies 41 = .ok (.aload_n 0, 1) := by decide +kernel
theorem dX7_mostCountByLies_42 : decode cX7_mostCountByLies 42 = .ok (.getfield 26, 3) := by decide +kernel
theorem dX7_mostCountByLies_45 : decode cX7_mostCountByLies 45 = .ok (.aload_n 0, 1) := by decide +kernel
theorem dX7_mostCountByLies_46 : decode cX7_mostCountByLies 46 = .ok (.iload_n 2, 1) := by decide +kernel
theorem dX7_mostCountByLies_47 : decode cX7_mostCountByLies 47 = .ok (.aload_n 0, 1) := by decide +kernel
theorem dX7_mostCountByLies_48 : decode cX7_mostCountByLies 48 = .ok (.getfield 47, 3) := by decide +kernel
theorem dX7_mostCountByLies_51 : decode cX7_mostCountByLies 51 = .ok (.getfield 103, 3) := by decide +kernel
theorem dX7_mostCountByLies_54 : decode cX7_mostCountByLies 54 = .ok (.invokevirtual 259, 3) := by decide +kernel
theorem dX7_mostCountByLies_57 : decode cX7_mostCountByLies 57 = .ok (.invokevirtual 269, 3) := by decide +kernel
theorem dX7_mostCountByLies_60 : decode cX7_mostCountByLies 60 = .ok (.iinc 2 1, 3) := by decide +kernel
theorem dX7_mostCountByLies_63 : decode cX7_mostCountByLies 63 = .ok (.goto (-54), 3) := by decide +kernel
theorem dX7_mostCountByLies_66 : decode cX7_mostCountByLies 66 = .ok (.aload_n 0, 1) := by decide +kernel
theorem dX7_mostCountByLies_67 : decode cX7_mostCountByLies 67 = .ok (.getfield 26, 3) := by decide +kernel
theorem dX7_mostCountByLies_70 : decode cX7_mostCountByLies 70 = .ok (.aload_n 0, 1) := by decide +kernel
theorem dX7_mostCountByLies_71 : decode cX7_mostCountByLies 71 = .ok (.getfield 66, 3) := by decide +kernel
theorem dX7_mostCountByLies_74 : decode cX7_mostCountByLies 74 = .ok (.invokevirtual 273, 3) := by decide +kernel
theorem dX7_mostCountByLies_77 : decode cX7_mostCountByLies 77 = .ok (.aload_n 0, 1) := by decide +kernel
theorem dX7_mostCountByLies_78 : decode cX7_mostCountByLies 78 = .ok (.getfield 47, 3) := by decide +kernel
theorem dX7_mostCountByLies_81 : decode cX7_mostCountByLies 81 = .ok (.getfield 158, 3) := by decide +kernel
theorem dX7_mostCountByLies_84 : decode cX7_mostCountByLies 84 = .ok (.iload_n 1, 1) := by decide +kernel
theorem dX7_mostCountByLies_85 : decode cX7_mostCountByLies 85 = .ok (.iaload, 1) := by decide +kernel
theorem dX7_mostCountByLies_86 : decode cX7_mostCountByLies 86 = .ok (.iadd, 1) := by decide +kernel
theorem dX7_mostCountByLies_87 : decode cX7_mostCountByLies 87 = .ok (.ireturn, 1) := by decide +kernel
theorem dX7_fewestToLeave_0 : decode cX7_fewestToLeave 0 = .ok (.aload_n 0, 1) := by decide +kernel
theorem dX7_fewestToLeave_1 : decode cX7_fewestToLeave 1 = .ok (.invokevirtual 262, 3) := by decide +kernel
theorem dX7_fewestToLeave_4 : decode cX7_fewestToLeave 4 = .ok (.iconst 1, 1) := by decide +kernel
theorem dX7_fewestToLeave_5 : decode cX7_fewestToLeave 5 = .ok (.iload_n 1, 1) := by decide +kernel
theorem dX7_fewestToLeave_6 : decode cX7_fewestToLeave 6 = .ok (.invokestatic 197, 3) := by decide +kernel
theorem dX7_fewestToLeave_9 : decode cX7_fewestToLeave 9 = .ok (.ishl, 1) := by decide +kernel
theorem dX7_fewestToLeave_10 : decode cX7_fewestToLeave 10 = .ok (.istore_n 3, 1) := by decide +kernel
theorem dX7_fewestToLeave_11 : decode cX7_fewestToLeave 11 = .ok (.iload_n 1, 1) := by decide +kernel
theorem dX7_fewestToLeave_12 : decode cX7_fewestToLeave 12 = .ok (.istore 4, 2) := by decide +kernel
theorem dX7_fewestToLeave_14 : decode cX7_fewestToLeave 14 = .ok (.iconst 0, 1) := by decide +kernel
theorem dX7_fewestToLeave_15 : decode cX7_fewestToLeave 15 = .ok (.istore 5, 2) := by decide +kernel
theorem dX7_fewestToLeave_17 : decode cX7_fewestToLeave 17 = .ok (.iconst 0, 1) := by decide +kernel
theorem dX7_fewestToLeave_18 : decode cX7_fewestToLeave 18 = .ok (.istore 6, 2) := by decide +kernel
theorem dX7_fewestToLeave_20 : decode cX7_fewestToLeave 20 = .ok (.iload 6, 2) := by decide +kernel
theorem dX7_fewestToLeave_22 : decode cX7_fewestToLeave 22 = .ok (.iload_n 3, 1) := by decide +kernel
theorem dX7_fewestToLeave_23 : decode cX7_fewestToLeave 23 = .ok (.if_icmp .ge 48, 3) := by decide +kernel
theorem dX7_fewestToLeave_26 : decode cX7_fewestToLeave 26 = .ok (.iload 5, 2) := by decide +kernel
theorem dX7_fewestToLeave_28 : decode cX7_fewestToLeave 28 = .ok (.invokestatic 197, 3) := by decide +kernel
theorem dX7_fewestToLeave_31 : decode cX7_fewestToLeave 31 = .ok (.iload 4, 2) := by decide +kernel
theorem dX7_fewestToLeave_33 : decode cX7_fewestToLeave 33 = .ok (.invokestatic 197, 3) := by decide +kernel
theorem dX7_fewestToLeave_36 : decode cX7_fewestToLeave 36 = .ok (.if_icmp .ge 21, 3) := by decide +kernel
theorem dX7_fewestToLeave_39 : decode cX7_fewestToLeave 39 = .ok (.aload_n 0, 1) := by decide +kernel
theorem dX7_fewestToLeave_40 : decode cX7_fewestToLeave 40 = .ok (.iload_n 1, 1) := by decide +kernel
theorem dX7_fewestToLeave_41 : decode cX7_fewestToLeave 41 = .ok (.iload 5, 2) := by decide +kernel
theorem dX7_fewestToLeave_43 : decode cX7_fewestToLeave 43 = .ok (.iconst (-1), 1) := by decide +kernel
theorem dX7_fewestToLeave_44 : decode cX7_fewestToLeave 44 = .ok (.ixor, 1) := by decide +kernel
theorem dX7_fewestToLeave_45 : decode cX7_fewestToLeave 45 = .ok (.iand, 1) := by decide +kernel
theorem dX7_fewestToLeave_46 : decode cX7_fewestToLeave 46 = .ok (.invokevirtual 265, 3) := by decide +kernel
theorem dX7_fewestToLeave_49 : decode cX7_fewestToLeave 49 = .ok (.iload_n 2, 1) := by decide +kernel
theorem dX7_fewestToLeave_50 : decode cX7_fewestToLeave 50 = .ok (.if_icmp .gt 7, 3) := by decide +kernel
theorem dX7_fewestToLeave_53 : decode cX7_fewestToLeave 53 = .ok (.iload 5, 2) := by decide +kernel
theorem dX7_fewestToLeave_55 : decode cX7_fewestToLeave 55 = .ok (.istore 4, 2) := by decide +kernel
theorem dX7_fewestToLeave_57 : decode cX7_fewestToLeave 57 = .ok (.iload 5, 2) := by decide +kernel
theorem dX7_fewestToLeave_59 : decode cX7_fewestToLeave 59 = .ok (.iload_n 1, 1) := by decide +kernel
theorem dX7_fewestToLeave_60 : decode cX7_fewestToLeave 60 = .ok (.invokestatic 213, 3) := by decide +kernel
theorem dX7_fewestToLeave_63 : decode cX7_fewestToLeave 63 = .ok (.istore 5, 2) := by decide +kernel
theorem dX7_fewestToLeave_65 : decode cX7_fewestToLeave 65 = .ok (.iinc 6 1, 3) := by decide +kernel
theorem dX7_fewestToLeave_68 : decode cX7_fewestToLeave 68 = .ok (.goto (-48), 3) := by decide +kernel
theorem dX7_fewestToLeave_71 : decode cX7_fewestToLeave 71 = .ok (.iload 4, 2) := by decide +kernel
theorem dX7_fewestToLeave_73 : decode cX7_fewestToLeave 73 = .ok (.ireturn, 1) := by decide +kernel
theorem dX7_countIfAway_0 : decode cX7_countIfAway 0 = .ok (.aload_n 0, 1) := by decide +kernel
theorem dX7_countIfAway_1 : decode cX7_countIfAway 1 = .ok (.getfield 26, 3) := by decide +kernel
theorem dX7_countIfAway_4 : decode cX7_countIfAway 4 = .ok (.invokevirtual 268, 3) := by decide +kernel
theorem dX7_countIfAway_7 : decode cX7_countIfAway 7 = .ok (.iconst 0, 1) := by decide +kernel
theorem dX7_countIfAway_8 : decode cX7_countIfAway 8 = .ok (.istore_n 3, 1) := by decide +kernel
theorem dX7_countIfAway_9 : decode cX7_countIfAway 9 = .ok (.iload_n 3, 1) := by decide +kernel
theorem dX7_countIfAway_10 : decode cX7_countIfAway 10 = .ok (.aload_n 0, 1) := by decide +kernel
theorem dX7_countIfAway_11 : decode cX7_countIfAway 11 = .ok (.getfield 66, 3) := by decide +kernel
theorem dX7_countIfAway_14 : decode cX7_countIfAway 14 = .ok (.getfield 93, 3) := by decide +kernel
theorem dX7_countIfAway_17 : decode cX7_countIfAway 17 = .ok (.if_icmp .ge 39, 3) := by decide +kernel
theorem dX7_countIfAway_20 : decode cX7_countIfAway 20 = .ok (.iload_n 1, 1) := by decide +kernel
theorem dX7_countIfAway_21 : decode cX7_countIfAway 21 = .ok (.iload_n 2, 1) := by decide +kernel
theorem dX7_countIfAway_22 : decode cX7_countIfAway 22 = .ok (.iconst (-1), 1) := by decide +kernel
theorem dX7_countIfAway_23 : decode cX7_countIfAway 23 = .ok (.ixor, 1) := by decide +kernel
theorem dX7_countIfAway_24 : decode cX7_countIfAway 24 = .ok (.iand, 1) := by decide +kernel
theorem dX7_countIfAway_25 : decode cX7_countIfAway 25 = .ok (.iload_n 3, 1) := by decide +kernel
theorem dX7_countIfAway_26 : decode cX7_countIfAway 26 = .ok (.invokestatic 220, 3) := by decide +kernel
theorem dX7_countIfAway_29 : decode cX7_countIfAway 29 = .ok (.ifCond .eq 21, 3) := by decide +kernel
theorem dX7_countIfAway_32 : decode cX7_countIfAway 32 = .ok (.aload_n 0, 1) := by decide +kernel
theorem dX7_countIfAway_33 : decode cX7_countIfAway 33 = .ok (.getfield 26, 3) := by decide +kernel
theorem dX7_countIfAway_36 : decode cX7_countIfAway 36 = .ok (.aload_n 0, 1) := by decide +kernel
theorem dX7_countIfAway_37 : decode cX7_countIfAway 37 = .ok (.getfield 66, 3) := by decide +kernel
theorem dX7_countIfAway_40 : decode cX7_countIfAway 40 = .ok (.getfield 142, 3) := by decide +kernel
theorem dX7_countIfAway_43 : decode cX7_countIfAway 43 = .ok (.iload_n 3, 1) := by decide +kernel
theorem dX7_countIfAway_44 : decode cX7_countIfAway 44 = .ok (.iaload, 1) := by decide +kernel
theorem dX7_countIfAway_45 : decode cX7_countIfAway 45 = .ok (.iload_n 2, 1) := by decide +kernel
theorem dX7_countIfAway_46 : decode cX7_countIfAway 46 = .ok (.iand, 1) := by decide +kernel
theorem dX7_countIfAway_47 : decode cX7_countIfAway 47 = .ok (.invokevirtual 269, 3) := by decide +kernel
theorem dX7_countIfAway_50 : decode cX7_countIfAway 50 = .ok (.iinc 3 1, 3) := by decide +kernel
theorem dX7_countIfAway_53 : decode cX7_countIfAway 53 = .ok (.goto (-44), 3) := by decide +kernel
theorem dX7_countIfAway_56 : decode cX7_countIfAway 56 = .ok (.aload_n 0, 1) := by decide +kernel
theorem dX7_countIfAway_57 : decode cX7_countIfAway 57 = .ok (.getfield 26, 3) := by decide +kernel
theorem dX7_countIfAway_60 : decode cX7_countIfAway 60 = .ok (.aload_n 0, 1) := by decide +kernel
theorem dX7_countIfAway_61 : decode cX7_countIfAway 61 = .ok (.getfield 66, 3) := by decide +kernel
theorem dX7_countIfAway_64 : decode cX7_countIfAway 64 = .ok (.invokevirtual 273, 3) := by decide +kernel
theorem dX7_countIfAway_67 : decode cX7_countIfAway 67 = .ok (.ireturn, 1) := by decide +kernel
theorem dX7_setsWithout_0 : decode cX7_setsWithout 0 = .ok (.iload_n 1, 1) := by decide +kernel
theorem dX7_setsWithout_1 : decode cX7_setsWithout 1 = .ok (.iload_n 3, 1) := by decide +kernel
theorem dX7_setsWithout_2 : decode cX7_setsWithout 2 = .ok (.iconst (-1), 1) := by decide +kernel
theorem dX7_setsWithout_3 : decode cX7_setsWithout 3 = .ok (.ixor, 1) := by decide +kernel
theorem dX7_setsWithout_4 : decode cX7_setsWithout 4 = .ok (.iand, 1) := by decide +kernel
theorem dX7_setsWithout_5 : decode cX7_setsWithout 5 = .ok (.istore 4, 2) := by decide +kernel
theorem dX7_setsWithout_7 : decode cX7_setsWithout 7 = .ok (.iconst 1, 1) := by decide +kernel
theorem dX7_setsWithout_8 : decode cX7_setsWithout 8 = .ok (.iload 4, 2) := by decide +kernel
theorem dX7_setsWithout_10 : decode cX7_setsWithout 10 = .ok (.invokestatic 197, 3) := by decide +kernel
theorem dX7_setsWithout_13 : decode cX7_setsWithout 13 = .ok (.ishl, 1) := by decide +kernel
theorem dX7_setsWithout_14 : decode cX7_setsWithout 14 = .ok (.istore 5, 2) := by decide +kernel
theorem dX7_setsWithout_16 : decode cX7_setsWithout 16 = .ok (.iconst 0, 1) := by decide +kernel
theorem dX7_setsWithout_17 : decode cX7_setsWithout 17 = .ok (.istore 6, 2) := by decide +kernel
theorem dX7_setsWithout_19 : decode cX7_setsWithout 19 = .ok (.iconst 0, 1) := by decide +kernel
theorem dX7_setsWithout_20 : decode cX7_setsWithout 20 = .ok (.istore 7, 2) := by decide +kernel
theorem dX7_setsWithout_22 : decode cX7_setsWithout 22 = .ok (.iconst 0, 1) := by decide +kernel
theorem dX7_setsWithout_23 : decode cX7_setsWithout 23 = .ok (.istore 8, 2) := by decide +kernel
theorem dX7_setsWithout_25 : decode cX7_setsWithout 25 = .ok (.iload 8, 2) := by decide +kernel
theorem dX7_setsWithout_27 : decode cX7_setsWithout 27 = .ok (.iload 5, 2) := by decide +kernel
theorem dX7_setsWithout_29 : decode cX7_setsWithout 29 = .ok (.if_icmp .ge 32, 3) := by decide +kernel
theorem dX7_setsWithout_32 : decode cX7_setsWithout 32 = .ok (.aload_n 0, 1) := by decide +kernel
theorem dX7_setsWithout_33 : decode cX7_setsWithout 33 = .ok (.iload_n 1, 1) := by decide +kernel
theorem dX7_setsWithout_34 : decode cX7_setsWithout 34 = .ok (.iload 7, 2) := by decide +kernel
theorem dX7_setsWithout_36 : decode cX7_setsWithout 36 = .ok (.invokevirtual 202, 3) := by decide +kernel
theorem dX7_setsWithout_39 : decode cX7_setsWithout 39 = .ok (.iload_n 2, 1) := by decide +kernel
theorem dX7_setsWithout_40 : decode cX7_setsWithout 40 = .ok (.if_icmp .ne 6, 3) := by decide +kernel
theorem dX7_setsWithout_43 : decode cX7_setsWithout 43 = .ok (.iinc 6 1, 3) := by decide +kernel
theorem dX7_setsWithout_46 : decode cX7_setsWithout 46 = .ok (.iload 7, 2) := by decide +kernel
theorem dX7_setsWithout_48 : decode cX7_setsWithout 48 = .ok (.iload 4, 2) := by decide +kernel
theorem dX7_setsWithout_50 : decode cX7_setsWithout 50 = .ok (.invokestatic 213, 3) := by decide +kernel
theorem dX7_setsWithout_53 : decode cX7_setsWithout 53 = .ok (.istore 7, 2) := by decide +kernel
theorem dX7_setsWithout_55 : decode cX7_setsWithout 55 = .ok (.iinc 8 1, 3) := by decide +kernel
theorem dX7_setsWithout_58 : decode cX7_setsWithout 58 = .ok (.goto (-33), 3) := by decide +kernel
theorem dX7_setsWithout_61 : decode cX7_setsWithout 61 = .ok (.iload 6, 2) := by decide +kernel
theorem dX7_setsWithout_63 : decode cX7_setsWithout 63 = .ok (.ireturn, 1) := by decide +kernel
theorem dX7_has_0 : decode cX7_has 0 = .ok (.iload_n 0, 1) := by decide +kernel
theorem dX7_has_1 : decode cX7_has 1 = .ok (.iload_n 1, 1) := by decide +kernel
theorem dX7_has_2 : decode cX7_has 2 = .ok (.ishr, 1) := by decide +kernel
theorem dX7_has_3 : decode cX7_has 3 = .ok (.iconst 1, 1) := by decide +kernel
theorem dX7_has_4 : decode cX7_has 4 = .ok (.iand, 1) := by decide +kernel
theorem dX7_has_5 : decode cX7_has 5 = .ok (.ifCond .eq 7, 3) := by decide +kernel
theorem dX7_has_8 : decode cX7_has 8 = .ok (.iconst 1, 1) := by decide +kernel
theorem dX7_has_9 : decode cX7_has 9 = .ok (.goto 4, 3) := by decide +kernel
theorem dX7_has_12 : decode cX7_has 12 = .ok (.iconst 0, 1) := by decide +kernel
theorem dX7_has_13 : decode cX7_has 13 = .ok (.ireturn, 1) := by decide +kernel
theorem dX7_nextPart_0 : decode cX7_nextPart 0 = .ok (.iload_n 0, 1) := by decide +kernel
theorem dX7_nextPart_1 : decode cX7_nextPart 1 = .ok (.iload_n 1, 1) := by decide +kernel
theorem dX7_nextPart_2 : decode cX7_nextPart 2 = .ok (.isub, 1) := by decide +kernel
theorem dX7_nextPart_3 : decode cX7_nextPart 3 = .ok (.iload_n 1, 1) := by decide +kernel
theorem dX7_nextPart_4 : decode cX7_nextPart 4 = .ok (.iand, 1) := by decide +kernel
theorem dX7_nextPart_5 : decode cX7_nextPart 5 = .ok (.ireturn, 1) := by decide +kernel
theorem dX7_power_0 : decode cX7_power 0 = .ok (.lconst 1, 1) := by decide +kernel
theorem dX7_power_1 : decode cX7_power 1 = .ok (.lstore_n 2, 1) := by decide +kernel
theorem dX7_power_2 : decode cX7_power 2 = .ok (.iconst 0, 1) := by decide +kernel
theorem dX7_power_3 : decode cX7_power 3 = .ok (.istore 4, 2) := by decide +kernel
theorem dX7_power_5 : decode cX7_power 5 = .ok (.iload 4, 2) := by decide +kernel
theorem dX7_power_7 : decode cX7_power 7 = .ok (.iload_n 1, 1) := by decide +kernel
theorem dX7_power_8 : decode cX7_power 8 = .ok (.if_icmp .ge 14, 3) := by decide +kernel
theorem dX7_power_11 : decode cX7_power 11 = .ok (.lload_n 2, 1) := by decide +kernel
theorem dX7_power_12 : decode cX7_power 12 = .ok (.iload_n 0, 1) := by decide +kernel
theorem dX7_power_13 : decode cX7_power 13 = .ok (.i2l, 1) := by decide +kernel
theorem dX7_power_14 : decode cX7_power 14 = .ok (.lmul, 1) := by decide +kernel
theorem dX7_power_15 : decode cX7_power 15 = .ok (.lstore_n 2, 1) := by decide +kernel
theorem dX7_power_16 : decode cX7_power 16 = .ok (.iinc 4 1, 3) := by decide +kernel
theorem dX7_power_19 : decode cX7_power 19 = .ok (.goto (-14), 3) := by decide +kernel
theorem dX7_power_22 : decode cX7_power 22 = .ok (.lload_n 2, 1) := by decide +kernel
theorem dX7_power_23 : decode cX7_power 23 = .ok (.lreturn, 1) := by decide +kernel
theorem dX7_powerOfTen_0 : decode cX7_powerOfTen 0 = .ok (.bipush 10, 2) := by decide +kernel
theorem dX7_powerOfTen_2 : decode cX7_powerOfTen 2 = .ok (.iload_n 0, 1) := by decide +kernel
theorem dX7_powerOfTen_3 : decode cX7_powerOfTen 3 = .ok (.invokestatic 240, 3) := by decide +kernel
theorem dX7_powerOfTen_6 : decode cX7_powerOfTen 6 = .ok (.l2i, 1) := by decide +kernel
theorem dX7_powerOfTen_7 : decode cX7_powerOfTen 7 = .ok (.ireturn, 1) := by decide +kernel
theorem dX7_commonDivisor_0 : decode cX7_commonDivisor 0 = .ok (.iconst 0, 1) := by decide +kernel
theorem dX7_commonDivisor_1 : decode cX7_commonDivisor 1 = .ok (.istore 4, 2) := by decide +kernel
theorem dX7_commonDivisor_3 : decode cX7_commonDivisor 3 = .ok (.iload 4, 2) := by decide +kernel
theorem dX7_commonDivisor_5 : decode cX7_commonDivisor 5 = .ok (.bipush 100, 2) := by decide +kernel
theorem dX7_commonDivisor_7 : decode cX7_commonDivisor 7 = .ok (.if_icmp .ge 25, 3) := by decide +kernel
theorem dX7_commonDivisor_10 : decode cX7_commonDivisor 10 = .ok (.lload_n 2, 1) := by decide +kernel
theorem dX7_commonDivisor_11 : decode cX7_commonDivisor 11 = .ok (.lconst 0, 1) := by decide +kernel
theorem dX7_commonDivisor_12 : decode cX7_commonDivisor 12 = .ok (.lcmp, 1) := by decide +kernel
theorem dX7_commonDivisor_13 : decode cX7_commonDivisor 13 = .ok (.ifCond .eq 19, 3) := by decide +kernel
theorem dX7_commonDivisor_16 : decode cX7_commonDivisor 16 = .ok (.lload_n 0, 1) := by decide +kernel
theorem dX7_commonDivisor_17 : decode cX7_commonDivisor 17 = .ok (.lload_n 2, 1) := by decide +kernel
theorem dX7_commonDivisor_18 : decode cX7_commonDivisor 18 = .ok (.lrem, 1) := by decide +kernel
theorem dX7_commonDivisor_19 : decode cX7_commonDivisor 19 = .ok (.lstore 5, 2) := by decide +kernel
theorem dX7_commonDivisor_21 : decode cX7_commonDivisor 21 = .ok (.lload_n 2, 1) := by decide +kernel
theorem dX7_commonDivisor_22 : decode cX7_commonDivisor 22 = .ok (.lstore_n 0, 1) := by decide +kernel
theorem dX7_commonDivisor_23 : decode cX7_commonDivisor 23 = .ok (.lload 5, 2) := by decide +kernel
theorem dX7_commonDivisor_25 : decode cX7_commonDivisor 25 = .ok (.lstore_n 2, 1) := by decide +kernel
theorem dX7_commonDivisor_26 : decode cX7_commonDivisor 26 = .ok (.iinc 4 1, 3) := by decide +kernel
theorem dX7_commonDivisor_29 : decode cX7_commonDivisor 29 = .ok (.goto (-26), 3) := by decide +kernel
theorem dX7_commonDivisor_32 : decode cX7_commonDivisor 32 = .ok (.lload_n 0, 1) := by decide +kernel
theorem dX7_commonDivisor_33 : decode cX7_commonDivisor 33 = .ok (.lreturn, 1) := by decide +kernel
theorem dJ6_bitCount_0f7a4_0 : decode cJ6_bitCount_0f7a4 0 = .ok (.iload_n 0, 1) := by decide +kernel
theorem dJ6_bitCount_0f7a4_1 : decode cJ6_bitCount_0f7a4 1 = .ok (.iload_n 0, 1) := by decide +kernel
theorem dJ6_bitCount_0f7a4_2 : decode cJ6_bitCount_0f7a4 2 = .ok (.iconst 1, 1) := by decide +kernel
theorem dJ6_bitCount_0f7a4_3 : decode cJ6_bitCount_0f7a4 3 = .ok (.iushr, 1) := by decide +kernel
theorem dJ6_bitCount_0f7a4_4 : decode cJ6_bitCount_0f7a4 4 = .ok (.ldc_w 265, 3) := by decide +kernel
theorem dJ6_bitCount_0f7a4_7 : decode cJ6_bitCount_0f7a4 7 = .ok (.iand, 1) := by decide +kernel
theorem dJ6_bitCount_0f7a4_8 : decode cJ6_bitCount_0f7a4 8 = .ok (.isub, 1) := by decide +kernel
theorem dJ6_bitCount_0f7a4_9 : decode cJ6_bitCount_0f7a4 9 = .ok (.istore_n 0, 1) := by decide +kernel
theorem dJ6_bitCount_0f7a4_10 : decode cJ6_bitCount_0f7a4 10 = .ok (.iload_n 0, 1) := by decide +kernel
theorem dJ6_bitCount_0f7a4_11 : decode cJ6_bitCount_0f7a4 11 = .ok (.ldc_w 266, 3) := by decide +kernel
theorem dJ6_bitCount_0f7a4_14 : decode cJ6_bitCount_0f7a4 14 = .ok (.iand, 1) := by decide +kernel
theorem dJ6_bitCount_0f7a4_15 : decode cJ6_bitCount_0f7a4 15 = .ok (.iload_n 0, 1) := by decide +kernel
theorem dJ6_bitCount_0f7a4_16 : decode cJ6_bitCount_0f7a4 16 = .ok (.iconst 2, 1) := by decide +kernel
theorem dJ6_bitCount_0f7a4_17 : decode cJ6_bitCount_0f7a4 17 = .ok (.iushr, 1) := by decide +kernel
theorem dJ6_bitCount_0f7a4_18 : decode cJ6_bitCount_0f7a4 18 = .ok (.ldc_w 266, 3) := by decide +kernel
theorem dJ6_bitCount_0f7a4_21 : decode cJ6_bitCount_0f7a4 21 = .ok (.iand, 1) := by decide +kernel
theorem dJ6_bitCount_0f7a4_22 : decode cJ6_bitCount_0f7a4 22 = .ok (.iadd, 1) := by decide +kernel
theorem dJ6_bitCount_0f7a4_23 : decode cJ6_bitCount_0f7a4 23 = .ok (.istore_n 0, 1) := by decide +kernel
theorem dJ6_bitCount_0f7a4_24 : decode cJ6_bitCount_0f7a4 24 = .ok (.iload_n 0, 1) := by decide +kernel
theorem dJ6_bitCount_0f7a4_25 : decode cJ6_bitCount_0f7a4 25 = .ok (.iload_n 0, 1) := by decide +kernel
theorem dJ6_bitCount_0f7a4_26 : decode cJ6_bitCount_0f7a4 26 = .ok (.iconst 4, 1) := by decide +kernel
theorem dJ6_bitCount_0f7a4_27 : decode cJ6_bitCount_0f7a4 27 = .ok (.iushr, 1) := by decide +kernel
theorem dJ6_bitCount_0f7a4_28 : decode cJ6_bitCount_0f7a4 28 = .ok (.iadd, 1) := by decide +kernel
theorem dJ6_bitCount_0f7a4_29 : decode cJ6_bitCount_0f7a4 29 = .ok (.ldc_w 267, 3) := by decide +kernel
theorem dJ6_bitCount_0f7a4_32 : decode cJ6_bitCount_0f7a4 32 = .ok (.iand, 1) := by decide +kernel
theorem dJ6_bitCount_0f7a4_33 : decode cJ6_bitCount_0f7a4 33 = .ok (.istore_n 0, 1) := by decide +kernel
theorem dJ6_bitCount_0f7a4_34 : decode cJ6_bitCount_0f7a4 34 = .ok (.iload_n 0, 1) := by decide +kernel
theorem dJ6_bitCount_0f7a4_35 : decode cJ6_bitCount_0f7a4 35 = .ok (.iload_n 0, 1) := by decide +kernel
theorem dJ6_bitCount_0f7a4_36 : decode cJ6_bitCount_0f7a4 36 = .ok (.bipush 8, 2) := by decide +kernel
theorem dJ6_bitCount_0f7a4_38 : decode cJ6_bitCount_0f7a4 38 = .ok (.iushr, 1) := by decide +kernel
theorem dJ6_bitCount_0f7a4_39 : decode cJ6_bitCount_0f7a4 39 = .ok (.iadd, 1) := by decide +kernel
theorem dJ6_bitCount_0f7a4_40 : decode cJ6_bitCount_0f7a4 40 = .ok (.istore_n 0, 1) := by decide +kernel
theorem dJ6_bitCount_0f7a4_41 : decode cJ6_bitCount_0f7a4 41 = .ok (.iload_n 0, 1) := by decide +kernel
theorem dJ6_bitCount_0f7a4_42 : decode cJ6_bitCount_0f7a4 42 = .ok (.iload_n 0, 1) := by decide +kernel
theorem dJ6_bitCount_0f7a4_43 : decode cJ6_bitCount_0f7a4 43 = .ok (.bipush 16, 2) := by decide +kernel
theorem dJ6_bitCount_0f7a4_45 : decode cJ6_bitCount_0f7a4 45 = .ok (.iushr, 1) := by decide +kernel
theorem dJ6_bitCount_0f7a4_46 : decode cJ6_bitCount_0f7a4 46 = .ok (.iadd, 1) := by decide +kernel
theorem dJ6_bitCount_0f7a4_47 : decode cJ6_bitCount_0f7a4 47 = .ok (.istore_n 0, 1) := by decide +kernel
theorem dJ6_bitCount_0f7a4_48 : decode cJ6_bitCount_0f7a4 48 = .ok (.iload_n 0, 1) := by decide +kernel
theorem dJ6_bitCount_0f7a4_49 : decode cJ6_bitCount_0f7a4 49 = .ok (.bipush 63, 2) := by decide +kernel
theorem dJ6_bitCount_0f7a4_51 : decode cJ6_bitCount_0f7a4 51 = .ok (.iand, 1) := by decide +kernel
theorem dJ6_bitCount_0f7a4_52 : decode cJ6_bitCount_0f7a4 52 = .ok (.ireturn, 1) := by decide +kernel
theorem dJ9_abs_0f7a4_0 : decode cJ9_abs_0f7a4 0 = .ok (.iload_n 0, 1) := by decide +kernel
theorem dJ9_abs_0f7a4_1 : decode cJ9_abs_0f7a4 1 = .ok (.ifCond .ge 8, 3) := by decide +kernel
theorem dJ9_abs_0f7a4_4 : decode cJ9_abs_0f7a4 4 = .ok (.iload_n 0, 1) := by decide +kernel
theorem dJ9_abs_0f7a4_5 : decode cJ9_abs_0f7a4 5 = .ok (.ineg, 1) := by decide +kernel
theorem dJ9_abs_0f7a4_6 : decode cJ9_abs_0f7a4 6 = .ok (.goto 4, 3) := by decide +kernel
theorem dJ9_abs_0f7a4_9 : decode cJ9_abs_0f7a4 9 = .ok (.iload_n 0, 1) := by decide +kernel
theorem dJ9_abs_0f7a4_10 : decode cJ9_abs_0f7a4 10 = .ok (.ireturn, 1) := by decide +kernel
theorem dJ9_max_7cf53_0 : decode cJ9_max_7cf53 0 = .ok (.iload_n 0, 1) := by decide +kernel
theorem dJ9_max_7cf53_1 : decode cJ9_max_7cf53 1 = .ok (.iload_n 1, 1) := by decide +kernel
theorem dJ9_max_7cf53_2 : decode cJ9_max_7cf53 2 = .ok (.if_icmp .lt 7, 3) := by decide +kernel
theorem dJ9_max_7cf53_5 : decode cJ9_max_7cf53 5 = .ok (.iload_n 0, 1) := by decide +kernel
theorem dJ9_max_7cf53_6 : decode cJ9_max_7cf53 6 = .ok (.goto 4, 3) := by decide +kernel
theorem dJ9_max_7cf53_9 : decode cJ9_max_7cf53 9 = .ok (.iload_n 1, 1) := by decide +kernel
theorem dJ9_max_7cf53_10 : decode cJ9_max_7cf53 10 = .ok (.ireturn, 1) := by decide +kernel
theorem dJ9_max_f86c9_0 : decode cJ9_max_f86c9 0 = .ok (.lload_n 0, 1) := by decide +kernel
theorem dJ9_max_f86c9_1 : decode cJ9_max_f86c9 1 = .ok (.lload_n 2, 1) := by decide +kernel
theorem dJ9_max_f86c9_2 : decode cJ9_max_f86c9 2 = .ok (.lcmp, 1) := by decide +kernel
theorem dJ9_max_f86c9_3 : decode cJ9_max_f86c9 3 = .ok (.ifCond .lt 7, 3) := by decide +kernel
theorem dJ9_max_f86c9_6 : decode cJ9_max_f86c9 6 = .ok (.lload_n 0, 1) := by decide +kernel
theorem dJ9_max_f86c9_7 : decode cJ9_max_f86c9 7 = .ok (.goto 4, 3) := by decide +kernel
theorem dJ9_max_f86c9_10 : decode cJ9_max_f86c9 10 = .ok (.lload_n 2, 1) := by decide +kernel
theorem dJ9_max_f86c9_11 : decode cJ9_max_f86c9 11 = .ok (.lreturn, 1) := by decide +kernel
theorem dJ9_min_7cf53_0 : decode cJ9_min_7cf53 0 = .ok (.iload_n 0, 1) := by decide +kernel
theorem dJ9_min_7cf53_1 : decode cJ9_min_7cf53 1 = .ok (.iload_n 1, 1) := by decide +kernel
theorem dJ9_min_7cf53_2 : decode cJ9_min_7cf53 2 = .ok (.if_icmp .gt 7, 3) := by decide +kernel
theorem dJ9_min_7cf53_5 : decode cJ9_min_7cf53 5 = .ok (.iload_n 0, 1) := by decide +kernel
theorem dJ9_min_7cf53_6 : decode cJ9_min_7cf53 6 = .ok (.goto 4, 3) := by decide +kernel
theorem dJ9_min_7cf53_9 : decode cJ9_min_7cf53 9 = .ok (.iload_n 1, 1) := by decide +kernel
theorem dJ9_min_7cf53_10 : decode cJ9_min_7cf53 10 = .ok (.ireturn, 1) := by decide +kernel
end
section
theorem dX8_init_0 : decode cX8_init 0 = .ok (.aload_n 0, 1) := by decide +kernel
theorem dX8_init_1 : decode cX8_init 1 = .ok (.invokespecial 1, 3) := by decide +kernel
theorem dX8_init_4 : decode cX8_init 4 = .ok (.aload_n 0, 1) := by decide +kernel
theorem dX8_init_5 : decode cX8_init 5 = .ok (.bipush 80, 2) := by decide +kernel
theorem dX8_init_7 : decode cX8_init 7 = .ok (.newarray .int, 2) := by decide +kernel
theorem dX8_init_9 : decode cX8_init 9 = .ok (.putfield 7, 3) := by decide +kernel
theorem dX8_init_12 : decode cX8_init 12 = .ok (.aload_n 0, 1) := by decide +kernel
theorem dX8_init_13 : decode cX8_init 13 = .ok (.iconst 1, 1) := by decide +kernel
theorem dX8_init_14 : decode cX8_init 14 = .ok (.putfield 13, 3) := by decide +kernel
theorem dX8_init_17 : decode cX8_init 17 = .ok (.aload_n 0, 1) := by decide +kernel
theorem dX8_init_18 : decode cX8_init 18 = .ok (.bipush 8, 2) := by decide +kernel
theorem dX8_init_20 : decode cX8_init 20 = .ok (.newarray .int, 2) := by decide +kernel
theorem dX8_init_22 : decode cX8_init 22 = .ok (.putfield 17, 3) := by decide +kernel
theorem dX8_init_25 : decode cX8_init 25 = .ok (.aload_n 0, 1) := by decide +kernel
theorem dX8_init_26 : decode cX8_init 26 = .ok (.bipush 8, 2) := by decide +kernel
theorem dX8_init_28 : decode cX8_init 28 = .ok (.newarray .int, 2) := by decide +kernel
theorem dX8_init_30 : decode cX8_init 30 = .ok (.putfield 20, 3) := by decide +kernel
theorem dX8_init_33 : decode cX8_init 33 = .ok (.aload_n 0, 1) := by decide +kernel
theorem dX8_init_34 : decode cX8_init 34 = .ok (.bipush 8, 2) := by decide +kernel
theorem dX8_init_36 : decode cX8_init 36 = .ok (.newarray .int, 2) := by decide +kernel
theorem dX8_init_38 : decode cX8_init 38 = .ok (.putfield 23, 3) := by decide +kernel
theorem dX8_init_41 : decode cX8_init 41 = .ok (.aload_n 0, 1) := by decide +kernel
theorem dX8_init_42 : decode cX8_init 42 = .ok (.bipush 8, 2) := by decide +kernel
theorem dX8_init_44 : decode cX8_init 44 = .ok (.newarray .int, 2) := by decide +kernel
theorem dX8_init_46 : decode cX8_init 46 = .ok (.putfield 26, 3) := by decide +kernel
theorem dX8_init_49 : decode cX8_init 49 = .ok (.aload_n 0, 1) := by decide +kernel
theorem dX8_init_50 : decode cX8_init 50 = .ok (.bipush 8, 2) := by decide +kernel
theorem dX8_init_52 : decode cX8_init 52 = .ok (.newarray .int, 2) := by decide +kernel
theorem dX8_init_54 : decode cX8_init 54 = .ok (.putfield 29, 3) := by decide +kernel
theorem dX8_init_57 : decode cX8_init 57 = .ok (.aload_n 0, 1) := by decide +kernel
theorem dX8_init_58 : decode cX8_init 58 = .ok (.bipush 8, 2) := by decide +kernel
theorem dX8_init_60 : decode cX8_init 60 = .ok (.newarray .int, 2) := by decide +kernel
theorem dX8_init_62 : decode cX8_init 62 = .ok (.putfield 32, 3) := by decide +kernel
theorem dX8_init_65 : decode cX8_init 65 = .ok (.aload_n 0, 1) := by decide +kernel
theorem dX8_init_66 : decode cX8_init 66 = .ok (.bipush 8, 2) := by decide +kernel
theorem dX8_init_68 : decode cX8_init 68 = .ok (.newarray .int, 2) := by decide +kernel
theorem dX8_init_70 : decode cX8_init 70 = .ok (.putfield 35, 3) := by decide +kernel
theorem dX8_init_73 : decode cX8_init 73 = .ok (.aload_n 0, 1) := by decide +kernel
theorem dX8_init_74 : decode cX8_init 74 = .ok (.iconst 4, 1) := by decide +kernel
theorem dX8_init_75 : decode cX8_init 75 = .ok (.newarray .int, 2) := by decide +kernel
theorem dX8_init_77 : decode cX8_init 77 = .ok (.putfield 38, 3) := by decide +kernel
theorem dX8_init_80 : decode cX8_init 80 = .ok (.aload_n 0, 1) := by decide +kernel
theorem dX8_init_81 : decode cX8_init 81 = .ok (.bipush 8, 2) := by decide +kernel
theorem dX8_init_83 : decode cX8_init 83 = .ok (.newarray .int, 2) := by decide +kernel
theorem dX8_init_85 : decode cX8_init 85 = .ok (.putfield 41, 3) := by decide +kernel
theorem dX8_init_88 : decode cX8_init 88 = .ok (.aload_n 0, 1) := by decide +kernel
theorem dX8_init_89 : decode cX8_init 89 = .ok (.bipush 8, 2) := by decide +kernel
theorem dX8_init_91 : decode cX8_init 91 = .ok (.newarray .int, 2) := by decide +kernel
theorem dX8_init_93 : decode cX8_init 93 = .ok (.putfield 44, 3) := by decide +kernel
theorem dX8_init_96 : decode cX8_init 96 = .ok (.aload_n 0, 1) := by decide +kernel
theorem dX8_init_97 : decode cX8_init 97 = .ok (.bipush 8, 2) := by decide +kernel
theorem dX8_init_99 : decode cX8_init 99 = .ok (.newarray .int, 2) := by decide +kernel
theorem dX8_init_101 : decode cX8_init 101 = .ok (.putfield 47, 3) := by decide +kernel
theorem dX8_init_104 : decode cX8_init 104 = .ok (.aload_n 0, 1) := by decide +kernel
theorem dX8_init_105 : decode cX8_init 105 = .ok (.bipush 8, 2) := by decide +kernel
theorem dX8_init_107 : decode cX8_init 107 = .ok (.newarray .int, 2) := by decide +kernel
theorem dX8_init_109 : decode cX8_init 109 = .ok (.putfield 50, 3) := by decide +kernel
theorem dX8_init_112 : decode cX8_init 112 = .ok (.aload_n 0, 1) := by decide +kernel
theorem dX8_init_113 : decode cX8_init 113 = .ok (.sipush 464, 3) := by decide +kernel
theorem dX8_init_116 : decode cX8_init 116 = .ok (.newarray .int, 2) := by decide +kernel
theorem dX8_init_118 : decode cX8_init 118 = .ok (.putfield 53, 3) := by decide +kernel
theorem dX8_init_121 : decode cX8_init 121 = .ok (.aload_n 0, 1) := by decide +kernel
theorem dX8_init_122 : decode cX8_init 122 = .ok (.bipush 58, 2) := by decide +kernel
theorem dX8_init_124 : decode cX8_init 124 = .ok (.newarray .int, 2) := by decide +kernel
theorem dX8_init_126 : decode cX8_init 126 = .ok (.putfield 56, 3) := by decide +kernel
theorem dX8_init_129 : decode cX8_init 129 = .ok (.aload_n 0, 1) := by decide +kernel
theorem dX8_init_130 : decode cX8_init 130 = .ok (.iconst 2, 1) := by decide +kernel
theorem dX8_init_131 : decode cX8_init 131 = .ok (.newarray .boolean, 2) := by decide +kernel
theorem dX8_init_133 : decode cX8_init 133 = .ok (.putfield 59, 3) := by decide +kernel
theorem dX8_init_136 : decode cX8_init 136 = .ok (.aload_n 0, 1) := by decide +kernel
theorem dX8_init_137 : decode cX8_init 137 = .ok (.bipush 8, 2) := by decide +kernel
theorem dX8_init_139 : decode cX8_init 139 = .ok (.newarray .int, 2) := by decide +kernel
theorem dX8_init_141 : decode cX8_init 141 = .ok (.putfield 63, 3) := by decide +kernel
theorem dX8_init_144 : decode cX8_init 144 = .ok (.aload_n 0, 1) := by decide +kernel
theorem dX8_init_145 : decode cX8_init 145 = .ok (.bipush 8, 2) := by decide +kernel
theorem dX8_init_147 : decode cX8_init 147 = .ok (.newarray .int, 2) := by decide +kernel
theorem dX8_init_149 : decode cX8_init 149 = .ok (.putfield 66, 3) := by decide +kernel
theorem dX8_init_152 : decode cX8_init 152 = .ok (.return_, 1) := by decide +kernel
theorem dX8_in_0 : decode cX8_in 0 = .ok (.lload_n 0, 1) := by decide +kernel
theorem dX8_in_1 : decode cX8_in 1 = .ok (.lload_n 2, 1) := by decide +kernel
theorem dX8_in_2 : decode cX8_in 2 = .ok (.lcmp, 1) := by decide +kernel
theorem dX8_in_3 : decode cX8_in 3 = .ok (.ifCond .lt 14, 3) := by decide +kernel
theorem dX8_in_6 : decode cX8_in 6 = .ok (.lload_n 0, 1) := by decide +kernel
theorem dX8_in_7 : decode cX8_in 7 = .ok (.lload 4, 2) := by decide +kernel
theorem dX8_in_9 : decode cX8_in 9 = .ok (.lcmp, 1) := by decide +kernel
theorem dX8_in_10 : decode cX8_in 10 = .ok (.ifCond .gt 7, 3) := by decide +kernel
theorem dX8_in_13 : decode cX8_in 13 = .ok (.iconst 1, 1) := by decide +kernel
theorem dX8_in_14 : decode cX8_in 14 = .ok (.goto 4, 3) := by decide +kernel
theorem dX8_in_17 : decode cX8_in 17 = .ok (.iconst 0, 1) := by decide +kernel
theorem dX8_in_18 : decode cX8_in 18 = .ok (.ireturn, 1) := by decide +kernel
theorem dX8_has_0 : decode cX8_has 0 = .ok (.iload_n 0, 1) := by decide +kernel
theorem dX8_has_1 : decode cX8_has 1 = .ok (.iload_n 1, 1) := by decide +kernel
theorem dX8_has_2 : decode cX8_has 2 = .ok (.ishr, 1) := by decide +kernel
theorem dX8_has_3 : decode cX8_has 3 = .ok (.iconst 1, 1) := by decide +kernel
theorem dX8_has_4 : decode cX8_has 4 = .ok (.iand, 1) := by decide +kernel
theorem dX8_has_5 : decode cX8_has 5 = .ok (.iconst 1, 1) := by decide +kernel
theorem dX8_has_6 : decode cX8_has 6 = .ok (.if_icmp .ne 7, 3) := by decide +kernel
theorem dX8_has_9 : decode cX8_has 9 = .ok (.iconst 1, 1) := by decide +kernel
theorem dX8_has_10 : decode cX8_has 10 = .ok (.goto 4, 3) := by decide +kernel
theorem dX8_has_13 : decode cX8_has 13 = .ok (.iconst 0, 1) := by decide +kernel
theorem dX8_has_14 : decode cX8_has 14 = .ok (.ireturn, 1) := by decide +kernel
theorem dX8_many_0 : decode cX8_many 0 = .ok (.iconst 0, 1) := by decide +kernel
theorem dX8_many_1 : decode cX8_many 1 = .ok (.istore_n 1, 1) := by decide +kernel
theorem dX8_many_2 : decode cX8_many 2 = .ok (.iconst 0, 1) := by decide +kernel
theorem dX8_many_3 : decode cX8_many 3 = .ok (.istore_n 2, 1) := by decide +kernel
theorem dX8_many_4 : decode cX8_many 4 = .ok (.iload_n 2, 1) := by decide +kernel
theorem dX8_many_5 : decode cX8_many 5 = .ok (.bipush 8, 2) := by decide +kernel
theorem dX8_many_7 : decode cX8_many 7 = .ok (.if_icmp .ge 17, 3) := by decide +kernel
theorem dX8_many_10 : decode cX8_many 10 = .ok (.iload_n 1, 1) := by decide +kernel
theorem dX8_many_11 : decode cX8_many 11 = .ok (.iload_n 0, 1) := by decide +kernel
theorem dX8_many_12 : decode cX8_many 12 = .ok (.iload_n 2, 1) := by decide +kernel
theorem dX8_many_13 : decode cX8_many 13 = .ok (.ishr, 1) := by decide +kernel
theorem dX8_many_14 : decode cX8_many 14 = .ok (.iconst 1, 1) := by decide +kernel
theorem dX8_many_15 : decode cX8_many 15 = .ok (.iand, 1) := by decide +kernel
theorem dX8_many_16 : decode cX8_many 16 = .ok (.iadd, 1) := by decide +kernel
theorem dX8_many_17 : decode cX8_many 17 = .ok (.istore_n 1, 1) := by decide +kernel
theorem dX8_many_18 : decode cX8_many 18 = .ok (.iinc 2 1, 3) := by decide +kernel
theorem dX8_many_21 : decode cX8_many 21 = .ok (.goto (-17), 3) := by decide +kernel
theorem dX8_many_24 : decode cX8_many 24 = .ok (.iload_n 1, 1) := by decide +kernel
theorem dX8_many_25 : decode cX8_many 25 = .ok (.ireturn, 1) := by decide +kernel
theorem dX8_noOne_0 : decode cX8_noOne 0 = .ok (.iload_n 1, 1) := by decide +kernel
theorem dX8_noOne_1 : decode cX8_noOne 1 = .ok (.i2l, 1) := by decide +kernel
theorem dX8_noOne_2 : decode cX8_noOne 2 = .ok (.lconst 0, 1) := by decide +kernel
theorem dX8_noOne_3 : decode cX8_noOne 3 = .ok (.aload_n 0, 1) := by decide +kernel
theorem dX8_noOne_4 : decode cX8_noOne 4 = .ok (.getfield 72, 3) := by decide +kernel
theorem dX8_noOne_7 : decode cX8_noOne 7 = .ok (.iconst 1, 1) := by decide +kernel
theorem dX8_noOne_8 : decode cX8_noOne 8 = .ok (.isub, 1) := by decide +kernel
theorem dX8_noOne_9 : decode cX8_noOne 9 = .ok (.i2l, 1) := by decide +kernel
theorem dX8_noOne_10 : decode cX8_noOne 10 = .ok (.invokestatic 75, 3) := by decide +kernel
theorem dX8_noOne_13 : decode cX8_noOne 13 = .ok (.ifCond .ne 7, 3) := by decide +kernel
theorem dX8_noOne_16 : decode cX8_noOne 16 = .ok (.iconst 1, 1) := by decide +kernel
theorem dX8_noOne_17 : decode cX8_noOne 17 = .ok (.goto 4, 3) := by decide +kernel
theorem dX8_noOne_20 : decode cX8_noOne 20 = .ok (.iconst 0, 1) := by decide +kernel
theorem dX8_noOne_21 : decode cX8_noOne 21 = .ok (.ireturn, 1) := by decide +kernel
theorem dX8_noTown_0 : decode cX8_noTown 0 = .ok (.iload_n 1, 1) := by decide +kernel
theorem dX8_noTown_1 : decode cX8_noTown 1 = .ok (.i2l, 1) := by decide +kernel
theorem dX8_noTown_2 : decode cX8_noTown 2 = .ok (.lconst 0, 1) := by decide +kernel
theorem dX8_noTown_3 : decode cX8_noTown 3 = .ok (.aload_n 0, 1) := by decide +kernel
theorem dX8_noTown_4 : decode cX8_noTown 4 = .ok (.getfield 13, 3) := by decide +kernel
theorem dX8_noTown_7 : decode cX8_noTown 7 = .ok (.iconst 1, 1) := by decide +kernel
theorem dX8_noTown_8 : decode cX8_noTown 8 = .ok (.isub, 1) := by decide +kernel
theorem dX8_noTown_9 : decode cX8_noTown 9 = .ok (.i2l, 1) := by decide +kernel
theorem dX8_noTown_10 : decode cX8_noTown 10 = .ok (.invokestatic 75, 3) := by decide +kernel
theorem dX8_noTown_13 : decode cX8_noTown 13 = .ok (.ifCond .ne 7, 3) := by decide +kernel
theorem dX8_noTown_16 : decode cX8_noTown 16 = .ok (.iconst 1, 1) := by decide +kernel
theorem dX8_noTown_17 : decode cX8_noTown 17 = .ok (.goto 4, 3) := by decide +kernel
theorem dX8_noTown_20 : decode cX8_noTown 20 = .ok (.iconst 0, 1) := by decide +kernel
theorem dX8_noTown_21 : decode cX8_noTown 21 = .ok (.ireturn, 1) := by decide +kernel
theorem dX8_write_0 : decode cX8_write 0 = .ok (.aload_n 0, 1) := by decide +kernel
theorem dX8_write_1 : decode cX8_write 1 = .ok (.iconst 0, 1) := by decide +kernel
theorem dX8_write_2 : decode cX8_write 2 = .ok (.putfield 69, 3) := by decide +kernel
theorem dX8_write_5 : decode cX8_write 5 = .ok (.iload_n 1, 1) := by decide +kernel
theorem dX8_write_6 : decode cX8_write 6 = .ok (.i2l, 1) := by decide +kernel
theorem dX8_write_7 : decode cX8_write 7 = .ok (.lconst 1, 1) := by decide +kernel
theorem dX8_write_8 : decode cX8_write 8 = .ok (.ldc2_w 79, 3) := by decide +kernel
theorem dX8_write_11 : decode cX8_write 11 = .ok (.invokestatic 75, 3) := by decide +kernel
theorem dX8_write_14 : decode cX8_write 14 = .ok (.ifCond .ne 6, 3) := by decide +kernel
theorem dX8_write_17 : decode cX8_write 17 = .ok (.bipush (-2), 2) := by decide +kernel
theorem dX8_write_19 : decode cX8_write 19 = .ok (.ireturn, 1) := by decide +kernel
theorem dX8_write_20 : decode cX8_write 20 = .ok (.aload_n 0, 1) := by decide +kernel
theorem dX8_write_21 : decode cX8_write 21 = .ok (.getfield 81, 3) := by decide +kernel
theorem dX8_write_24 : decode cX8_write 24 = .ok (.iload_n 1, 1) := by decide +kernel
theorem dX8_write_25 : decode cX8_write 25 = .ok (.iadd, 1) := by decide +kernel
theorem dX8_write_26 : decode cX8_write 26 = .ok (.bipush 80, 2) := by decide +kernel
theorem dX8_write_28 : decode cX8_write 28 = .ok (.if_icmp .le 6, 3) := by decide +kernel
theorem dX8_write_31 : decode cX8_write 31 = .ok (.bipush (-4), 2) := by decide +kernel
theorem dX8_write_33 : decode cX8_write 33 = .ok (.ireturn, 1) := by decide +kernel
theorem dX8_write_34 : decode cX8_write 34 = .ok (.iload_n 1, 1) := by decide +kernel
theorem dX8_write_35 : decode cX8_write 35 = .ok (.iconst 1, 1) := by decide +kernel
theorem dX8_write_36 : decode cX8_write 36 = .ok (.isub, 1) := by decide +kernel
theorem dX8_write_37 : decode cX8_write 37 = .ok (.istore 4, 2) := by decide +kernel
theorem dX8_write_39 : decode cX8_write 39 = .ok (.iload 4, 2) := by decide +kernel
theorem dX8_write_41 : decode cX8_write 41 = .ok (.ifCond .lt 40, 3) := by decide +kernel
theorem dX8_write_44 : decode cX8_write 44 = .ok (.aload_n 0, 1) := by decide +kernel
theorem dX8_write_45 : decode cX8_write 45 = .ok (.getfield 7, 3) := by decide +kernel
theorem dX8_write_48 : decode cX8_write 48 = .ok (.aload_n 0, 1) := by decide +kernel
theorem dX8_write_49 : decode cX8_write 49 = .ok (.getfield 81, 3) := by decide +kernel
theorem dX8_write_52 : decode cX8_write 52 = .ok (.lload_n 2, 1) := by decide +kernel
theorem dX8_write_53 : decode cX8_write 53 = .ok (.bipush 8, 2) := by decide +kernel
theorem dX8_write_55 : decode cX8_write 55 = .ok (.iload 4, 2) := by decide +kernel
theorem dX8_write_57 : decode cX8_write 57 = .ok (.imul, 1) := by decide +kernel
theorem dX8_write_58 : decode cX8_write 58 = .ok (.lshr, 1) := by decide +kernel
theorem dX8_write_59 : decode cX8_write 59 = .ok (.l2i, 1) := by decide +kernel
theorem dX8_write_60 : decode cX8_write 60 = .ok (.sipush 255, 3) := by decide +kernel
theorem dX8_write_63 : decode cX8_write 63 = .ok (.iand, 1) := by decide +kernel
theorem dX8_write_64 : decode cX8_write 64 = .ok (.iastore, 1) := by decide +kernel
theorem dX8_write_65 : decode cX8_write 65 = .ok (.aload_n 0, 1) := by decide +kernel
theorem dX8_write_66 : decode cX8_write 66 = .ok (.dup, 1) := by decide +kernel
theorem dX8_write_67 : decode cX8_write 67 = .ok (.getfield 81, 3) := by decide +kernel
theorem dX8_write_70 : decode cX8_write 70 = .ok (.iconst 1, 1) := by decide +kernel
theorem dX8_write_71 : decode cX8_write 71 = .ok (.iadd, 1) := by decide +kernel
theorem dX8_write_72 : decode cX8_write 72 = .ok (.putfield 81, 3) := by decide +kernel
theorem dX8_write_75 : decode cX8_write 75 = .ok (.iinc 4 (-1), 3) := by decide +kernel
theorem dX8_write_78 : decode cX8_write 78 = .ok (.goto (-39), 3) := by decide +kernel
theorem dX8_write_81 : decode cX8_write 81 = .ok (.aload_n 0, 1) := by decide +kernel
theorem dX8_write_82 : decode cX8_write 82 = .ok (.getfield 81, 3) := by decide +kernel
theorem dX8_write_85 : decode cX8_write 85 = .ok (.ireturn, 1) := by decide +kernel
theorem dX8_wipe_0 : decode cX8_wipe 0 = .ok (.aload_n 0, 1) := by decide +kernel
theorem dX8_wipe_1 : decode cX8_wipe 1 = .ok (.iconst 0, 1) := by decide +kernel
theorem dX8_wipe_2 : decode cX8_wipe 2 = .ok (.putfield 69, 3) := by decide +kernel
theorem dX8_wipe_5 : decode cX8_wipe 5 = .ok (.aload_n 0, 1) := by decide +kernel
theorem dX8_wipe_6 : decode cX8_wipe 6 = .ok (.getfield 81, 3) := by decide +kernel
theorem dX8_wipe_9 : decode cX8_wipe 9 = .ok (.istore_n 1, 1) := by decide +kernel
theorem dX8_wipe_10 : decode cX8_wipe 10 = .ok (.aload_n 0, 1) := by decide +kernel
theorem dX8_wipe_11 : decode cX8_wipe 11 = .ok (.iconst 0, 1) := by decide +kernel
theorem dX8_wipe_12 : decode cX8_wipe 12 = .ok (.putfield 81, 3) := by decide +kernel
theorem dX8_wipe_15 : decode cX8_wipe 15 = .ok (.iload_n 1, 1) := by decide +kernel
theorem dX8_wipe_16 : decode cX8_wipe 16 = .ok (.ireturn, 1) := by decide +kernel
theorem dX8_figure_0 : decode cX8_figure 0 = .ok (.aload_n 0, 1) := by decide +kernel
theorem dX8_figure_1 : decode cX8_figure 1 = .ok (.getfield 84, 3) := by decide +kernel
theorem dX8_figure_4 : decode cX8_figure 4 = .ok (.aload_n 0, 1) := by decide +kernel
theorem dX8_figure_5 : decode cX8_figure 5 = .ok (.getfield 81, 3) := by decide +kernel
theorem dX8_figure_8 : decode cX8_figure 8 = .ok (.if_icmp .eq 25, 3) := by decide +kernel
theorem dX8_figure_11 : decode cX8_figure 11 = .ok (.aload_n 0, 1) := by decide +kernel
theorem dX8_figure_12 : decode cX8_figure 12 = .ok (.getfield 7, 3) := by decide +kernel
theorem dX8_figure_15 : decode cX8_figure 15 = .ok (.aload_n 0, 1) := by decide +kernel
theorem dX8_figure_16 : decode cX8_figure 16 = .ok (.getfield 84, 3) := by decide +kernel
theorem dX8_figure_19 : decode cX8_figure 19 = .ok (.iaload, 1) := by decide +kernel
theorem dX8_figure_20 : decode cX8_figure 20 = .ok (.iload_n 1, 1) := by decide +kernel
theorem dX8_figure_21 : decode cX8_figure 21 = .ok (.isub, 1) := by decide +kernel
theorem dX8_figure_22 : decode cX8_figure 22 = .ok (.i2l, 1) := by decide +kernel
theorem dX8_figure_23 : decode cX8_figure 23 = .ok (.iload_n 2, 1) := by decide +kernel
theorem dX8_figure_24 : decode cX8_figure 24 = .ok (.i2l, 1) := by decide +kernel
theorem dX8_figure_25 : decode cX8_figure 25 = .ok (.iload_n 3, 1) := by decide +kernel
theorem dX8_figure_26 : decode cX8_figure 26 = .ok (.i2l, 1) := by decide +kernel
theorem dX8_figure_27 : decode cX8_figure 27 = .ok (.invokestatic 75, 3) := by decide +kernel
theorem dX8_figure_30 : decode cX8_figure 30 = .ok (.ifCond .ne 6, 3) := by decide +kernel
theorem dX8_figure_33 : decode cX8_figure 33 = .ok (.bipush (-9), 2) := by decide +kernel
theorem dX8_figure_35 : decode cX8_figure 35 = .ok (.ireturn, 1) := by decide +kernel
theorem dX8_figure_36 : decode cX8_figure 36 = .ok (.aload_n 0, 1) := by decide +kernel
theorem dX8_figure_37 : decode cX8_figure 37 = .ok (.dup, 1) := by decide +kernel
theorem dX8_figure_38 : decode cX8_figure 38 = .ok (.getfield 84, 3) := by decide +kernel
theorem dX8_figure_41 : decode cX8_figure 41 = .ok (.iconst 1, 1) := by decide +kernel
theorem dX8_figure_42 : decode cX8_figure 42 = .ok (.iadd, 1) := by decide +kernel
theorem dX8_figure_43 : decode cX8_figure 43 = .ok (.putfield 84, 3) := by decide +kernel
theorem dX8_figure_46 : decode cX8_figure 46 = .ok (.aload_n 0, 1) := by decide +kernel
theorem dX8_figure_47 : decode cX8_figure 47 = .ok (.getfield 7, 3) := by decide +kernel
theorem dX8_figure_50 : decode cX8_figure 50 = .ok (.aload_n 0, 1) := by decide +kernel
theorem dX8_figure_51 : decode cX8_figure 51 = .ok (.getfield 84, 3) := by decide +kernel
theorem dX8_figure_54 : decode cX8_figure 54 = .ok (.iconst 1, 1) := by decide +kernel
theorem dX8_figure_55 : decode cX8_figure 55 = .ok (.isub, 1) := by decide +kernel
theorem dX8_figure_56 : decode cX8_figure 56 = .ok (.iaload, 1) := by decide +kernel
theorem dX8_figure_57 : decode cX8_figure 57 = .ok (.iload_n 1, 1) := by decide +kernel
theorem dX8_figure_58 : decode cX8_figure 58 = .ok (.isub, 1) := by decide +kernel
theorem dX8_figure_59 : decode cX8_figure 59 = .ok (.ireturn, 1) := by decide +kernel
theorem dX8_readPerson_0 : decode cX8_readPerson 0 = .ok (.aload_n 0, 1) := by decide +kernel
theorem dX8_readPerson_1 : decode cX8_readPerson 1 = .ok (.bipush 48, 2) := by decide +kernel
theorem dX8_readPerson_3 : decode cX8_readPerson 3 = .ok (.iconst 0, 1) := by decide +kernel
theorem dX8_readPerson_4 : decode cX8_readPerson 4 = .ok (.aload_n 0, 1) := by decide +kernel
theorem dX8_readPerson_5 : decode cX8_readPerson 5 = .ok (.getfield 87, 3) := by decide +kernel
theorem dX8_readPerson_8 : decode cX8_readPerson 8 = .ok (.iconst 1, 1) := by decide +kernel
theorem dX8_readPerson_9 : decode cX8_readPerson 9 = .ok (.isub, 1) := by decide +kernel
theorem dX8_readPerson_10 : decode cX8_readPerson 10 = .ok (.invokevirtual 90, 3) := by decide +kernel
theorem dX8_readPerson_13 : decode cX8_readPerson 13 = .ok (.istore_n 1, 1) := by decide +kernel
theorem dX8_readPerson_14 : decode cX8_readPerson 14 = .ok (.iload_n 1, 1) := by decide +kernel
theorem dX8_readPerson_15 : decode cX8_readPerson 15 = .ok (.bipush (-9), 2) := by decide +kernel
theorem dX8_readPerson_17 : decode cX8_readPerson 17 = .ok (.if_icmp .ne 8, 3) := by decide +kernel
theorem dX8_readPerson_20 : decode cX8_readPerson 20 = .ok (.bipush (-9), 2) := by decide +kernel
theorem dX8_readPerson_22 : decode cX8_readPerson 22 = .ok (.goto 11, 3) := by decide +kernel
theorem dX8_readPerson_25 : decode cX8_readPerson 25 = .ok (.aload_n 0, 1) := by decide +kernel
theorem dX8_readPerson_26 : decode cX8_readPerson 26 = .ok (.bipush 97, 2) := by decide +kernel
theorem dX8_readPerson_28 : decode cX8_readPerson 28 = .ok (.iconst 0, 1) := by decide +kernel
theorem dX8_readPerson_29 : decode cX8_readPerson 29 = .ok (.iconst 5, 1) := by decide +kernel
theorem dX8_readPerson_30 : decode cX8_readPerson 30 = .ok (.invokevirtual 90, 3) := by decide +kernel
theorem dX8_readPerson_33 : decode cX8_readPerson 33 = .ok (.istore_n 2, 1) := by decide +kernel
theorem dX8_readPerson_34 : decode cX8_readPerson 34 = .ok (.iload_n 2, 1) := by decide +kernel
theorem dX8_readPerson_35 : decode cX8_readPerson 35 = .ok (.bipush (-9), 2) := by decide +kernel
theorem dX8_readPerson_37 : decode cX8_readPerson 37 = .ok (.if_icmp .ne 8, 3) := by decide +kernel
theorem dX8_readPerson_40 : decode cX8_readPerson 40 = .ok (.bipush (-9), 2) := by decide +kernel
theorem dX8_readPerson_42 : decode cX8_readPerson 42 = .ok (.goto 12, 3) := by decide +kernel
theorem dX8_readPerson_45 : decode cX8_readPerson 45 = .ok (.aload_n 0, 1) := by decide +kernel
theorem dX8_readPerson_46 : decode cX8_readPerson 46 = .ok (.bipush 48, 2) := by decide +kernel
theorem dX8_readPerson_48 : decode cX8_readPerson 48 = .ok (.iconst 0, 1) := by decide +kernel
theorem dX8_readPerson_49 : decode cX8_readPerson 49 = .ok (.bipush 9, 2) := by decide +kernel
theorem dX8_readPerson_51 : decode cX8_readPerson 51 = .ok (.invokevirtual 90, 3) := by decide +kernel
theorem dX8_readPerson_54 : decode cX8_readPerson 54 = .ok (.istore_n 3, 1) := by decide +kernel
theorem dX8_readPerson_55 : decode cX8_readPerson 55 = .ok (.iload_n 3, 1) := by decide +kernel
theorem dX8_readPerson_56 : decode cX8_readPerson 56 = .ok (.bipush (-9), 2) := by decide +kernel
theorem dX8_readPerson_58 : decode cX8_readPerson 58 = .ok (.if_icmp .ne 5, 3) := by decide +kernel
theorem dX8_readPerson_61 : decode cX8_readPerson 61 = .ok (.iconst 0, 1) := by decide +kernel
theorem dX8_readPerson_62 : decode cX8_readPerson 62 = .ok (.ireturn, 1) := by decide +kernel
theorem dX8_readPerson_63 : decode cX8_readPerson 63 = .ok (.aload_n 0, 1) := by decide +kernel
theorem dX8_readPerson_64 : decode cX8_readPerson 64 = .ok (.getfield 41, 3) := by decide +kernel
theorem dX8_readPerson_67 : decode cX8_readPerson 67 = .ok (.aload_n 0, 1) := by decide +kernel
theorem dX8_readPerson_68 : decode cX8_readPerson 68 = .ok (.getfield 94, 3) := by decide +kernel
theorem dX8_readPerson_71 : decode cX8_readPerson 71 = .ok (.iload_n 1, 1) := by decide +kernel
theorem dX8_readPerson_72 : decode cX8_readPerson 72 = .ok (.iastore, 1) := by decide +kernel
theorem dX8_readPerson_73 : decode cX8_readPerson 73 = .ok (.aload_n 0, 1) := by decide +kernel
theorem dX8_readPerson_74 : decode cX8_readPerson 74 = .ok (.getfield 44, 3) := by decide +kernel
theorem dX8_readPerson_77 : decode cX8_readPerson 77 = .ok (.aload_n 0, 1) := by decide +kernel
theorem dX8_readPerson_78 : decode cX8_readPerson 78 = .ok (.getfield 94, 3) := by decide +kernel
theorem dX8_readPerson_81 : decode cX8_readPerson 81 = .ok (.iload_n 2, 1) := by decide +kernel
theorem dX8_readPerson_82 : decode cX8_readPerson 82 = .ok (.iastore, 1) := by decide +kernel
theorem dX8_readPerson_83 : decode cX8_readPerson 83 = .ok (.aload_n 0, 1) := by decide +kernel
theorem dX8_readPerson_84 : decode cX8_readPerson 84 = .ok (.getfield 47, 3) := by decide +kernel
theorem dX8_readPerson_87 : decode cX8_readPerson 87 = .ok (.aload_n 0, 1) := by decide +kernel
theorem dX8_readPerson_88 : decode cX8_readPerson 88 = .ok (.getfield 94, 3) := by decide +kernel
theorem dX8_readPerson_91 : decode cX8_readPerson 91 = .ok (.iload_n 3, 1) := by decide +kernel
theorem dX8_readPerson_92 : decode cX8_readPerson 92 = .ok (.iastore, 1) := by decide +kernel
theorem dX8_readPerson_93 : decode cX8_readPerson 93 = .ok (.aload_n 0, 1) := by decide +kernel
theorem dX8_readPerson_94 : decode cX8_readPerson 94 = .ok (.getfield 50, 3) := by decide +kernel
theorem dX8_readPerson_97 : decode cX8_readPerson 97 = .ok (.aload_n 0, 1) := by decide +kernel
theorem dX8_readPerson_98 : decode cX8_readPerson 98 = .ok (.getfield 94, 3) := by decide +kernel
theorem dX8_readPerson_101 : decode cX8_readPerson 101 = .ok (.iconst 0, 1) := by decide +kernel
theorem dX8_readPerson_102 : decode cX8_readPerson 102 = .ok (.iastore, 1) := by decide +kernel
theorem dX8_readPerson_103 : decode cX8_readPerson 103 = .ok (.aload_n 0, 1) := by decide +kernel
theorem dX8_readPerson_104 : decode cX8_readPerson 104 = .ok (.dup, 1) := by decide +kernel
theorem dX8_readPerson_105 : decode cX8_readPerson 105 = .ok (.getfield 94, 3) := by decide +kernel
theorem dX8_readPerson_108 : decode cX8_readPerson 108 = .ok (.iconst 1, 1) := by decide +kernel
theorem dX8_readPerson_109 : decode cX8_readPerson 109 = .ok (.iadd, 1) := by decide +kernel
theorem dX8_readPerson_110 : decode cX8_readPerson 110 = .ok (.putfield 94, 3) := by decide +kernel
theorem dX8_readPerson_113 : decode cX8_readPerson 113 = .ok (.iconst 1, 1) := by decide +kernel
theorem dX8_readPerson_114 : decode cX8_readPerson 114 = .ok (.ireturn, 1) := by decide +kernel
theorem dX8_left_0 : decode cX8_left 0 = .ok (.iconst 1, 1) := by decide +kernel
theorem dX8_left_1 : decode cX8_left 1 = .ok (.aload_n 0, 1) := by decide +kernel
theorem dX8_left_2 : decode cX8_left 2 = .ok (.getfield 94, 3) := by decide +kernel
theorem dX8_left_5 : decode cX8_left 5 = .ok (.ishl, 1) := by decide +kernel
theorem dX8_left_6 : decode cX8_left 6 = .ok (.iconst 1, 1) := by decide +kernel
theorem dX8_left_7 : decode cX8_left 7 = .ok (.isub, 1) := by decide +kernel
theorem dX8_left_8 : decode cX8_left 8 = .ok (.iconst 1, 1) := by decide +kernel
theorem dX8_left_9 : decode cX8_left 9 = .ok (.iload_n 1, 1) := by decide +kernel
theorem dX8_left_10 : decode cX8_left 10 = .ok (.ishl, 1) := by decide +kernel
theorem dX8_left_11 : decode cX8_left 11 = .ok (.iconst (-1), 1) := by decide +kernel
theorem dX8_left_12 : decode cX8_left 12 = .ok (.ixor, 1) := by decide +kernel
theorem dX8_left_13 : decode cX8_left 13 = .ok (.iand, 1) := by decide +kernel
theorem dX8_left_14 : decode cX8_left 14 = .ok (.aload_n 0, 1) := by decide +kernel
theorem dX8_left_15 : decode cX8_left 15 = .ok (.getfield 50, 3) := by decide +kernel
theorem dX8_left_18 : decode cX8_left 18 = .ok (.iload_n 1, 1) := by decide +kernel
theorem dX8_left_19 : decode cX8_left 19 = .ok (.iaload, 1) := by decide +kernel
theorem dX8_left_20 : decode cX8_left 20 = .ok (.iconst (-1), 1) := by decide +kernel
theorem dX8_left_21 : decode cX8_left 21 = .ok (.ixor, 1) := by decide +kernel
theorem dX8_left_22 : decode cX8_left 22 = .ok (.iand, 1) := by decide +kernel
theorem dX8_left_23 : decode cX8_left 23 = .ok (.ireturn, 1) := by decide +kernel
theorem dX8_hasLeft_0 : decode cX8_hasLeft 0 = .ok (.iconst 0, 1) := by decide +kernel
theorem dX8_hasLeft_1 : decode cX8_hasLeft 1 = .ok (.istore_n 1, 1) := by decide +kernel
theorem dX8_hasLeft_2 : decode cX8_hasLeft 2 = .ok (.iconst 0, 1) := by decide +kernel
theorem dX8_hasLeft_3 : decode cX8_hasLeft 3 = .ok (.istore_n 2, 1) := by decide +kernel
theorem dX8_hasLeft_4 : decode cX8_hasLeft 4 = .ok (.iload_n 2, 1) := by decide +kernel
theorem dX8_hasLeft_5 : decode cX8_hasLeft 5 = .ok (.aload_n 0, 1) := by decide +kernel
theorem dX8_hasLeft_6 : decode cX8_hasLeft 6 = .ok (.getfield 94, 3) := by decide +kernel
theorem dX8_hasLeft_9 : decode cX8_hasLeft 9 = .ok (.if_icmp .ge 27, 3) := by decide +kernel
theorem dX8_hasLeft_12 : decode cX8_hasLeft 12 = .ok (.iload_n 1, 1) := by decide +kernel
theorem dX8_hasLeft_13 : decode cX8_hasLeft 13 = .ok (.ifCond .ne 11, 3) := by decide +kernel
theorem dX8_hasLeft_16 : decode cX8_hasLeft 16 = .ok (.aload_n 0, 1) := by decide +kernel
theorem dX8_hasLeft_17 : decode cX8_hasLeft 17 = .ok (.iload_n 2, 1) := by decide +kernel
theorem dX8_hasLeft_18 : decode cX8_hasLeft 18 = .ok (.invokevirtual 97, 3) := by decide +kernel
theorem dX8_hasLeft_21 : decode cX8_hasLeft 21 = .ok (.ifCond .eq 7, 3) := by decide +kernel
theorem dX8_hasLeft_24 : decode cX8_hasLeft 24 = .ok (.iconst 1, 1) := by decide +kernel
theorem dX8_hasLeft_25 : decode cX8_hasLeft 25 = .ok (.goto 4, 3) := by decide +kernel
theorem dX8_hasLeft_28 : decode cX8_hasLeft 28 = .ok (.iconst 0, 1) := by decide +kernel
theorem dX8_hasLeft_29 : decode cX8_hasLeft 29 = .ok (.istore_n 1, 1) := by decide +kernel
theorem dX8_hasLeft_30 : decode cX8_hasLeft 30 = .ok (.iinc 2 1, 3) := by decide +kernel
theorem dX8_hasLeft_33 : decode cX8_hasLeft 33 = .ok (.goto (-29), 3) := by decide +kernel
theorem dX8_hasLeft_36 : decode cX8_hasLeft 36 = .ok (.iload_n 1, 1) := by decide +kernel
theorem dX8_hasLeft_37 : decode cX8_hasLeft 37 = .ok (.ireturn, 1) := by decide +kernel
theorem dX8_readAsk_0 : decode cX8_readAsk 0 = .ok (.aload_n 0, 1) := by decide +kernel
theorem dX8_readAsk_1 : decode cX8_readAsk 1 = .ok (.getfield 84, 3) := by decide +kernel
theorem dX8_readAsk_4 : decode cX8_readAsk 4 = .ok (.aload_n 0, 1) := by decide +kernel
theorem dX8_readAsk_5 : decode cX8_readAsk 5 = .ok (.getfield 81, 3) := by decide +kernel
theorem dX8_readAsk_8 : decode cX8_readAsk 8 = .ok (.if_icmp .ge 18, 3) := by decide +kernel
theorem dX8_readAsk_11 : decode cX8_readAsk 11 = .ok (.aload_n 0, 1) := by decide +kernel
theorem dX8_readAsk_12 : decode cX8_readAsk 12 = .ok (.getfield 7, 3) := by decide +kernel
theorem dX8_readAsk_15 : decode cX8_readAsk 15 = .ok (.aload_n 0, 1) := by decide +kernel
theorem dX8_readAsk_16 : decode cX8_readAsk 16 = .ok (.getfield 84, 3) := by decide +kernel
theorem dX8_readAsk_19 : decode cX8_readAsk 19 = .ok (.iaload, 1) := by decide +kernel
theorem dX8_readAsk_20 : decode cX8_readAsk 20 = .ok (.bipush 48, 2) := by decide +kernel
theorem dX8_readAsk_22 : decode cX8_readAsk 22 = .ok (.isub, 1) := by decide +kernel
theorem dX8_readAsk_23 : decode cX8_readAsk 23 = .ok (.goto 5, 3) := by decide +kernel
theorem dX8_readAsk_26 : decode cX8_readAsk 26 = .ok (.bipush (-9), 2) := by decide +kernel
theorem dX8_readAsk_28 : decode cX8_readAsk 28 = .ok (.istore_n 1, 1) := by decide +kernel
theorem dX8_readAsk_29 : decode cX8_readAsk 29 = .ok (.iload_n 1, 1) := by decide +kernel
theorem dX8_readAsk_30 : decode cX8_readAsk 30 = .ok (.i2l, 1) := by decide +kernel
theorem dX8_readAsk_31 : decode cX8_readAsk 31 = .ok (.lconst 0, 1) := by decide +kernel
theorem dX8_readAsk_32 : decode cX8_readAsk 32 = .ok (.aload_n 0, 1) := by decide +kernel
theorem dX8_readAsk_33 : decode cX8_readAsk 33 = .ok (.getfield 94, 3) := by decide +kernel
theorem dX8_readAsk_36 : decode cX8_readAsk 36 = .ok (.iconst 1, 1) := by decide +kernel
theorem dX8_readAsk_37 : decode cX8_readAsk 37 = .ok (.isub, 1) := by decide +kernel
theorem dX8_readAsk_38 : decode cX8_readAsk 38 = .ok (.i2l, 1) := by decide +kernel
theorem dX8_readAsk_39 : decode cX8_readAsk 39 = .ok (.invokestatic 75, 3) := by decide +kernel
theorem dX8_readAsk_42 : decode cX8_readAsk 42 = .ok (.ifCond .eq 11, 3) := by decide +kernel
theorem dX8_readAsk_45 : decode cX8_readAsk 45 = .ok (.aload_n 0, 1) := by decide +kernel
theorem dX8_readAsk_46 : decode cX8_readAsk 46 = .ok (.iload_n 1, 1) := by decide +kernel
theorem dX8_readAsk_47 : decode cX8_readAsk 47 = .ok (.invokevirtual 97, 3) := by decide +kernel
theorem dX8_readAsk_50 : decode cX8_readAsk 50 = .ok (.ifCond .ne 5, 3) := by decide +kernel
theorem dX8_readAsk_53 : decode cX8_readAsk 53 = .ok (.iconst 0, 1) := by decide +kernel
theorem dX8_readAsk_54 : decode cX8_readAsk 54 = .ok (.ireturn, 1) := by decide +kernel
theorem dX8_readAsk_55 : decode cX8_readAsk 55 = .ok (.aload_n 0, 1) := by decide +kernel
theorem dX8_readAsk_56 : decode cX8_readAsk 56 = .ok (.dup, 1) := by decide +kernel
theorem dX8_readAsk_57 : decode cX8_readAsk 57 = .ok (.getfield 84, 3) := by decide +kernel
theorem dX8_readAsk_60 : decode cX8_readAsk 60 = .ok (.iconst 1, 1) := by decide +kernel
theorem dX8_readAsk_61 : decode cX8_readAsk 61 = .ok (.iadd, 1) := by decide +kernel
theorem dX8_readAsk_62 : decode cX8_readAsk 62 = .ok (.putfield 84, 3) := by decide +kernel
theorem dX8_readAsk_65 : decode cX8_readAsk 65 = .ok (.aload_n 0, 1) := by decide +kernel
theorem dX8_readAsk_66 : decode cX8_readAsk 66 = .ok (.getfield 84, 3) := by decide +kernel
theorem dX8_readAsk_69 : decode cX8_readAsk 69 = .ok (.aload_n 0, 1) := by decide +kernel
theorem dX8_readAsk_70 : decode cX8_readAsk 70 = .ok (.getfield 81, 3) := by decide +kernel
theorem dX8_readAsk_73 : decode cX8_readAsk 73 = .ok (.if_icmp .ge 18, 3) := by decide +kernel
theorem dX8_readAsk_76 : decode cX8_readAsk 76 = .ok (.aload_n 0, 1) := by decide +kernel
theorem dX8_readAsk_77 : decode cX8_readAsk 77 = .ok (.getfield 7, 3) := by decide +kernel
theorem dX8_readAsk_80 : decode cX8_readAsk 80 = .ok (.aload_n 0, 1) := by decide +kernel
theorem dX8_readAsk_81 : decode cX8_readAsk 81 = .ok (.getfield 84, 3) := by decide +kernel
theorem dX8_readAsk_84 : decode cX8_readAsk 84 = .ok (.iaload, 1) := by decide +kernel
theorem dX8_readAsk_85 : decode cX8_readAsk 85 = .ok (.bipush 48, 2) := by decide +kernel
theorem dX8_readAsk_87 : decode cX8_readAsk 87 = .ok (.isub, 1) := by decide +kernel
theorem dX8_readAsk_88 : decode cX8_readAsk 88 = .ok (.goto 5, 3) := by decide +kernel
theorem dX8_readAsk_91 : decode cX8_readAsk 91 = .ok (.bipush (-9), 2) := by decide +kernel
theorem dX8_readAsk_93 : decode cX8_readAsk 93 = .ok (.istore_n 2, 1) := by decide +kernel
theorem dX8_readAsk_94 : decode cX8_readAsk 94 = .ok (.iload_n 2, 1) := by decide +kernel
theorem dX8_readAsk_95 : decode cX8_readAsk 95 = .ok (.i2l, 1) := by decide +kernel
theorem dX8_readAsk_96 : decode cX8_readAsk 96 = .ok (.lconst 0, 1) := by decide +kernel
theorem dX8_readAsk_97 : decode cX8_readAsk 97 = .ok (.aload_n 0, 1) := by decide +kernel
theorem dX8_readAsk_98 : decode cX8_readAsk 98 = .ok (.getfield 94, 3) := by decide +kernel
theorem dX8_readAsk_101 : decode cX8_readAsk 101 = .ok (.iconst 1, 1) := by decide +kernel
theorem dX8_readAsk_102 : decode cX8_readAsk 102 = .ok (.isub, 1) := by decide +kernel
theorem dX8_readAsk_103 : decode cX8_readAsk 103 = .ok (.i2l, 1) := by decide +kernel
theorem dX8_readAsk_104 : decode cX8_readAsk 104 = .ok (.invokestatic 75, 3) := by decide +kernel
theorem dX8_readAsk_107 : decode cX8_readAsk 107 = .ok (.ifCond .eq 15, 3) := by decide +kernel
theorem dX8_readAsk_110 : decode cX8_readAsk 110 = .ok (.aload_n 0, 1) := by decide +kernel
theorem dX8_readAsk_111 : decode cX8_readAsk 111 = .ok (.iload_n 1, 1) := by decide +kernel
theorem dX8_readAsk_112 : decode cX8_readAsk 112 = .ok (.invokevirtual 97, 3) := by decide +kernel
theorem dX8_readAsk_115 : decode cX8_readAsk 115 = .ok (.iload_n 2, 1) := by decide +kernel
theorem dX8_readAsk_116 : decode cX8_readAsk 116 = .ok (.invokestatic 101, 3) := by decide +kernel
theorem dX8_readAsk_119 : decode cX8_readAsk 119 = .ok (.ifCond .ne 5, 3) := by decide +kernel
theorem dX8_readAsk_122 : decode cX8_readAsk 122 = .ok (.iconst 0, 1) := by decide +kernel
theorem dX8_readAsk_123 : decode cX8_readAsk 123 = .ok (.ireturn, 1) := by decide +kernel
theorem dX8_readAsk_124 : decode cX8_readAsk 124 = .ok (.aload_n 0, 1) := by decide +kernel
theorem dX8_readAsk_125 : decode cX8_readAsk 125 = .ok (.dup, 1) := by decide +kernel
theorem dX8_readAsk_126 : decode cX8_readAsk 126 = .ok (.getfield 84, 3) := by decide +kernel
theorem dX8_readAsk_129 : decode cX8_readAsk 129 = .ok (.iconst 1, 1) := by decide +kernel
theorem dX8_readAsk_130 : decode cX8_readAsk 130 = .ok (.iadd, 1) := by decide +kernel
theorem dX8_readAsk_131 : decode cX8_readAsk 131 = .ok (.putfield 84, 3) := by decide +kernel
theorem dX8_readAsk_134 : decode cX8_readAsk 134 = .ok (.aload_n 0, 1) := by decide +kernel
theorem dX8_readAsk_135 : decode cX8_readAsk 135 = .ok (.getfield 50, 3) := by decide +kernel
theorem dX8_readAsk_138 : decode cX8_readAsk 138 = .ok (.iload_n 1, 1) := by decide +kernel
theorem dX8_readAsk_139 : decode cX8_readAsk 139 = .ok (.dup2, 1) := by decide +kernel
theorem dX8_readAsk_140 : decode cX8_readAsk 140 = .ok (.iaload, 1) := by decide +kernel
theorem dX8_readAsk_141 : decode cX8_readAsk 141 = .ok (.iconst 1, 1) := by decide +kernel
theorem dX8_readAsk_142 : decode cX8_readAsk 142 = .ok (.iload_n 2, 1) := by decide +kernel
theorem dX8_readAsk_143 : decode cX8_readAsk 143 = .ok (.ishl, 1) := by decide +kernel
theorem dX8_readAsk_144 : decode cX8_readAsk 144 = .ok (.ior, 1) := by decide +kernel
theorem dX8_readAsk_145 : decode cX8_readAsk 145 = .ok (.iastore, 1) := by decide +kernel
theorem dX8_readAsk_146 : decode cX8_readAsk 146 = .ok (.aload_n 0, 1) := by decide +kernel
theorem dX8_readAsk_147 : decode cX8_readAsk 147 = .ok (.dup, 1) := by decide +kernel
theorem dX8_readAsk_148 : decode cX8_readAsk 148 = .ok (.getfield 105, 3) := by decide +kernel
theorem dX8_readAsk_151 : decode cX8_readAsk 151 = .ok (.iconst 1, 1) := by decide +kernel
theorem dX8_readAsk_152 : decode cX8_readAsk 152 = .ok (.iadd, 1) := by decide +kernel
theorem dX8_readAsk_153 : decode cX8_readAsk 153 = .ok (.putfield 105, 3) := by decide +kernel
theorem dX8_readAsk_156 : decode cX8_readAsk 156 = .ok (.iconst 1, 1) := by decide +kernel
theorem dX8_readAsk_157 : decode cX8_readAsk 157 = .ok (.ireturn, 1) := by decide +kernel
theorem dX8_readPart_0 : decode cX8_readPart 0 = .ok (.aload_n 0, 1) := by decide +kernel
theorem dX8_readPart_1 : decode cX8_readPart 1 = .ok (.getfield 7, 3) := by decide +kernel
theorem dX8_readPart_4 : decode cX8_readPart 4 = .ok (.aload_n 0, 1) := by decide +kernel
theorem dX8_readPart_5 : decode cX8_readPart 5 = .ok (.getfield 84, 3) := by decide +kernel
theorem dX8_readPart_8 : decode cX8_readPart 8 = .ok (.iaload, 1) := by decide +kernel
theorem dX8_readPart_9 : decode cX8_readPart 9 = .ok (.istore_n 1, 1) := by decide +kernel
theorem dX8_readPart_10 : decode cX8_readPart 10 = .ok (.iload_n 1, 1) := by decide +kernel
theorem dX8_readPart_11 : decode cX8_readPart 11 = .ok (.bipush 80, 2) := by decide +kernel
theorem dX8_readPart_13 : decode cX8_readPart 13 = .ok (.if_icmp .ne 27, 3) := by decide +kernel
theorem dX8_readPart_16 : decode cX8_readPart 16 = .ok (.aload_n 0, 1) := by decide +kernel
theorem dX8_readPart_17 : decode cX8_readPart 17 = .ok (.getfield 94, 3) := by decide +kernel
theorem dX8_readPart_20 : decode cX8_readPart 20 = .ok (.bipush 8, 2) := by decide +kernel
theorem dX8_readPart_22 : decode cX8_readPart 22 = .ok (.if_icmp .ge 18, 3) := by decide +kernel
theorem dX8_readPart_25 : decode cX8_readPart 25 = .ok (.aload_n 0, 1) := by decide +kernel
theorem dX8_readPart_26 : decode cX8_readPart 26 = .ok (.dup, 1) := by decide +kernel
theorem dX8_readPart_27 : decode cX8_readPart 27 = .ok (.getfield 84, 3) := by decide +kernel
theorem dX8_readPart_30 : decode cX8_readPart 30 = .ok (.iconst 1, 1) := by decide +kernel
theorem dX8_readPart_31 : decode cX8_readPart 31 = .ok (.iadd, 1) := by decide +kernel
theorem dX8_readPart_32 : decode cX8_readPart 32 = .ok (.putfield 84, 3) := by decide +kernel
theorem dX8_readPart_35 : decode cX8_readPart 35 = .ok (.aload_n 0, 1) := by decide +kernel
theorem dX8_readPart_36 : decode cX8_readPart 36 = .ok (.invokevirtual 108, 3) := by decide +kernel
theorem dX8_readPart_39 : decode cX8_readPart 39 = .ok (.ireturn, 1) := by decide +kernel
theorem dX8_readPart_40 : decode cX8_readPart 40 = .ok (.iload_n 1, 1) := by decide +kernel
theorem dX8_readPart_41 : decode cX8_readPart 41 = .ok (.bipush 65, 2) := by decide +kernel
theorem dX8_readPart_43 : decode cX8_readPart 43 = .ok (.if_icmp .ne 34, 3) := by decide +kernel
theorem dX8_readPart_46 : decode cX8_readPart 46 = .ok (.aload_n 0, 1) := by decide +kernel
theorem dX8_readPart_47 : decode cX8_readPart 47 = .ok (.getfield 105, 3) := by decide +kernel
theorem dX8_readPart_50 : decode cX8_readPart 50 = .ok (.bipush 12, 2) := by decide +kernel
theorem dX8_readPart_52 : decode cX8_readPart 52 = .ok (.if_icmp .ge 25, 3) := by decide +kernel
theorem dX8_readPart_55 : decode cX8_readPart 55 = .ok (.aload_n 0, 1) := by decide +kernel
theorem dX8_readPart_56 : decode cX8_readPart 56 = .ok (.invokevirtual 112, 3) := by decide +kernel
theorem dX8_readPart_59 : decode cX8_readPart 59 = .ok (.ifCond .eq 18, 3) := by decide +kernel
theorem dX8_readPart_62 : decode cX8_readPart 62 = .ok (.aload_n 0, 1) := by decide +kernel
theorem dX8_readPart_63 : decode cX8_readPart 63 = .ok (.dup, 1) := by decide +kernel
theorem dX8_readPart_64 : decode cX8_readPart 64 = .ok (.getfield 84, 3) := by decide +kernel
theorem dX8_readPart_67 : decode cX8_readPart 67 = .ok (.iconst 1, 1) := by decide +kernel
theorem dX8_readPart_68 : decode cX8_readPart 68 = .ok (.iadd, 1) := by decide +kernel
theorem dX8_readPart_69 : decode cX8_readPart 69 = .ok (.putfield 84, 3) := by decide +kernel
theorem dX8_readPart_72 : decode cX8_readPart 72 = .ok (.aload_n 0, 1) := by decide +kernel
theorem dX8_readPart_73 : decode cX8_readPart 73 = .ok (.invokevirtual 115, 3) := by decide +kernel
theorem dX8_readPart_76 : decode cX8_readPart 76 = .ok (.ireturn, 1) := by decide +kernel
theorem dX8_readPart_77 : decode cX8_readPart 77 = .ok (.iconst 0, 1) := by decide +kernel
theorem dX8_readPart_78 : decode cX8_readPart 78 = .ok (.ireturn, 1) := by decide +kernel
theorem dX8_readCensus_0 : decode cX8_readCensus 0 = .ok (.aload_n 0, 1) := by decide +kernel
theorem dX8_readCensus_1 : decode cX8_readCensus 1 = .ok (.iconst 0, 1) := by decide +kernel
theorem dX8_readCensus_2 : decode cX8_readCensus 2 = .ok (.putfield 84, 3) := by decide +kernel
theorem dX8_readCensus_5 : decode cX8_readCensus 5 = .ok (.aload_n 0, 1) := by decide +kernel
theorem dX8_readCensus_6 : decode cX8_readCensus 6 = .ok (.iconst 0, 1) := by decide +kernel
theorem dX8_readCensus_7 : decode cX8_readCensus 7 = .ok (.putfield 94, 3) := by decide +kernel
theorem dX8_readCensus_10 : decode cX8_readCensus 10 = .ok (.aload_n 0, 1) := by decide +kernel
theorem dX8_readCensus_11 : decode cX8_readCensus 11 = .ok (.iconst 0, 1) := by decide +kernel
theorem dX8_readCensus_12 : decode cX8_readCensus 12 = .ok (.putfield 105, 3) := by decide +kernel
theorem dX8_readCensus_15 : decode cX8_readCensus 15 = .ok (.aload_n 0, 1) := by decide +kernel
theorem dX8_readCensus_16 : decode cX8_readCensus 16 = .ok (.getfield 81, 3) := by decide +kernel
theorem dX8_readCensus_19 : decode cX8_readCensus 19 = .ok (.ifCond .eq 14, 3) := by decide +kernel
theorem dX8_readCensus_22 : decode cX8_readCensus 22 = .ok (.aload_n 0, 1) := by decide +kernel
theorem dX8_readCensus_23 : decode cX8_readCensus 23 = .ok (.getfield 7, 3) := by decide +kernel
theorem dX8_readCensus_26 : decode cX8_readCensus 26 = .ok (.iconst 0, 1) := by decide +kernel
theorem dX8_readCensus_27 : decode cX8_readCensus 27 = .ok (.iaload, 1) := by decide +kernel
theorem dX8_readCensus_28 : decode cX8_readCensus 28 = .ok (.bipush 90, 2) := by decide +kernel
theorem dX8_readCensus_30 : decode cX8_readCensus 30 = .ok (.if_icmp .eq 5, 3) := by decide +kernel
theorem dX8_readCensus_33 : decode cX8_readCensus 33 = .ok (.iconst 0, 1) := by decide +kernel
theorem dX8_readCensus_34 : decode cX8_readCensus 34 = .ok (.ireturn, 1) := by decide +kernel
theorem dX8_readCensus_35 : decode cX8_readCensus 35 = .ok (.aload_n 0, 1) := by decide +kernel
theorem dX8_readCensus_36 : decode cX8_readCensus 36 = .ok (.iconst 1, 1) := by decide +kernel
theorem dX8_readCensus_37 : decode cX8_readCensus 37 = .ok (.putfield 84, 3) := by decide +kernel
theorem dX8_readCensus_40 : decode cX8_readCensus 40 = .ok (.aload_n 0, 1) := by decide +kernel
theorem dX8_readCensus_41 : decode cX8_readCensus 41 = .ok (.aload_n 0, 1) := by decide +kernel
theorem dX8_readCensus_42 : decode cX8_readCensus 42 = .ok (.bipush 48, 2) := by decide +kernel
theorem dX8_readCensus_44 : decode cX8_readCensus 44 = .ok (.iconst 0, 1) := by decide +kernel
theorem dX8_readCensus_45 : decode cX8_readCensus 45 = .ok (.iconst 2, 1) := by decide +kernel
theorem dX8_readCensus_46 : decode cX8_readCensus 46 = .ok (.invokevirtual 90, 3) := by decide +kernel
theorem dX8_readCensus_49 : decode cX8_readCensus 49 = .ok (.putfield 118, 3) := by decide +kernel
theorem dX8_readCensus_52 : decode cX8_readCensus 52 = .ok (.aload_n 0, 1) := by decide +kernel
theorem dX8_readCensus_53 : decode cX8_readCensus 53 = .ok (.aload_n 0, 1) := by decide +kernel
theorem dX8_readCensus_54 : decode cX8_readCensus 54 = .ok (.getfield 118, 3) := by decide +kernel
theorem dX8_readCensus_57 : decode cX8_readCensus 57 = .ok (.bipush (-9), 2) := by decide +kernel
theorem dX8_readCensus_59 : decode cX8_readCensus 59 = .ok (.if_icmp .ne 8, 3) := by decide +kernel
theorem dX8_readCensus_62 : decode cX8_readCensus 62 = .ok (.bipush (-9), 2) := by decide +kernel
theorem dX8_readCensus_64 : decode cX8_readCensus 64 = .ok (.goto 11, 3) := by decide +kernel
theorem dX8_readCensus_67 : decode cX8_readCensus 67 = .ok (.aload_n 0, 1) := by decide +kernel
theorem dX8_readCensus_68 : decode cX8_readCensus 68 = .ok (.bipush 48, 2) := by decide +kernel
theorem dX8_readCensus_70 : decode cX8_readCensus 70 = .ok (.iconst 1, 1) := by decide +kernel
theorem dX8_readCensus_71 : decode cX8_readCensus 71 = .ok (.iconst 4, 1) := by decide +kernel
theorem dX8_readCensus_72 : decode cX8_readCensus 72 = .ok (.invokevirtual 90, 3) := by decide +kernel
theorem dX8_readCensus_75 : decode cX8_readCensus 75 = .ok (.putfield 87, 3) := by decide +kernel
theorem dX8_readCensus_78 : decode cX8_readCensus 78 = .ok (.aload_n 0, 1) := by decide +kernel
theorem dX8_readCensus_79 : decode cX8_readCensus 79 = .ok (.getfield 87, 3) := by decide +kernel
theorem dX8_readCensus_82 : decode cX8_readCensus 82 = .ok (.bipush (-9), 2) := by decide +kernel
theorem dX8_readCensus_84 : decode cX8_readCensus 84 = .ok (.if_icmp .ne 8, 3) := by decide +kernel
theorem dX8_readCensus_87 : decode cX8_readCensus 87 = .ok (.aload_n 0, 1) := by decide +kernel
theorem dX8_readCensus_88 : decode cX8_readCensus 88 = .ok (.getfield 84, 3) := by decide +kernel
theorem dX8_readCensus_91 : decode cX8_readCensus 91 = .ok (.ireturn, 1) := by decide +kernel
theorem dX8_readCensus_92 : decode cX8_readCensus 92 = .ok (.aload_n 0, 1) := by decide +kernel
theorem dX8_readCensus_93 : decode cX8_readCensus 93 = .ok (.getfield 84, 3) := by decide +kernel
theorem dX8_readCensus_96 : decode cX8_readCensus 96 = .ok (.aload_n 0, 1) := by decide +kernel
theorem dX8_readCensus_97 : decode cX8_readCensus 97 = .ok (.getfield 81, 3) := by decide +kernel
theorem dX8_readCensus_100 : decode cX8_readCensus 100 = .ok (.if_icmp .ge 15, 3) := by decide +kernel
theorem dX8_readCensus_103 : decode cX8_readCensus 103 = .ok (.aload_n 0, 1) := by decide +kernel
theorem dX8_readCensus_104 : decode cX8_readCensus 104 = .ok (.invokevirtual 121, 3) := by decide +kernel
theorem dX8_readCensus_107 : decode cX8_readCensus 107 = .ok (.ifCond .ne (-15), 3) := by decide +kernel
theorem dX8_readCensus_110 : decode cX8_readCensus 110 = .ok (.aload_n 0, 1) := by decide +kernel
theorem dX8_readCensus_111 : decode cX8_readCensus 111 = .ok (.getfield 84, 3) := by decide +kernel
theorem dX8_readCensus_114 : decode cX8_readCensus 114 = .ok (.ireturn, 1) := by decide +kernel
theorem dX8_readCensus_115 : decode cX8_readCensus 115 = .ok (.bipush (-9), 2) := by decide +kernel
theorem dX8_readCensus_117 : decode cX8_readCensus 117 = .ok (.ireturn, 1) := by decide +kernel
theorem dX8_fault_0 : decode cX8_fault 0 = .ok (.aload_n 0, 1) := by decide +kernel
theorem dX8_fault_1 : decode cX8_fault 1 = .ok (.iconst 0, 1) := by decide +kernel
theorem dX8_fault_2 : decode cX8_fault 2 = .ok (.putfield 69, 3) := by decide +kernel
theorem dX8_fault_5 : decode cX8_fault 5 = .ok (.aload_n 0, 1) := by decide +kernel
theorem dX8_fault_6 : decode cX8_fault 6 = .ok (.invokevirtual 124, 3) := by decide +kernel
theorem dX8_fault_9 : decode cX8_fault 9 = .ok (.ireturn, 1) := by decide +kernel
theorem dX8_census_0 : decode cX8_census 0 = .ok (.aload_n 0, 1) := by decide +kernel
theorem dX8_census_1 : decode cX8_census 1 = .ok (.iconst 0, 1) := by decide +kernel
theorem dX8_census_2 : decode cX8_census 2 = .ok (.putfield 69, 3) := by decide +kernel
theorem dX8_census_5 : decode cX8_census 5 = .ok (.aload_n 0, 1) := by decide +kernel
theorem dX8_census_6 : decode cX8_census 6 = .ok (.invokevirtual 124, 3) := by decide +kernel
theorem dX8_census_9 : decode cX8_census 9 = .ok (.bipush (-9), 2) := by decide +kernel
theorem dX8_census_11 : decode cX8_census 11 = .ok (.if_icmp .eq 6, 3) := by decide +kernel
theorem dX8_census_14 : decode cX8_census 14 = .ok (.bipush (-3), 2) := by decide +kernel
theorem dX8_census_16 : decode cX8_census 16 = .ok (.ireturn, 1) := by decide +kernel
theorem dX8_census_17 : decode cX8_census 17 = .ok (.aload_n 0, 1) := by decide +kernel
theorem dX8_census_18 : decode cX8_census 18 = .ok (.aload_n 0, 1) := by decide +kernel
theorem dX8_census_19 : decode cX8_census 19 = .ok (.getfield 118, 3) := by decide +kernel
theorem dX8_census_22 : decode cX8_census 22 = .ok (.putfield 128, 3) := by decide +kernel
theorem dX8_census_25 : decode cX8_census 25 = .ok (.aload_n 0, 1) := by decide +kernel
theorem dX8_census_26 : decode cX8_census 26 = .ok (.aload_n 0, 1) := by decide +kernel
theorem dX8_census_27 : decode cX8_census 27 = .ok (.getfield 87, 3) := by decide +kernel
theorem dX8_census_30 : decode cX8_census 30 = .ok (.putfield 13, 3) := by decide +kernel
theorem dX8_census_33 : decode cX8_census 33 = .ok (.aload_n 0, 1) := by decide +kernel
theorem dX8_census_34 : decode cX8_census 34 = .ok (.aload_n 0, 1) := by decide +kernel
theorem dX8_census_35 : decode cX8_census 35 = .ok (.getfield 94, 3) := by decide +kernel
theorem dX8_census_38 : decode cX8_census 38 = .ok (.putfield 72, 3) := by decide +kernel
theorem dX8_census_41 : decode cX8_census 41 = .ok (.iconst 0, 1) := by decide +kernel
theorem dX8_census_42 : decode cX8_census 42 = .ok (.istore_n 1, 1) := by decide +kernel
theorem dX8_census_43 : decode cX8_census 43 = .ok (.iload_n 1, 1) := by decide +kernel
theorem dX8_census_44 : decode cX8_census 44 = .ok (.aload_n 0, 1) := by decide +kernel
theorem dX8_census_45 : decode cX8_census 45 = .ok (.getfield 72, 3) := by decide +kernel
theorem dX8_census_48 : decode cX8_census 48 = .ok (.if_icmp .ge 84, 3) := by decide +kernel
theorem dX8_census_51 : decode cX8_census 51 = .ok (.aload_n 0, 1) := by decide +kernel
theorem dX8_census_52 : decode cX8_census 52 = .ok (.getfield 17, 3) := by decide +kernel
theorem dX8_census_55 : decode cX8_census 55 = .ok (.iload_n 1, 1) := by decide +kernel
theorem dX8_census_56 : decode cX8_census 56 = .ok (.aload_n 0, 1) := by decide +kernel
theorem dX8_census_57 : decode cX8_census 57 = .ok (.getfield 41, 3) := by decide +kernel
theorem dX8_census_60 : decode cX8_census 60 = .ok (.iload_n 1, 1) := by decide +kernel
theorem dX8_census_61 : decode cX8_census 61 = .ok (.iaload, 1) := by decide +kernel
theorem dX8_census_62 : decode cX8_census 62 = .ok (.iastore, 1) := by decide +kernel
theorem dX8_census_63 : decode cX8_census 63 = .ok (.aload_n 0, 1) := by decide +kernel
theorem dX8_census_64 : decode cX8_census 64 = .ok (.getfield 20, 3) := by decide +kernel
theorem dX8_census_67 : decode cX8_census 67 = .ok (.iload_n 1, 1) := by decide +kernel
theorem dX8_census_68 : decode cX8_census 68 = .ok (.aload_n 0, 1) := by decide +kernel
theorem dX8_census_69 : decode cX8_census 69 = .ok (.getfield 44, 3) := by decide +kernel
theorem dX8_census_72 : decode cX8_census 72 = .ok (.iload_n 1, 1) := by decide +kernel
theorem dX8_census_73 : decode cX8_census 73 = .ok (.iaload, 1) := by decide +kernel
theorem dX8_census_74 : decode cX8_census 74 = .ok (.iastore, 1) := by decide +kernel
theorem dX8_census_75 : decode cX8_census 75 = .ok (.aload_n 0, 1) := by decide +kernel
theorem dX8_census_76 : decode cX8_census 76 = .ok (.getfield 23, 3) := by decide +kernel
theorem dX8_census_79 : decode cX8_census 79 = .ok (.iload_n 1, 1) := by decide +kernel
theorem dX8_census_80 : decode cX8_census 80 = .ok (.aload_n 0, 1) := by decide +kernel
theorem dX8_census_81 : decode cX8_census 81 = .ok (.getfield 47, 3) := by decide +kernel
theorem dX8_census_84 : decode cX8_census 84 = .ok (.iload_n 1, 1) := by decide +kernel
theorem dX8_census_85 : decode cX8_census 85 = .ok (.iaload, 1) := by decide +kernel
theorem dX8_census_86 : decode cX8_census 86 = .ok (.iastore, 1) := by decide +kernel
theorem dX8_census_87 : decode cX8_census 87 = .ok (.aload_n 0, 1) := by decide +kernel
theorem dX8_census_88 : decode cX8_census 88 = .ok (.getfield 26, 3) := by decide +kernel
theorem dX8_census_91 : decode cX8_census 91 = .ok (.iload_n 1, 1) := by decide +kernel
theorem dX8_census_92 : decode cX8_census 92 = .ok (.aload_n 0, 1) := by decide +kernel
theorem dX8_census_93 : decode cX8_census 93 = .ok (.getfield 50, 3) := by decide +kernel
theorem dX8_census_96 : decode cX8_census 96 = .ok (.iload_n 1, 1) := by decide +kernel
theorem dX8_census_97 : decode cX8_census 97 = .ok (.iaload, 1) := by decide +kernel
theorem dX8_census_98 : decode cX8_census 98 = .ok (.iastore, 1) := by decide +kernel
theorem dX8_census_99 : decode cX8_census 99 = .ok (.aload_n 0, 1) := by decide +kernel
theorem dX8_census_100 : decode cX8_census 100 = .ok (.getfield 29, 3) := by decide +kernel
theorem dX8_census_103 : decode cX8_census 103 = .ok (.iload_n 1, 1) := by decide +kernel
theorem dX8_census_104 : decode cX8_census 104 = .ok (.aload_n 0, 1) := by decide +kernel
theorem dX8_census_105 : decode cX8_census 105 = .ok (.getfield 17, 3) := by decide +kernel
theorem dX8_census_108 : decode cX8_census 108 = .ok (.iload_n 1, 1) := by decide +kernel
theorem dX8_census_109 : decode cX8_census 109 = .ok (.iaload, 1) := by decide +kernel
theorem dX8_census_110 : decode cX8_census 110 = .ok (.iastore, 1) := by decide +kernel
theorem dX8_census_111 : decode cX8_census 111 = .ok (.aload_n 0, 1) := by decide +kernel
theorem dX8_census_112 : decode cX8_census 112 = .ok (.getfield 32, 3) := by decide +kernel
theorem dX8_census_115 : decode cX8_census 115 = .ok (.iload_n 1, 1) := by decide +kernel
theorem dX8_census_116 : decode cX8_census 116 = .ok (.iconst 0, 1) := by decide +kernel
theorem dX8_census_117 : decode cX8_census 117 = .ok (.iastore, 1) := by decide +kernel
theorem dX8_census_118 : decode cX8_census 118 = .ok (.aload_n 0, 1) := by decide +kernel
theorem dX8_census_119 : decode cX8_census 119 = .ok (.getfield 35, 3) := by decide +kernel
theorem dX8_census_122 : decode cX8_census 122 = .ok (.iload_n 1, 1) := by decide +kernel
theorem dX8_census_123 : decode cX8_census 123 = .ok (.bipush (-9), 2) := by decide +kernel
theorem dX8_census_125 : decode cX8_census 125 = .ok (.iastore, 1) := by decide +kernel
theorem dX8_census_126 : decode cX8_census 126 = .ok (.iinc 1 1, 3) := by decide +kernel
theorem dX8_census_129 : decode cX8_census 129 = .ok (.goto (-86), 3) := by decide +kernel
theorem dX8_census_132 : decode cX8_census 132 = .ok (.iconst 0, 1) := by decide +kernel
theorem dX8_census_133 : decode cX8_census 133 = .ok (.istore_n 1, 1) := by decide +kernel
theorem dX8_census_134 : decode cX8_census 134 = .ok (.iload_n 1, 1) := by decide +kernel
theorem dX8_census_135 : decode cX8_census 135 = .ok (.iconst 4, 1) := by decide +kernel
theorem dX8_census_136 : decode cX8_census 136 = .ok (.if_icmp .ge 16, 3) := by decide +kernel
theorem dX8_census_139 : decode cX8_census 139 = .ok (.aload_n 0, 1) := by decide +kernel
theorem dX8_census_140 : decode cX8_census 140 = .ok (.getfield 38, 3) := by decide +kernel
theorem dX8_census_143 : decode cX8_census 143 = .ok (.iload_n 1, 1) := by decide +kernel
theorem dX8_census_144 : decode cX8_census 144 = .ok (.iconst 0, 1) := by decide +kernel
theorem dX8_census_145 : decode cX8_census 145 = .ok (.iastore, 1) := by decide +kernel
theorem dX8_census_146 : decode cX8_census 146 = .ok (.iinc 1 1, 3) := by decide +kernel
theorem dX8_census_149 : decode cX8_census 149 = .ok (.goto (-15), 3) := by decide +kernel
theorem dX8_census_152 : decode cX8_census 152 = .ok (.aload_n 0, 1) := by decide +kernel
theorem dX8_census_153 : decode cX8_census 153 = .ok (.iconst 0, 1) := by decide +kernel
theorem dX8_census_154 : decode cX8_census 154 = .ok (.putfield 131, 3) := by decide +kernel
theorem dX8_census_157 : decode cX8_census 157 = .ok (.aload_n 0, 1) := by decide +kernel
theorem dX8_census_158 : decode cX8_census 158 = .ok (.iconst 0, 1) := by decide +kernel
theorem dX8_census_159 : decode cX8_census 159 = .ok (.putfield 134, 3) := by decide +kernel
theorem dX8_census_162 : decode cX8_census 162 = .ok (.aload_n 0, 1) := by decide +kernel
theorem dX8_census_163 : decode cX8_census 163 = .ok (.getfield 59, 3) := by decide +kernel
theorem dX8_census_166 : decode cX8_census 166 = .ok (.iconst 0, 1) := by decide +kernel
theorem dX8_census_167 : decode cX8_census 167 = .ok (.iconst 0, 1) := by decide +kernel
theorem dX8_census_168 : decode cX8_census 168 = .ok (.bastore, 1) := by decide +kernel
theorem dX8_census_169 : decode cX8_census 169 = .ok (.aload_n 0, 1) := by decide +kernel
theorem dX8_census_170 : decode cX8_census 170 = .ok (.getfield 59, 3) := by decide +kernel
theorem dX8_census_173 : decode cX8_census 173 = .ok (.iconst 1, 1) := by decide +kernel
theorem dX8_census_174 : decode cX8_census 174 = .ok (.iconst 0, 1) := by decide +kernel
theorem dX8_census_175 : decode cX8_census 175 = .ok (.bastore, 1) := by decide +kernel
theorem dX8_census_176 : decode cX8_census 176 = .ok (.aload_n 0, 1) := by decide +kernel
theorem dX8_census_177 : decode cX8_census 177 = .ok (.getfield 72, 3) := by decide +kernel
theorem dX8_census_180 : decode cX8_census 180 = .ok (.ireturn, 1) := by decide +kernel
theorem dX8_away_0 : decode cX8_away 0 = .ok (.aload_n 0, 1) := by decide +kernel
theorem dX8_away_1 : decode cX8_away 1 = .ok (.getfield 29, 3) := by decide +kernel
theorem dX8_away_4 : decode cX8_away 4 = .ok (.iload_n 1, 1) := by decide +kernel
theorem dX8_away_5 : decode cX8_away 5 = .ok (.iaload, 1) := by decide +kernel
theorem dX8_away_6 : decode cX8_away 6 = .ok (.aload_n 0, 1) := by decide +kernel
theorem dX8_away_7 : decode cX8_away 7 = .ok (.getfield 17, 3) := by decide +kernel
theorem dX8_away_10 : decode cX8_away 10 = .ok (.iload_n 1, 1) := by decide +kernel
theorem dX8_away_11 : decode cX8_away 11 = .ok (.iaload, 1) := by decide +kernel
theorem dX8_away_12 : decode cX8_away 12 = .ok (.if_icmp .ge 19, 3) := by decide +kernel
theorem dX8_away_15 : decode cX8_away 15 = .ok (.aload_n 0, 1) := by decide +kernel
theorem dX8_away_16 : decode cX8_away 16 = .ok (.getfield 17, 3) := by decide +kernel
theorem dX8_away_19 : decode cX8_away 19 = .ok (.iload_n 1, 1) := by decide +kernel
theorem dX8_away_20 : decode cX8_away 20 = .ok (.iaload, 1) := by decide +kernel
theorem dX8_away_21 : decode cX8_away 21 = .ok (.aload_n 0, 1) := by decide +kernel
theorem dX8_away_22 : decode cX8_away 22 = .ok (.getfield 29, 3) := by decide +kernel
theorem dX8_away_25 : decode cX8_away 25 = .ok (.iload_n 1, 1) := by decide +kernel
theorem dX8_away_26 : decode cX8_away 26 = .ok (.iaload, 1) := by decide +kernel
theorem dX8_away_27 : decode cX8_away 27 = .ok (.isub, 1) := by decide +kernel
theorem dX8_away_28 : decode cX8_away 28 = .ok (.goto 16, 3) := by decide +kernel
theorem dX8_away_31 : decode cX8_away 31 = .ok (.aload_n 0, 1) := by decide +kernel
theorem dX8_away_32 : decode cX8_away 32 = .ok (.getfield 29, 3) := by decide +kernel
theorem dX8_away_35 : decode cX8_away 35 = .ok (.iload_n 1, 1) := by decide +kernel
theorem dX8_away_36 : decode cX8_away 36 = .ok (.iaload, 1) := by decide +kernel
theorem dX8_away_37 : decode cX8_away 37 = .ok (.aload_n 0, 1) := by decide +kernel
theorem dX8_away_38 : decode cX8_away 38 = .ok (.getfield 17, 3) := by decide +kernel
theorem dX8_away_41 : decode cX8_away 41 = .ok (.iload_n 1, 1) := by decide +kernel
theorem dX8_away_42 : decode cX8_away 42 = .ok (.iaload, 1) := by decide +kernel
theorem dX8_away_43 : decode cX8_away 43 = .ok (.isub, 1) := by decide +kernel
theorem dX8_away_44 : decode cX8_away 44 = .ok (.ireturn, 1) := by decide +kernel
theorem dX8_isMissing_0 : decode cX8_isMissing 0 = .ok (.aload_n 0, 1) := by decide +kernel
theorem dX8_isMissing_1 : decode cX8_isMissing 1 = .ok (.getfield 35, 3) := by decide +kernel
theorem dX8_isMissing_4 : decode cX8_isMissing 4 = .ok (.iload_n 1, 1) := by decide +kernel
theorem dX8_isMissing_5 : decode cX8_isMissing 5 = .ok (.iaload, 1) := by decide +kernel
theorem dX8_isMissing_6 : decode cX8_isMissing 6 = .ok (.bipush (-9), 2) := by decide +kernel
theorem dX8_isMissing_8 : decode cX8_isMissing 8 = .ok (.if_icmp .ne 26, 3) := by decide +kernel
theorem dX8_isMissing_11 : decode cX8_isMissing 11 = .ok (.aload_n 0, 1) := by decide +kernel
theorem dX8_isMissing_12 : decode cX8_isMissing 12 = .ok (.getfield 29, 3) := by decide +kernel
theorem dX8_isMissing_15 : decode cX8_isMissing 15 = .ok (.iload_n 1, 1) := by decide +kernel
theorem dX8_isMissing_16 : decode cX8_isMissing 16 = .ok (.iaload, 1) := by decide +kernel
theorem dX8_isMissing_17 : decode cX8_isMissing 17 = .ok (.aload_n 0, 1) := by decide +kernel
theorem dX8_isMissing_18 : decode cX8_isMissing 18 = .ok (.getfield 17, 3) := by decide +kernel
theorem dX8_isMissing_21 : decode cX8_isMissing 21 = .ok (.iload_n 1, 1) := by decide +kernel
theorem dX8_isMissing_22 : decode cX8_isMissing 22 = .ok (.iaload, 1) := by decide +kernel
theorem dX8_isMissing_23 : decode cX8_isMissing 23 = .ok (.if_icmp .eq 7, 3) := by decide +kernel
theorem dX8_isMissing_26 : decode cX8_isMissing 26 = .ok (.iconst 1, 1) := by decide +kernel
theorem dX8_isMissing_27 : decode cX8_isMissing 27 = .ok (.goto 28, 3) := by decide +kernel
theorem dX8_isMissing_30 : decode cX8_isMissing 30 = .ok (.iconst 0, 1) := by decide +kernel
theorem dX8_isMissing_31 : decode cX8_isMissing 31 = .ok (.goto 24, 3) := by decide +kernel
theorem dX8_isMissing_34 : decode cX8_isMissing 34 = .ok (.iload_n 2, 1) := by decide +kernel
theorem dX8_isMissing_35 : decode cX8_isMissing 35 = .ok (.aload_n 0, 1) := by decide +kernel
theorem dX8_isMissing_36 : decode cX8_isMissing 36 = .ok (.getfield 35, 3) := by decide +kernel
theorem dX8_isMissing_39 : decode cX8_isMissing 39 = .ok (.iload_n 1, 1) := by decide +kernel
theorem dX8_isMissing_40 : decode cX8_isMissing 40 = .ok (.iaload, 1) := by decide +kernel
theorem dX8_isMissing_41 : decode cX8_isMissing 41 = .ok (.aload_n 0, 1) := by decide +kernel
theorem dX8_isMissing_42 : decode cX8_isMissing 42 = .ok (.iload_n 1, 1) := by decide +kernel
theorem dX8_isMissing_43 : decode cX8_isMissing 43 = .ok (.invokevirtual 137, 3) := by decide +kernel
theorem dX8_isMissing_46 : decode cX8_isMissing 46 = .ok (.iadd, 1) := by decide +kernel
theorem dX8_isMissing_47 : decode cX8_isMissing 47 = .ok (.if_icmp .ge 7, 3) := by decide +kernel
theorem dX8_isMissing_50 : decode cX8_isMissing 50 = .ok (.iconst 1, 1) := by decide +kernel
theorem dX8_isMissing_51 : decode cX8_isMissing 51 = .ok (.goto 4, 3) := by decide +kernel
theorem dX8_isMissing_54 : decode cX8_isMissing 54 = .ok (.iconst 0, 1) := by decide +kernel
theorem dX8_isMissing_55 : decode cX8_isMissing 55 = .ok (.ireturn, 1) := by decide +kernel
theorem dX8_isThere_0 : decode cX8_isThere 0 = .ok (.aload_n 0, 1) := by decide +kernel
theorem dX8_isThere_1 : decode cX8_isThere 1 = .ok (.getfield 35, 3) := by decide +kernel
theorem dX8_isThere_4 : decode cX8_isThere 4 = .ok (.iload_n 1, 1) := by decide +kernel
theorem dX8_isThere_5 : decode cX8_isThere 5 = .ok (.iaload, 1) := by decide +kernel
theorem dX8_isThere_6 : decode cX8_isThere 6 = .ok (.bipush (-9), 2) := by decide +kernel
theorem dX8_isThere_8 : decode cX8_isThere 8 = .ok (.if_icmp .ne 22, 3) := by decide +kernel
theorem dX8_isThere_11 : decode cX8_isThere 11 = .ok (.aload_n 0, 1) := by decide +kernel
theorem dX8_isThere_12 : decode cX8_isThere 12 = .ok (.getfield 29, 3) := by decide +kernel
theorem dX8_isThere_15 : decode cX8_isThere 15 = .ok (.iload_n 1, 1) := by decide +kernel
theorem dX8_isThere_16 : decode cX8_isThere 16 = .ok (.iaload, 1) := by decide +kernel
theorem dX8_isThere_17 : decode cX8_isThere 17 = .ok (.aload_n 0, 1) := by decide +kernel
theorem dX8_isThere_18 : decode cX8_isThere 18 = .ok (.getfield 17, 3) := by decide +kernel
theorem dX8_isThere_21 : decode cX8_isThere 21 = .ok (.iload_n 1, 1) := by decide +kernel
theorem dX8_isThere_22 : decode cX8_isThere 22 = .ok (.iaload, 1) := by decide +kernel
theorem dX8_isThere_23 : decode cX8_isThere 23 = .ok (.if_icmp .ne 7, 3) := by decide +kernel
theorem dX8_isThere_26 : decode cX8_isThere 26 = .ok (.iconst 1, 1) := by decide +kernel
theorem dX8_isThere_27 : decode cX8_isThere 27 = .ok (.goto 4, 3) := by decide +kernel
theorem dX8_isThere_30 : decode cX8_isThere 30 = .ok (.iconst 0, 1) := by decide +kernel
theorem dX8_isThere_31 : decode cX8_isThere 31 = .ok (.ireturn, 1) := by decide +kernel
theorem dX8_remembers_0 : decode cX8_remembers 0 = .ok (.iload_n 3, 1) := by decide +kernel
theorem dX8_remembers_1 : decode cX8_remembers 1 = .ok (.aload_n 0, 1) := by decide +kernel
theorem dX8_remembers_2 : decode cX8_remembers 2 = .ok (.getfield 32, 3) := by decide +kernel
theorem dX8_remembers_5 : decode cX8_remembers 5 = .ok (.iload_n 2, 1) := by decide +kernel
theorem dX8_remembers_6 : decode cX8_remembers 6 = .ok (.iaload, 1) := by decide +kernel
theorem dX8_remembers_7 : decode cX8_remembers 7 = .ok (.isub, 1) := by decide +kernel
theorem dX8_remembers_8 : decode cX8_remembers 8 = .ok (.aload_n 0, 1) := by decide +kernel
theorem dX8_remembers_9 : decode cX8_remembers 9 = .ok (.getfield 23, 3) := by decide +kernel
theorem dX8_remembers_12 : decode cX8_remembers 12 = .ok (.iload_n 1, 1) := by decide +kernel
theorem dX8_remembers_13 : decode cX8_remembers 13 = .ok (.iaload, 1) := by decide +kernel
theorem dX8_remembers_14 : decode cX8_remembers 14 = .ok (.if_icmp .gt 7, 3) := by decide +kernel
theorem dX8_remembers_17 : decode cX8_remembers 17 = .ok (.iconst 1, 1) := by decide +kernel
theorem dX8_remembers_18 : decode cX8_remembers 18 = .ok (.goto 4, 3) := by decide +kernel
theorem dX8_remembers_21 : decode cX8_remembers 21 = .ok (.iconst 0, 1) := by decide +kernel
theorem dX8_remembers_22 : decode cX8_remembers 22 = .ok (.ireturn, 1) := by decide +kernel
theorem dX8_misses_0 : decode cX8_misses 0 = .ok (.iconst 0, 1) := by decide +kernel
theorem dX8_misses_1 : decode cX8_misses 1 = .ok (.istore_n 3, 1) := by decide +kernel
theorem dX8_misses_2 : decode cX8_misses 2 = .ok (.iconst 0, 1) := by decide +kernel
theorem dX8_misses_3 : decode cX8_misses 3 = .ok (.istore 4, 2) := by decide +kernel
theorem dX8_misses_5 : decode cX8_misses 5 = .ok (.iload 4, 2) := by decide +kernel
theorem dX8_misses_7 : decode cX8_misses 7 = .ok (.aload_n 0, 1) := by decide +kernel
theorem dX8_misses_8 : decode cX8_misses 8 = .ok (.getfield 72, 3) := by decide +kernel
theorem dX8_misses_11 : decode cX8_misses 11 = .ok (.if_icmp .ge 91, 3) := by decide +kernel
theorem dX8_misses_14 : decode cX8_misses 14 = .ok (.aload_n 0, 1) := by decide +kernel
theorem dX8_misses_15 : decode cX8_misses 15 = .ok (.getfield 26, 3) := by decide +kernel
theorem dX8_misses_18 : decode cX8_misses 18 = .ok (.iload_n 1, 1) := by decide +kernel
theorem dX8_misses_19 : decode cX8_misses 19 = .ok (.iaload, 1) := by decide +kernel
theorem dX8_misses_20 : decode cX8_misses 20 = .ok (.iload 4, 2) := by decide +kernel
theorem dX8_misses_22 : decode cX8_misses 22 = .ok (.invokestatic 101, 3) := by decide +kernel
theorem dX8_misses_25 : decode cX8_misses 25 = .ok (.ifCond .eq 52, 3) := by decide +kernel
theorem dX8_misses_28 : decode cX8_misses 28 = .ok (.aload_n 0, 1) := by decide +kernel
theorem dX8_misses_29 : decode cX8_misses 29 = .ok (.getfield 17, 3) := by decide +kernel
theorem dX8_misses_32 : decode cX8_misses 32 = .ok (.iload_n 1, 1) := by decide +kernel
theorem dX8_misses_33 : decode cX8_misses 33 = .ok (.iaload, 1) := by decide +kernel
theorem dX8_misses_34 : decode cX8_misses 34 = .ok (.aload_n 0, 1) := by decide +kernel
theorem dX8_misses_35 : decode cX8_misses 35 = .ok (.getfield 17, 3) := by decide +kernel
theorem dX8_misses_38 : decode cX8_misses 38 = .ok (.iload 4, 2) := by decide +kernel
theorem dX8_misses_40 : decode cX8_misses 40 = .ok (.iaload, 1) := by decide +kernel
theorem dX8_misses_41 : decode cX8_misses 41 = .ok (.if_icmp .ne 36, 3) := by decide +kernel
theorem dX8_misses_44 : decode cX8_misses 44 = .ok (.aload_n 0, 1) := by decide +kernel
theorem dX8_misses_45 : decode cX8_misses 45 = .ok (.iload_n 1, 1) := by decide +kernel
theorem dX8_misses_46 : decode cX8_misses 46 = .ok (.invokevirtual 140, 3) := by decide +kernel
theorem dX8_misses_49 : decode cX8_misses 49 = .ok (.ifCond .eq 28, 3) := by decide +kernel
theorem dX8_misses_52 : decode cX8_misses 52 = .ok (.aload_n 0, 1) := by decide +kernel
theorem dX8_misses_53 : decode cX8_misses 53 = .ok (.iload 4, 2) := by decide +kernel
theorem dX8_misses_55 : decode cX8_misses 55 = .ok (.iload_n 2, 1) := by decide +kernel
theorem dX8_misses_56 : decode cX8_misses 56 = .ok (.invokevirtual 144, 3) := by decide +kernel
theorem dX8_misses_59 : decode cX8_misses 59 = .ok (.ifCond .eq 18, 3) := by decide +kernel
theorem dX8_misses_62 : decode cX8_misses 62 = .ok (.aload_n 0, 1) := by decide +kernel
theorem dX8_misses_63 : decode cX8_misses 63 = .ok (.iload_n 1, 1) := by decide +kernel
theorem dX8_misses_64 : decode cX8_misses 64 = .ok (.iload 4, 2) := by decide +kernel
theorem dX8_misses_66 : decode cX8_misses 66 = .ok (.iload_n 2, 1) := by decide +kernel
theorem dX8_misses_67 : decode cX8_misses 67 = .ok (.invokevirtual 147, 3) := by decide +kernel
theorem dX8_misses_70 : decode cX8_misses 70 = .ok (.ifCond .eq 7, 3) := by decide +kernel
theorem dX8_misses_73 : decode cX8_misses 73 = .ok (.iconst 1, 1) := by decide +kernel
theorem dX8_misses_74 : decode cX8_misses 74 = .ok (.goto 4, 3) := by decide +kernel
theorem dX8_misses_77 : decode cX8_misses 77 = .ok (.iconst 0, 1) := by decide +kernel
theorem dX8_misses_78 : decode cX8_misses 78 = .ok (.istore 5, 2) := by decide +kernel
theorem dX8_misses_80 : decode cX8_misses 80 = .ok (.iload_n 3, 1) := by decide +kernel
theorem dX8_misses_81 : decode cX8_misses 81 = .ok (.iload 5, 2) := by decide +kernel
theorem dX8_misses_83 : decode cX8_misses 83 = .ok (.ifCond .eq 10, 3) := by decide +kernel
theorem dX8_misses_86 : decode cX8_misses 86 = .ok (.iconst 1, 1) := by decide +kernel
theorem dX8_misses_87 : decode cX8_misses 87 = .ok (.iload 4, 2) := by decide +kernel
theorem dX8_misses_89 : decode cX8_misses 89 = .ok (.ishl, 1) := by decide +kernel
theorem dX8_misses_90 : decode cX8_misses 90 = .ok (.goto 4, 3) := by decide +kernel
theorem dX8_misses_93 : decode cX8_misses 93 = .ok (.iconst 0, 1) := by decide +kernel
theorem dX8_misses_94 : decode cX8_misses 94 = .ok (.ior, 1) := by decide +kernel
theorem dX8_misses_95 : decode cX8_misses 95 = .ok (.istore_n 3, 1) := by decide +kernel
theorem dX8_misses_96 : decode cX8_misses 96 = .ok (.iinc 4 1, 3) := by decide +kernel
theorem dX8_misses_99 : decode cX8_misses 99 = .ok (.goto (-94), 3) := by decide +kernel
theorem dX8_misses_102 : decode cX8_misses 102 = .ok (.iload_n 3, 1) := by decide +kernel
theorem dX8_misses_103 : decode cX8_misses 103 = .ok (.ireturn, 1) := by decide +kernel
theorem dX8_atHome_0 : decode cX8_atHome 0 = .ok (.iconst 0, 1) := by decide +kernel
theorem dX8_atHome_1 : decode cX8_atHome 1 = .ok (.istore_n 2, 1) := by decide +kernel
theorem dX8_atHome_2 : decode cX8_atHome 2 = .ok (.iconst 0, 1) := by decide +kernel
theorem dX8_atHome_3 : decode cX8_atHome 3 = .ok (.istore_n 3, 1) := by decide +kernel
theorem dX8_atHome_4 : decode cX8_atHome 4 = .ok (.iload_n 3, 1) := by decide +kernel
theorem dX8_atHome_5 : decode cX8_atHome 5 = .ok (.aload_n 0, 1) := by decide +kernel
theorem dX8_atHome_6 : decode cX8_atHome 6 = .ok (.getfield 72, 3) := by decide +kernel
theorem dX8_atHome_9 : decode cX8_atHome 9 = .ok (.if_icmp .ge 29, 3) := by decide +kernel
theorem dX8_atHome_12 : decode cX8_atHome 12 = .ok (.iload_n 2, 1) := by decide +kernel
theorem dX8_atHome_13 : decode cX8_atHome 13 = .ok (.aload_n 0, 1) := by decide +kernel
theorem dX8_atHome_14 : decode cX8_atHome 14 = .ok (.getfield 17, 3) := by decide +kernel
theorem dX8_atHome_17 : decode cX8_atHome 17 = .ok (.iload_n 3, 1) := by decide +kernel
theorem dX8_atHome_18 : decode cX8_atHome 18 = .ok (.iaload, 1) := by decide +kernel
theorem dX8_atHome_19 : decode cX8_atHome 19 = .ok (.iload_n 1, 1) := by decide +kernel
theorem dX8_atHome_20 : decode cX8_atHome 20 = .ok (.if_icmp .ne 9, 3) := by decide +kernel
theorem dX8_atHome_23 : decode cX8_atHome 23 = .ok (.iconst 1, 1) := by decide +kernel
theorem dX8_atHome_24 : decode cX8_atHome 24 = .ok (.iload_n 3, 1) := by decide +kernel
theorem dX8_atHome_25 : decode cX8_atHome 25 = .ok (.ishl, 1) := by decide +kernel
theorem dX8_atHome_26 : decode cX8_atHome 26 = .ok (.goto 4, 3) := by decide +kernel
theorem dX8_atHome_29 : decode cX8_atHome 29 = .ok (.iconst 0, 1) := by decide +kernel
theorem dX8_atHome_30 : decode cX8_atHome 30 = .ok (.ior, 1) := by decide +kernel
theorem dX8_atHome_31 : decode cX8_atHome 31 = .ok (.istore_n 2, 1) := by decide +kernel
theorem dX8_atHome_32 : decode cX8_atHome 32 = .ok (.iinc 3 1, 3) := by decide +kernel
theorem dX8_atHome_35 : decode cX8_atHome 35 = .ok (.goto (-31), 3) := by decide +kernel
theorem dX8_atHome_38 : decode cX8_atHome 38 = .ok (.iload_n 2, 1) := by decide +kernel
theorem dX8_atHome_39 : decode cX8_atHome 39 = .ok (.ireturn, 1) := by decide +kernel
theorem dX8_counted_0 : decode cX8_counted 0 = .ok (.aload_n 0, 1) := by decide +kernel
theorem dX8_counted_1 : decode cX8_counted 1 = .ok (.getfield 128, 3) := by decide +kernel
theorem dX8_counted_4 : decode cX8_counted 4 = .ok (.ifCond .ne 5, 3) := by decide +kernel
theorem dX8_counted_7 : decode cX8_counted 7 = .ok (.iload_n 1, 1) := by decide +kernel
theorem dX8_counted_8 : decode cX8_counted 8 = .ok (.ireturn, 1) := by decide +kernel
theorem dX8_counted_9 : decode cX8_counted 9 = .ok (.aload_n 0, 1) := by decide +kernel
theorem dX8_counted_10 : decode cX8_counted 10 = .ok (.getfield 128, 3) := by decide +kernel
theorem dX8_counted_13 : decode cX8_counted 13 = .ok (.iconst 1, 1) := by decide +kernel
theorem dX8_counted_14 : decode cX8_counted 14 = .ok (.if_icmp .ne 8, 3) := by decide +kernel
theorem dX8_counted_17 : decode cX8_counted 17 = .ok (.iload_n 2, 1) := by decide +kernel
theorem dX8_counted_18 : decode cX8_counted 18 = .ok (.invokestatic 151, 3) := by decide +kernel
theorem dX8_counted_21 : decode cX8_counted 21 = .ok (.ireturn, 1) := by decide +kernel
theorem dX8_counted_22 : decode cX8_counted 22 = .ok (.iconst 0, 1) := by decide +kernel
theorem dX8_counted_23 : decode cX8_counted 23 = .ok (.istore_n 3, 1) := by decide +kernel
theorem dX8_counted_24 : decode cX8_counted 24 = .ok (.iconst 0, 1) := by decide +kernel
theorem dX8_counted_25 : decode cX8_counted 25 = .ok (.istore 4, 2) := by decide +kernel
theorem dX8_counted_27 : decode cX8_counted 27 = .ok (.iload 4, 2) := by decide +kernel
theorem dX8_counted_29 : decode cX8_counted 29 = .ok (.aload_n 0, 1) := by decide +kernel
theorem dX8_counted_30 : decode cX8_counted 30 = .ok (.getfield 72, 3) := by decide +kernel
theorem dX8_counted_33 : decode cX8_counted 33 = .ok (.if_icmp .ge 34, 3) := by decide +kernel
theorem dX8_counted_36 : decode cX8_counted 36 = .ok (.iload_n 3, 1) := by decide +kernel
theorem dX8_counted_37 : decode cX8_counted 37 = .ok (.iload_n 2, 1) := by decide +kernel
theorem dX8_counted_38 : decode cX8_counted 38 = .ok (.iload 4, 2) := by decide +kernel
theorem dX8_counted_40 : decode cX8_counted 40 = .ok (.invokestatic 101, 3) := by decide +kernel
theorem dX8_counted_43 : decode cX8_counted 43 = .ok (.ifCond .eq 15, 3) := by decide +kernel
theorem dX8_counted_46 : decode cX8_counted 46 = .ok (.iconst 1, 1) := by decide +kernel
theorem dX8_counted_47 : decode cX8_counted 47 = .ok (.aload_n 0, 1) := by decide +kernel
theorem dX8_counted_48 : decode cX8_counted 48 = .ok (.getfield 20, 3) := by decide +kernel
theorem dX8_counted_51 : decode cX8_counted 51 = .ok (.iload 4, 2) := by decide +kernel
theorem dX8_counted_53 : decode cX8_counted 53 = .ok (.iaload, 1) := by decide +kernel
theorem dX8_counted_54 : decode cX8_counted 54 = .ok (.ishl, 1) := by decide +kernel
theorem dX8_counted_55 : decode cX8_counted 55 = .ok (.goto 4, 3) := by decide +kernel
theorem dX8_counted_58 : decode cX8_counted 58 = .ok (.iconst 0, 1) := by decide +kernel
theorem dX8_counted_59 : decode cX8_counted 59 = .ok (.ior, 1) := by decide +kernel
theorem dX8_counted_60 : decode cX8_counted 60 = .ok (.istore_n 3, 1) := by decide +kernel
theorem dX8_counted_61 : decode cX8_counted 61 = .ok (.iinc 4 1, 3) := by decide +kernel
theorem dX8_counted_64 : decode cX8_counted 64 = .ok (.goto (-37), 3) := by decide +kernel
theorem dX8_counted_67 : decode cX8_counted 67 = .ok (.iload_n 3, 1) := by decide +kernel
theorem dX8_counted_68 : decode cX8_counted 68 = .ok (.invokestatic 151, 3) := by decide +kernel
theorem dX8_counted_71 : decode cX8_counted 71 = .ok (.ireturn, 1) := by decide +kernel
theorem dX8_count_0 : decode cX8_count 0 = .ok (.iconst 0, 1) := by decide +kernel
theorem dX8_count_1 : decode cX8_count 1 = .ok (.istore_n 3, 1) := by decide +kernel
theorem dX8_count_2 : decode cX8_count 2 = .ok (.iconst 0, 1) := by decide +kernel
theorem dX8_count_3 : decode cX8_count 3 = .ok (.istore 4, 2) := by decide +kernel
theorem dX8_count_5 : decode cX8_count 5 = .ok (.iconst 0, 1) := by decide +kernel
theorem dX8_count_6 : decode cX8_count 6 = .ok (.istore 5, 2) := by decide +kernel
theorem dX8_count_8 : decode cX8_count 8 = .ok (.iload 5, 2) := by decide +kernel
theorem dX8_count_10 : decode cX8_count 10 = .ok (.aload_n 0, 1) := by decide +kernel
theorem dX8_count_11 : decode cX8_count 11 = .ok (.getfield 72, 3) := by decide +kernel
theorem dX8_count_14 : decode cX8_count 14 = .ok (.if_icmp .ge 60, 3) := by decide +kernel
theorem dX8_count_17 : decode cX8_count 17 = .ok (.aload_n 0, 1) := by decide +kernel
theorem dX8_count_18 : decode cX8_count 18 = .ok (.getfield 17, 3) := by decide +kernel
theorem dX8_count_21 : decode cX8_count 21 = .ok (.iload 5, 2) := by decide +kernel
theorem dX8_count_23 : decode cX8_count 23 = .ok (.iaload, 1) := by decide +kernel
theorem dX8_count_24 : decode cX8_count 24 = .ok (.iload_n 1, 1) := by decide +kernel
theorem dX8_count_25 : decode cX8_count 25 = .ok (.if_icmp .ne 43, 3) := by decide +kernel
theorem dX8_count_28 : decode cX8_count 28 = .ok (.iload_n 2, 1) := by decide +kernel
theorem dX8_count_29 : decode cX8_count 29 = .ok (.iload 5, 2) := by decide +kernel
theorem dX8_count_31 : decode cX8_count 31 = .ok (.invokestatic 101, 3) := by decide +kernel
theorem dX8_count_34 : decode cX8_count 34 = .ok (.ifCond .ne 34, 3) := by decide +kernel
theorem dX8_count_37 : decode cX8_count 37 = .ok (.iload_n 3, 1) := by decide +kernel
theorem dX8_count_38 : decode cX8_count 38 = .ok (.aload_n 0, 1) := by decide +kernel
theorem dX8_count_39 : decode cX8_count 39 = .ok (.iload 5, 2) := by decide +kernel
theorem dX8_count_41 : decode cX8_count 41 = .ok (.aload_n 0, 1) := by decide +kernel
theorem dX8_count_42 : decode cX8_count 42 = .ok (.getfield 131, 3) := by decide +kernel
theorem dX8_count_45 : decode cX8_count 45 = .ok (.invokevirtual 154, 3) := by decide +kernel
theorem dX8_count_48 : decode cX8_count 48 = .ok (.invokestatic 151, 3) := by decide +kernel
theorem dX8_count_51 : decode cX8_count 51 = .ok (.iadd, 1) := by decide +kernel
theorem dX8_count_52 : decode cX8_count 52 = .ok (.istore_n 3, 1) := by decide +kernel
theorem dX8_count_53 : decode cX8_count 53 = .ok (.iload 4, 2) := by decide +kernel
theorem dX8_count_55 : decode cX8_count 55 = .ok (.aload_n 0, 1) := by decide +kernel
theorem dX8_count_56 : decode cX8_count 56 = .ok (.iload 5, 2) := by decide +kernel
theorem dX8_count_58 : decode cX8_count 58 = .ok (.aload_n 0, 1) := by decide +kernel
theorem dX8_count_59 : decode cX8_count 59 = .ok (.getfield 131, 3) := by decide +kernel
theorem dX8_count_62 : decode cX8_count 62 = .ok (.invokevirtual 154, 3) := by decide +kernel
theorem dX8_count_65 : decode cX8_count 65 = .ok (.ior, 1) := by decide +kernel
theorem dX8_count_66 : decode cX8_count 66 = .ok (.istore 4, 2) := by decide +kernel
theorem dX8_count_68 : decode cX8_count 68 = .ok (.iinc 5 1, 3) := by decide +kernel
theorem dX8_count_71 : decode cX8_count 71 = .ok (.goto (-63), 3) := by decide +kernel
theorem dX8_count_74 : decode cX8_count 74 = .ok (.aload_n 0, 1) := by decide +kernel
theorem dX8_count_75 : decode cX8_count 75 = .ok (.iload_n 3, 1) := by decide +kernel
theorem dX8_count_76 : decode cX8_count 76 = .ok (.iload 4, 2) := by decide +kernel
theorem dX8_count_78 : decode cX8_count 78 = .ok (.invokevirtual 158, 3) := by decide +kernel
theorem dX8_count_81 : decode cX8_count 81 = .ok (.ireturn, 1) := by decide +kernel
theorem dX8_missed_0 : decode cX8_missed 0 = .ok (.iconst 0, 1) := by decide +kernel
theorem dX8_missed_1 : decode cX8_missed 1 = .ok (.istore_n 2, 1) := by decide +kernel
theorem dX8_missed_2 : decode cX8_missed 2 = .ok (.iconst 0, 1) := by decide +kernel
theorem dX8_missed_3 : decode cX8_missed 3 = .ok (.istore_n 3, 1) := by decide +kernel
theorem dX8_missed_4 : decode cX8_missed 4 = .ok (.iload_n 3, 1) := by decide +kernel
theorem dX8_missed_5 : decode cX8_missed 5 = .ok (.aload_n 0, 1) := by decide +kernel
theorem dX8_missed_6 : decode cX8_missed 6 = .ok (.getfield 72, 3) := by decide +kernel
theorem dX8_missed_9 : decode cX8_missed 9 = .ok (.if_icmp .ge 18, 3) := by decide +kernel
theorem dX8_missed_12 : decode cX8_missed 12 = .ok (.iload_n 2, 1) := by decide +kernel
theorem dX8_missed_13 : decode cX8_missed 13 = .ok (.aload_n 0, 1) := by decide +kernel
theorem dX8_missed_14 : decode cX8_missed 14 = .ok (.iload_n 3, 1) := by decide +kernel
theorem dX8_missed_15 : decode cX8_missed 15 = .ok (.iload_n 1, 1) := by decide +kernel
theorem dX8_missed_16 : decode cX8_missed 16 = .ok (.invokevirtual 154, 3) := by decide +kernel
theorem dX8_missed_19 : decode cX8_missed 19 = .ok (.ior, 1) := by decide +kernel
theorem dX8_missed_20 : decode cX8_missed 20 = .ok (.istore_n 2, 1) := by decide +kernel
theorem dX8_missed_21 : decode cX8_missed 21 = .ok (.iinc 3 1, 3) := by decide +kernel
theorem dX8_missed_24 : decode cX8_missed 24 = .ok (.goto (-20), 3) := by decide +kernel
theorem dX8_missed_27 : decode cX8_missed 27 = .ok (.iload_n 2, 1) := by decide +kernel
theorem dX8_missed_28 : decode cX8_missed 28 = .ok (.ireturn, 1) := by decide +kernel
theorem dX8_about_0 : decode cX8_about 0 = .ok (.aload_n 0, 1) := by decide +kernel
theorem dX8_about_1 : decode cX8_about 1 = .ok (.iconst 0, 1) := by decide +kernel
theorem dX8_about_2 : decode cX8_about 2 = .ok (.putfield 69, 3) := by decide +kernel
theorem dX8_about_5 : decode cX8_about 5 = .ok (.iconst 0, 1) := by decide +kernel
theorem dX8_about_6 : decode cX8_about 6 = .ok (.istore_n 2, 1) := by decide +kernel
theorem dX8_about_7 : decode cX8_about 7 = .ok (.iconst 0, 1) := by decide +kernel
theorem dX8_about_8 : decode cX8_about 8 = .ok (.istore_n 3, 1) := by decide +kernel
theorem dX8_about_9 : decode cX8_about 9 = .ok (.iconst 0, 1) := by decide +kernel
theorem dX8_about_10 : decode cX8_about 10 = .ok (.istore 4, 2) := by decide +kernel
theorem dX8_about_12 : decode cX8_about 12 = .ok (.iload 4, 2) := by decide +kernel
theorem dX8_about_14 : decode cX8_about 14 = .ok (.aload_n 0, 1) := by decide +kernel
theorem dX8_about_15 : decode cX8_about 15 = .ok (.getfield 72, 3) := by decide +kernel
theorem dX8_about_18 : decode cX8_about 18 = .ok (.if_icmp .ge 45, 3) := by decide +kernel
theorem dX8_about_21 : decode cX8_about 21 = .ok (.iload_n 2, 1) := by decide +kernel
theorem dX8_about_22 : decode cX8_about 22 = .ok (.aload_n 0, 1) := by decide +kernel
theorem dX8_about_23 : decode cX8_about 23 = .ok (.getfield 35, 3) := by decide +kernel
theorem dX8_about_26 : decode cX8_about 26 = .ok (.iload 4, 2) := by decide +kernel
theorem dX8_about_28 : decode cX8_about 28 = .ok (.iaload, 1) := by decide +kernel
theorem dX8_about_29 : decode cX8_about 29 = .ok (.bipush (-9), 2) := by decide +kernel
theorem dX8_about_31 : decode cX8_about 31 = .ok (.if_icmp .ne 10, 3) := by decide +kernel
theorem dX8_about_34 : decode cX8_about 34 = .ok (.iconst 1, 1) := by decide +kernel
theorem dX8_about_35 : decode cX8_about 35 = .ok (.iload 4, 2) := by decide +kernel
theorem dX8_about_37 : decode cX8_about 37 = .ok (.ishl, 1) := by decide +kernel
theorem dX8_about_38 : decode cX8_about 38 = .ok (.goto 4, 3) := by decide +kernel
theorem dX8_about_41 : decode cX8_about 41 = .ok (.iconst 0, 1) := by decide +kernel
theorem dX8_about_42 : decode cX8_about 42 = .ok (.ior, 1) := by decide +kernel
theorem dX8_about_43 : decode cX8_about 43 = .ok (.istore_n 2, 1) := by decide +kernel
theorem dX8_about_44 : decode cX8_about 44 = .ok (.iload_n 3, 1) := by decide +kernel
theorem dX8_about_45 : decode cX8_about 45 = .ok (.aload_n 0, 1) := by decide +kernel
theorem dX8_about_46 : decode cX8_about 46 = .ok (.getfield 26, 3) := by decide +kernel
theorem dX8_about_49 : decode cX8_about 49 = .ok (.iload 4, 2) := by decide +kernel
theorem dX8_about_51 : decode cX8_about 51 = .ok (.iaload, 1) := by decide +kernel
theorem dX8_about_52 : decode cX8_about 52 = .ok (.invokestatic 151, 3) := by decide +kernel
theorem dX8_about_55 : decode cX8_about 55 = .ok (.iadd, 1) := by decide +kernel
theorem dX8_about_56 : decode cX8_about 56 = .ok (.istore_n 3, 1) := by decide +kernel
theorem dX8_about_57 : decode cX8_about 57 = .ok (.iinc 4 1, 3) := by decide +kernel
theorem dX8_about_60 : decode cX8_about 60 = .ok (.goto (-48), 3) := by decide +kernel
theorem dX8_about_63 : decode cX8_about 63 = .ok (.iload_n 1, 1) := by decide +kernel
theorem dX8_about_64 : decode cX8_about 64 = .ok (.tableswitch 95 0 8 #[52, 57, 62, 67, 72, 74, 83, 85, 90], 52) := by decide +kernel
theorem dX8_about_116 : decode cX8_about 116 = .ok (.aload_n 0, 1) := by decide +kernel
theorem dX8_about_117 : decode cX8_about 117 = .ok (.getfield 13, 3) := by decide +kernel
theorem dX8_about_120 : decode cX8_about 120 = .ok (.ireturn, 1) := by decide +kernel
theorem dX8_about_121 : decode cX8_about 121 = .ok (.aload_n 0, 1) := by decide +kernel
theorem dX8_about_122 : decode cX8_about 122 = .ok (.getfield 72, 3) := by decide +kernel
theorem dX8_about_125 : decode cX8_about 125 = .ok (.ireturn, 1) := by decide +kernel
theorem dX8_about_126 : decode cX8_about 126 = .ok (.aload_n 0, 1) := by decide +kernel
theorem dX8_about_127 : decode cX8_about 127 = .ok (.getfield 128, 3) := by decide +kernel
theorem dX8_about_130 : decode cX8_about 130 = .ok (.ireturn, 1) := by decide +kernel
theorem dX8_about_131 : decode cX8_about 131 = .ok (.aload_n 0, 1) := by decide +kernel
theorem dX8_about_132 : decode cX8_about 132 = .ok (.getfield 131, 3) := by decide +kernel
theorem dX8_about_135 : decode cX8_about 135 = .ok (.ireturn, 1) := by decide +kernel
theorem dX8_about_136 : decode cX8_about 136 = .ok (.iload_n 2, 1) := by decide +kernel
theorem dX8_about_137 : decode cX8_about 137 = .ok (.ireturn, 1) := by decide +kernel
theorem dX8_about_138 : decode cX8_about 138 = .ok (.aload_n 0, 1) := by decide +kernel
theorem dX8_about_139 : decode cX8_about 139 = .ok (.aload_n 0, 1) := by decide +kernel
theorem dX8_about_140 : decode cX8_about 140 = .ok (.getfield 131, 3) := by decide +kernel
theorem dX8_about_143 : decode cX8_about 143 = .ok (.invokevirtual 161, 3) := by decide +kernel
theorem dX8_about_146 : decode cX8_about 146 = .ok (.ireturn, 1) := by decide +kernel
theorem dX8_about_147 : decode cX8_about 147 = .ok (.iload_n 3, 1) := by decide +kernel
theorem dX8_about_148 : decode cX8_about 148 = .ok (.ireturn, 1) := by decide +kernel
theorem dX8_about_149 : decode cX8_about 149 = .ok (.aload_n 0, 1) := by decide +kernel
theorem dX8_about_150 : decode cX8_about 150 = .ok (.getfield 134, 3) := by decide +kernel
theorem dX8_about_153 : decode cX8_about 153 = .ok (.ireturn, 1) := by decide +kernel
theorem dX8_about_154 : decode cX8_about 154 = .ok (.aload_n 0, 1) := by decide +kernel
theorem dX8_about_155 : decode cX8_about 155 = .ok (.getfield 81, 3) := by decide +kernel
theorem dX8_about_158 : decode cX8_about 158 = .ok (.ireturn, 1) := by decide +kernel
theorem dX8_about_159 : decode cX8_about 159 = .ok (.bipush (-2), 2) := by decide +kernel
theorem dX8_about_161 : decode cX8_about 161 = .ok (.ireturn, 1) := by decide +kernel
theorem dX8_person_0 : decode cX8_person 0 = .ok (.aload_n 0, 1) := by decide +kernel
theorem dX8_person_1 : decode cX8_person 1 = .ok (.iconst 0, 1) := by decide +kernel
theorem dX8_person_2 : decode cX8_person 2 = .ok (.putfield 69, 3) := by decide +kernel
theorem dX8_person_5 : decode cX8_person 5 = .ok (.aload_n 0, 1) := by decide +kernel
theorem dX8_person_6 : decode cX8_person 6 = .ok (.iload_n 1, 1) := by decide +kernel
theorem dX8_person_7 : decode cX8_person 7 = .ok (.invokevirtual 164, 3) := by decide +kernel
theorem dX8_person_10 : decode cX8_person 10 = .ok (.ifCond .eq 5, 3) := by decide +kernel
theorem dX8_person_13 : decode cX8_person 13 = .ok (.iconst (-1), 1) := by decide +kernel
theorem dX8_person_14 : decode cX8_person 14 = .ok (.ireturn, 1) := by decide +kernel
theorem dX8_person_15 : decode cX8_person 15 = .ok (.iload_n 2, 1) := by decide +kernel
theorem dX8_person_16 : decode cX8_person 16 = .ok (.tableswitch 107 0 7 #[48, 55, 62, 69, 76, 83, 90, 97], 48) := by decide +kernel
theorem dX8_person_64 : decode cX8_person 64 = .ok (.aload_n 0, 1) := by decide +kernel
theorem dX8_person_65 : decode cX8_person 65 = .ok (.getfield 17, 3) := by decide +kernel
theorem dX8_person_68 : decode cX8_person 68 = .ok (.iload_n 1, 1) := by decide +kernel
theorem dX8_person_69 : decode cX8_person 69 = .ok (.iaload, 1) := by decide +kernel
theorem dX8_person_70 : decode cX8_person 70 = .ok (.ireturn, 1) := by decide +kernel
theorem dX8_person_71 : decode cX8_person 71 = .ok (.aload_n 0, 1) := by decide +kernel
theorem dX8_person_72 : decode cX8_person 72 = .ok (.getfield 20, 3) := by decide +kernel
theorem dX8_person_75 : decode cX8_person 75 = .ok (.iload_n 1, 1) := by decide +kernel
theorem dX8_person_76 : decode cX8_person 76 = .ok (.iaload, 1) := by decide +kernel
theorem dX8_person_77 : decode cX8_person 77 = .ok (.ireturn, 1) := by decide +kernel
theorem dX8_person_78 : decode cX8_person 78 = .ok (.aload_n 0, 1) := by decide +kernel
theorem dX8_person_79 : decode cX8_person 79 = .ok (.getfield 23, 3) := by decide +kernel
theorem dX8_person_82 : decode cX8_person 82 = .ok (.iload_n 1, 1) := by decide +kernel
theorem dX8_person_83 : decode cX8_person 83 = .ok (.iaload, 1) := by decide +kernel
theorem dX8_person_84 : decode cX8_person 84 = .ok (.ireturn, 1) := by decide +kernel
theorem dX8_person_85 : decode cX8_person 85 = .ok (.aload_n 0, 1) := by decide +kernel
theorem dX8_person_86 : decode cX8_person 86 = .ok (.getfield 29, 3) := by decide +kernel
theorem dX8_person_89 : decode cX8_person 89 = .ok (.iload_n 1, 1) := by decide +kernel
theorem dX8_person_90 : decode cX8_person 90 = .ok (.iaload, 1) := by decide +kernel
theorem dX8_person_91 : decode cX8_person 91 = .ok (.ireturn, 1) := by decide +kernel
theorem dX8_person_92 : decode cX8_person 92 = .ok (.aload_n 0, 1) := by decide +kernel
theorem dX8_person_93 : decode cX8_person 93 = .ok (.getfield 32, 3) := by decide +kernel
theorem dX8_person_96 : decode cX8_person 96 = .ok (.iload_n 1, 1) := by decide +kernel
theorem dX8_person_97 : decode cX8_person 97 = .ok (.iaload, 1) := by decide +kernel
theorem dX8_person_98 : decode cX8_person 98 = .ok (.ireturn, 1) := by decide +kernel
theorem dX8_person_99 : decode cX8_person 99 = .ok (.aload_n 0, 1) := by decide +kernel
theorem dX8_person_100 : decode cX8_person 100 = .ok (.getfield 35, 3) := by decide +kernel
theorem dX8_person_103 : decode cX8_person 103 = .ok (.iload_n 1, 1) := by decide +kernel
theorem dX8_person_104 : decode cX8_person 104 = .ok (.iaload, 1) := by decide +kernel
theorem dX8_person_105 : decode cX8_person 105 = .ok (.ireturn, 1) := by decide +kernel
theorem dX8_person_106 : decode cX8_person 106 = .ok (.aload_n 0, 1) := by decide +kernel
theorem dX8_person_107 : decode cX8_person 107 = .ok (.getfield 26, 3) := by decide +kernel
theorem dX8_person_110 : decode cX8_person 110 = .ok (.iload_n 1, 1) := by decide +kernel
theorem dX8_person_111 : decode cX8_person 111 = .ok (.iaload, 1) := by decide +kernel
theorem dX8_person_112 : decode cX8_person 112 = .ok (.ireturn, 1) := by decide +kernel
theorem dX8_person_113 : decode cX8_person 113 = .ok (.aload_n 0, 1) := by decide +kernel
theorem dX8_person_114 : decode cX8_person 114 = .ok (.iload_n 1, 1) := by decide +kernel
theorem dX8_person_115 : decode cX8_person 115 = .ok (.aload_n 0, 1) := by decide +kernel
theorem dX8_person_116 : decode cX8_person 116 = .ok (.getfield 131, 3) := by decide +kernel
theorem dX8_person_119 : decode cX8_person 119 = .ok (.invokevirtual 154, 3) := by decide +kernel
theorem dX8_person_122 : decode cX8_person 122 = .ok (.ireturn, 1) := by decide +kernel
theorem dX8_person_123 : decode cX8_person 123 = .ok (.bipush (-2), 2) := by decide +kernel
theorem dX8_person_125 : decode cX8_person 125 = .ok (.ireturn, 1) := by decide +kernel
theorem dX8_town_0 : decode cX8_town 0 = .ok (.aload_n 0, 1) := by decide +kernel
theorem dX8_town_1 : decode cX8_town 1 = .ok (.iconst 0, 1) := by decide +kernel
theorem dX8_town_2 : decode cX8_town 2 = .ok (.putfield 69, 3) := by decide +kernel
theorem dX8_town_5 : decode cX8_town 5 = .ok (.aload_n 0, 1) := by decide +kernel
theorem dX8_town_6 : decode cX8_town 6 = .ok (.iload_n 1, 1) := by decide +kernel
theorem dX8_town_7 : decode cX8_town 7 = .ok (.invokevirtual 167, 3) := by decide +kernel
theorem dX8_town_10 : decode cX8_town 10 = .ok (.ifCond .eq 5, 3) := by decide +kernel
theorem dX8_town_13 : decode cX8_town 13 = .ok (.iconst (-1), 1) := by decide +kernel
theorem dX8_town_14 : decode cX8_town 14 = .ok (.ireturn, 1) := by decide +kernel
theorem dX8_town_15 : decode cX8_town 15 = .ok (.iconst 0, 1) := by decide +kernel
theorem dX8_town_16 : decode cX8_town 16 = .ok (.istore_n 3, 1) := by decide +kernel
theorem dX8_town_17 : decode cX8_town 17 = .ok (.iconst 0, 1) := by decide +kernel
theorem dX8_town_18 : decode cX8_town 18 = .ok (.istore 4, 2) := by decide +kernel
theorem dX8_town_20 : decode cX8_town 20 = .ok (.iconst 0, 1) := by decide +kernel
theorem dX8_town_21 : decode cX8_town 21 = .ok (.istore 5, 2) := by decide +kernel
theorem dX8_town_23 : decode cX8_town 23 = .ok (.iload 5, 2) := by decide +kernel
theorem dX8_town_25 : decode cX8_town 25 = .ok (.aload_n 0, 1) := by decide +kernel
theorem dX8_town_26 : decode cX8_town 26 = .ok (.getfield 72, 3) := by decide +kernel
theorem dX8_town_29 : decode cX8_town 29 = .ok (.if_icmp .ge 77, 3) := by decide +kernel
theorem dX8_town_32 : decode cX8_town 32 = .ok (.iload_n 3, 1) := by decide +kernel
theorem dX8_town_33 : decode cX8_town 33 = .ok (.aload_n 0, 1) := by decide +kernel
theorem dX8_town_34 : decode cX8_town 34 = .ok (.getfield 35, 3) := by decide +kernel
theorem dX8_town_37 : decode cX8_town 37 = .ok (.iload 5, 2) := by decide +kernel
theorem dX8_town_39 : decode cX8_town 39 = .ok (.iaload, 1) := by decide +kernel
theorem dX8_town_40 : decode cX8_town 40 = .ok (.bipush (-9), 2) := by decide +kernel
theorem dX8_town_42 : decode cX8_town 42 = .ok (.if_icmp .ne 18, 3) := by decide +kernel
theorem dX8_town_45 : decode cX8_town 45 = .ok (.aload_n 0, 1) := by decide +kernel
theorem dX8_town_46 : decode cX8_town 46 = .ok (.getfield 29, 3) := by decide +kernel
theorem dX8_town_49 : decode cX8_town 49 = .ok (.iload 5, 2) := by decide +kernel
theorem dX8_town_51 : decode cX8_town 51 = .ok (.iaload, 1) := by decide +kernel
theorem dX8_town_52 : decode cX8_town 52 = .ok (.iload_n 1, 1) := by decide +kernel
theorem dX8_town_53 : decode cX8_town 53 = .ok (.if_icmp .ne 7, 3) := by decide +kernel
theorem dX8_town_56 : decode cX8_town 56 = .ok (.iconst 1, 1) := by decide +kernel
theorem dX8_town_57 : decode cX8_town 57 = .ok (.goto 4, 3) := by decide +kernel
theorem dX8_town_60 : decode cX8_town 60 = .ok (.iconst 0, 1) := by decide +kernel
theorem dX8_town_61 : decode cX8_town 61 = .ok (.iadd, 1) := by decide +kernel
theorem dX8_town_62 : decode cX8_town 62 = .ok (.istore_n 3, 1) := by decide +kernel
theorem dX8_town_63 : decode cX8_town 63 = .ok (.iload 4, 2) := by decide +kernel
theorem dX8_town_65 : decode cX8_town 65 = .ok (.aload_n 0, 1) := by decide +kernel
theorem dX8_town_66 : decode cX8_town 66 = .ok (.getfield 17, 3) := by decide +kernel
theorem dX8_town_69 : decode cX8_town 69 = .ok (.iload 5, 2) := by decide +kernel
theorem dX8_town_71 : decode cX8_town 71 = .ok (.iaload, 1) := by decide +kernel
theorem dX8_town_72 : decode cX8_town 72 = .ok (.iload_n 1, 1) := by decide +kernel
theorem dX8_town_73 : decode cX8_town 73 = .ok (.if_icmp .ne 23, 3) := by decide +kernel
theorem dX8_town_76 : decode cX8_town 76 = .ok (.aload_n 0, 1) := by decide +kernel
theorem dX8_town_77 : decode cX8_town 77 = .ok (.iload 5, 2) := by decide +kernel
theorem dX8_town_79 : decode cX8_town 79 = .ok (.aload_n 0, 1) := by decide +kernel
theorem dX8_town_80 : decode cX8_town 80 = .ok (.getfield 131, 3) := by decide +kernel
theorem dX8_town_83 : decode cX8_town 83 = .ok (.invokevirtual 144, 3) := by decide +kernel
theorem dX8_town_86 : decode cX8_town 86 = .ok (.ifCond .eq 10, 3) := by decide +kernel
theorem dX8_town_89 : decode cX8_town 89 = .ok (.iconst 1, 1) := by decide +kernel
theorem dX8_town_90 : decode cX8_town 90 = .ok (.iload 5, 2) := by decide +kernel
theorem dX8_town_92 : decode cX8_town 92 = .ok (.ishl, 1) := by decide +kernel
theorem dX8_town_93 : decode cX8_town 93 = .ok (.goto 4, 3) := by decide +kernel
theorem dX8_town_96 : decode cX8_town 96 = .ok (.iconst 0, 1) := by decide +kernel
theorem dX8_town_97 : decode cX8_town 97 = .ok (.ior, 1) := by decide +kernel
theorem dX8_town_98 : decode cX8_town 98 = .ok (.istore 4, 2) := by decide +kernel
theorem dX8_town_100 : decode cX8_town 100 = .ok (.iinc 5 1, 3) := by decide +kernel
theorem dX8_town_103 : decode cX8_town 103 = .ok (.goto (-80), 3) := by decide +kernel
theorem dX8_town_106 : decode cX8_town 106 = .ok (.iload_n 2, 1) := by decide +kernel
theorem dX8_town_107 : decode cX8_town 107 = .ok (.tableswitch 84 0 5 #[37, 51, 53, 60, 66, 69], 37) := by decide +kernel
theorem dX8_town_144 : decode cX8_town 144 = .ok (.aload_n 0, 1) := by decide +kernel
theorem dX8_town_145 : decode cX8_town 145 = .ok (.iload_n 1, 1) := by decide +kernel
theorem dX8_town_146 : decode cX8_town 146 = .ok (.iconst 0, 1) := by decide +kernel
theorem dX8_town_147 : decode cX8_town 147 = .ok (.invokevirtual 170, 3) := by decide +kernel
theorem dX8_town_150 : decode cX8_town 150 = .ok (.aload_n 0, 1) := by decide +kernel
theorem dX8_town_151 : decode cX8_town 151 = .ok (.getfield 38, 3) := by decide +kernel
theorem dX8_town_154 : decode cX8_town 154 = .ok (.iload_n 1, 1) := by decide +kernel
theorem dX8_town_155 : decode cX8_town 155 = .ok (.iaload, 1) := by decide +kernel
theorem dX8_town_156 : decode cX8_town 156 = .ok (.iadd, 1) := by decide +kernel
theorem dX8_town_157 : decode cX8_town 157 = .ok (.ireturn, 1) := by decide +kernel
theorem dX8_town_158 : decode cX8_town 158 = .ok (.iload_n 3, 1) := by decide +kernel
theorem dX8_town_159 : decode cX8_town 159 = .ok (.ireturn, 1) := by decide +kernel
theorem dX8_town_160 : decode cX8_town 160 = .ok (.aload_n 0, 1) := by decide +kernel
theorem dX8_town_161 : decode cX8_town 161 = .ok (.getfield 38, 3) := by decide +kernel
theorem dX8_town_164 : decode cX8_town 164 = .ok (.iload_n 1, 1) := by decide +kernel
theorem dX8_town_165 : decode cX8_town 165 = .ok (.iaload, 1) := by decide +kernel
theorem dX8_town_166 : decode cX8_town 166 = .ok (.ireturn, 1) := by decide +kernel
theorem dX8_town_167 : decode cX8_town 167 = .ok (.aload_n 0, 1) := by decide +kernel
theorem dX8_town_168 : decode cX8_town 168 = .ok (.iload_n 1, 1) := by decide +kernel
theorem dX8_town_169 : decode cX8_town 169 = .ok (.invokevirtual 173, 3) := by decide +kernel
theorem dX8_town_172 : decode cX8_town 172 = .ok (.ireturn, 1) := by decide +kernel
theorem dX8_town_173 : decode cX8_town 173 = .ok (.iload 4, 2) := by decide +kernel
theorem dX8_town_175 : decode cX8_town 175 = .ok (.ireturn, 1) := by decide +kernel
theorem dX8_town_176 : decode cX8_town 176 = .ok (.aload_n 0, 1) := by decide +kernel
theorem dX8_town_177 : decode cX8_town 177 = .ok (.aload_n 0, 1) := by decide +kernel
theorem dX8_town_178 : decode cX8_town 178 = .ok (.getfield 131, 3) := by decide +kernel
theorem dX8_town_181 : decode cX8_town 181 = .ok (.invokevirtual 161, 3) := by decide +kernel
theorem dX8_town_184 : decode cX8_town 184 = .ok (.aload_n 0, 1) := by decide +kernel
theorem dX8_town_185 : decode cX8_town 185 = .ok (.iload_n 1, 1) := by decide +kernel
theorem dX8_town_186 : decode cX8_town 186 = .ok (.invokevirtual 173, 3) := by decide +kernel
theorem dX8_town_189 : decode cX8_town 189 = .ok (.iand, 1) := by decide +kernel
theorem dX8_town_190 : decode cX8_town 190 = .ok (.ireturn, 1) := by decide +kernel
theorem dX8_town_191 : decode cX8_town 191 = .ok (.bipush (-2), 2) := by decide +kernel
theorem dX8_town_193 : decode cX8_town 193 = .ok (.ireturn, 1) := by decide +kernel
theorem dX8_law_0 : decode cX8_law 0 = .ok (.aload_n 0, 1) := by decide +kernel
theorem dX8_law_1 : decode cX8_law 1 = .ok (.iconst 0, 1) := by decide +kernel
theorem dX8_law_2 : decode cX8_law 2 = .ok (.putfield 69, 3) := by decide +kernel
theorem dX8_law_5 : decode cX8_law 5 = .ok (.iload_n 1, 1) := by decide +kernel
theorem dX8_law_6 : decode cX8_law 6 = .ok (.i2l, 1) := by decide +kernel
theorem dX8_law_7 : decode cX8_law 7 = .ok (.lconst 0, 1) := by decide +kernel
theorem dX8_law_8 : decode cX8_law 8 = .ok (.ldc2_w 176, 3) := by decide +kernel
theorem dX8_law_11 : decode cX8_law 11 = .ok (.invokestatic 75, 3) := by decide +kernel
theorem dX8_law_14 : decode cX8_law 14 = .ok (.ifCond .ne 6, 3) := by decide +kernel
theorem dX8_law_17 : decode cX8_law 17 = .ok (.bipush (-2), 2) := by decide +kernel
theorem dX8_law_19 : decode cX8_law 19 = .ok (.ireturn, 1) := by decide +kernel
theorem dX8_law_20 : decode cX8_law 20 = .ok (.aload_n 0, 1) := by decide +kernel
theorem dX8_law_21 : decode cX8_law 21 = .ok (.getfield 128, 3) := by decide +kernel
theorem dX8_law_24 : decode cX8_law 24 = .ok (.istore_n 2, 1) := by decide +kernel
theorem dX8_law_25 : decode cX8_law 25 = .ok (.aload_n 0, 1) := by decide +kernel
theorem dX8_law_26 : decode cX8_law 26 = .ok (.iload_n 1, 1) := by decide +kernel
theorem dX8_law_27 : decode cX8_law 27 = .ok (.putfield 128, 3) := by decide +kernel
theorem dX8_law_30 : decode cX8_law 30 = .ok (.iload_n 2, 1) := by decide +kernel
theorem dX8_law_31 : decode cX8_law 31 = .ok (.ireturn, 1) := by decide +kernel
theorem dX8_layPage_0 : decode cX8_layPage 0 = .ok (.iconst 0, 1) := by decide +kernel
theorem dX8_layPage_1 : decode cX8_layPage 1 = .ok (.istore_n 3, 1) := by decide +kernel
theorem dX8_layPage_2 : decode cX8_layPage 2 = .ok (.iload_n 3, 1) := by decide +kernel
theorem dX8_layPage_3 : decode cX8_layPage 3 = .ok (.bipush 8, 2) := by decide +kernel
theorem dX8_layPage_5 : decode cX8_layPage 5 = .ok (.if_icmp .ge 48, 3) := by decide +kernel
theorem dX8_layPage_8 : decode cX8_layPage 8 = .ok (.aload_n 1, 1) := by decide +kernel
theorem dX8_layPage_9 : decode cX8_layPage 9 = .ok (.iload_n 2, 1) := by decide +kernel
theorem dX8_layPage_10 : decode cX8_layPage 10 = .ok (.iload_n 3, 1) := by decide +kernel
theorem dX8_layPage_11 : decode cX8_layPage 11 = .ok (.iadd, 1) := by decide +kernel
theorem dX8_layPage_12 : decode cX8_layPage 12 = .ok (.aload_n 0, 1) := by decide +kernel
theorem dX8_layPage_13 : decode cX8_layPage 13 = .ok (.getfield 29, 3) := by decide +kernel
theorem dX8_layPage_16 : decode cX8_layPage 16 = .ok (.iload_n 3, 1) := by decide +kernel
theorem dX8_layPage_17 : decode cX8_layPage 17 = .ok (.iaload, 1) := by decide +kernel
theorem dX8_layPage_18 : decode cX8_layPage 18 = .ok (.iastore, 1) := by decide +kernel
theorem dX8_layPage_19 : decode cX8_layPage 19 = .ok (.aload_n 1, 1) := by decide +kernel
theorem dX8_layPage_20 : decode cX8_layPage 20 = .ok (.iload_n 2, 1) := by decide +kernel
theorem dX8_layPage_21 : decode cX8_layPage 21 = .ok (.bipush 8, 2) := by decide +kernel
theorem dX8_layPage_23 : decode cX8_layPage 23 = .ok (.iadd, 1) := by decide +kernel
theorem dX8_layPage_24 : decode cX8_layPage 24 = .ok (.iload_n 3, 1) := by decide +kernel
theorem dX8_layPage_25 : decode cX8_layPage 25 = .ok (.iadd, 1) := by decide +kernel
theorem dX8_layPage_26 : decode cX8_layPage 26 = .ok (.aload_n 0, 1) := by decide +kernel
theorem dX8_layPage_27 : decode cX8_layPage 27 = .ok (.getfield 32, 3) := by decide +kernel
theorem dX8_layPage_30 : decode cX8_layPage 30 = .ok (.iload_n 3, 1) := by decide +kernel
theorem dX8_layPage_31 : decode cX8_layPage 31 = .ok (.iaload, 1) := by decide +kernel
theorem dX8_layPage_32 : decode cX8_layPage 32 = .ok (.iastore, 1) := by decide +kernel
theorem dX8_layPage_33 : decode cX8_layPage 33 = .ok (.aload_n 1, 1) := by decide +kernel
theorem dX8_layPage_34 : decode cX8_layPage 34 = .ok (.iload_n 2, 1) := by decide +kernel
theorem dX8_layPage_35 : decode cX8_layPage 35 = .ok (.bipush 16, 2) := by decide +kernel
theorem dX8_layPage_37 : decode cX8_layPage 37 = .ok (.iadd, 1) := by decide +kernel
theorem dX8_layPage_38 : decode cX8_layPage 38 = .ok (.iload_n 3, 1) := by decide +kernel
theorem dX8_layPage_39 : decode cX8_layPage 39 = .ok (.iadd, 1) := by decide +kernel
theorem dX8_layPage_40 : decode cX8_layPage 40 = .ok (.aload_n 0, 1) := by decide +kernel
theorem dX8_layPage_41 : decode cX8_layPage 41 = .ok (.getfield 35, 3) := by decide +kernel
theorem dX8_layPage_44 : decode cX8_layPage 44 = .ok (.iload_n 3, 1) := by decide +kernel
theorem dX8_layPage_45 : decode cX8_layPage 45 = .ok (.iaload, 1) := by decide +kernel
theorem dX8_layPage_46 : decode cX8_layPage 46 = .ok (.iastore, 1) := by decide +kernel
theorem dX8_layPage_47 : decode cX8_layPage 47 = .ok (.iinc 3 1, 3) := by decide +kernel
theorem dX8_layPage_50 : decode cX8_layPage 50 = .ok (.goto (-48), 3) := by decide +kernel
theorem dX8_layPage_53 : decode cX8_layPage 53 = .ok (.iconst 0, 1) := by decide +kernel
theorem dX8_layPage_54 : decode cX8_layPage 54 = .ok (.istore_n 3, 1) := by decide +kernel
theorem dX8_layPage_55 : decode cX8_layPage 55 = .ok (.iload_n 3, 1) := by decide +kernel
theorem dX8_layPage_56 : decode cX8_layPage 56 = .ok (.iconst 4, 1) := by decide +kernel
theorem dX8_layPage_57 : decode cX8_layPage 57 = .ok (.if_icmp .ge 23, 3) := by decide +kernel
theorem dX8_layPage_60 : decode cX8_layPage 60 = .ok (.aload_n 1, 1) := by decide +kernel
theorem dX8_layPage_61 : decode cX8_layPage 61 = .ok (.iload_n 2, 1) := by decide +kernel
theorem dX8_layPage_62 : decode cX8_layPage 62 = .ok (.bipush 24, 2) := by decide +kernel
theorem dX8_layPage_64 : decode cX8_layPage 64 = .ok (.iadd, 1) := by decide +kernel
theorem dX8_layPage_65 : decode cX8_layPage 65 = .ok (.iload_n 3, 1) := by decide +kernel
theorem dX8_layPage_66 : decode cX8_layPage 66 = .ok (.iadd, 1) := by decide +kernel
theorem dX8_layPage_67 : decode cX8_layPage 67 = .ok (.aload_n 0, 1) := by decide +kernel
theorem dX8_layPage_68 : decode cX8_layPage 68 = .ok (.getfield 38, 3) := by decide +kernel
theorem dX8_layPage_71 : decode cX8_layPage 71 = .ok (.iload_n 3, 1) := by decide +kernel
theorem dX8_layPage_72 : decode cX8_layPage 72 = .ok (.iaload, 1) := by decide +kernel
theorem dX8_layPage_73 : decode cX8_layPage 73 = .ok (.iastore, 1) := by decide +kernel
theorem dX8_layPage_74 : decode cX8_layPage 74 = .ok (.iinc 3 1, 3) := by decide +kernel
theorem dX8_layPage_77 : decode cX8_layPage 77 = .ok (.goto (-22), 3) := by decide +kernel
theorem dX8_layPage_80 : decode cX8_layPage 80 = .ok (.aload_n 1, 1) := by decide +kernel
theorem dX8_layPage_81 : decode cX8_layPage 81 = .ok (.iload_n 2, 1) := by decide +kernel
theorem dX8_layPage_82 : decode cX8_layPage 82 = .ok (.bipush 28, 2) := by decide +kernel
theorem dX8_layPage_84 : decode cX8_layPage 84 = .ok (.iadd, 1) := by decide +kernel
theorem dX8_layPage_85 : decode cX8_layPage 85 = .ok (.aload_n 0, 1) := by decide +kernel
theorem dX8_layPage_86 : decode cX8_layPage 86 = .ok (.getfield 131, 3) := by decide +kernel
theorem dX8_layPage_89 : decode cX8_layPage 89 = .ok (.iastore, 1) := by decide +kernel
theorem dX8_layPage_90 : decode cX8_layPage 90 = .ok (.return_, 1) := by decide +kernel
theorem dX8_takePage_0 : decode cX8_takePage 0 = .ok (.iconst 0, 1) := by decide +kernel
theorem dX8_takePage_1 : decode cX8_takePage 1 = .ok (.istore_n 3, 1) := by decide +kernel
theorem dX8_takePage_2 : decode cX8_takePage 2 = .ok (.iload_n 3, 1) := by decide +kernel
theorem dX8_takePage_3 : decode cX8_takePage 3 = .ok (.bipush 8, 2) := by decide +kernel
theorem dX8_takePage_5 : decode cX8_takePage 5 = .ok (.if_icmp .ge 48, 3) := by decide +kernel
theorem dX8_takePage_8 : decode cX8_takePage 8 = .ok (.aload_n 0, 1) := by decide +kernel
theorem dX8_takePage_9 : decode cX8_takePage 9 = .ok (.getfield 29, 3) := by decide +kernel
theorem dX8_takePage_12 : decode cX8_takePage 12 = .ok (.iload_n 3, 1) := by decide +kernel
theorem dX8_takePage_13 : decode cX8_takePage 13 = .ok (.aload_n 1, 1) := by decide +kernel
theorem dX8_takePage_14 : decode cX8_takePage 14 = .ok (.iload_n 2, 1) := by decide +kernel
theorem dX8_takePage_15 : decode cX8_takePage 15 = .ok (.iload_n 3, 1) := by decide +kernel
theorem dX8_takePage_16 : decode cX8_takePage 16 = .ok (.iadd, 1) := by decide +kernel
theorem dX8_takePage_17 : decode cX8_takePage 17 = .ok (.iaload, 1) := by decide +kernel
theorem dX8_takePage_18 : decode cX8_takePage 18 = .ok (.iastore, 1) := by decide +kernel
theorem dX8_takePage_19 : decode cX8_takePage 19 = .ok (.aload_n 0, 1) := by decide +kernel
theorem dX8_takePage_20 : decode cX8_takePage 20 = .ok (.getfield 32, 3) := by decide +kernel
theorem dX8_takePage_23 : decode cX8_takePage 23 = .ok (.iload_n 3, 1) := by decide +kernel
theorem dX8_takePage_24 : decode cX8_takePage 24 = .ok (.aload_n 1, 1) := by decide +kernel
theorem dX8_takePage_25 : decode cX8_takePage 25 = .ok (.iload_n 2, 1) := by decide +kernel
theorem dX8_takePage_26 : decode cX8_takePage 26 = .ok (.bipush 8, 2) := by decide +kernel
theorem dX8_takePage_28 : decode cX8_takePage 28 = .ok (.iadd, 1) := by decide +kernel
theorem dX8_takePage_29 : decode cX8_takePage 29 = .ok (.iload_n 3, 1) := by decide +kernel
theorem dX8_takePage_30 : decode cX8_takePage 30 = .ok (.iadd, 1) := by decide +kernel
theorem dX8_takePage_31 : decode cX8_takePage 31 = .ok (.iaload, 1) := by decide +kernel
theorem dX8_takePage_32 : decode cX8_takePage 32 = .ok (.iastore, 1) := by decide +kernel
theorem dX8_takePage_33 : decode cX8_takePage 33 = .ok (.aload_n 0, 1) := by decide +kernel
theorem dX8_takePage_34 : decode cX8_takePage 34 = .ok (.getfield 35, 3) := by decide +kernel
theorem dX8_takePage_37 : decode cX8_takePage 37 = .ok (.iload_n 3, 1) := by decide +kernel
theorem dX8_takePage_38 : decode cX8_takePage 38 = .ok (.aload_n 1, 1) := by decide +kernel
theorem dX8_takePage_39 : decode cX8_takePage 39 = .ok (.iload_n 2, 1) := by decide +kernel
theorem dX8_takePage_40 : decode cX8_takePage 40 = .ok (.bipush 16, 2) := by decide +kernel
theorem dX8_takePage_42 : decode cX8_takePage 42 = .ok (.iadd, 1) := by decide +kernel
theorem dX8_takePage_43 : decode cX8_takePage 43 = .ok (.iload_n 3, 1) := by decide +kernel
theorem dX8_takePage_44 : decode cX8_takePage 44 = .ok (.iadd, 1) := by decide +kernel
theorem dX8_takePage_45 : decode cX8_takePage 45 = .ok (.iaload, 1) := by decide +kernel
theorem dX8_takePage_46 : decode cX8_takePage 46 = .ok (.iastore, 1) := by decide +kernel
theorem dX8_takePage_47 : decode cX8_takePage 47 = .ok (.iinc 3 1, 3) := by decide +kernel
theorem dX8_takePage_50 : decode cX8_takePage 50 = .ok (.goto (-48), 3) := by decide +kernel
theorem dX8_takePage_53 : decode cX8_takePage 53 = .ok (.iconst 0, 1) := by decide +kernel
theorem dX8_takePage_54 : decode cX8_takePage 54 = .ok (.istore_n 3, 1) := by decide +kernel
theorem dX8_takePage_55 : decode cX8_takePage 55 = .ok (.iload_n 3, 1) := by decide +kernel
theorem dX8_takePage_56 : decode cX8_takePage 56 = .ok (.iconst 4, 1) := by decide +kernel
theorem dX8_takePage_57 : decode cX8_takePage 57 = .ok (.if_icmp .ge 23, 3) := by decide +kernel
theorem dX8_takePage_60 : decode cX8_takePage 60 = .ok (.aload_n 0, 1) := by decide +kernel
theorem dX8_takePage_61 : decode cX8_takePage 61 = .ok (.getfield 38, 3) := by decide +kernel
theorem dX8_takePage_64 : decode cX8_takePage 64 = .ok (.iload_n 3, 1) := by decide +kernel
theorem dX8_takePage_65 : decode cX8_takePage 65 = .ok (.aload_n 1, 1) := by decide +kernel
theorem dX8_takePage_66 : decode cX8_takePage 66 = .ok (.iload_n 2, 1) := by decide +kernel
theorem dX8_takePage_67 : decode cX8_takePage 67 = .ok (.bipush 24, 2) := by decide +kernel
theorem dX8_takePage_69 : decode cX8_takePage 69 = .ok (.iadd, 1) := by decide +kernel
theorem dX8_takePage_70 : decode cX8_takePage 70 = .ok (.iload_n 3, 1) := by decide +kernel
theorem dX8_takePage_71 : decode cX8_takePage 71 = .ok (.iadd, 1) := by decide +kernel
theorem dX8_takePage_72 : decode cX8_takePage 72 = .ok (.iaload, 1) := by decide +kernel
theorem dX8_takePage_73 : decode cX8_takePage 73 = .ok (.iastore, 1) := by decide +kernel
theorem dX8_takePage_74 : decode cX8_takePage 74 = .ok (.iinc 3 1, 3) := by decide +kernel
theorem dX8_takePage_77 : decode cX8_takePage 77 = .ok (.goto (-22), 3) := by decide +kernel
theorem dX8_takePage_80 : decode cX8_takePage 80 = .ok (.aload_n 0, 1) := by decide +kernel
theorem dX8_takePage_81 : decode cX8_takePage 81 = .ok (.aload_n 1, 1) := by decide +kernel
theorem dX8_takePage_82 : decode cX8_takePage 82 = .ok (.iload_n 2, 1) := by decide +kernel
theorem dX8_takePage_83 : decode cX8_takePage 83 = .ok (.bipush 28, 2) := by decide +kernel
theorem dX8_takePage_85 : decode cX8_takePage 85 = .ok (.iadd, 1) := by decide +kernel
theorem dX8_takePage_86 : decode cX8_takePage 86 = .ok (.iaload, 1) := by decide +kernel
theorem dX8_takePage_87 : decode cX8_takePage 87 = .ok (.putfield 131, 3) := by decide +kernel
theorem dX8_takePage_90 : decode cX8_takePage 90 = .ok (.return_, 1) := by decide +kernel
theorem dX8_note_0 : decode cX8_note 0 = .ok (.aload_n 0, 1) := by decide +kernel
theorem dX8_note_1 : decode cX8_note 1 = .ok (.getfield 134, 3) := by decide +kernel
theorem dX8_note_4 : decode cX8_note 4 = .ok (.bipush 16, 2) := by decide +kernel
theorem dX8_note_6 : decode cX8_note 6 = .ok (.if_icmp .ne 43, 3) := by decide +kernel
theorem dX8_note_9 : decode cX8_note 9 = .ok (.iconst 0, 1) := by decide +kernel
theorem dX8_note_10 : decode cX8_note 10 = .ok (.istore_n 1, 1) := by decide +kernel
theorem dX8_note_11 : decode cX8_note 11 = .ok (.iload_n 1, 1) := by decide +kernel
theorem dX8_note_12 : decode cX8_note 12 = .ok (.sipush 435, 3) := by decide +kernel
theorem dX8_note_15 : decode cX8_note 15 = .ok (.if_icmp .ge 24, 3) := by decide +kernel
theorem dX8_note_18 : decode cX8_note 18 = .ok (.aload_n 0, 1) := by decide +kernel
theorem dX8_note_19 : decode cX8_note 19 = .ok (.getfield 53, 3) := by decide +kernel
theorem dX8_note_22 : decode cX8_note 22 = .ok (.iload_n 1, 1) := by decide +kernel
theorem dX8_note_23 : decode cX8_note 23 = .ok (.aload_n 0, 1) := by decide +kernel
theorem dX8_note_24 : decode cX8_note 24 = .ok (.getfield 53, 3) := by decide +kernel
theorem dX8_note_27 : decode cX8_note 27 = .ok (.iload_n 1, 1) := by decide +kernel
theorem dX8_note_28 : decode cX8_note 28 = .ok (.bipush 29, 2) := by decide +kernel
theorem dX8_note_30 : decode cX8_note 30 = .ok (.iadd, 1) := by decide +kernel
theorem dX8_note_31 : decode cX8_note 31 = .ok (.iaload, 1) := by decide +kernel
theorem dX8_note_32 : decode cX8_note 32 = .ok (.iastore, 1) := by decide +kernel
theorem dX8_note_33 : decode cX8_note 33 = .ok (.iinc 1 1, 3) := by decide +kernel
theorem dX8_note_36 : decode cX8_note 36 = .ok (.goto (-25), 3) := by decide +kernel
theorem dX8_note_39 : decode cX8_note 39 = .ok (.aload_n 0, 1) := by decide +kernel
theorem dX8_note_40 : decode cX8_note 40 = .ok (.dup, 1) := by decide +kernel
theorem dX8_note_41 : decode cX8_note 41 = .ok (.getfield 134, 3) := by decide +kernel
theorem dX8_note_44 : decode cX8_note 44 = .ok (.iconst 1, 1) := by decide +kernel
theorem dX8_note_45 : decode cX8_note 45 = .ok (.isub, 1) := by decide +kernel
theorem dX8_note_46 : decode cX8_note 46 = .ok (.putfield 134, 3) := by decide +kernel
theorem dX8_note_49 : decode cX8_note 49 = .ok (.aload_n 0, 1) := by decide +kernel
theorem dX8_note_50 : decode cX8_note 50 = .ok (.aload_n 0, 1) := by decide +kernel
theorem dX8_note_51 : decode cX8_note 51 = .ok (.getfield 53, 3) := by decide +kernel
theorem dX8_note_54 : decode cX8_note 54 = .ok (.bipush 29, 2) := by decide +kernel
theorem dX8_note_56 : decode cX8_note 56 = .ok (.aload_n 0, 1) := by decide +kernel
theorem dX8_note_57 : decode cX8_note 57 = .ok (.getfield 134, 3) := by decide +kernel
theorem dX8_note_60 : decode cX8_note 60 = .ok (.imul, 1) := by decide +kernel
theorem dX8_note_61 : decode cX8_note 61 = .ok (.invokevirtual 178, 3) := by decide +kernel
theorem dX8_note_64 : decode cX8_note 64 = .ok (.aload_n 0, 1) := by decide +kernel
theorem dX8_note_65 : decode cX8_note 65 = .ok (.dup, 1) := by decide +kernel
theorem dX8_note_66 : decode cX8_note 66 = .ok (.getfield 134, 3) := by decide +kernel
theorem dX8_note_69 : decode cX8_note 69 = .ok (.iconst 1, 1) := by decide +kernel
theorem dX8_note_70 : decode cX8_note 70 = .ok (.iadd, 1) := by decide +kernel
theorem dX8_note_71 : decode cX8_note 71 = .ok (.putfield 134, 3) := by decide +kernel
theorem dX8_note_74 : decode cX8_note 74 = .ok (.return_, 1) := by decide +kernel
theorem dX8_go_0 : decode cX8_go 0 = .ok (.aload_n 0, 1) := by decide +kernel
theorem dX8_go_1 : decode cX8_go 1 = .ok (.iconst 0, 1) := by decide +kernel
theorem dX8_go_2 : decode cX8_go 2 = .ok (.putfield 69, 3) := by decide +kernel
theorem dX8_go_5 : decode cX8_go 5 = .ok (.aload_n 0, 1) := by decide +kernel
theorem dX8_go_6 : decode cX8_go 6 = .ok (.iload_n 1, 1) := by decide +kernel
theorem dX8_go_7 : decode cX8_go 7 = .ok (.invokevirtual 164, 3) := by decide +kernel
theorem dX8_go_10 : decode cX8_go 10 = .ok (.ifCond .ne 11, 3) := by decide +kernel
theorem dX8_go_13 : decode cX8_go 13 = .ok (.aload_n 0, 1) := by decide +kernel
theorem dX8_go_14 : decode cX8_go 14 = .ok (.iload_n 2, 1) := by decide +kernel
theorem dX8_go_15 : decode cX8_go 15 = .ok (.invokevirtual 167, 3) := by decide +kernel
theorem dX8_go_18 : decode cX8_go 18 = .ok (.ifCond .eq 5, 3) := by decide +kernel
theorem dX8_go_21 : decode cX8_go 21 = .ok (.iconst (-1), 1) := by decide +kernel
theorem dX8_go_22 : decode cX8_go 22 = .ok (.ireturn, 1) := by decide +kernel
theorem dX8_go_23 : decode cX8_go 23 = .ok (.aload_n 0, 1) := by decide +kernel
theorem dX8_go_24 : decode cX8_go 24 = .ok (.getfield 35, 3) := by decide +kernel
theorem dX8_go_27 : decode cX8_go 27 = .ok (.iload_n 1, 1) := by decide +kernel
theorem dX8_go_28 : decode cX8_go 28 = .ok (.iaload, 1) := by decide +kernel
theorem dX8_go_29 : decode cX8_go 29 = .ok (.bipush (-9), 2) := by decide +kernel
theorem dX8_go_31 : decode cX8_go 31 = .ok (.if_icmp .ne 13, 3) := by decide +kernel
theorem dX8_go_34 : decode cX8_go 34 = .ok (.aload_n 0, 1) := by decide +kernel
theorem dX8_go_35 : decode cX8_go 35 = .ok (.getfield 29, 3) := by decide +kernel
theorem dX8_go_38 : decode cX8_go 38 = .ok (.iload_n 1, 1) := by decide +kernel
theorem dX8_go_39 : decode cX8_go 39 = .ok (.iaload, 1) := by decide +kernel
theorem dX8_go_40 : decode cX8_go 40 = .ok (.iload_n 2, 1) := by decide +kernel
theorem dX8_go_41 : decode cX8_go 41 = .ok (.if_icmp .ne 6, 3) := by decide +kernel
theorem dX8_go_44 : decode cX8_go 44 = .ok (.bipush (-3), 2) := by decide +kernel
theorem dX8_go_46 : decode cX8_go 46 = .ok (.ireturn, 1) := by decide +kernel
theorem dX8_go_47 : decode cX8_go 47 = .ok (.aload_n 0, 1) := by decide +kernel
theorem dX8_go_48 : decode cX8_go 48 = .ok (.invokevirtual 182, 3) := by decide +kernel
theorem dX8_go_51 : decode cX8_go 51 = .ok (.aload_n 0, 1) := by decide +kernel
theorem dX8_go_52 : decode cX8_go 52 = .ok (.getfield 32, 3) := by decide +kernel
theorem dX8_go_55 : decode cX8_go 55 = .ok (.iload_n 1, 1) := by decide +kernel
theorem dX8_go_56 : decode cX8_go 56 = .ok (.iaload, 1) := by decide +kernel
theorem dX8_go_57 : decode cX8_go 57 = .ok (.istore_n 3, 1) := by decide +kernel
theorem dX8_go_58 : decode cX8_go 58 = .ok (.aload_n 0, 1) := by decide +kernel
theorem dX8_go_59 : decode cX8_go 59 = .ok (.getfield 29, 3) := by decide +kernel
theorem dX8_go_62 : decode cX8_go 62 = .ok (.iload_n 1, 1) := by decide +kernel
theorem dX8_go_63 : decode cX8_go 63 = .ok (.iload_n 2, 1) := by decide +kernel
theorem dX8_go_64 : decode cX8_go 64 = .ok (.iastore, 1) := by decide +kernel
theorem dX8_go_65 : decode cX8_go 65 = .ok (.aload_n 0, 1) := by decide +kernel
theorem dX8_go_66 : decode cX8_go 66 = .ok (.getfield 32, 3) := by decide +kernel
theorem dX8_go_69 : decode cX8_go 69 = .ok (.iload_n 1, 1) := by decide +kernel
theorem dX8_go_70 : decode cX8_go 70 = .ok (.aload_n 0, 1) := by decide +kernel
theorem dX8_go_71 : decode cX8_go 71 = .ok (.getfield 131, 3) := by decide +kernel
theorem dX8_go_74 : decode cX8_go 74 = .ok (.iastore, 1) := by decide +kernel
theorem dX8_go_75 : decode cX8_go 75 = .ok (.iload_n 3, 1) := by decide +kernel
theorem dX8_go_76 : decode cX8_go 76 = .ok (.ireturn, 1) := by decide +kernel
theorem dX8_die_0 : decode cX8_die 0 = .ok (.aload_n 0, 1) := by decide +kernel
theorem dX8_die_1 : decode cX8_die 1 = .ok (.iconst 0, 1) := by decide +kernel
theorem dX8_die_2 : decode cX8_die 2 = .ok (.putfield 69, 3) := by decide +kernel
theorem dX8_die_5 : decode cX8_die 5 = .ok (.aload_n 0, 1) := by decide +kernel
theorem dX8_die_6 : decode cX8_die 6 = .ok (.iload_n 1, 1) := by decide +kernel
theorem dX8_die_7 : decode cX8_die 7 = .ok (.invokevirtual 164, 3) := by decide +kernel
theorem dX8_die_10 : decode cX8_die 10 = .ok (.ifCond .eq 5, 3) := by decide +kernel
theorem dX8_die_13 : decode cX8_die 13 = .ok (.iconst (-1), 1) := by decide +kernel
theorem dX8_die_14 : decode cX8_die 14 = .ok (.ireturn, 1) := by decide +kernel
theorem dX8_die_15 : decode cX8_die 15 = .ok (.aload_n 0, 1) := by decide +kernel
theorem dX8_die_16 : decode cX8_die 16 = .ok (.getfield 35, 3) := by decide +kernel
theorem dX8_die_19 : decode cX8_die 19 = .ok (.iload_n 1, 1) := by decide +kernel
theorem dX8_die_20 : decode cX8_die 20 = .ok (.iaload, 1) := by decide +kernel
theorem dX8_die_21 : decode cX8_die 21 = .ok (.bipush (-9), 2) := by decide +kernel
theorem dX8_die_23 : decode cX8_die 23 = .ok (.if_icmp .eq 6, 3) := by decide +kernel
theorem dX8_die_26 : decode cX8_die 26 = .ok (.bipush (-3), 2) := by decide +kernel
theorem dX8_die_28 : decode cX8_die 28 = .ok (.ireturn, 1) := by decide +kernel
theorem dX8_die_29 : decode cX8_die 29 = .ok (.aload_n 0, 1) := by decide +kernel
theorem dX8_die_30 : decode cX8_die 30 = .ok (.invokevirtual 182, 3) := by decide +kernel
theorem dX8_die_33 : decode cX8_die 33 = .ok (.aload_n 0, 1) := by decide +kernel
theorem dX8_die_34 : decode cX8_die 34 = .ok (.getfield 35, 3) := by decide +kernel
theorem dX8_die_37 : decode cX8_die 37 = .ok (.iload_n 1, 1) := by decide +kernel
theorem dX8_die_38 : decode cX8_die 38 = .ok (.aload_n 0, 1) := by decide +kernel
theorem dX8_die_39 : decode cX8_die 39 = .ok (.getfield 131, 3) := by decide +kernel
theorem dX8_die_42 : decode cX8_die 42 = .ok (.iastore, 1) := by decide +kernel
theorem dX8_die_43 : decode cX8_die 43 = .ok (.aload_n 0, 1) := by decide +kernel
theorem dX8_die_44 : decode cX8_die 44 = .ok (.getfield 131, 3) := by decide +kernel
theorem dX8_die_47 : decode cX8_die 47 = .ok (.aload_n 0, 1) := by decide +kernel
theorem dX8_die_48 : decode cX8_die 48 = .ok (.iload_n 1, 1) := by decide +kernel
theorem dX8_die_49 : decode cX8_die 49 = .ok (.invokevirtual 137, 3) := by decide +kernel
theorem dX8_die_52 : decode cX8_die 52 = .ok (.iadd, 1) := by decide +kernel
theorem dX8_die_53 : decode cX8_die 53 = .ok (.ireturn, 1) := by decide +kernel
theorem dX8_year_0 : decode cX8_year 0 = .ok (.aload_n 0, 1) := by decide +kernel
theorem dX8_year_1 : decode cX8_year 1 = .ok (.iconst 0, 1) := by decide +kernel
theorem dX8_year_2 : decode cX8_year 2 = .ok (.putfield 69, 3) := by decide +kernel
theorem dX8_year_5 : decode cX8_year 5 = .ok (.aload_n 0, 1) := by decide +kernel
theorem dX8_year_6 : decode cX8_year 6 = .ok (.invokevirtual 182, 3) := by decide +kernel
theorem dX8_year_9 : decode cX8_year 9 = .ok (.aload_n 0, 1) := by decide +kernel
theorem dX8_year_10 : decode cX8_year 10 = .ok (.dup, 1) := by decide +kernel
theorem dX8_year_11 : decode cX8_year 11 = .ok (.getfield 131, 3) := by decide +kernel
theorem dX8_year_14 : decode cX8_year 14 = .ok (.iconst 1, 1) := by decide +kernel
theorem dX8_year_15 : decode cX8_year 15 = .ok (.iadd, 1) := by decide +kernel
theorem dX8_year_16 : decode cX8_year 16 = .ok (.putfield 131, 3) := by decide +kernel
theorem dX8_year_19 : decode cX8_year 19 = .ok (.iconst 0, 1) := by decide +kernel
theorem dX8_year_20 : decode cX8_year 20 = .ok (.istore_n 1, 1) := by decide +kernel
theorem dX8_year_21 : decode cX8_year 21 = .ok (.iload_n 1, 1) := by decide +kernel
theorem dX8_year_22 : decode cX8_year 22 = .ok (.iconst 4, 1) := by decide +kernel
theorem dX8_year_23 : decode cX8_year 23 = .ok (.if_icmp .ge 16, 3) := by decide +kernel
theorem dX8_year_26 : decode cX8_year 26 = .ok (.aload_n 0, 1) := by decide +kernel
theorem dX8_year_27 : decode cX8_year 27 = .ok (.getfield 38, 3) := by decide +kernel
theorem dX8_year_30 : decode cX8_year 30 = .ok (.iload_n 1, 1) := by decide +kernel
theorem dX8_year_31 : decode cX8_year 31 = .ok (.iconst 0, 1) := by decide +kernel
theorem dX8_year_32 : decode cX8_year 32 = .ok (.iastore, 1) := by decide +kernel
theorem dX8_year_33 : decode cX8_year 33 = .ok (.iinc 1 1, 3) := by decide +kernel
theorem dX8_year_36 : decode cX8_year 36 = .ok (.goto (-15), 3) := by decide +kernel
theorem dX8_year_39 : decode cX8_year 39 = .ok (.aload_n 0, 1) := by decide +kernel
theorem dX8_year_40 : decode cX8_year 40 = .ok (.getfield 131, 3) := by decide +kernel
theorem dX8_year_43 : decode cX8_year 43 = .ok (.ireturn, 1) := by decide +kernel
theorem dX8_rumour_0 : decode cX8_rumour 0 = .ok (.aload_n 0, 1) := by decide +kernel
theorem dX8_rumour_1 : decode cX8_rumour 1 = .ok (.iconst 0, 1) := by decide +kernel
theorem dX8_rumour_2 : decode cX8_rumour 2 = .ok (.putfield 69, 3) := by decide +kernel
theorem dX8_rumour_5 : decode cX8_rumour 5 = .ok (.aload_n 0, 1) := by decide +kernel
theorem dX8_rumour_6 : decode cX8_rumour 6 = .ok (.iload_n 1, 1) := by decide +kernel
theorem dX8_rumour_7 : decode cX8_rumour 7 = .ok (.invokevirtual 167, 3) := by decide +kernel
theorem dX8_rumour_10 : decode cX8_rumour 10 = .ok (.ifCond .eq 5, 3) := by decide +kernel
theorem dX8_rumour_13 : decode cX8_rumour 13 = .ok (.iconst (-1), 1) := by decide +kernel
theorem dX8_rumour_14 : decode cX8_rumour 14 = .ok (.ireturn, 1) := by decide +kernel
theorem dX8_rumour_15 : decode cX8_rumour 15 = .ok (.iload_n 2, 1) := by decide +kernel
theorem dX8_rumour_16 : decode cX8_rumour 16 = .ok (.i2l, 1) := by decide +kernel
theorem dX8_rumour_17 : decode cX8_rumour 17 = .ok (.lconst 1, 1) := by decide +kernel
theorem dX8_rumour_18 : decode cX8_rumour 18 = .ok (.ldc2_w 185, 3) := by decide +kernel
theorem dX8_rumour_21 : decode cX8_rumour 21 = .ok (.invokestatic 75, 3) := by decide +kernel
theorem dX8_rumour_24 : decode cX8_rumour 24 = .ok (.ifCond .ne 6, 3) := by decide +kernel
theorem dX8_rumour_27 : decode cX8_rumour 27 = .ok (.bipush (-2), 2) := by decide +kernel
theorem dX8_rumour_29 : decode cX8_rumour 29 = .ok (.ireturn, 1) := by decide +kernel
theorem dX8_rumour_30 : decode cX8_rumour 30 = .ok (.aload_n 0, 1) := by decide +kernel
theorem dX8_rumour_31 : decode cX8_rumour 31 = .ok (.getfield 38, 3) := by decide +kernel
theorem dX8_rumour_34 : decode cX8_rumour 34 = .ok (.iload_n 1, 1) := by decide +kernel
theorem dX8_rumour_35 : decode cX8_rumour 35 = .ok (.iaload, 1) := by decide +kernel
theorem dX8_rumour_36 : decode cX8_rumour 36 = .ok (.iload_n 2, 1) := by decide +kernel
theorem dX8_rumour_37 : decode cX8_rumour 37 = .ok (.iadd, 1) := by decide +kernel
theorem dX8_rumour_38 : decode cX8_rumour 38 = .ok (.bipush 99, 2) := by decide +kernel
theorem dX8_rumour_40 : decode cX8_rumour 40 = .ok (.if_icmp .le 6, 3) := by decide +kernel
theorem dX8_rumour_43 : decode cX8_rumour 43 = .ok (.bipush (-4), 2) := by decide +kernel
theorem dX8_rumour_45 : decode cX8_rumour 45 = .ok (.ireturn, 1) := by decide +kernel
theorem dX8_rumour_46 : decode cX8_rumour 46 = .ok (.aload_n 0, 1) := by decide +kernel
theorem dX8_rumour_47 : decode cX8_rumour 47 = .ok (.invokevirtual 182, 3) := by decide +kernel
theorem dX8_rumour_50 : decode cX8_rumour 50 = .ok (.aload_n 0, 1) := by decide +kernel
theorem dX8_rumour_51 : decode cX8_rumour 51 = .ok (.getfield 38, 3) := by decide +kernel
theorem dX8_rumour_54 : decode cX8_rumour 54 = .ok (.iload_n 1, 1) := by decide +kernel
theorem dX8_rumour_55 : decode cX8_rumour 55 = .ok (.dup2, 1) := by decide +kernel
theorem dX8_rumour_56 : decode cX8_rumour 56 = .ok (.iaload, 1) := by decide +kernel
theorem dX8_rumour_57 : decode cX8_rumour 57 = .ok (.iload_n 2, 1) := by decide +kernel
theorem dX8_rumour_58 : decode cX8_rumour 58 = .ok (.iadd, 1) := by decide +kernel
theorem dX8_rumour_59 : decode cX8_rumour 59 = .ok (.iastore, 1) := by decide +kernel
theorem dX8_rumour_60 : decode cX8_rumour 60 = .ok (.aload_n 0, 1) := by decide +kernel
theorem dX8_rumour_61 : decode cX8_rumour 61 = .ok (.getfield 38, 3) := by decide +kernel
theorem dX8_rumour_64 : decode cX8_rumour 64 = .ok (.iload_n 1, 1) := by decide +kernel
theorem dX8_rumour_65 : decode cX8_rumour 65 = .ok (.iaload, 1) := by decide +kernel
theorem dX8_rumour_66 : decode cX8_rumour 66 = .ok (.ireturn, 1) := by decide +kernel
theorem dX8_undo_0 : decode cX8_undo 0 = .ok (.aload_n 0, 1) := by decide +kernel
theorem dX8_undo_1 : decode cX8_undo 1 = .ok (.iconst 0, 1) := by decide +kernel
theorem dX8_undo_2 : decode cX8_undo 2 = .ok (.putfield 69, 3) := by decide +kernel
theorem dX8_undo_5 : decode cX8_undo 5 = .ok (.aload_n 0, 1) := by decide +kernel
theorem dX8_undo_6 : decode cX8_undo 6 = .ok (.getfield 134, 3) := by decide +kernel
theorem dX8_undo_9 : decode cX8_undo 9 = .ok (.ifCond .ne 6, 3) := by decide +kernel
theorem dX8_undo_12 : decode cX8_undo 12 = .ok (.bipush (-3), 2) := by decide +kernel
theorem dX8_undo_14 : decode cX8_undo 14 = .ok (.ireturn, 1) := by decide +kernel
theorem dX8_undo_15 : decode cX8_undo 15 = .ok (.aload_n 0, 1) := by decide +kernel
theorem dX8_undo_16 : decode cX8_undo 16 = .ok (.dup, 1) := by decide +kernel
theorem dX8_undo_17 : decode cX8_undo 17 = .ok (.getfield 134, 3) := by decide +kernel
theorem dX8_undo_20 : decode cX8_undo 20 = .ok (.iconst 1, 1) := by decide +kernel
theorem dX8_undo_21 : decode cX8_undo 21 = .ok (.isub, 1) := by decide +kernel
theorem dX8_undo_22 : decode cX8_undo 22 = .ok (.putfield 134, 3) := by decide +kernel
theorem dX8_undo_25 : decode cX8_undo 25 = .ok (.aload_n 0, 1) := by decide +kernel
theorem dX8_undo_26 : decode cX8_undo 26 = .ok (.aload_n 0, 1) := by decide +kernel
theorem dX8_undo_27 : decode cX8_undo 27 = .ok (.getfield 53, 3) := by decide +kernel
theorem dX8_undo_30 : decode cX8_undo 30 = .ok (.bipush 29, 2) := by decide +kernel
theorem dX8_undo_32 : decode cX8_undo 32 = .ok (.aload_n 0, 1) := by decide +kernel
theorem dX8_undo_33 : decode cX8_undo 33 = .ok (.getfield 134, 3) := by decide +kernel
theorem dX8_undo_36 : decode cX8_undo 36 = .ok (.imul, 1) := by decide +kernel
theorem dX8_undo_37 : decode cX8_undo 37 = .ok (.invokevirtual 187, 3) := by decide +kernel
theorem dX8_undo_40 : decode cX8_undo 40 = .ok (.aload_n 0, 1) := by decide +kernel
theorem dX8_undo_41 : decode cX8_undo 41 = .ok (.getfield 134, 3) := by decide +kernel
theorem dX8_undo_44 : decode cX8_undo 44 = .ok (.ireturn, 1) := by decide +kernel
theorem dX8_forgotten_0 : decode cX8_forgotten 0 = .ok (.aload_n 0, 1) := by decide +kernel
theorem dX8_forgotten_1 : decode cX8_forgotten 1 = .ok (.iconst 0, 1) := by decide +kernel
theorem dX8_forgotten_2 : decode cX8_forgotten 2 = .ok (.putfield 69, 3) := by decide +kernel
theorem dX8_forgotten_5 : decode cX8_forgotten 5 = .ok (.aload_n 0, 1) := by decide +kernel
theorem dX8_forgotten_6 : decode cX8_forgotten 6 = .ok (.iload_n 1, 1) := by decide +kernel
theorem dX8_forgotten_7 : decode cX8_forgotten 7 = .ok (.invokevirtual 164, 3) := by decide +kernel
theorem dX8_forgotten_10 : decode cX8_forgotten 10 = .ok (.ifCond .eq 5, 3) := by decide +kernel
theorem dX8_forgotten_13 : decode cX8_forgotten 13 = .ok (.iconst (-1), 1) := by decide +kernel
theorem dX8_forgotten_14 : decode cX8_forgotten 14 = .ok (.ireturn, 1) := by decide +kernel
theorem dX8_forgotten_15 : decode cX8_forgotten 15 = .ok (.aload_n 0, 1) := by decide +kernel
theorem dX8_forgotten_16 : decode cX8_forgotten 16 = .ok (.getfield 131, 3) := by decide +kernel
theorem dX8_forgotten_19 : decode cX8_forgotten 19 = .ok (.istore_n 2, 1) := by decide +kernel
theorem dX8_forgotten_20 : decode cX8_forgotten 20 = .ok (.aload_n 0, 1) := by decide +kernel
theorem dX8_forgotten_21 : decode cX8_forgotten 21 = .ok (.iload_n 2, 1) := by decide +kernel
theorem dX8_forgotten_22 : decode cX8_forgotten 22 = .ok (.invokevirtual 161, 3) := by decide +kernel
theorem dX8_forgotten_25 : decode cX8_forgotten 25 = .ok (.iload_n 1, 1) := by decide +kernel
theorem dX8_forgotten_26 : decode cX8_forgotten 26 = .ok (.invokestatic 101, 3) := by decide +kernel
theorem dX8_forgotten_29 : decode cX8_forgotten 29 = .ok (.ifCond .eq 9, 3) := by decide +kernel
theorem dX8_forgotten_32 : decode cX8_forgotten 32 = .ok (.iinc 2 1, 3) := by decide +kernel
theorem dX8_forgotten_35 : decode cX8_forgotten 35 = .ok (.goto (-15), 3) := by decide +kernel
theorem dX8_forgotten_38 : decode cX8_forgotten 38 = .ok (.iload_n 2, 1) := by decide +kernel
theorem dX8_forgotten_39 : decode cX8_forgotten 39 = .ok (.ireturn, 1) := by decide +kernel
theorem dX8_lie_0 : decode cX8_lie 0 = .ok (.aload_n 0, 1) := by decide +kernel
theorem dX8_lie_1 : decode cX8_lie 1 = .ok (.iconst 0, 1) := by decide +kernel
theorem dX8_lie_2 : decode cX8_lie 2 = .ok (.putfield 69, 3) := by decide +kernel
theorem dX8_lie_5 : decode cX8_lie 5 = .ok (.aload_n 0, 1) := by decide +kernel
theorem dX8_lie_6 : decode cX8_lie 6 = .ok (.iload_n 1, 1) := by decide +kernel
theorem dX8_lie_7 : decode cX8_lie 7 = .ok (.invokevirtual 167, 3) := by decide +kernel
theorem dX8_lie_10 : decode cX8_lie 10 = .ok (.ifCond .eq 5, 3) := by decide +kernel
theorem dX8_lie_13 : decode cX8_lie 13 = .ok (.iconst (-1), 1) := by decide +kernel
theorem dX8_lie_14 : decode cX8_lie 14 = .ok (.ireturn, 1) := by decide +kernel
theorem dX8_lie_15 : decode cX8_lie 15 = .ok (.iload_n 2, 1) := by decide +kernel
theorem dX8_lie_16 : decode cX8_lie 16 = .ok (.i2l, 1) := by decide +kernel
theorem dX8_lie_17 : decode cX8_lie 17 = .ok (.lconst 0, 1) := by decide +kernel
theorem dX8_lie_18 : decode cX8_lie 18 = .ok (.ldc2_w 190, 3) := by decide +kernel
theorem dX8_lie_21 : decode cX8_lie 21 = .ok (.invokestatic 75, 3) := by decide +kernel
theorem dX8_lie_24 : decode cX8_lie 24 = .ok (.ifCond .ne 6, 3) := by decide +kernel
theorem dX8_lie_27 : decode cX8_lie 27 = .ok (.bipush (-2), 2) := by decide +kernel
theorem dX8_lie_29 : decode cX8_lie 29 = .ok (.ireturn, 1) := by decide +kernel
theorem dX8_lie_30 : decode cX8_lie 30 = .ok (.iload_n 2, 1) := by decide +kernel
theorem dX8_lie_31 : decode cX8_lie 31 = .ok (.aload_n 0, 1) := by decide +kernel
theorem dX8_lie_32 : decode cX8_lie 32 = .ok (.iload_n 1, 1) := by decide +kernel
theorem dX8_lie_33 : decode cX8_lie 33 = .ok (.iconst 0, 1) := by decide +kernel
theorem dX8_lie_34 : decode cX8_lie 34 = .ok (.invokevirtual 170, 3) := by decide +kernel
theorem dX8_lie_37 : decode cX8_lie 37 = .ok (.isub, 1) := by decide +kernel
theorem dX8_lie_38 : decode cX8_lie 38 = .ok (.aload_n 0, 1) := by decide +kernel
theorem dX8_lie_39 : decode cX8_lie 39 = .ok (.getfield 38, 3) := by decide +kernel
theorem dX8_lie_42 : decode cX8_lie 42 = .ok (.iload_n 1, 1) := by decide +kernel
theorem dX8_lie_43 : decode cX8_lie 43 = .ok (.iaload, 1) := by decide +kernel
theorem dX8_lie_44 : decode cX8_lie 44 = .ok (.isub, 1) := by decide +kernel
theorem dX8_lie_45 : decode cX8_lie 45 = .ok (.istore_n 3, 1) := by decide +kernel
theorem dX8_lie_46 : decode cX8_lie 46 = .ok (.iload_n 3, 1) := by decide +kernel
theorem dX8_lie_47 : decode cX8_lie 47 = .ok (.ifCond .gt 5, 3) := by decide +kernel
theorem dX8_lie_50 : decode cX8_lie 50 = .ok (.iconst 0, 1) := by decide +kernel
theorem dX8_lie_51 : decode cX8_lie 51 = .ok (.ireturn, 1) := by decide +kernel
theorem dX8_lie_52 : decode cX8_lie 52 = .ok (.iconst 0, 1) := by decide +kernel
theorem dX8_lie_53 : decode cX8_lie 53 = .ok (.istore 4, 2) := by decide +kernel
theorem dX8_lie_55 : decode cX8_lie 55 = .ok (.iconst 0, 1) := by decide +kernel
theorem dX8_lie_56 : decode cX8_lie 56 = .ok (.istore 5, 2) := by decide +kernel
theorem dX8_lie_58 : decode cX8_lie 58 = .ok (.iconst 0, 1) := by decide +kernel
theorem dX8_lie_59 : decode cX8_lie 59 = .ok (.istore 6, 2) := by decide +kernel
theorem dX8_lie_61 : decode cX8_lie 61 = .ok (.iconst 0, 1) := by decide +kernel
theorem dX8_lie_62 : decode cX8_lie 62 = .ok (.istore 7, 2) := by decide +kernel
theorem dX8_lie_64 : decode cX8_lie 64 = .ok (.iconst 0, 1) := by decide +kernel
theorem dX8_lie_65 : decode cX8_lie 65 = .ok (.istore 8, 2) := by decide +kernel
theorem dX8_lie_67 : decode cX8_lie 67 = .ok (.iload 8, 2) := by decide +kernel
theorem dX8_lie_69 : decode cX8_lie 69 = .ok (.aload_n 0, 1) := by decide +kernel
theorem dX8_lie_70 : decode cX8_lie 70 = .ok (.getfield 72, 3) := by decide +kernel
theorem dX8_lie_73 : decode cX8_lie 73 = .ok (.if_icmp .ge 238, 3) := by decide +kernel
theorem dX8_lie_76 : decode cX8_lie 76 = .ok (.aload_n 0, 1) := by decide +kernel
theorem dX8_lie_77 : decode cX8_lie 77 = .ok (.aload_n 0, 1) := by decide +kernel
theorem dX8_lie_78 : decode cX8_lie 78 = .ok (.getfield 131, 3) := by decide +kernel
theorem dX8_lie_81 : decode cX8_lie 81 = .ok (.invokevirtual 161, 3) := by decide +kernel
theorem dX8_lie_84 : decode cX8_lie 84 = .ok (.iload 8, 2) := by decide +kernel
theorem dX8_lie_86 : decode cX8_lie 86 = .ok (.invokestatic 101, 3) := by decide +kernel
theorem dX8_lie_89 : decode cX8_lie 89 = .ok (.ifCond .eq 18, 3) := by decide +kernel
theorem dX8_lie_92 : decode cX8_lie 92 = .ok (.aload_n 0, 1) := by decide +kernel
theorem dX8_lie_93 : decode cX8_lie 93 = .ok (.getfield 17, 3) := by decide +kernel
theorem dX8_lie_96 : decode cX8_lie 96 = .ok (.iload 8, 2) := by decide +kernel
theorem dX8_lie_98 : decode cX8_lie 98 = .ok (.iaload, 1) := by decide +kernel
theorem dX8_lie_99 : decode cX8_lie 99 = .ok (.iload_n 1, 1) := by decide +kernel
theorem dX8_lie_100 : decode cX8_lie 100 = .ok (.if_icmp .ne 7, 3) := by decide +kernel
theorem dX8_lie_103 : decode cX8_lie 103 = .ok (.iconst 1, 1) := by decide +kernel
theorem dX8_lie_104 : decode cX8_lie 104 = .ok (.goto 4, 3) := by decide +kernel
theorem dX8_lie_107 : decode cX8_lie 107 = .ok (.iconst 0, 1) := by decide +kernel
theorem dX8_lie_108 : decode cX8_lie 108 = .ok (.istore 9, 2) := by decide +kernel
theorem dX8_lie_110 : decode cX8_lie 110 = .ok (.iload 7, 2) := by decide +kernel
theorem dX8_lie_112 : decode cX8_lie 112 = .ok (.iload 9, 2) := by decide +kernel
theorem dX8_lie_114 : decode cX8_lie 114 = .ok (.ifCond .eq 15, 3) := by decide +kernel
theorem dX8_lie_117 : decode cX8_lie 117 = .ok (.iconst 1, 1) := by decide +kernel
theorem dX8_lie_118 : decode cX8_lie 118 = .ok (.aload_n 0, 1) := by decide +kernel
theorem dX8_lie_119 : decode cX8_lie 119 = .ok (.getfield 20, 3) := by decide +kernel
theorem dX8_lie_122 : decode cX8_lie 122 = .ok (.iload 8, 2) := by decide +kernel
theorem dX8_lie_124 : decode cX8_lie 124 = .ok (.iaload, 1) := by decide +kernel
theorem dX8_lie_125 : decode cX8_lie 125 = .ok (.ishl, 1) := by decide +kernel
theorem dX8_lie_126 : decode cX8_lie 126 = .ok (.goto 4, 3) := by decide +kernel
theorem dX8_lie_129 : decode cX8_lie 129 = .ok (.iconst 0, 1) := by decide +kernel
theorem dX8_lie_130 : decode cX8_lie 130 = .ok (.ior, 1) := by decide +kernel
theorem dX8_lie_131 : decode cX8_lie 131 = .ok (.istore 7, 2) := by decide +kernel
theorem dX8_lie_133 : decode cX8_lie 133 = .ok (.iconst 0, 1) := by decide +kernel
theorem dX8_lie_134 : decode cX8_lie 134 = .ok (.istore 10, 2) := by decide +kernel
theorem dX8_lie_136 : decode cX8_lie 136 = .ok (.iconst 0, 1) := by decide +kernel
theorem dX8_lie_137 : decode cX8_lie 137 = .ok (.istore 11, 2) := by decide +kernel
theorem dX8_lie_139 : decode cX8_lie 139 = .ok (.iload 11, 2) := by decide +kernel
theorem dX8_lie_141 : decode cX8_lie 141 = .ok (.aload_n 0, 1) := by decide +kernel
theorem dX8_lie_142 : decode cX8_lie 142 = .ok (.getfield 72, 3) := by decide +kernel
theorem dX8_lie_145 : decode cX8_lie 145 = .ok (.if_icmp .ge 105, 3) := by decide +kernel
theorem dX8_lie_148 : decode cX8_lie 148 = .ok (.aload_n 0, 1) := by decide +kernel
theorem dX8_lie_149 : decode cX8_lie 149 = .ok (.getfield 17, 3) := by decide +kernel
theorem dX8_lie_152 : decode cX8_lie 152 = .ok (.iload 11, 2) := by decide +kernel
theorem dX8_lie_154 : decode cX8_lie 154 = .ok (.iaload, 1) := by decide +kernel
theorem dX8_lie_155 : decode cX8_lie 155 = .ok (.iload_n 1, 1) := by decide +kernel
theorem dX8_lie_156 : decode cX8_lie 156 = .ok (.if_icmp .ne 70, 3) := by decide +kernel
theorem dX8_lie_159 : decode cX8_lie 159 = .ok (.aload_n 0, 1) := by decide +kernel
theorem dX8_lie_160 : decode cX8_lie 160 = .ok (.getfield 17, 3) := by decide +kernel
theorem dX8_lie_163 : decode cX8_lie 163 = .ok (.iload 8, 2) := by decide +kernel
theorem dX8_lie_165 : decode cX8_lie 165 = .ok (.iaload, 1) := by decide +kernel
theorem dX8_lie_166 : decode cX8_lie 166 = .ok (.iload_n 1, 1) := by decide +kernel
theorem dX8_lie_167 : decode cX8_lie 167 = .ok (.if_icmp .ne 59, 3) := by decide +kernel
theorem dX8_lie_170 : decode cX8_lie 170 = .ok (.aload_n 0, 1) := by decide +kernel
theorem dX8_lie_171 : decode cX8_lie 171 = .ok (.iload 11, 2) := by decide +kernel
theorem dX8_lie_173 : decode cX8_lie 173 = .ok (.invokevirtual 140, 3) := by decide +kernel
theorem dX8_lie_176 : decode cX8_lie 176 = .ok (.ifCond .eq 50, 3) := by decide +kernel
theorem dX8_lie_179 : decode cX8_lie 179 = .ok (.aload_n 0, 1) := by decide +kernel
theorem dX8_lie_180 : decode cX8_lie 180 = .ok (.iload 8, 2) := by decide +kernel
theorem dX8_lie_182 : decode cX8_lie 182 = .ok (.aload_n 0, 1) := by decide +kernel
theorem dX8_lie_183 : decode cX8_lie 183 = .ok (.getfield 131, 3) := by decide +kernel
theorem dX8_lie_186 : decode cX8_lie 186 = .ok (.invokevirtual 144, 3) := by decide +kernel
theorem dX8_lie_189 : decode cX8_lie 189 = .ok (.ifCond .eq 37, 3) := by decide +kernel
theorem dX8_lie_192 : decode cX8_lie 192 = .ok (.aload_n 0, 1) := by decide +kernel
theorem dX8_lie_193 : decode cX8_lie 193 = .ok (.iload 11, 2) := by decide +kernel
theorem dX8_lie_195 : decode cX8_lie 195 = .ok (.iload 8, 2) := by decide +kernel
theorem dX8_lie_197 : decode cX8_lie 197 = .ok (.aload_n 0, 1) := by decide +kernel
theorem dX8_lie_198 : decode cX8_lie 198 = .ok (.getfield 131, 3) := by decide +kernel
theorem dX8_lie_201 : decode cX8_lie 201 = .ok (.invokevirtual 147, 3) := by decide +kernel
theorem dX8_lie_204 : decode cX8_lie 204 = .ok (.ifCond .eq 22, 3) := by decide +kernel
theorem dX8_lie_207 : decode cX8_lie 207 = .ok (.aload_n 0, 1) := by decide +kernel
theorem dX8_lie_208 : decode cX8_lie 208 = .ok (.getfield 26, 3) := by decide +kernel
theorem dX8_lie_211 : decode cX8_lie 211 = .ok (.iload 11, 2) := by decide +kernel
theorem dX8_lie_213 : decode cX8_lie 213 = .ok (.iaload, 1) := by decide +kernel
theorem dX8_lie_214 : decode cX8_lie 214 = .ok (.iload 8, 2) := by decide +kernel
theorem dX8_lie_216 : decode cX8_lie 216 = .ok (.invokestatic 101, 3) := by decide +kernel
theorem dX8_lie_219 : decode cX8_lie 219 = .ok (.ifCond .ne 7, 3) := by decide +kernel
theorem dX8_lie_222 : decode cX8_lie 222 = .ok (.iconst 1, 1) := by decide +kernel
theorem dX8_lie_223 : decode cX8_lie 223 = .ok (.goto 4, 3) := by decide +kernel
theorem dX8_lie_226 : decode cX8_lie 226 = .ok (.iconst 0, 1) := by decide +kernel
theorem dX8_lie_227 : decode cX8_lie 227 = .ok (.istore 12, 2) := by decide +kernel
theorem dX8_lie_229 : decode cX8_lie 229 = .ok (.iload 10, 2) := by decide +kernel
theorem dX8_lie_231 : decode cX8_lie 231 = .ok (.iload 12, 2) := by decide +kernel
theorem dX8_lie_233 : decode cX8_lie 233 = .ok (.ifCond .eq 7, 3) := by decide +kernel
theorem dX8_lie_236 : decode cX8_lie 236 = .ok (.iconst 1, 1) := by decide +kernel
theorem dX8_lie_237 : decode cX8_lie 237 = .ok (.goto 4, 3) := by decide +kernel
theorem dX8_lie_240 : decode cX8_lie 240 = .ok (.iconst 0, 1) := by decide +kernel
theorem dX8_lie_241 : decode cX8_lie 241 = .ok (.iadd, 1) := by decide +kernel
theorem dX8_lie_242 : decode cX8_lie 242 = .ok (.istore 10, 2) := by decide +kernel
theorem dX8_lie_244 : decode cX8_lie 244 = .ok (.iinc 11 1, 3) := by decide +kernel
theorem dX8_lie_247 : decode cX8_lie 247 = .ok (.goto (-108), 3) := by decide +kernel
theorem dX8_lie_250 : decode cX8_lie 250 = .ok (.iload 4, 2) := by decide +kernel
theorem dX8_lie_252 : decode cX8_lie 252 = .ok (.iload 10, 2) := by decide +kernel
theorem dX8_lie_254 : decode cX8_lie 254 = .ok (.iadd, 1) := by decide +kernel
theorem dX8_lie_255 : decode cX8_lie 255 = .ok (.istore 4, 2) := by decide +kernel
theorem dX8_lie_257 : decode cX8_lie 257 = .ok (.iload 5, 2) := by decide +kernel
theorem dX8_lie_259 : decode cX8_lie 259 = .ok (.iload 10, 2) := by decide +kernel
theorem dX8_lie_261 : decode cX8_lie 261 = .ok (.ifCond .le 12, 3) := by decide +kernel
theorem dX8_lie_264 : decode cX8_lie 264 = .ok (.iload 9, 2) := by decide +kernel
theorem dX8_lie_266 : decode cX8_lie 266 = .ok (.ifCond .ne 7, 3) := by decide +kernel
theorem dX8_lie_269 : decode cX8_lie 269 = .ok (.iconst 1, 1) := by decide +kernel
theorem dX8_lie_270 : decode cX8_lie 270 = .ok (.goto 4, 3) := by decide +kernel
theorem dX8_lie_273 : decode cX8_lie 273 = .ok (.iconst 0, 1) := by decide +kernel
theorem dX8_lie_274 : decode cX8_lie 274 = .ok (.iadd, 1) := by decide +kernel
theorem dX8_lie_275 : decode cX8_lie 275 = .ok (.istore 5, 2) := by decide +kernel
theorem dX8_lie_277 : decode cX8_lie 277 = .ok (.iload 6, 2) := by decide +kernel
theorem dX8_lie_279 : decode cX8_lie 279 = .ok (.iload 10, 2) := by decide +kernel
theorem dX8_lie_281 : decode cX8_lie 281 = .ok (.ifCond .le 20, 3) := by decide +kernel
theorem dX8_lie_284 : decode cX8_lie 284 = .ok (.iload 9, 2) := by decide +kernel
theorem dX8_lie_286 : decode cX8_lie 286 = .ok (.ifCond .ne 15, 3) := by decide +kernel
theorem dX8_lie_289 : decode cX8_lie 289 = .ok (.iconst 1, 1) := by decide +kernel
theorem dX8_lie_290 : decode cX8_lie 290 = .ok (.aload_n 0, 1) := by decide +kernel
theorem dX8_lie_291 : decode cX8_lie 291 = .ok (.getfield 20, 3) := by decide +kernel
theorem dX8_lie_294 : decode cX8_lie 294 = .ok (.iload 8, 2) := by decide +kernel
theorem dX8_lie_296 : decode cX8_lie 296 = .ok (.iaload, 1) := by decide +kernel
theorem dX8_lie_297 : decode cX8_lie 297 = .ok (.ishl, 1) := by decide +kernel
theorem dX8_lie_298 : decode cX8_lie 298 = .ok (.goto 4, 3) := by decide +kernel
theorem dX8_lie_301 : decode cX8_lie 301 = .ok (.iconst 0, 1) := by decide +kernel
theorem dX8_lie_302 : decode cX8_lie 302 = .ok (.ior, 1) := by decide +kernel
theorem dX8_lie_303 : decode cX8_lie 303 = .ok (.istore 6, 2) := by decide +kernel
theorem dX8_lie_305 : decode cX8_lie 305 = .ok (.iinc 8 1, 3) := by decide +kernel
theorem dX8_lie_308 : decode cX8_lie 308 = .ok (.goto (-241), 3) := by decide +kernel
theorem dX8_lie_311 : decode cX8_lie 311 = .ok (.aload_n 0, 1) := by decide +kernel
theorem dX8_lie_312 : decode cX8_lie 312 = .ok (.getfield 128, 3) := by decide +kernel
theorem dX8_lie_315 : decode cX8_lie 315 = .ok (.ifCond .ne 8, 3) := by decide +kernel
theorem dX8_lie_318 : decode cX8_lie 318 = .ok (.iload 4, 2) := by decide +kernel
theorem dX8_lie_320 : decode cX8_lie 320 = .ok (.goto 26, 3) := by decide +kernel
theorem dX8_lie_323 : decode cX8_lie 323 = .ok (.aload_n 0, 1) := by decide +kernel
theorem dX8_lie_324 : decode cX8_lie 324 = .ok (.getfield 128, 3) := by decide +kernel
theorem dX8_lie_327 : decode cX8_lie 327 = .ok (.iconst 1, 1) := by decide +kernel
theorem dX8_lie_328 : decode cX8_lie 328 = .ok (.if_icmp .ne 8, 3) := by decide +kernel
theorem dX8_lie_331 : decode cX8_lie 331 = .ok (.iload 5, 2) := by decide +kernel
theorem dX8_lie_333 : decode cX8_lie 333 = .ok (.goto 13, 3) := by decide +kernel
theorem dX8_lie_336 : decode cX8_lie 336 = .ok (.iload 6, 2) := by decide +kernel
theorem dX8_lie_338 : decode cX8_lie 338 = .ok (.iload 7, 2) := by decide +kernel
theorem dX8_lie_340 : decode cX8_lie 340 = .ok (.iconst (-1), 1) := by decide +kernel
theorem dX8_lie_341 : decode cX8_lie 341 = .ok (.ixor, 1) := by decide +kernel
theorem dX8_lie_342 : decode cX8_lie 342 = .ok (.iand, 1) := by decide +kernel
theorem dX8_lie_343 : decode cX8_lie 343 = .ok (.invokestatic 151, 3) := by decide +kernel
theorem dX8_lie_346 : decode cX8_lie 346 = .ok (.istore 8, 2) := by decide +kernel
theorem dX8_lie_348 : decode cX8_lie 348 = .ok (.iload_n 3, 1) := by decide +kernel
theorem dX8_lie_349 : decode cX8_lie 349 = .ok (.iload 8, 2) := by decide +kernel
theorem dX8_lie_351 : decode cX8_lie 351 = .ok (.if_icmp .gt 7, 3) := by decide +kernel
theorem dX8_lie_354 : decode cX8_lie 354 = .ok (.iload_n 3, 1) := by decide +kernel
theorem dX8_lie_355 : decode cX8_lie 355 = .ok (.goto 5, 3) := by decide +kernel
theorem dX8_lie_358 : decode cX8_lie 358 = .ok (.bipush (-9), 2) := by decide +kernel
theorem dX8_lie_360 : decode cX8_lie 360 = .ok (.ireturn, 1) := by decide +kernel
theorem dX8_leave_0 : decode cX8_leave 0 = .ok (.aload_n 0, 1) := by decide +kernel
theorem dX8_leave_1 : decode cX8_leave 1 = .ok (.iconst 0, 1) := by decide +kernel
theorem dX8_leave_2 : decode cX8_leave 2 = .ok (.putfield 69, 3) := by decide +kernel
theorem dX8_leave_5 : decode cX8_leave 5 = .ok (.aload_n 0, 1) := by decide +kernel
theorem dX8_leave_6 : decode cX8_leave 6 = .ok (.iload_n 1, 1) := by decide +kernel
theorem dX8_leave_7 : decode cX8_leave 7 = .ok (.invokevirtual 167, 3) := by decide +kernel
theorem dX8_leave_10 : decode cX8_leave 10 = .ok (.ifCond .eq 5, 3) := by decide +kernel
theorem dX8_leave_13 : decode cX8_leave 13 = .ok (.iconst (-1), 1) := by decide +kernel
theorem dX8_leave_14 : decode cX8_leave 14 = .ok (.ireturn, 1) := by decide +kernel
theorem dX8_leave_15 : decode cX8_leave 15 = .ok (.iload_n 2, 1) := by decide +kernel
theorem dX8_leave_16 : decode cX8_leave 16 = .ok (.i2l, 1) := by decide +kernel
theorem dX8_leave_17 : decode cX8_leave 17 = .ok (.lconst 0, 1) := by decide +kernel
theorem dX8_leave_18 : decode cX8_leave 18 = .ok (.ldc2_w 190, 3) := by decide +kernel
theorem dX8_leave_21 : decode cX8_leave 21 = .ok (.invokestatic 75, 3) := by decide +kernel
theorem dX8_leave_24 : decode cX8_leave 24 = .ok (.ifCond .ne 6, 3) := by decide +kernel
theorem dX8_leave_27 : decode cX8_leave 27 = .ok (.bipush (-2), 2) := by decide +kernel
theorem dX8_leave_29 : decode cX8_leave 29 = .ok (.ireturn, 1) := by decide +kernel
theorem dX8_leave_30 : decode cX8_leave 30 = .ok (.iconst 0, 1) := by decide +kernel
theorem dX8_leave_31 : decode cX8_leave 31 = .ok (.istore_n 3, 1) := by decide +kernel
theorem dX8_leave_32 : decode cX8_leave 32 = .ok (.iconst 0, 1) := by decide +kernel
theorem dX8_leave_33 : decode cX8_leave 33 = .ok (.istore 4, 2) := by decide +kernel
theorem dX8_leave_35 : decode cX8_leave 35 = .ok (.iload 4, 2) := by decide +kernel
theorem dX8_leave_37 : decode cX8_leave 37 = .ok (.aload_n 0, 1) := by decide +kernel
theorem dX8_leave_38 : decode cX8_leave 38 = .ok (.getfield 72, 3) := by decide +kernel
theorem dX8_leave_41 : decode cX8_leave 41 = .ok (.if_icmp .ge 40, 3) := by decide +kernel
theorem dX8_leave_44 : decode cX8_leave 44 = .ok (.iload_n 3, 1) := by decide +kernel
theorem dX8_leave_45 : decode cX8_leave 45 = .ok (.aload_n 0, 1) := by decide +kernel
theorem dX8_leave_46 : decode cX8_leave 46 = .ok (.getfield 17, 3) := by decide +kernel
theorem dX8_leave_49 : decode cX8_leave 49 = .ok (.iload 4, 2) := by decide +kernel
theorem dX8_leave_51 : decode cX8_leave 51 = .ok (.iaload, 1) := by decide +kernel
theorem dX8_leave_52 : decode cX8_leave 52 = .ok (.iload_n 1, 1) := by decide +kernel
theorem dX8_leave_53 : decode cX8_leave 53 = .ok (.if_icmp .ne 19, 3) := by decide +kernel
theorem dX8_leave_56 : decode cX8_leave 56 = .ok (.aload_n 0, 1) := by decide +kernel
theorem dX8_leave_57 : decode cX8_leave 57 = .ok (.iload 4, 2) := by decide +kernel
theorem dX8_leave_59 : decode cX8_leave 59 = .ok (.invokevirtual 140, 3) := by decide +kernel
theorem dX8_leave_62 : decode cX8_leave 62 = .ok (.ifCond .eq 10, 3) := by decide +kernel
theorem dX8_leave_65 : decode cX8_leave 65 = .ok (.iconst 1, 1) := by decide +kernel
theorem dX8_leave_66 : decode cX8_leave 66 = .ok (.iload 4, 2) := by decide +kernel
theorem dX8_leave_68 : decode cX8_leave 68 = .ok (.ishl, 1) := by decide +kernel
theorem dX8_leave_69 : decode cX8_leave 69 = .ok (.goto 4, 3) := by decide +kernel
theorem dX8_leave_72 : decode cX8_leave 72 = .ok (.iconst 0, 1) := by decide +kernel
theorem dX8_leave_73 : decode cX8_leave 73 = .ok (.ior, 1) := by decide +kernel
theorem dX8_leave_74 : decode cX8_leave 74 = .ok (.istore_n 3, 1) := by decide +kernel
theorem dX8_leave_75 : decode cX8_leave 75 = .ok (.iinc 4 1, 3) := by decide +kernel
theorem dX8_leave_78 : decode cX8_leave 78 = .ok (.goto (-43), 3) := by decide +kernel
theorem dX8_leave_81 : decode cX8_leave 81 = .ok (.bipush (-9), 2) := by decide +kernel
theorem dX8_leave_83 : decode cX8_leave 83 = .ok (.istore 4, 2) := by decide +kernel
theorem dX8_leave_85 : decode cX8_leave 85 = .ok (.iconst 0, 1) := by decide +kernel
theorem dX8_leave_86 : decode cX8_leave 86 = .ok (.istore 5, 2) := by decide +kernel
theorem dX8_leave_88 : decode cX8_leave 88 = .ok (.iload 5, 2) := by decide +kernel
theorem dX8_leave_90 : decode cX8_leave 90 = .ok (.iconst 1, 1) := by decide +kernel
theorem dX8_leave_91 : decode cX8_leave 91 = .ok (.aload_n 0, 1) := by decide +kernel
theorem dX8_leave_92 : decode cX8_leave 92 = .ok (.getfield 72, 3) := by decide +kernel
theorem dX8_leave_95 : decode cX8_leave 95 = .ok (.ishl, 1) := by decide +kernel
theorem dX8_leave_96 : decode cX8_leave 96 = .ok (.if_icmp .ge 72, 3) := by decide +kernel
theorem dX8_leave_99 : decode cX8_leave 99 = .ok (.iload 4, 2) := by decide +kernel
theorem dX8_leave_101 : decode cX8_leave 101 = .ok (.bipush (-9), 2) := by decide +kernel
theorem dX8_leave_103 : decode cX8_leave 103 = .ok (.if_icmp .eq 16, 3) := by decide +kernel
theorem dX8_leave_106 : decode cX8_leave 106 = .ok (.iload 5, 2) := by decide +kernel
theorem dX8_leave_108 : decode cX8_leave 108 = .ok (.invokestatic 151, 3) := by decide +kernel
theorem dX8_leave_111 : decode cX8_leave 111 = .ok (.iload 4, 2) := by decide +kernel
theorem dX8_leave_113 : decode cX8_leave 113 = .ok (.invokestatic 151, 3) := by decide +kernel
theorem dX8_leave_116 : decode cX8_leave 116 = .ok (.if_icmp .ge 7, 3) := by decide +kernel
theorem dX8_leave_119 : decode cX8_leave 119 = .ok (.iconst 1, 1) := by decide +kernel
theorem dX8_leave_120 : decode cX8_leave 120 = .ok (.goto 4, 3) := by decide +kernel
theorem dX8_leave_123 : decode cX8_leave 123 = .ok (.iconst 0, 1) := by decide +kernel
theorem dX8_leave_124 : decode cX8_leave 124 = .ok (.istore 6, 2) := by decide +kernel
theorem dX8_leave_126 : decode cX8_leave 126 = .ok (.iload 6, 2) := by decide +kernel
theorem dX8_leave_128 : decode cX8_leave 128 = .ok (.ifCond .eq 34, 3) := by decide +kernel
theorem dX8_leave_131 : decode cX8_leave 131 = .ok (.iload 5, 2) := by decide +kernel
theorem dX8_leave_133 : decode cX8_leave 133 = .ok (.iload_n 3, 1) := by decide +kernel
theorem dX8_leave_134 : decode cX8_leave 134 = .ok (.iconst (-1), 1) := by decide +kernel
theorem dX8_leave_135 : decode cX8_leave 135 = .ok (.ixor, 1) := by decide +kernel
theorem dX8_leave_136 : decode cX8_leave 136 = .ok (.iand, 1) := by decide +kernel
theorem dX8_leave_137 : decode cX8_leave 137 = .ok (.ifCond .ne 25, 3) := by decide +kernel
theorem dX8_leave_140 : decode cX8_leave 140 = .ok (.aload_n 0, 1) := by decide +kernel
theorem dX8_leave_141 : decode cX8_leave 141 = .ok (.iload_n 1, 1) := by decide +kernel
theorem dX8_leave_142 : decode cX8_leave 142 = .ok (.iload 5, 2) := by decide +kernel
theorem dX8_leave_144 : decode cX8_leave 144 = .ok (.invokevirtual 170, 3) := by decide +kernel
theorem dX8_leave_147 : decode cX8_leave 147 = .ok (.aload_n 0, 1) := by decide +kernel
theorem dX8_leave_148 : decode cX8_leave 148 = .ok (.getfield 38, 3) := by decide +kernel
theorem dX8_leave_151 : decode cX8_leave 151 = .ok (.iload_n 1, 1) := by decide +kernel
theorem dX8_leave_152 : decode cX8_leave 152 = .ok (.iaload, 1) := by decide +kernel
theorem dX8_leave_153 : decode cX8_leave 153 = .ok (.iadd, 1) := by decide +kernel
theorem dX8_leave_154 : decode cX8_leave 154 = .ok (.iload_n 2, 1) := by decide +kernel
theorem dX8_leave_155 : decode cX8_leave 155 = .ok (.if_icmp .gt 7, 3) := by decide +kernel
theorem dX8_leave_158 : decode cX8_leave 158 = .ok (.iload 5, 2) := by decide +kernel
theorem dX8_leave_160 : decode cX8_leave 160 = .ok (.istore 4, 2) := by decide +kernel
theorem dX8_leave_162 : decode cX8_leave 162 = .ok (.iinc 5 1, 3) := by decide +kernel
theorem dX8_leave_165 : decode cX8_leave 165 = .ok (.goto (-77), 3) := by decide +kernel
theorem dX8_leave_168 : decode cX8_leave 168 = .ok (.iload 4, 2) := by decide +kernel
theorem dX8_leave_170 : decode cX8_leave 170 = .ok (.ireturn, 1) := by decide +kernel
theorem dX8_countBy_0 : decode cX8_countBy 0 = .ok (.iconst 0, 1) := by decide +kernel
theorem dX8_countBy_1 : decode cX8_countBy 1 = .ok (.istore_n 3, 1) := by decide +kernel
theorem dX8_countBy_2 : decode cX8_countBy 2 = .ok (.iconst 0, 1) := by decide +kernel
theorem dX8_countBy_3 : decode cX8_countBy 3 = .ok (.istore 4, 2) := by decide +kernel
theorem dX8_countBy_5 : decode cX8_countBy 5 = .ok (.iconst 0, 1) := by decide +kernel
theorem dX8_countBy_6 : decode cX8_countBy 6 = .ok (.istore 5, 2) := by decide +kernel
theorem dX8_countBy_8 : decode cX8_countBy 8 = .ok (.iload 5, 2) := by decide +kernel
theorem dX8_countBy_10 : decode cX8_countBy 10 = .ok (.aload_n 0, 1) := by decide +kernel
theorem dX8_countBy_11 : decode cX8_countBy 11 = .ok (.getfield 72, 3) := by decide +kernel
theorem dX8_countBy_14 : decode cX8_countBy 14 = .ok (.if_icmp .ge 56, 3) := by decide +kernel
theorem dX8_countBy_17 : decode cX8_countBy 17 = .ok (.iload_n 1, 1) := by decide +kernel
theorem dX8_countBy_18 : decode cX8_countBy 18 = .ok (.iload 5, 2) := by decide +kernel
theorem dX8_countBy_20 : decode cX8_countBy 20 = .ok (.invokestatic 101, 3) := by decide +kernel
theorem dX8_countBy_23 : decode cX8_countBy 23 = .ok (.ifCond .eq 41, 3) := by decide +kernel
theorem dX8_countBy_26 : decode cX8_countBy 26 = .ok (.iload_n 2, 1) := by decide +kernel
theorem dX8_countBy_27 : decode cX8_countBy 27 = .ok (.iload 5, 2) := by decide +kernel
theorem dX8_countBy_29 : decode cX8_countBy 29 = .ok (.invokestatic 101, 3) := by decide +kernel
theorem dX8_countBy_32 : decode cX8_countBy 32 = .ok (.ifCond .ne 32, 3) := by decide +kernel
theorem dX8_countBy_35 : decode cX8_countBy 35 = .ok (.iload_n 3, 1) := by decide +kernel
theorem dX8_countBy_36 : decode cX8_countBy 36 = .ok (.aload_n 0, 1) := by decide +kernel
theorem dX8_countBy_37 : decode cX8_countBy 37 = .ok (.getfield 26, 3) := by decide +kernel
theorem dX8_countBy_40 : decode cX8_countBy 40 = .ok (.iload 5, 2) := by decide +kernel
theorem dX8_countBy_42 : decode cX8_countBy 42 = .ok (.iaload, 1) := by decide +kernel
theorem dX8_countBy_43 : decode cX8_countBy 43 = .ok (.iload_n 2, 1) := by decide +kernel
theorem dX8_countBy_44 : decode cX8_countBy 44 = .ok (.iand, 1) := by decide +kernel
theorem dX8_countBy_45 : decode cX8_countBy 45 = .ok (.invokestatic 151, 3) := by decide +kernel
theorem dX8_countBy_48 : decode cX8_countBy 48 = .ok (.iadd, 1) := by decide +kernel
theorem dX8_countBy_49 : decode cX8_countBy 49 = .ok (.istore_n 3, 1) := by decide +kernel
theorem dX8_countBy_50 : decode cX8_countBy 50 = .ok (.iload 4, 2) := by decide +kernel
theorem dX8_countBy_52 : decode cX8_countBy 52 = .ok (.aload_n 0, 1) := by decide +kernel
theorem dX8_countBy_53 : decode cX8_countBy 53 = .ok (.getfield 26, 3) := by decide +kernel
theorem dX8_countBy_56 : decode cX8_countBy 56 = .ok (.iload 5, 2) := by decide +kernel
theorem dX8_countBy_58 : decode cX8_countBy 58 = .ok (.iaload, 1) := by decide +kernel
theorem dX8_countBy_59 : decode cX8_countBy 59 = .ok (.iload_n 2, 1) := by decide +kernel
theorem dX8_countBy_60 : decode cX8_countBy 60 = .ok (.iand, 1) := by decide +kernel
theorem dX8_countBy_61 : decode cX8_countBy 61 = .ok (.ior, 1) := by decide +kernel
theorem dX8_countBy_62 : decode cX8_countBy 62 = .ok (.istore 4, 2) := by decide +kernel
theorem dX8_countBy_64 : decode cX8_countBy 64 = .ok (.iinc 5 1, 3) := by decide +kernel
theorem dX8_countBy_67 : decode cX8_countBy 67 = .ok (.goto (-59), 3) := by decide +kernel
theorem dX8_countBy_70 : decode cX8_countBy 70 = .ok (.aload_n 0, 1) := by decide +kernel
theorem dX8_countBy_71 : decode cX8_countBy 71 = .ok (.iload_n 3, 1) := by decide +kernel
theorem dX8_countBy_72 : decode cX8_countBy 72 = .ok (.iload 4, 2) := by decide +kernel
theorem dX8_countBy_74 : decode cX8_countBy 74 = .ok (.invokevirtual 158, 3) := by decide +kernel
theorem dX8_countBy_77 : decode cX8_countBy 77 = .ok (.ireturn, 1) := by decide +kernel
theorem dX8_laySets_0 : decode cX8_laySets 0 = .ok (.aload_n 0, 1) := by decide +kernel
theorem dX8_laySets_1 : decode cX8_laySets 1 = .ok (.iload_n 1, 1) := by decide +kernel
theorem dX8_laySets_2 : decode cX8_laySets 2 = .ok (.invokevirtual 173, 3) := by decide +kernel
theorem dX8_laySets_5 : decode cX8_laySets 5 = .ok (.istore_n 3, 1) := by decide +kernel
theorem dX8_laySets_6 : decode cX8_laySets 6 = .ok (.aload_n 0, 1) := by decide +kernel
theorem dX8_laySets_7 : decode cX8_laySets 7 = .ok (.iconst 0, 1) := by decide +kernel
theorem dX8_laySets_8 : decode cX8_laySets 8 = .ok (.putfield 192, 3) := by decide +kernel
theorem dX8_laySets_11 : decode cX8_laySets 11 = .ok (.aload_n 0, 1) := by decide +kernel
theorem dX8_laySets_12 : decode cX8_laySets 12 = .ok (.bipush (-9), 2) := by decide +kernel
theorem dX8_laySets_14 : decode cX8_laySets 14 = .ok (.putfield 195, 3) := by decide +kernel
theorem dX8_laySets_17 : decode cX8_laySets 17 = .ok (.aload_n 0, 1) := by decide +kernel
theorem dX8_laySets_18 : decode cX8_laySets 18 = .ok (.bipush (-9), 2) := by decide +kernel
theorem dX8_laySets_20 : decode cX8_laySets 20 = .ok (.putfield 198, 3) := by decide +kernel
theorem dX8_laySets_23 : decode cX8_laySets 23 = .ok (.iconst 0, 1) := by decide +kernel
theorem dX8_laySets_24 : decode cX8_laySets 24 = .ok (.istore 4, 2) := by decide +kernel
theorem dX8_laySets_26 : decode cX8_laySets 26 = .ok (.iload 4, 2) := by decide +kernel
theorem dX8_laySets_28 : decode cX8_laySets 28 = .ok (.bipush 8, 2) := by decide +kernel
theorem dX8_laySets_30 : decode cX8_laySets 30 = .ok (.if_icmp .ge 17, 3) := by decide +kernel
theorem dX8_laySets_33 : decode cX8_laySets 33 = .ok (.aload_n 0, 1) := by decide +kernel
theorem dX8_laySets_34 : decode cX8_laySets 34 = .ok (.getfield 63, 3) := by decide +kernel
theorem dX8_laySets_37 : decode cX8_laySets 37 = .ok (.iload 4, 2) := by decide +kernel
theorem dX8_laySets_39 : decode cX8_laySets 39 = .ok (.iconst 0, 1) := by decide +kernel
theorem dX8_laySets_40 : decode cX8_laySets 40 = .ok (.iastore, 1) := by decide +kernel
theorem dX8_laySets_41 : decode cX8_laySets 41 = .ok (.iinc 4 1, 3) := by decide +kernel
theorem dX8_laySets_44 : decode cX8_laySets 44 = .ok (.goto (-18), 3) := by decide +kernel
theorem dX8_laySets_47 : decode cX8_laySets 47 = .ok (.iconst 0, 1) := by decide +kernel
theorem dX8_laySets_48 : decode cX8_laySets 48 = .ok (.istore 4, 2) := by decide +kernel
theorem dX8_laySets_50 : decode cX8_laySets 50 = .ok (.iload 4, 2) := by decide +kernel
theorem dX8_laySets_52 : decode cX8_laySets 52 = .ok (.iconst 1, 1) := by decide +kernel
theorem dX8_laySets_53 : decode cX8_laySets 53 = .ok (.aload_n 0, 1) := by decide +kernel
theorem dX8_laySets_54 : decode cX8_laySets 54 = .ok (.getfield 72, 3) := by decide +kernel
theorem dX8_laySets_57 : decode cX8_laySets 57 = .ok (.ishl, 1) := by decide +kernel
theorem dX8_laySets_58 : decode cX8_laySets 58 = .ok (.if_icmp .ge 147, 3) := by decide +kernel
theorem dX8_laySets_61 : decode cX8_laySets 61 = .ok (.iload 4, 2) := by decide +kernel
theorem dX8_laySets_63 : decode cX8_laySets 63 = .ok (.iload_n 3, 1) := by decide +kernel
theorem dX8_laySets_64 : decode cX8_laySets 64 = .ok (.iconst (-1), 1) := by decide +kernel
theorem dX8_laySets_65 : decode cX8_laySets 65 = .ok (.ixor, 1) := by decide +kernel
theorem dX8_laySets_66 : decode cX8_laySets 66 = .ok (.iand, 1) := by decide +kernel
theorem dX8_laySets_67 : decode cX8_laySets 67 = .ok (.ifCond .ne 132, 3) := by decide +kernel
theorem dX8_laySets_70 : decode cX8_laySets 70 = .ok (.aload_n 0, 1) := by decide +kernel
theorem dX8_laySets_71 : decode cX8_laySets 71 = .ok (.iload_n 3, 1) := by decide +kernel
theorem dX8_laySets_72 : decode cX8_laySets 72 = .ok (.iload 4, 2) := by decide +kernel
theorem dX8_laySets_74 : decode cX8_laySets 74 = .ok (.invokevirtual 201, 3) := by decide +kernel
theorem dX8_laySets_77 : decode cX8_laySets 77 = .ok (.iload_n 2, 1) := by decide +kernel
theorem dX8_laySets_78 : decode cX8_laySets 78 = .ok (.if_icmp .ne 121, 3) := by decide +kernel
theorem dX8_laySets_81 : decode cX8_laySets 81 = .ok (.iload_n 3, 1) := by decide +kernel
theorem dX8_laySets_82 : decode cX8_laySets 82 = .ok (.invokestatic 151, 3) := by decide +kernel
theorem dX8_laySets_85 : decode cX8_laySets 85 = .ok (.iload 4, 2) := by decide +kernel
theorem dX8_laySets_87 : decode cX8_laySets 87 = .ok (.invokestatic 151, 3) := by decide +kernel
theorem dX8_laySets_90 : decode cX8_laySets 90 = .ok (.isub, 1) := by decide +kernel
theorem dX8_laySets_91 : decode cX8_laySets 91 = .ok (.istore 5, 2) := by decide +kernel
theorem dX8_laySets_93 : decode cX8_laySets 93 = .ok (.aload_n 0, 1) := by decide +kernel
theorem dX8_laySets_94 : decode cX8_laySets 94 = .ok (.dup, 1) := by decide +kernel
theorem dX8_laySets_95 : decode cX8_laySets 95 = .ok (.getfield 192, 3) := by decide +kernel
theorem dX8_laySets_98 : decode cX8_laySets 98 = .ok (.iconst 1, 1) := by decide +kernel
theorem dX8_laySets_99 : decode cX8_laySets 99 = .ok (.iadd, 1) := by decide +kernel
theorem dX8_laySets_100 : decode cX8_laySets 100 = .ok (.putfield 192, 3) := by decide +kernel
theorem dX8_laySets_103 : decode cX8_laySets 103 = .ok (.aload_n 0, 1) := by decide +kernel
theorem dX8_laySets_104 : decode cX8_laySets 104 = .ok (.aload_n 0, 1) := by decide +kernel
theorem dX8_laySets_105 : decode cX8_laySets 105 = .ok (.getfield 195, 3) := by decide +kernel
theorem dX8_laySets_108 : decode cX8_laySets 108 = .ok (.bipush (-9), 2) := by decide +kernel
theorem dX8_laySets_110 : decode cX8_laySets 110 = .ok (.if_icmp .eq 12, 3) := by decide +kernel
theorem dX8_laySets_113 : decode cX8_laySets 113 = .ok (.iload 5, 2) := by decide +kernel
theorem dX8_laySets_115 : decode cX8_laySets 115 = .ok (.aload_n 0, 1) := by decide +kernel
theorem dX8_laySets_116 : decode cX8_laySets 116 = .ok (.getfield 195, 3) := by decide +kernel
theorem dX8_laySets_119 : decode cX8_laySets 119 = .ok (.if_icmp .ge 8, 3) := by decide +kernel
theorem dX8_laySets_122 : decode cX8_laySets 122 = .ok (.iload 5, 2) := by decide +kernel
theorem dX8_laySets_124 : decode cX8_laySets 124 = .ok (.goto 7, 3) := by decide +kernel
theorem dX8_laySets_127 : decode cX8_laySets 127 = .ok (.aload_n 0, 1) := by decide +kernel
theorem dX8_laySets_128 : decode cX8_laySets 128 = .ok (.getfield 195, 3) := by decide +kernel
theorem dX8_laySets_131 : decode cX8_laySets 131 = .ok (.putfield 195, 3) := by decide +kernel
theorem dX8_laySets_134 : decode cX8_laySets 134 = .ok (.aload_n 0, 1) := by decide +kernel
theorem dX8_laySets_135 : decode cX8_laySets 135 = .ok (.iload 5, 2) := by decide +kernel
theorem dX8_laySets_137 : decode cX8_laySets 137 = .ok (.aload_n 0, 1) := by decide +kernel
theorem dX8_laySets_138 : decode cX8_laySets 138 = .ok (.getfield 198, 3) := by decide +kernel
theorem dX8_laySets_141 : decode cX8_laySets 141 = .ok (.if_icmp .le 8, 3) := by decide +kernel
theorem dX8_laySets_144 : decode cX8_laySets 144 = .ok (.iload 5, 2) := by decide +kernel
theorem dX8_laySets_146 : decode cX8_laySets 146 = .ok (.goto 7, 3) := by decide +kernel
theorem dX8_laySets_149 : decode cX8_laySets 149 = .ok (.aload_n 0, 1) := by decide +kernel
theorem dX8_laySets_150 : decode cX8_laySets 150 = .ok (.getfield 198, 3) := by decide +kernel
theorem dX8_laySets_153 : decode cX8_laySets 153 = .ok (.putfield 198, 3) := by decide +kernel
theorem dX8_laySets_156 : decode cX8_laySets 156 = .ok (.iconst 0, 1) := by decide +kernel
theorem dX8_laySets_157 : decode cX8_laySets 157 = .ok (.istore 6, 2) := by decide +kernel
theorem dX8_laySets_159 : decode cX8_laySets 159 = .ok (.iload 6, 2) := by decide +kernel
theorem dX8_laySets_161 : decode cX8_laySets 161 = .ok (.aload_n 0, 1) := by decide +kernel
theorem dX8_laySets_162 : decode cX8_laySets 162 = .ok (.getfield 72, 3) := by decide +kernel
theorem dX8_laySets_165 : decode cX8_laySets 165 = .ok (.if_icmp .ge 34, 3) := by decide +kernel
theorem dX8_laySets_168 : decode cX8_laySets 168 = .ok (.aload_n 0, 1) := by decide +kernel
theorem dX8_laySets_169 : decode cX8_laySets 169 = .ok (.getfield 63, 3) := by decide +kernel
theorem dX8_laySets_172 : decode cX8_laySets 172 = .ok (.iload 6, 2) := by decide +kernel
theorem dX8_laySets_174 : decode cX8_laySets 174 = .ok (.dup2, 1) := by decide +kernel
theorem dX8_laySets_175 : decode cX8_laySets 175 = .ok (.iaload, 1) := by decide +kernel
theorem dX8_laySets_176 : decode cX8_laySets 176 = .ok (.iload 4, 2) := by decide +kernel
theorem dX8_laySets_178 : decode cX8_laySets 178 = .ok (.iload 6, 2) := by decide +kernel
theorem dX8_laySets_180 : decode cX8_laySets 180 = .ok (.invokestatic 101, 3) := by decide +kernel
theorem dX8_laySets_183 : decode cX8_laySets 183 = .ok (.ifCond .eq 7, 3) := by decide +kernel
theorem dX8_laySets_186 : decode cX8_laySets 186 = .ok (.iconst 1, 1) := by decide +kernel
theorem dX8_laySets_187 : decode cX8_laySets 187 = .ok (.goto 4, 3) := by decide +kernel
theorem dX8_laySets_190 : decode cX8_laySets 190 = .ok (.iconst 0, 1) := by decide +kernel
theorem dX8_laySets_191 : decode cX8_laySets 191 = .ok (.iadd, 1) := by decide +kernel
theorem dX8_laySets_192 : decode cX8_laySets 192 = .ok (.iastore, 1) := by decide +kernel
theorem dX8_laySets_193 : decode cX8_laySets 193 = .ok (.iinc 6 1, 3) := by decide +kernel
theorem dX8_laySets_196 : decode cX8_laySets 196 = .ok (.goto (-37), 3) := by decide +kernel
theorem dX8_laySets_199 : decode cX8_laySets 199 = .ok (.iinc 4 1, 3) := by decide +kernel
theorem dX8_laySets_202 : decode cX8_laySets 202 = .ok (.goto (-152), 3) := by decide +kernel
theorem dX8_laySets_205 : decode cX8_laySets 205 = .ok (.return_, 1) := by decide +kernel
theorem dX8_spans_0 : decode cX8_spans 0 = .ok (.aload_n 0, 1) := by decide +kernel
theorem dX8_spans_1 : decode cX8_spans 1 = .ok (.iconst 0, 1) := by decide +kernel
theorem dX8_spans_2 : decode cX8_spans 2 = .ok (.putfield 69, 3) := by decide +kernel
theorem dX8_spans_5 : decode cX8_spans 5 = .ok (.aload_n 0, 1) := by decide +kernel
theorem dX8_spans_6 : decode cX8_spans 6 = .ok (.iload_n 1, 1) := by decide +kernel
theorem dX8_spans_7 : decode cX8_spans 7 = .ok (.invokevirtual 167, 3) := by decide +kernel
theorem dX8_spans_10 : decode cX8_spans 10 = .ok (.ifCond .eq 5, 3) := by decide +kernel
theorem dX8_spans_13 : decode cX8_spans 13 = .ok (.iconst (-1), 1) := by decide +kernel
theorem dX8_spans_14 : decode cX8_spans 14 = .ok (.ireturn, 1) := by decide +kernel
theorem dX8_spans_15 : decode cX8_spans 15 = .ok (.iload_n 2, 1) := by decide +kernel
theorem dX8_spans_16 : decode cX8_spans 16 = .ok (.i2l, 1) := by decide +kernel
theorem dX8_spans_17 : decode cX8_spans 17 = .ok (.lconst 0, 1) := by decide +kernel
theorem dX8_spans_18 : decode cX8_spans 18 = .ok (.ldc2_w 190, 3) := by decide +kernel
theorem dX8_spans_21 : decode cX8_spans 21 = .ok (.invokestatic 75, 3) := by decide +kernel
theorem dX8_spans_24 : decode cX8_spans 24 = .ok (.ifCond .eq 15, 3) := by decide +kernel
theorem dX8_spans_27 : decode cX8_spans 27 = .ok (.iload_n 3, 1) := by decide +kernel
theorem dX8_spans_28 : decode cX8_spans 28 = .ok (.i2l, 1) := by decide +kernel
theorem dX8_spans_29 : decode cX8_spans 29 = .ok (.lconst 0, 1) := by decide +kernel
theorem dX8_spans_30 : decode cX8_spans 30 = .ok (.ldc2_w 176, 3) := by decide +kernel
theorem dX8_spans_33 : decode cX8_spans 33 = .ok (.invokestatic 75, 3) := by decide +kernel
theorem dX8_spans_36 : decode cX8_spans 36 = .ok (.ifCond .ne 6, 3) := by decide +kernel
theorem dX8_spans_39 : decode cX8_spans 39 = .ok (.bipush (-2), 2) := by decide +kernel
theorem dX8_spans_41 : decode cX8_spans 41 = .ok (.ireturn, 1) := by decide +kernel
theorem dX8_spans_42 : decode cX8_spans 42 = .ok (.aload_n 0, 1) := by decide +kernel
theorem dX8_spans_43 : decode cX8_spans 43 = .ok (.iload_n 1, 1) := by decide +kernel
theorem dX8_spans_44 : decode cX8_spans 44 = .ok (.iload_n 2, 1) := by decide +kernel
theorem dX8_spans_45 : decode cX8_spans 45 = .ok (.invokevirtual 204, 3) := by decide +kernel
theorem dX8_spans_48 : decode cX8_spans 48 = .ok (.iload_n 3, 1) := by decide +kernel
theorem dX8_spans_49 : decode cX8_spans 49 = .ok (.ifCond .ne 10, 3) := by decide +kernel
theorem dX8_spans_52 : decode cX8_spans 52 = .ok (.aload_n 0, 1) := by decide +kernel
theorem dX8_spans_53 : decode cX8_spans 53 = .ok (.getfield 192, 3) := by decide +kernel
theorem dX8_spans_56 : decode cX8_spans 56 = .ok (.goto 19, 3) := by decide +kernel
theorem dX8_spans_59 : decode cX8_spans 59 = .ok (.iload_n 3, 1) := by decide +kernel
theorem dX8_spans_60 : decode cX8_spans 60 = .ok (.iconst 1, 1) := by decide +kernel
theorem dX8_spans_61 : decode cX8_spans 61 = .ok (.if_icmp .ne 10, 3) := by decide +kernel
theorem dX8_spans_64 : decode cX8_spans 64 = .ok (.aload_n 0, 1) := by decide +kernel
theorem dX8_spans_65 : decode cX8_spans 65 = .ok (.getfield 195, 3) := by decide +kernel
theorem dX8_spans_68 : decode cX8_spans 68 = .ok (.goto 7, 3) := by decide +kernel
theorem dX8_spans_71 : decode cX8_spans 71 = .ok (.aload_n 0, 1) := by decide +kernel
theorem dX8_spans_72 : decode cX8_spans 72 = .ok (.getfield 198, 3) := by decide +kernel
theorem dX8_spans_75 : decode cX8_spans 75 = .ok (.ireturn, 1) := by decide +kernel
theorem dX8_toAsk_0 : decode cX8_toAsk 0 = .ok (.aload_n 0, 1) := by decide +kernel
theorem dX8_toAsk_1 : decode cX8_toAsk 1 = .ok (.iconst 0, 1) := by decide +kernel
theorem dX8_toAsk_2 : decode cX8_toAsk 2 = .ok (.putfield 69, 3) := by decide +kernel
theorem dX8_toAsk_5 : decode cX8_toAsk 5 = .ok (.aload_n 0, 1) := by decide +kernel
theorem dX8_toAsk_6 : decode cX8_toAsk 6 = .ok (.iload_n 1, 1) := by decide +kernel
theorem dX8_toAsk_7 : decode cX8_toAsk 7 = .ok (.invokevirtual 167, 3) := by decide +kernel
theorem dX8_toAsk_10 : decode cX8_toAsk 10 = .ok (.ifCond .eq 5, 3) := by decide +kernel
theorem dX8_toAsk_13 : decode cX8_toAsk 13 = .ok (.iconst (-1), 1) := by decide +kernel
theorem dX8_toAsk_14 : decode cX8_toAsk 14 = .ok (.ireturn, 1) := by decide +kernel
theorem dX8_toAsk_15 : decode cX8_toAsk 15 = .ok (.iload_n 2, 1) := by decide +kernel
theorem dX8_toAsk_16 : decode cX8_toAsk 16 = .ok (.i2l, 1) := by decide +kernel
theorem dX8_toAsk_17 : decode cX8_toAsk 17 = .ok (.lconst 0, 1) := by decide +kernel
theorem dX8_toAsk_18 : decode cX8_toAsk 18 = .ok (.ldc2_w 190, 3) := by decide +kernel
theorem dX8_toAsk_21 : decode cX8_toAsk 21 = .ok (.invokestatic 75, 3) := by decide +kernel
theorem dX8_toAsk_24 : decode cX8_toAsk 24 = .ok (.ifCond .ne 6, 3) := by decide +kernel
theorem dX8_toAsk_27 : decode cX8_toAsk 27 = .ok (.bipush (-2), 2) := by decide +kernel
theorem dX8_toAsk_29 : decode cX8_toAsk 29 = .ok (.ireturn, 1) := by decide +kernel
theorem dX8_toAsk_30 : decode cX8_toAsk 30 = .ok (.aload_n 0, 1) := by decide +kernel
theorem dX8_toAsk_31 : decode cX8_toAsk 31 = .ok (.iload_n 1, 1) := by decide +kernel
theorem dX8_toAsk_32 : decode cX8_toAsk 32 = .ok (.iload_n 2, 1) := by decide +kernel
theorem dX8_toAsk_33 : decode cX8_toAsk 33 = .ok (.invokevirtual 204, 3) := by decide +kernel
theorem dX8_toAsk_36 : decode cX8_toAsk 36 = .ok (.bipush (-9), 2) := by decide +kernel
theorem dX8_toAsk_38 : decode cX8_toAsk 38 = .ok (.istore_n 3, 1) := by decide +kernel
theorem dX8_toAsk_39 : decode cX8_toAsk 39 = .ok (.bipush (-9), 2) := by decide +kernel
theorem dX8_toAsk_41 : decode cX8_toAsk 41 = .ok (.istore 4, 2) := by decide +kernel
theorem dX8_toAsk_43 : decode cX8_toAsk 43 = .ok (.iconst 0, 1) := by decide +kernel
theorem dX8_toAsk_44 : decode cX8_toAsk 44 = .ok (.istore 5, 2) := by decide +kernel
theorem dX8_toAsk_46 : decode cX8_toAsk 46 = .ok (.iload 5, 2) := by decide +kernel
theorem dX8_toAsk_48 : decode cX8_toAsk 48 = .ok (.aload_n 0, 1) := by decide +kernel
theorem dX8_toAsk_49 : decode cX8_toAsk 49 = .ok (.getfield 72, 3) := by decide +kernel
theorem dX8_toAsk_52 : decode cX8_toAsk 52 = .ok (.if_icmp .ge 87, 3) := by decide +kernel
theorem dX8_toAsk_55 : decode cX8_toAsk 55 = .ok (.aload_n 0, 1) := by decide +kernel
theorem dX8_toAsk_56 : decode cX8_toAsk 56 = .ok (.getfield 192, 3) := by decide +kernel
theorem dX8_toAsk_59 : decode cX8_toAsk 59 = .ok (.ifCond .le 80, 3) := by decide +kernel
theorem dX8_toAsk_62 : decode cX8_toAsk 62 = .ok (.aload_n 0, 1) := by decide +kernel
theorem dX8_toAsk_63 : decode cX8_toAsk 63 = .ok (.getfield 63, 3) := by decide +kernel
theorem dX8_toAsk_66 : decode cX8_toAsk 66 = .ok (.iload 5, 2) := by decide +kernel
theorem dX8_toAsk_68 : decode cX8_toAsk 68 = .ok (.iaload, 1) := by decide +kernel
theorem dX8_toAsk_69 : decode cX8_toAsk 69 = .ok (.aload_n 0, 1) := by decide +kernel
theorem dX8_toAsk_70 : decode cX8_toAsk 70 = .ok (.getfield 192, 3) := by decide +kernel
theorem dX8_toAsk_73 : decode cX8_toAsk 73 = .ok (.aload_n 0, 1) := by decide +kernel
theorem dX8_toAsk_74 : decode cX8_toAsk 74 = .ok (.getfield 63, 3) := by decide +kernel
theorem dX8_toAsk_77 : decode cX8_toAsk 77 = .ok (.iload 5, 2) := by decide +kernel
theorem dX8_toAsk_79 : decode cX8_toAsk 79 = .ok (.iaload, 1) := by decide +kernel
theorem dX8_toAsk_80 : decode cX8_toAsk 80 = .ok (.isub, 1) := by decide +kernel
theorem dX8_toAsk_81 : decode cX8_toAsk 81 = .ok (.if_icmp .ge 13, 3) := by decide +kernel
theorem dX8_toAsk_84 : decode cX8_toAsk 84 = .ok (.aload_n 0, 1) := by decide +kernel
theorem dX8_toAsk_85 : decode cX8_toAsk 85 = .ok (.getfield 63, 3) := by decide +kernel
theorem dX8_toAsk_88 : decode cX8_toAsk 88 = .ok (.iload 5, 2) := by decide +kernel
theorem dX8_toAsk_90 : decode cX8_toAsk 90 = .ok (.iaload, 1) := by decide +kernel
theorem dX8_toAsk_91 : decode cX8_toAsk 91 = .ok (.goto 15, 3) := by decide +kernel
theorem dX8_toAsk_94 : decode cX8_toAsk 94 = .ok (.aload_n 0, 1) := by decide +kernel
theorem dX8_toAsk_95 : decode cX8_toAsk 95 = .ok (.getfield 192, 3) := by decide +kernel
theorem dX8_toAsk_98 : decode cX8_toAsk 98 = .ok (.aload_n 0, 1) := by decide +kernel
theorem dX8_toAsk_99 : decode cX8_toAsk 99 = .ok (.getfield 63, 3) := by decide +kernel
theorem dX8_toAsk_102 : decode cX8_toAsk 102 = .ok (.iload 5, 2) := by decide +kernel
theorem dX8_toAsk_104 : decode cX8_toAsk 104 = .ok (.iaload, 1) := by decide +kernel
theorem dX8_toAsk_105 : decode cX8_toAsk 105 = .ok (.isub, 1) := by decide +kernel
theorem dX8_toAsk_106 : decode cX8_toAsk 106 = .ok (.istore 6, 2) := by decide +kernel
theorem dX8_toAsk_108 : decode cX8_toAsk 108 = .ok (.aload_n 0, 1) := by decide +kernel
theorem dX8_toAsk_109 : decode cX8_toAsk 109 = .ok (.getfield 17, 3) := by decide +kernel
theorem dX8_toAsk_112 : decode cX8_toAsk 112 = .ok (.iload 5, 2) := by decide +kernel
theorem dX8_toAsk_114 : decode cX8_toAsk 114 = .ok (.iaload, 1) := by decide +kernel
theorem dX8_toAsk_115 : decode cX8_toAsk 115 = .ok (.iload_n 1, 1) := by decide +kernel
theorem dX8_toAsk_116 : decode cX8_toAsk 116 = .ok (.if_icmp .ne 17, 3) := by decide +kernel
theorem dX8_toAsk_119 : decode cX8_toAsk 119 = .ok (.iload 6, 2) := by decide +kernel
theorem dX8_toAsk_121 : decode cX8_toAsk 121 = .ok (.iload 4, 2) := by decide +kernel
theorem dX8_toAsk_123 : decode cX8_toAsk 123 = .ok (.if_icmp .le 10, 3) := by decide +kernel
theorem dX8_toAsk_126 : decode cX8_toAsk 126 = .ok (.iload 5, 2) := by decide +kernel
theorem dX8_toAsk_128 : decode cX8_toAsk 128 = .ok (.istore_n 3, 1) := by decide +kernel
theorem dX8_toAsk_129 : decode cX8_toAsk 129 = .ok (.iload 6, 2) := by decide +kernel
theorem dX8_toAsk_131 : decode cX8_toAsk 131 = .ok (.istore 4, 2) := by decide +kernel
theorem dX8_toAsk_133 : decode cX8_toAsk 133 = .ok (.iinc 5 1, 3) := by decide +kernel
theorem dX8_toAsk_136 : decode cX8_toAsk 136 = .ok (.goto (-90), 3) := by decide +kernel
theorem dX8_toAsk_139 : decode cX8_toAsk 139 = .ok (.iload_n 3, 1) := by decide +kernel
theorem dX8_toAsk_140 : decode cX8_toAsk 140 = .ok (.ireturn, 1) := by decide +kernel
theorem dX8_countIn_0 : decode cX8_countIn 0 = .ok (.iconst 0, 1) := by decide +kernel
theorem dX8_countIn_1 : decode cX8_countIn 1 = .ok (.istore_n 3, 1) := by decide +kernel
theorem dX8_countIn_2 : decode cX8_countIn 2 = .ok (.iconst 0, 1) := by decide +kernel
theorem dX8_countIn_3 : decode cX8_countIn 3 = .ok (.istore 4, 2) := by decide +kernel
theorem dX8_countIn_5 : decode cX8_countIn 5 = .ok (.iconst 0, 1) := by decide +kernel
theorem dX8_countIn_6 : decode cX8_countIn 6 = .ok (.istore 5, 2) := by decide +kernel
theorem dX8_countIn_8 : decode cX8_countIn 8 = .ok (.iload 5, 2) := by decide +kernel
theorem dX8_countIn_10 : decode cX8_countIn 10 = .ok (.aload_n 0, 1) := by decide +kernel
theorem dX8_countIn_11 : decode cX8_countIn 11 = .ok (.getfield 72, 3) := by decide +kernel
theorem dX8_countIn_14 : decode cX8_countIn 14 = .ok (.if_icmp .ge 164, 3) := by decide +kernel
theorem dX8_countIn_17 : decode cX8_countIn 17 = .ok (.iload_n 1, 1) := by decide +kernel
theorem dX8_countIn_18 : decode cX8_countIn 18 = .ok (.iload 5, 2) := by decide +kernel
theorem dX8_countIn_20 : decode cX8_countIn 20 = .ok (.invokestatic 101, 3) := by decide +kernel
theorem dX8_countIn_23 : decode cX8_countIn 23 = .ok (.ifCond .eq 28, 3) := by decide +kernel
theorem dX8_countIn_26 : decode cX8_countIn 26 = .ok (.aload_n 0, 1) := by decide +kernel
theorem dX8_countIn_27 : decode cX8_countIn 27 = .ok (.getfield 66, 3) := by decide +kernel
theorem dX8_countIn_30 : decode cX8_countIn 30 = .ok (.iload 5, 2) := by decide +kernel
theorem dX8_countIn_32 : decode cX8_countIn 32 = .ok (.iaload, 1) := by decide +kernel
theorem dX8_countIn_33 : decode cX8_countIn 33 = .ok (.ifCond .eq 14, 3) := by decide +kernel
theorem dX8_countIn_36 : decode cX8_countIn 36 = .ok (.aload_n 0, 1) := by decide +kernel
theorem dX8_countIn_37 : decode cX8_countIn 37 = .ok (.getfield 66, 3) := by decide +kernel
theorem dX8_countIn_40 : decode cX8_countIn 40 = .ok (.iload 5, 2) := by decide +kernel
theorem dX8_countIn_42 : decode cX8_countIn 42 = .ok (.iaload, 1) := by decide +kernel
theorem dX8_countIn_43 : decode cX8_countIn 43 = .ok (.iload_n 2, 1) := by decide +kernel
theorem dX8_countIn_44 : decode cX8_countIn 44 = .ok (.if_icmp .le 7, 3) := by decide +kernel
theorem dX8_countIn_47 : decode cX8_countIn 47 = .ok (.iconst 1, 1) := by decide +kernel
theorem dX8_countIn_48 : decode cX8_countIn 48 = .ok (.goto 4, 3) := by decide +kernel
theorem dX8_countIn_51 : decode cX8_countIn 51 = .ok (.iconst 0, 1) := by decide +kernel
theorem dX8_countIn_52 : decode cX8_countIn 52 = .ok (.istore 6, 2) := by decide +kernel
theorem dX8_countIn_54 : decode cX8_countIn 54 = .ok (.iconst 0, 1) := by decide +kernel
theorem dX8_countIn_55 : decode cX8_countIn 55 = .ok (.istore 7, 2) := by decide +kernel
theorem dX8_countIn_57 : decode cX8_countIn 57 = .ok (.iload 7, 2) := by decide +kernel
theorem dX8_countIn_59 : decode cX8_countIn 59 = .ok (.aload_n 0, 1) := by decide +kernel
theorem dX8_countIn_60 : decode cX8_countIn 60 = .ok (.getfield 72, 3) := by decide +kernel
theorem dX8_countIn_63 : decode cX8_countIn 63 = .ok (.if_icmp .ge 109, 3) := by decide +kernel
theorem dX8_countIn_66 : decode cX8_countIn 66 = .ok (.iload 6, 2) := by decide +kernel
theorem dX8_countIn_68 : decode cX8_countIn 68 = .ok (.ifCond .eq 104, 3) := by decide +kernel
theorem dX8_countIn_71 : decode cX8_countIn 71 = .ok (.iload_n 1, 1) := by decide +kernel
theorem dX8_countIn_72 : decode cX8_countIn 72 = .ok (.aload_n 0, 1) := by decide +kernel
theorem dX8_countIn_73 : decode cX8_countIn 73 = .ok (.getfield 26, 3) := by decide +kernel
theorem dX8_countIn_76 : decode cX8_countIn 76 = .ok (.iload 5, 2) := by decide +kernel
theorem dX8_countIn_78 : decode cX8_countIn 78 = .ok (.iaload, 1) := by decide +kernel
theorem dX8_countIn_79 : decode cX8_countIn 79 = .ok (.iand, 1) := by decide +kernel
theorem dX8_countIn_80 : decode cX8_countIn 80 = .ok (.iload 7, 2) := by decide +kernel
theorem dX8_countIn_82 : decode cX8_countIn 82 = .ok (.invokestatic 101, 3) := by decide +kernel
theorem dX8_countIn_85 : decode cX8_countIn 85 = .ok (.ifCond .eq 47, 3) := by decide +kernel
theorem dX8_countIn_88 : decode cX8_countIn 88 = .ok (.aload_n 0, 1) := by decide +kernel
theorem dX8_countIn_89 : decode cX8_countIn 89 = .ok (.getfield 66, 3) := by decide +kernel
theorem dX8_countIn_92 : decode cX8_countIn 92 = .ok (.iload 7, 2) := by decide +kernel
theorem dX8_countIn_94 : decode cX8_countIn 94 = .ok (.iaload, 1) := by decide +kernel
theorem dX8_countIn_95 : decode cX8_countIn 95 = .ok (.ifCond .le 37, 3) := by decide +kernel
theorem dX8_countIn_98 : decode cX8_countIn 98 = .ok (.aload_n 0, 1) := by decide +kernel
theorem dX8_countIn_99 : decode cX8_countIn 99 = .ok (.getfield 66, 3) := by decide +kernel
theorem dX8_countIn_102 : decode cX8_countIn 102 = .ok (.iload 7, 2) := by decide +kernel
theorem dX8_countIn_104 : decode cX8_countIn 104 = .ok (.iaload, 1) := by decide +kernel
theorem dX8_countIn_105 : decode cX8_countIn 105 = .ok (.iload_n 2, 1) := by decide +kernel
theorem dX8_countIn_106 : decode cX8_countIn 106 = .ok (.if_icmp .gt 26, 3) := by decide +kernel
theorem dX8_countIn_109 : decode cX8_countIn 109 = .ok (.iload_n 2, 1) := by decide +kernel
theorem dX8_countIn_110 : decode cX8_countIn 110 = .ok (.aload_n 0, 1) := by decide +kernel
theorem dX8_countIn_111 : decode cX8_countIn 111 = .ok (.getfield 66, 3) := by decide +kernel
theorem dX8_countIn_114 : decode cX8_countIn 114 = .ok (.iload 7, 2) := by decide +kernel
theorem dX8_countIn_116 : decode cX8_countIn 116 = .ok (.iaload, 1) := by decide +kernel
theorem dX8_countIn_117 : decode cX8_countIn 117 = .ok (.isub, 1) := by decide +kernel
theorem dX8_countIn_118 : decode cX8_countIn 118 = .ok (.aload_n 0, 1) := by decide +kernel
theorem dX8_countIn_119 : decode cX8_countIn 119 = .ok (.getfield 23, 3) := by decide +kernel
theorem dX8_countIn_122 : decode cX8_countIn 122 = .ok (.iload 5, 2) := by decide +kernel
theorem dX8_countIn_124 : decode cX8_countIn 124 = .ok (.iaload, 1) := by decide +kernel
theorem dX8_countIn_125 : decode cX8_countIn 125 = .ok (.if_icmp .gt 7, 3) := by decide +kernel
theorem dX8_countIn_128 : decode cX8_countIn 128 = .ok (.iconst 1, 1) := by decide +kernel
theorem dX8_countIn_129 : decode cX8_countIn 129 = .ok (.goto 4, 3) := by decide +kernel
theorem dX8_countIn_132 : decode cX8_countIn 132 = .ok (.iconst 0, 1) := by decide +kernel
theorem dX8_countIn_133 : decode cX8_countIn 133 = .ok (.istore 8, 2) := by decide +kernel
theorem dX8_countIn_135 : decode cX8_countIn 135 = .ok (.iload_n 3, 1) := by decide +kernel
theorem dX8_countIn_136 : decode cX8_countIn 136 = .ok (.iload 8, 2) := by decide +kernel
theorem dX8_countIn_138 : decode cX8_countIn 138 = .ok (.ifCond .eq 7, 3) := by decide +kernel
theorem dX8_countIn_141 : decode cX8_countIn 141 = .ok (.iconst 1, 1) := by decide +kernel
theorem dX8_countIn_142 : decode cX8_countIn 142 = .ok (.goto 4, 3) := by decide +kernel
theorem dX8_countIn_145 : decode cX8_countIn 145 = .ok (.iconst 0, 1) := by decide +kernel
theorem dX8_countIn_146 : decode cX8_countIn 146 = .ok (.iadd, 1) := by decide +kernel
theorem dX8_countIn_147 : decode cX8_countIn 147 = .ok (.istore_n 3, 1) := by decide +kernel
theorem dX8_countIn_148 : decode cX8_countIn 148 = .ok (.iload 4, 2) := by decide +kernel
theorem dX8_countIn_150 : decode cX8_countIn 150 = .ok (.iload 8, 2) := by decide +kernel
theorem dX8_countIn_152 : decode cX8_countIn 152 = .ok (.ifCond .eq 10, 3) := by decide +kernel
theorem dX8_countIn_155 : decode cX8_countIn 155 = .ok (.iconst 1, 1) := by decide +kernel
theorem dX8_countIn_156 : decode cX8_countIn 156 = .ok (.iload 7, 2) := by decide +kernel
theorem dX8_countIn_158 : decode cX8_countIn 158 = .ok (.ishl, 1) := by decide +kernel
theorem dX8_countIn_159 : decode cX8_countIn 159 = .ok (.goto 4, 3) := by decide +kernel
theorem dX8_countIn_162 : decode cX8_countIn 162 = .ok (.iconst 0, 1) := by decide +kernel
theorem dX8_countIn_163 : decode cX8_countIn 163 = .ok (.ior, 1) := by decide +kernel
theorem dX8_countIn_164 : decode cX8_countIn 164 = .ok (.istore 4, 2) := by decide +kernel
theorem dX8_countIn_166 : decode cX8_countIn 166 = .ok (.iinc 7 1, 3) := by decide +kernel
theorem dX8_countIn_169 : decode cX8_countIn 169 = .ok (.goto (-112), 3) := by decide +kernel
theorem dX8_countIn_172 : decode cX8_countIn 172 = .ok (.iinc 5 1, 3) := by decide +kernel
theorem dX8_countIn_175 : decode cX8_countIn 175 = .ok (.goto (-167), 3) := by decide +kernel
theorem dX8_countIn_178 : decode cX8_countIn 178 = .ok (.aload_n 0, 1) := by decide +kernel
theorem dX8_countIn_179 : decode cX8_countIn 179 = .ok (.iload_n 3, 1) := by decide +kernel
theorem dX8_countIn_180 : decode cX8_countIn 180 = .ok (.iload 4, 2) := by decide +kernel
theorem dX8_countIn_182 : decode cX8_countIn 182 = .ok (.invokevirtual 158, 3) := by decide +kernel
theorem dX8_countIn_185 : decode cX8_countIn 185 = .ok (.ireturn, 1) := by decide +kernel
theorem dX8_retold_0 : decode cX8_retold 0 = .ok (.aload_n 0, 1) := by decide +kernel
theorem dX8_retold_1 : decode cX8_retold 1 = .ok (.iconst 0, 1) := by decide +kernel
theorem dX8_retold_2 : decode cX8_retold 2 = .ok (.putfield 69, 3) := by decide +kernel
theorem dX8_retold_5 : decode cX8_retold 5 = .ok (.aload_n 0, 1) := by decide +kernel
theorem dX8_retold_6 : decode cX8_retold 6 = .ok (.iload_n 1, 1) := by decide +kernel
theorem dX8_retold_7 : decode cX8_retold 7 = .ok (.invokevirtual 167, 3) := by decide +kernel
theorem dX8_retold_10 : decode cX8_retold 10 = .ok (.ifCond .eq 5, 3) := by decide +kernel
theorem dX8_retold_13 : decode cX8_retold 13 = .ok (.iconst (-1), 1) := by decide +kernel
theorem dX8_retold_14 : decode cX8_retold 14 = .ok (.ireturn, 1) := by decide +kernel
theorem dX8_retold_15 : decode cX8_retold 15 = .ok (.iload_n 2, 1) := by decide +kernel
theorem dX8_retold_16 : decode cX8_retold 16 = .ok (.iconst 1, 1) := by decide +kernel
theorem dX8_retold_17 : decode cX8_retold 17 = .ok (.if_icmp .ne 8, 3) := by decide +kernel
theorem dX8_retold_20 : decode cX8_retold 20 = .ok (.bipush 10, 2) := by decide +kernel
theorem dX8_retold_22 : decode cX8_retold 22 = .ok (.goto 25, 3) := by decide +kernel
theorem dX8_retold_25 : decode cX8_retold 25 = .ok (.iload_n 2, 1) := by decide +kernel
theorem dX8_retold_26 : decode cX8_retold 26 = .ok (.iconst 2, 1) := by decide +kernel
theorem dX8_retold_27 : decode cX8_retold 27 = .ok (.if_icmp .ne 8, 3) := by decide +kernel
theorem dX8_retold_30 : decode cX8_retold 30 = .ok (.bipush 100, 2) := by decide +kernel
theorem dX8_retold_32 : decode cX8_retold 32 = .ok (.goto 15, 3) := by decide +kernel
theorem dX8_retold_35 : decode cX8_retold 35 = .ok (.iload_n 2, 1) := by decide +kernel
theorem dX8_retold_36 : decode cX8_retold 36 = .ok (.iconst 3, 1) := by decide +kernel
theorem dX8_retold_37 : decode cX8_retold 37 = .ok (.if_icmp .ne 9, 3) := by decide +kernel
theorem dX8_retold_40 : decode cX8_retold 40 = .ok (.sipush 1000, 3) := by decide +kernel
theorem dX8_retold_43 : decode cX8_retold 43 = .ok (.goto 4, 3) := by decide +kernel
theorem dX8_retold_46 : decode cX8_retold 46 = .ok (.iconst 0, 1) := by decide +kernel
theorem dX8_retold_47 : decode cX8_retold 47 = .ok (.istore 5, 2) := by decide +kernel
theorem dX8_retold_49 : decode cX8_retold 49 = .ok (.iload_n 3, 1) := by decide +kernel
theorem dX8_retold_50 : decode cX8_retold 50 = .ok (.i2l, 1) := by decide +kernel
theorem dX8_retold_51 : decode cX8_retold 51 = .ok (.lconst 0, 1) := by decide +kernel
theorem dX8_retold_52 : decode cX8_retold 52 = .ok (.iload 5, 2) := by decide +kernel
theorem dX8_retold_54 : decode cX8_retold 54 = .ok (.iconst 1, 1) := by decide +kernel
theorem dX8_retold_55 : decode cX8_retold 55 = .ok (.isub, 1) := by decide +kernel
theorem dX8_retold_56 : decode cX8_retold 56 = .ok (.i2l, 1) := by decide +kernel
theorem dX8_retold_57 : decode cX8_retold 57 = .ok (.invokestatic 75, 3) := by decide +kernel
theorem dX8_retold_60 : decode cX8_retold 60 = .ok (.ifCond .eq 14, 3) := by decide +kernel
theorem dX8_retold_63 : decode cX8_retold 63 = .ok (.iload 4, 2) := by decide +kernel
theorem dX8_retold_65 : decode cX8_retold 65 = .ok (.i2l, 1) := by decide +kernel
theorem dX8_retold_66 : decode cX8_retold 66 = .ok (.lconst 0, 1) := by decide +kernel
theorem dX8_retold_67 : decode cX8_retold 67 = .ok (.lconst 1, 1) := by decide +kernel
theorem dX8_retold_68 : decode cX8_retold 68 = .ok (.invokestatic 75, 3) := by decide +kernel
theorem dX8_retold_71 : decode cX8_retold 71 = .ok (.ifCond .ne 6, 3) := by decide +kernel
theorem dX8_retold_74 : decode cX8_retold 74 = .ok (.bipush (-2), 2) := by decide +kernel
theorem dX8_retold_76 : decode cX8_retold 76 = .ok (.ireturn, 1) := by decide +kernel
theorem dX8_retold_77 : decode cX8_retold 77 = .ok (.aload_n 0, 1) := by decide +kernel
theorem dX8_retold_78 : decode cX8_retold 78 = .ok (.iload_n 1, 1) := by decide +kernel
theorem dX8_retold_79 : decode cX8_retold 79 = .ok (.invokevirtual 173, 3) := by decide +kernel
theorem dX8_retold_82 : decode cX8_retold 82 = .ok (.istore 6, 2) := by decide +kernel
theorem dX8_retold_84 : decode cX8_retold 84 = .ok (.iload 6, 2) := by decide +kernel
theorem dX8_retold_86 : decode cX8_retold 86 = .ok (.invokestatic 151, 3) := by decide +kernel
theorem dX8_retold_89 : decode cX8_retold 89 = .ok (.bipush 6, 2) := by decide +kernel
theorem dX8_retold_91 : decode cX8_retold 91 = .ok (.if_icmp .le 6, 3) := by decide +kernel
theorem dX8_retold_94 : decode cX8_retold 94 = .ok (.bipush (-3), 2) := by decide +kernel
theorem dX8_retold_96 : decode cX8_retold 96 = .ok (.ireturn, 1) := by decide +kernel
theorem dX8_retold_97 : decode cX8_retold 97 = .ok (.iconst 1, 1) := by decide +kernel
theorem dX8_retold_98 : decode cX8_retold 98 = .ok (.istore 7, 2) := by decide +kernel
theorem dX8_retold_100 : decode cX8_retold 100 = .ok (.iconst 0, 1) := by decide +kernel
theorem dX8_retold_101 : decode cX8_retold 101 = .ok (.istore 8, 2) := by decide +kernel
theorem dX8_retold_103 : decode cX8_retold 103 = .ok (.iload 8, 2) := by decide +kernel
theorem dX8_retold_105 : decode cX8_retold 105 = .ok (.iload 6, 2) := by decide +kernel
theorem dX8_retold_107 : decode cX8_retold 107 = .ok (.invokestatic 151, 3) := by decide +kernel
theorem dX8_retold_110 : decode cX8_retold 110 = .ok (.if_icmp .ge 17, 3) := by decide +kernel
theorem dX8_retold_113 : decode cX8_retold 113 = .ok (.iload 7, 2) := by decide +kernel
theorem dX8_retold_115 : decode cX8_retold 115 = .ok (.iload_n 2, 1) := by decide +kernel
theorem dX8_retold_116 : decode cX8_retold 116 = .ok (.iconst 1, 1) := by decide +kernel
theorem dX8_retold_117 : decode cX8_retold 117 = .ok (.iadd, 1) := by decide +kernel
theorem dX8_retold_118 : decode cX8_retold 118 = .ok (.imul, 1) := by decide +kernel
theorem dX8_retold_119 : decode cX8_retold 119 = .ok (.istore 7, 2) := by decide +kernel
theorem dX8_retold_121 : decode cX8_retold 121 = .ok (.iinc 8 1, 3) := by decide +kernel
theorem dX8_retold_124 : decode cX8_retold 124 = .ok (.goto (-21), 3) := by decide +kernel
theorem dX8_retold_127 : decode cX8_retold 127 = .ok (.iconst 0, 1) := by decide +kernel
theorem dX8_retold_128 : decode cX8_retold 128 = .ok (.istore 8, 2) := by decide +kernel
theorem dX8_retold_130 : decode cX8_retold 130 = .ok (.bipush (-9), 2) := by decide +kernel
theorem dX8_retold_132 : decode cX8_retold 132 = .ok (.istore 9, 2) := by decide +kernel
theorem dX8_retold_134 : decode cX8_retold 134 = .ok (.iconst 0, 1) := by decide +kernel
theorem dX8_retold_135 : decode cX8_retold 135 = .ok (.istore 10, 2) := by decide +kernel
theorem dX8_retold_137 : decode cX8_retold 137 = .ok (.iload 10, 2) := by decide +kernel
theorem dX8_retold_139 : decode cX8_retold 139 = .ok (.iload 7, 2) := by decide +kernel
theorem dX8_retold_141 : decode cX8_retold 141 = .ok (.if_icmp .ge 192, 3) := by decide +kernel
theorem dX8_retold_144 : decode cX8_retold 144 = .ok (.iload 10, 2) := by decide +kernel
theorem dX8_retold_146 : decode cX8_retold 146 = .ok (.istore 11, 2) := by decide +kernel
theorem dX8_retold_148 : decode cX8_retold 148 = .ok (.iconst 0, 1) := by decide +kernel
theorem dX8_retold_149 : decode cX8_retold 149 = .ok (.istore 12, 2) := by decide +kernel
theorem dX8_retold_151 : decode cX8_retold 151 = .ok (.iconst 0, 1) := by decide +kernel
theorem dX8_retold_152 : decode cX8_retold 152 = .ok (.istore 13, 2) := by decide +kernel
theorem dX8_retold_154 : decode cX8_retold 154 = .ok (.iload 13, 2) := by decide +kernel
theorem dX8_retold_156 : decode cX8_retold 156 = .ok (.aload_n 0, 1) := by decide +kernel
theorem dX8_retold_157 : decode cX8_retold 157 = .ok (.getfield 72, 3) := by decide +kernel
theorem dX8_retold_160 : decode cX8_retold 160 = .ok (.if_icmp .ge 81, 3) := by decide +kernel
theorem dX8_retold_163 : decode cX8_retold 163 = .ok (.aload_n 0, 1) := by decide +kernel
theorem dX8_retold_164 : decode cX8_retold 164 = .ok (.getfield 66, 3) := by decide +kernel
theorem dX8_retold_167 : decode cX8_retold 167 = .ok (.iload 13, 2) := by decide +kernel
theorem dX8_retold_169 : decode cX8_retold 169 = .ok (.iload 6, 2) := by decide +kernel
theorem dX8_retold_171 : decode cX8_retold 171 = .ok (.iload 13, 2) := by decide +kernel
theorem dX8_retold_173 : decode cX8_retold 173 = .ok (.invokestatic 101, 3) := by decide +kernel
theorem dX8_retold_176 : decode cX8_retold 176 = .ok (.ifCond .eq 12, 3) := by decide +kernel
theorem dX8_retold_179 : decode cX8_retold 179 = .ok (.iload 11, 2) := by decide +kernel
theorem dX8_retold_181 : decode cX8_retold 181 = .ok (.iload_n 2, 1) := by decide +kernel
theorem dX8_retold_182 : decode cX8_retold 182 = .ok (.iconst 1, 1) := by decide +kernel
theorem dX8_retold_183 : decode cX8_retold 183 = .ok (.iadd, 1) := by decide +kernel
theorem dX8_retold_184 : decode cX8_retold 184 = .ok (.irem, 1) := by decide +kernel
theorem dX8_retold_185 : decode cX8_retold 185 = .ok (.goto 4, 3) := by decide +kernel
theorem dX8_retold_188 : decode cX8_retold 188 = .ok (.iconst 0, 1) := by decide +kernel
theorem dX8_retold_189 : decode cX8_retold 189 = .ok (.iastore, 1) := by decide +kernel
theorem dX8_retold_190 : decode cX8_retold 190 = .ok (.iload 11, 2) := by decide +kernel
theorem dX8_retold_192 : decode cX8_retold 192 = .ok (.iload 6, 2) := by decide +kernel
theorem dX8_retold_194 : decode cX8_retold 194 = .ok (.iload 13, 2) := by decide +kernel
theorem dX8_retold_196 : decode cX8_retold 196 = .ok (.invokestatic 101, 3) := by decide +kernel
theorem dX8_retold_199 : decode cX8_retold 199 = .ok (.ifCond .eq 9, 3) := by decide +kernel
theorem dX8_retold_202 : decode cX8_retold 202 = .ok (.iload_n 2, 1) := by decide +kernel
theorem dX8_retold_203 : decode cX8_retold 203 = .ok (.iconst 1, 1) := by decide +kernel
theorem dX8_retold_204 : decode cX8_retold 204 = .ok (.iadd, 1) := by decide +kernel
theorem dX8_retold_205 : decode cX8_retold 205 = .ok (.goto 4, 3) := by decide +kernel
theorem dX8_retold_208 : decode cX8_retold 208 = .ok (.iconst 1, 1) := by decide +kernel
theorem dX8_retold_209 : decode cX8_retold 209 = .ok (.idiv, 1) := by decide +kernel
theorem dX8_retold_210 : decode cX8_retold 210 = .ok (.istore 11, 2) := by decide +kernel
theorem dX8_retold_212 : decode cX8_retold 212 = .ok (.iload 12, 2) := by decide +kernel
theorem dX8_retold_214 : decode cX8_retold 214 = .ok (.aload_n 0, 1) := by decide +kernel
theorem dX8_retold_215 : decode cX8_retold 215 = .ok (.getfield 66, 3) := by decide +kernel
theorem dX8_retold_218 : decode cX8_retold 218 = .ok (.iload 13, 2) := by decide +kernel
theorem dX8_retold_220 : decode cX8_retold 220 = .ok (.iaload, 1) := by decide +kernel
theorem dX8_retold_221 : decode cX8_retold 221 = .ok (.ifCond .le 10, 3) := by decide +kernel
theorem dX8_retold_224 : decode cX8_retold 224 = .ok (.iconst 1, 1) := by decide +kernel
theorem dX8_retold_225 : decode cX8_retold 225 = .ok (.iload 13, 2) := by decide +kernel
theorem dX8_retold_227 : decode cX8_retold 227 = .ok (.ishl, 1) := by decide +kernel
theorem dX8_retold_228 : decode cX8_retold 228 = .ok (.goto 4, 3) := by decide +kernel
theorem dX8_retold_231 : decode cX8_retold 231 = .ok (.iconst 0, 1) := by decide +kernel
theorem dX8_retold_232 : decode cX8_retold 232 = .ok (.ior, 1) := by decide +kernel
theorem dX8_retold_233 : decode cX8_retold 233 = .ok (.istore 12, 2) := by decide +kernel
theorem dX8_retold_235 : decode cX8_retold 235 = .ok (.iinc 13 1, 3) := by decide +kernel
theorem dX8_retold_238 : decode cX8_retold 238 = .ok (.goto (-84), 3) := by decide +kernel
theorem dX8_retold_241 : decode cX8_retold 241 = .ok (.iconst 1, 1) := by decide +kernel
theorem dX8_retold_242 : decode cX8_retold 242 = .ok (.istore 13, 2) := by decide +kernel
theorem dX8_retold_244 : decode cX8_retold 244 = .ok (.iload 5, 2) := by decide +kernel
theorem dX8_retold_246 : decode cX8_retold 246 = .ok (.istore 14, 2) := by decide +kernel
theorem dX8_retold_248 : decode cX8_retold 248 = .ok (.iconst 1, 1) := by decide +kernel
theorem dX8_retold_249 : decode cX8_retold 249 = .ok (.istore 15, 2) := by decide +kernel
theorem dX8_retold_251 : decode cX8_retold 251 = .ok (.iload 15, 2) := by decide +kernel
theorem dX8_retold_253 : decode cX8_retold 253 = .ok (.iload_n 2, 1) := by decide +kernel
theorem dX8_retold_254 : decode cX8_retold 254 = .ok (.if_icmp .gt 46, 3) := by decide +kernel
theorem dX8_retold_257 : decode cX8_retold 257 = .ok (.iload 13, 2) := by decide +kernel
theorem dX8_retold_259 : decode cX8_retold 259 = .ok (.ifCond .eq 41, 3) := by decide +kernel
theorem dX8_retold_262 : decode cX8_retold 262 = .ok (.iload 14, 2) := by decide +kernel
theorem dX8_retold_264 : decode cX8_retold 264 = .ok (.bipush 10, 2) := by decide +kernel
theorem dX8_retold_266 : decode cX8_retold 266 = .ok (.idiv, 1) := by decide +kernel
theorem dX8_retold_267 : decode cX8_retold 267 = .ok (.istore 14, 2) := by decide +kernel
theorem dX8_retold_269 : decode cX8_retold 269 = .ok (.aload_n 0, 1) := by decide +kernel
theorem dX8_retold_270 : decode cX8_retold 270 = .ok (.iload 6, 2) := by decide +kernel
theorem dX8_retold_272 : decode cX8_retold 272 = .ok (.iload 15, 2) := by decide +kernel
theorem dX8_retold_274 : decode cX8_retold 274 = .ok (.invokevirtual 208, 3) := by decide +kernel
theorem dX8_retold_277 : decode cX8_retold 277 = .ok (.iload_n 3, 1) := by decide +kernel
theorem dX8_retold_278 : decode cX8_retold 278 = .ok (.iload 14, 2) := by decide +kernel
theorem dX8_retold_280 : decode cX8_retold 280 = .ok (.idiv, 1) := by decide +kernel
theorem dX8_retold_281 : decode cX8_retold 281 = .ok (.bipush 10, 2) := by decide +kernel
theorem dX8_retold_283 : decode cX8_retold 283 = .ok (.irem, 1) := by decide +kernel
theorem dX8_retold_284 : decode cX8_retold 284 = .ok (.if_icmp .ne 7, 3) := by decide +kernel
theorem dX8_retold_287 : decode cX8_retold 287 = .ok (.iconst 1, 1) := by decide +kernel
theorem dX8_retold_288 : decode cX8_retold 288 = .ok (.goto 4, 3) := by decide +kernel
theorem dX8_retold_291 : decode cX8_retold 291 = .ok (.iconst 0, 1) := by decide +kernel
theorem dX8_retold_292 : decode cX8_retold 292 = .ok (.istore 13, 2) := by decide +kernel
theorem dX8_retold_294 : decode cX8_retold 294 = .ok (.iinc 15 1, 3) := by decide +kernel
theorem dX8_retold_297 : decode cX8_retold 297 = .ok (.goto (-46), 3) := by decide +kernel
theorem dX8_retold_300 : decode cX8_retold 300 = .ok (.iload 13, 2) := by decide +kernel
theorem dX8_retold_302 : decode cX8_retold 302 = .ok (.ifCond .eq 25, 3) := by decide +kernel
theorem dX8_retold_305 : decode cX8_retold 305 = .ok (.iinc 8 1, 3) := by decide +kernel
theorem dX8_retold_308 : decode cX8_retold 308 = .ok (.iload 9, 2) := by decide +kernel
theorem dX8_retold_310 : decode cX8_retold 310 = .ok (.bipush (-9), 2) := by decide +kernel
theorem dX8_retold_312 : decode cX8_retold 312 = .ok (.if_icmp .ne 8, 3) := by decide +kernel
theorem dX8_retold_315 : decode cX8_retold 315 = .ok (.iload 12, 2) := by decide +kernel
theorem dX8_retold_317 : decode cX8_retold 317 = .ok (.goto 8, 3) := by decide +kernel
theorem dX8_retold_320 : decode cX8_retold 320 = .ok (.iload 9, 2) := by decide +kernel
theorem dX8_retold_322 : decode cX8_retold 322 = .ok (.iload 12, 2) := by decide +kernel
theorem dX8_retold_324 : decode cX8_retold 324 = .ok (.iand, 1) := by decide +kernel
theorem dX8_retold_325 : decode cX8_retold 325 = .ok (.istore 9, 2) := by decide +kernel
theorem dX8_retold_327 : decode cX8_retold 327 = .ok (.iinc 10 1, 3) := by decide +kernel
theorem dX8_retold_330 : decode cX8_retold 330 = .ok (.goto (-193), 3) := by decide +kernel
theorem dX8_retold_333 : decode cX8_retold 333 = .ok (.iload 4, 2) := by decide +kernel
theorem dX8_retold_335 : decode cX8_retold 335 = .ok (.ifCond .ne 8, 3) := by decide +kernel
theorem dX8_retold_338 : decode cX8_retold 338 = .ok (.iload 8, 2) := by decide +kernel
theorem dX8_retold_340 : decode cX8_retold 340 = .ok (.goto 5, 3) := by decide +kernel
theorem dX8_retold_343 : decode cX8_retold 343 = .ok (.iload 9, 2) := by decide +kernel
theorem dX8_retold_345 : decode cX8_retold 345 = .ok (.ireturn, 1) := by decide +kernel
theorem dX8_divisor_0 : decode cX8_divisor 0 = .ok (.lload_n 0, 1) := by decide +kernel
theorem dX8_divisor_1 : decode cX8_divisor 1 = .ok (.lstore 4, 2) := by decide +kernel
theorem dX8_divisor_3 : decode cX8_divisor 3 = .ok (.lload_n 2, 1) := by decide +kernel
theorem dX8_divisor_4 : decode cX8_divisor 4 = .ok (.lstore 6, 2) := by decide +kernel
theorem dX8_divisor_6 : decode cX8_divisor 6 = .ok (.lload 6, 2) := by decide +kernel
theorem dX8_divisor_8 : decode cX8_divisor 8 = .ok (.lconst 0, 1) := by decide +kernel
theorem dX8_divisor_9 : decode cX8_divisor 9 = .ok (.lcmp, 1) := by decide +kernel
theorem dX8_divisor_10 : decode cX8_divisor 10 = .ok (.ifCond .eq 21, 3) := by decide +kernel
theorem dX8_divisor_13 : decode cX8_divisor 13 = .ok (.lload 4, 2) := by decide +kernel
theorem dX8_divisor_15 : decode cX8_divisor 15 = .ok (.lload 6, 2) := by decide +kernel
theorem dX8_divisor_17 : decode cX8_divisor 17 = .ok (.lrem, 1) := by decide +kernel
theorem dX8_divisor_18 : decode cX8_divisor 18 = .ok (.lstore 8, 2) := by decide +kernel
theorem dX8_divisor_20 : decode cX8_divisor 20 = .ok (.lload 6, 2) := by decide +kernel
theorem dX8_divisor_22 : decode cX8_divisor 22 = .ok (.lstore 4, 2) := by decide +kernel
theorem dX8_divisor_24 : decode cX8_divisor 24 = .ok (.lload 8, 2) := by decide +kernel
theorem dX8_divisor_26 : decode cX8_divisor 26 = .ok (.lstore 6, 2) := by decide +kernel
theorem dX8_divisor_28 : decode cX8_divisor 28 = .ok (.goto (-22), 3) := by decide +kernel
theorem dX8_divisor_31 : decode cX8_divisor 31 = .ok (.lload 4, 2) := by decide +kernel
theorem dX8_divisor_33 : decode cX8_divisor 33 = .ok (.lreturn, 1) := by decide +kernel
theorem dX8_chance_0 : decode cX8_chance 0 = .ok (.aload_n 0, 1) := by decide +kernel
theorem dX8_chance_1 : decode cX8_chance 1 = .ok (.iconst 0, 1) := by decide +kernel
theorem dX8_chance_2 : decode cX8_chance 2 = .ok (.putfield 69, 3) := by decide +kernel
theorem dX8_chance_5 : decode cX8_chance 5 = .ok (.aload_n 0, 1) := by decide +kernel
theorem dX8_chance_6 : decode cX8_chance 6 = .ok (.iload_n 1, 1) := by decide +kernel
theorem dX8_chance_7 : decode cX8_chance 7 = .ok (.invokevirtual 167, 3) := by decide +kernel
theorem dX8_chance_10 : decode cX8_chance 10 = .ok (.ifCond .eq 7, 3) := by decide +kernel
theorem dX8_chance_13 : decode cX8_chance 13 = .ok (.ldc2_w 211, 3) := by decide +kernel
theorem dX8_chance_16 : decode cX8_chance 16 = .ok (.lreturn, 1) := by decide +kernel
theorem dX8_chance_17 : decode cX8_chance 17 = .ok (.iload_n 2, 1) := by decide +kernel
theorem dX8_chance_18 : decode cX8_chance 18 = .ok (.i2l, 1) := by decide +kernel
theorem dX8_chance_19 : decode cX8_chance 19 = .ok (.lconst 0, 1) := by decide +kernel
theorem dX8_chance_20 : decode cX8_chance 20 = .ok (.ldc2_w 190, 3) := by decide +kernel
theorem dX8_chance_23 : decode cX8_chance 23 = .ok (.invokestatic 75, 3) := by decide +kernel
theorem dX8_chance_26 : decode cX8_chance 26 = .ok (.ifCond .eq 15, 3) := by decide +kernel
theorem dX8_chance_29 : decode cX8_chance 29 = .ok (.iload_n 3, 1) := by decide +kernel
theorem dX8_chance_30 : decode cX8_chance 30 = .ok (.i2l, 1) := by decide +kernel
theorem dX8_chance_31 : decode cX8_chance 31 = .ok (.lconst 0, 1) := by decide +kernel
theorem dX8_chance_32 : decode cX8_chance 32 = .ok (.ldc2_w 213, 3) := by decide +kernel
theorem dX8_chance_35 : decode cX8_chance 35 = .ok (.invokestatic 75, 3) := by decide +kernel
theorem dX8_chance_38 : decode cX8_chance 38 = .ok (.ifCond .ne 7, 3) := by decide +kernel
theorem dX8_chance_41 : decode cX8_chance 41 = .ok (.ldc2_w 215, 3) := by decide +kernel
theorem dX8_chance_44 : decode cX8_chance 44 = .ok (.lreturn, 1) := by decide +kernel
theorem dX8_chance_45 : decode cX8_chance 45 = .ok (.aload_n 0, 1) := by decide +kernel
theorem dX8_chance_46 : decode cX8_chance 46 = .ok (.iload_n 1, 1) := by decide +kernel
theorem dX8_chance_47 : decode cX8_chance 47 = .ok (.invokevirtual 173, 3) := by decide +kernel
theorem dX8_chance_50 : decode cX8_chance 50 = .ok (.istore 5, 2) := by decide +kernel
theorem dX8_chance_52 : decode cX8_chance 52 = .ok (.lconst 0, 1) := by decide +kernel
theorem dX8_chance_53 : decode cX8_chance 53 = .ok (.lstore 6, 2) := by decide +kernel
theorem dX8_chance_55 : decode cX8_chance 55 = .ok (.lconst 1, 1) := by decide +kernel
theorem dX8_chance_56 : decode cX8_chance 56 = .ok (.lstore 8, 2) := by decide +kernel
theorem dX8_chance_58 : decode cX8_chance 58 = .ok (.iconst 0, 1) := by decide +kernel
theorem dX8_chance_59 : decode cX8_chance 59 = .ok (.istore 10, 2) := by decide +kernel
theorem dX8_chance_61 : decode cX8_chance 61 = .ok (.iload 10, 2) := by decide +kernel
theorem dX8_chance_63 : decode cX8_chance 63 = .ok (.iload 5, 2) := by decide +kernel
theorem dX8_chance_65 : decode cX8_chance 65 = .ok (.invokestatic 151, 3) := by decide +kernel
theorem dX8_chance_68 : decode cX8_chance 68 = .ok (.if_icmp .ge 17, 3) := by decide +kernel
theorem dX8_chance_71 : decode cX8_chance 71 = .ok (.lload 8, 2) := by decide +kernel
theorem dX8_chance_73 : decode cX8_chance 73 = .ok (.ldc2_w 213, 3) := by decide +kernel
theorem dX8_chance_76 : decode cX8_chance 76 = .ok (.lmul, 1) := by decide +kernel
theorem dX8_chance_77 : decode cX8_chance 77 = .ok (.lstore 8, 2) := by decide +kernel
theorem dX8_chance_79 : decode cX8_chance 79 = .ok (.iinc 10 1, 3) := by decide +kernel
theorem dX8_chance_82 : decode cX8_chance 82 = .ok (.goto (-21), 3) := by decide +kernel
theorem dX8_chance_85 : decode cX8_chance 85 = .ok (.iconst 0, 1) := by decide +kernel
theorem dX8_chance_86 : decode cX8_chance 86 = .ok (.istore 10, 2) := by decide +kernel
theorem dX8_chance_88 : decode cX8_chance 88 = .ok (.iload 10, 2) := by decide +kernel
theorem dX8_chance_90 : decode cX8_chance 90 = .ok (.iconst 1, 1) := by decide +kernel
theorem dX8_chance_91 : decode cX8_chance 91 = .ok (.aload_n 0, 1) := by decide +kernel
theorem dX8_chance_92 : decode cX8_chance 92 = .ok (.getfield 72, 3) := by decide +kernel
theorem dX8_chance_95 : decode cX8_chance 95 = .ok (.ishl, 1) := by decide +kernel
theorem dX8_chance_96 : decode cX8_chance 96 = .ok (.if_icmp .ge 98, 3) := by decide +kernel
theorem dX8_chance_99 : decode cX8_chance 99 = .ok (.iload 10, 2) := by decide +kernel
theorem dX8_chance_101 : decode cX8_chance 101 = .ok (.iload 5, 2) := by decide +kernel
theorem dX8_chance_103 : decode cX8_chance 103 = .ok (.iconst (-1), 1) := by decide +kernel
theorem dX8_chance_104 : decode cX8_chance 104 = .ok (.ixor, 1) := by decide +kernel
theorem dX8_chance_105 : decode cX8_chance 105 = .ok (.iand, 1) := by decide +kernel
theorem dX8_chance_106 : decode cX8_chance 106 = .ok (.ifCond .ne 82, 3) := by decide +kernel
theorem dX8_chance_109 : decode cX8_chance 109 = .ok (.aload_n 0, 1) := by decide +kernel
theorem dX8_chance_110 : decode cX8_chance 110 = .ok (.iload 5, 2) := by decide +kernel
theorem dX8_chance_112 : decode cX8_chance 112 = .ok (.iload 10, 2) := by decide +kernel
theorem dX8_chance_114 : decode cX8_chance 114 = .ok (.invokevirtual 201, 3) := by decide +kernel
theorem dX8_chance_117 : decode cX8_chance 117 = .ok (.iload_n 2, 1) := by decide +kernel
theorem dX8_chance_118 : decode cX8_chance 118 = .ok (.if_icmp .lt 70, 3) := by decide +kernel
theorem dX8_chance_121 : decode cX8_chance 121 = .ok (.lconst 1, 1) := by decide +kernel
theorem dX8_chance_122 : decode cX8_chance 122 = .ok (.lstore 11, 2) := by decide +kernel
theorem dX8_chance_124 : decode cX8_chance 124 = .ok (.iconst 0, 1) := by decide +kernel
theorem dX8_chance_125 : decode cX8_chance 125 = .ok (.istore 13, 2) := by decide +kernel
theorem dX8_chance_127 : decode cX8_chance 127 = .ok (.iload 13, 2) := by decide +kernel
theorem dX8_chance_129 : decode cX8_chance 129 = .ok (.aload_n 0, 1) := by decide +kernel
theorem dX8_chance_130 : decode cX8_chance 130 = .ok (.getfield 72, 3) := by decide +kernel
theorem dX8_chance_133 : decode cX8_chance 133 = .ok (.if_icmp .ge 48, 3) := by decide +kernel
theorem dX8_chance_136 : decode cX8_chance 136 = .ok (.lload 11, 2) := by decide +kernel
theorem dX8_chance_138 : decode cX8_chance 138 = .ok (.iload 5, 2) := by decide +kernel
theorem dX8_chance_140 : decode cX8_chance 140 = .ok (.iload 13, 2) := by decide +kernel
theorem dX8_chance_142 : decode cX8_chance 142 = .ok (.invokestatic 101, 3) := by decide +kernel
theorem dX8_chance_145 : decode cX8_chance 145 = .ok (.ifCond .ne 7, 3) := by decide +kernel
theorem dX8_chance_148 : decode cX8_chance 148 = .ok (.lconst 1, 1) := by decide +kernel
theorem dX8_chance_149 : decode cX8_chance 149 = .ok (.goto 23, 3) := by decide +kernel
theorem dX8_chance_152 : decode cX8_chance 152 = .ok (.iload 10, 2) := by decide +kernel
theorem dX8_chance_154 : decode cX8_chance 154 = .ok (.iload 13, 2) := by decide +kernel
theorem dX8_chance_156 : decode cX8_chance 156 = .ok (.invokestatic 101, 3) := by decide +kernel
theorem dX8_chance_159 : decode cX8_chance 159 = .ok (.ifCond .eq 8, 3) := by decide +kernel
theorem dX8_chance_162 : decode cX8_chance 162 = .ok (.iload_n 3, 1) := by decide +kernel
theorem dX8_chance_163 : decode cX8_chance 163 = .ok (.i2l, 1) := by decide +kernel
theorem dX8_chance_164 : decode cX8_chance 164 = .ok (.goto 8, 3) := by decide +kernel
theorem dX8_chance_167 : decode cX8_chance 167 = .ok (.bipush 10, 2) := by decide +kernel
theorem dX8_chance_169 : decode cX8_chance 169 = .ok (.iload_n 3, 1) := by decide +kernel
theorem dX8_chance_170 : decode cX8_chance 170 = .ok (.isub, 1) := by decide +kernel
theorem dX8_chance_171 : decode cX8_chance 171 = .ok (.i2l, 1) := by decide +kernel
theorem dX8_chance_172 : decode cX8_chance 172 = .ok (.lmul, 1) := by decide +kernel
theorem dX8_chance_173 : decode cX8_chance 173 = .ok (.lstore 11, 2) := by decide +kernel
theorem dX8_chance_175 : decode cX8_chance 175 = .ok (.iinc 13 1, 3) := by decide +kernel
theorem dX8_chance_178 : decode cX8_chance 178 = .ok (.goto (-51), 3) := by decide +kernel
theorem dX8_chance_181 : decode cX8_chance 181 = .ok (.lload 6, 2) := by decide +kernel
theorem dX8_chance_183 : decode cX8_chance 183 = .ok (.lload 11, 2) := by decide +kernel
theorem dX8_chance_185 : decode cX8_chance 185 = .ok (.ladd, 1) := by decide +kernel
theorem dX8_chance_186 : decode cX8_chance 186 = .ok (.lstore 6, 2) := by decide +kernel
theorem dX8_chance_188 : decode cX8_chance 188 = .ok (.iinc 10 1, 3) := by decide +kernel
theorem dX8_chance_191 : decode cX8_chance 191 = .ok (.goto (-103), 3) := by decide +kernel
theorem dX8_chance_194 : decode cX8_chance 194 = .ok (.lload 6, 2) := by decide +kernel
theorem dX8_chance_196 : decode cX8_chance 196 = .ok (.lload 8, 2) := by decide +kernel
theorem dX8_chance_198 : decode cX8_chance 198 = .ok (.invokestatic 217, 3) := by decide +kernel
theorem dX8_chance_201 : decode cX8_chance 201 = .ok (.lstore 10, 2) := by decide +kernel
theorem dX8_chance_203 : decode cX8_chance 203 = .ok (.iload 4, 2) := by decide +kernel
theorem dX8_chance_205 : decode cX8_chance 205 = .ok (.ifCond .eq 11, 3) := by decide +kernel
theorem dX8_chance_208 : decode cX8_chance 208 = .ok (.lload 6, 2) := by decide +kernel
theorem dX8_chance_210 : decode cX8_chance 210 = .ok (.lload 10, 2) := by decide +kernel
theorem dX8_chance_212 : decode cX8_chance 212 = .ok (.ldiv, 1) := by decide +kernel
theorem dX8_chance_213 : decode cX8_chance 213 = .ok (.goto 8, 3) := by decide +kernel
theorem dX8_chance_216 : decode cX8_chance 216 = .ok (.lload 8, 2) := by decide +kernel
theorem dX8_chance_218 : decode cX8_chance 218 = .ok (.lload 10, 2) := by decide +kernel
theorem dX8_chance_220 : decode cX8_chance 220 = .ok (.ldiv, 1) := by decide +kernel
theorem dX8_chance_221 : decode cX8_chance 221 = .ok (.lreturn, 1) := by decide +kernel
theorem dX8_keep_0 : decode cX8_keep 0 = .ok (.aload_n 0, 1) := by decide +kernel
theorem dX8_keep_1 : decode cX8_keep 1 = .ok (.iconst 0, 1) := by decide +kernel
theorem dX8_keep_2 : decode cX8_keep 2 = .ok (.putfield 69, 3) := by decide +kernel
theorem dX8_keep_5 : decode cX8_keep 5 = .ok (.iload_n 1, 1) := by decide +kernel
theorem dX8_keep_6 : decode cX8_keep 6 = .ok (.i2l, 1) := by decide +kernel
theorem dX8_keep_7 : decode cX8_keep 7 = .ok (.lconst 0, 1) := by decide +kernel
theorem dX8_keep_8 : decode cX8_keep 8 = .ok (.lconst 1, 1) := by decide +kernel
theorem dX8_keep_9 : decode cX8_keep 9 = .ok (.invokestatic 75, 3) := by decide +kernel
theorem dX8_keep_12 : decode cX8_keep 12 = .ok (.ifCond .ne 5, 3) := by decide +kernel
theorem dX8_keep_15 : decode cX8_keep 15 = .ok (.iconst (-1), 1) := by decide +kernel
theorem dX8_keep_16 : decode cX8_keep 16 = .ok (.ireturn, 1) := by decide +kernel
theorem dX8_keep_17 : decode cX8_keep 17 = .ok (.aload_n 0, 1) := by decide +kernel
theorem dX8_keep_18 : decode cX8_keep 18 = .ok (.getfield 59, 3) := by decide +kernel
theorem dX8_keep_21 : decode cX8_keep 21 = .ok (.iload_n 1, 1) := by decide +kernel
theorem dX8_keep_22 : decode cX8_keep 22 = .ok (.iconst 1, 1) := by decide +kernel
theorem dX8_keep_23 : decode cX8_keep 23 = .ok (.bastore, 1) := by decide +kernel
theorem dX8_keep_24 : decode cX8_keep 24 = .ok (.aload_n 0, 1) := by decide +kernel
theorem dX8_keep_25 : decode cX8_keep 25 = .ok (.aload_n 0, 1) := by decide +kernel
theorem dX8_keep_26 : decode cX8_keep 26 = .ok (.getfield 56, 3) := by decide +kernel
theorem dX8_keep_29 : decode cX8_keep 29 = .ok (.bipush 29, 2) := by decide +kernel
theorem dX8_keep_31 : decode cX8_keep 31 = .ok (.iload_n 1, 1) := by decide +kernel
theorem dX8_keep_32 : decode cX8_keep 32 = .ok (.imul, 1) := by decide +kernel
theorem dX8_keep_33 : decode cX8_keep 33 = .ok (.invokevirtual 178, 3) := by decide +kernel
theorem dX8_keep_36 : decode cX8_keep 36 = .ok (.aload_n 0, 1) := by decide +kernel
theorem dX8_keep_37 : decode cX8_keep 37 = .ok (.getfield 131, 3) := by decide +kernel
theorem dX8_keep_40 : decode cX8_keep 40 = .ok (.ireturn, 1) := by decide +kernel
theorem dX8_again_0 : decode cX8_again 0 = .ok (.aload_n 0, 1) := by decide +kernel
theorem dX8_again_1 : decode cX8_again 1 = .ok (.iconst 0, 1) := by decide +kernel
theorem dX8_again_2 : decode cX8_again 2 = .ok (.putfield 69, 3) := by decide +kernel
theorem dX8_again_5 : decode cX8_again 5 = .ok (.iload_n 1, 1) := by decide +kernel
theorem dX8_again_6 : decode cX8_again 6 = .ok (.i2l, 1) := by decide +kernel
theorem dX8_again_7 : decode cX8_again 7 = .ok (.lconst 0, 1) := by decide +kernel
theorem dX8_again_8 : decode cX8_again 8 = .ok (.lconst 1, 1) := by decide +kernel
theorem dX8_again_9 : decode cX8_again 9 = .ok (.invokestatic 75, 3) := by decide +kernel
theorem dX8_again_12 : decode cX8_again 12 = .ok (.ifCond .ne 5, 3) := by decide +kernel
theorem dX8_again_15 : decode cX8_again 15 = .ok (.iconst (-1), 1) := by decide +kernel
theorem dX8_again_16 : decode cX8_again 16 = .ok (.ireturn, 1) := by decide +kernel
theorem dX8_again_17 : decode cX8_again 17 = .ok (.aload_n 0, 1) := by decide +kernel
theorem dX8_again_18 : decode cX8_again 18 = .ok (.getfield 59, 3) := by decide +kernel
theorem dX8_again_21 : decode cX8_again 21 = .ok (.iload_n 1, 1) := by decide +kernel
theorem dX8_again_22 : decode cX8_again 22 = .ok (.baload, 1) := by decide +kernel
theorem dX8_again_23 : decode cX8_again 23 = .ok (.ifCond .ne 6, 3) := by decide +kernel
theorem dX8_again_26 : decode cX8_again 26 = .ok (.bipush (-3), 2) := by decide +kernel
theorem dX8_again_28 : decode cX8_again 28 = .ok (.ireturn, 1) := by decide +kernel
theorem dX8_again_29 : decode cX8_again 29 = .ok (.aload_n 0, 1) := by decide +kernel
theorem dX8_again_30 : decode cX8_again 30 = .ok (.aload_n 0, 1) := by decide +kernel
theorem dX8_again_31 : decode cX8_again 31 = .ok (.getfield 56, 3) := by decide +kernel
theorem dX8_again_34 : decode cX8_again 34 = .ok (.bipush 29, 2) := by decide +kernel
theorem dX8_again_36 : decode cX8_again 36 = .ok (.iload_n 1, 1) := by decide +kernel
theorem dX8_again_37 : decode cX8_again 37 = .ok (.imul, 1) := by decide +kernel
theorem dX8_again_38 : decode cX8_again 38 = .ok (.invokevirtual 187, 3) := by decide +kernel
theorem dX8_again_41 : decode cX8_again 41 = .ok (.aload_n 0, 1) := by decide +kernel
theorem dX8_again_42 : decode cX8_again 42 = .ok (.iconst 0, 1) := by decide +kernel
theorem dX8_again_43 : decode cX8_again 43 = .ok (.putfield 134, 3) := by decide +kernel
theorem dX8_again_46 : decode cX8_again 46 = .ok (.aload_n 0, 1) := by decide +kernel
theorem dX8_again_47 : decode cX8_again 47 = .ok (.getfield 131, 3) := by decide +kernel
theorem dX8_again_50 : decode cX8_again 50 = .ok (.ireturn, 1) := by decide +kernel
end
section
theorem dL_law_0 : decode cL_law 0 = .ok (.new 7, 3) := by decide +kernel
theorem dL_law_3 : decode cL_law 3 = .ok (.dup, 1) := by decide +kernel
theorem dL_law_4 : decode cL_law 4 = .ok (.invokespecial 9, 3) := by decide +kernel
theorem dL_law_7 : decode cL_law 7 = .ok (.astore_n 1, 1) := by decide +kernel
theorem dL_law_8 : decode cL_law 8 = .ok (.new 10, 3) := by decide +kernel
theorem dL_law_11 : decode cL_law 11 = .ok (.dup, 1) := by decide +kernel
theorem dL_law_12 : decode cL_law 12 = .ok (.invokespecial 12, 3) := by decide +kernel
theorem dL_law_15 : decode cL_law 15 = .ok (.astore_n 2, 1) := by decide +kernel
theorem dL_law_16 : decode cL_law 16 = .ok (.iconst 0, 1) := by decide +kernel
theorem dL_law_17 : decode cL_law 17 = .ok (.istore_n 3, 1) := by decide +kernel
theorem dL_law_18 : decode cL_law 18 = .ok (.iload_n 3, 1) := by decide +kernel
theorem dL_law_19 : decode cL_law 19 = .ok (.aload_n 0, 1) := by decide +kernel
theorem dL_law_20 : decode cL_law 20 = .ok (.arraylength, 1) := by decide +kernel
theorem dL_law_21 : decode cL_law 21 = .ok (.iconst 5, 1) := by decide +kernel
theorem dL_law_22 : decode cL_law 22 = .ok (.isub, 1) := by decide +kernel
theorem dL_law_23 : decode cL_law 23 = .ok (.if_icmp .gt 782, 3) := by decide +kernel
theorem dL_law_26 : decode cL_law 26 = .ok (.aload_n 0, 1) := by decide +kernel
theorem dL_law_27 : decode cL_law 27 = .ok (.iload_n 3, 1) := by decide +kernel
theorem dL_law_28 : decode cL_law 28 = .ok (.iaload, 1) := by decide +kernel
theorem dL_law_29 : decode cL_law 29 = .ok (.bipush 31, 2) := by decide +kernel
theorem dL_law_31 : decode cL_law 31 = .ok (.iand, 1) := by decide +kernel
theorem dL_law_32 : decode cL_law 32 = .ok (.tableswitch 767 0 21 #[104, 167, 180, 193, 206, 229, 262, 295, 318, 351, 374, 387, 420, 433, 456, 489, 522, 565, 598, 651, 721, 744], 104) := by decide +kernel
theorem dL_law_136 : decode cL_law 136 = .ok (.aload_n 1, 1) := by decide +kernel
theorem dL_law_137 : decode cL_law 137 = .ok (.aload_n 0, 1) := by decide +kernel
theorem dL_law_138 : decode cL_law 138 = .ok (.iload_n 3, 1) := by decide +kernel
theorem dL_law_139 : decode cL_law 139 = .ok (.iconst 1, 1) := by decide +kernel
theorem dL_law_140 : decode cL_law 140 = .ok (.iadd, 1) := by decide +kernel
theorem dL_law_141 : decode cL_law 141 = .ok (.iaload, 1) := by decide +kernel
theorem dL_law_142 : decode cL_law 142 = .ok (.aload_n 0, 1) := by decide +kernel
theorem dL_law_143 : decode cL_law 143 = .ok (.iload_n 3, 1) := by decide +kernel
theorem dL_law_144 : decode cL_law 144 = .ok (.iconst 2, 1) := by decide +kernel
theorem dL_law_145 : decode cL_law 145 = .ok (.iadd, 1) := by decide +kernel
theorem dL_law_146 : decode cL_law 146 = .ok (.iaload, 1) := by decide +kernel
theorem dL_law_147 : decode cL_law 147 = .ok (.i2l, 1) := by decide +kernel
theorem dL_law_148 : decode cL_law 148 = .ok (.bipush 32, 2) := by decide +kernel
theorem dL_law_150 : decode cL_law 150 = .ok (.lshl, 1) := by decide +kernel
theorem dL_law_151 : decode cL_law 151 = .ok (.aload_n 0, 1) := by decide +kernel
theorem dL_law_152 : decode cL_law 152 = .ok (.iload_n 3, 1) := by decide +kernel
theorem dL_law_153 : decode cL_law 153 = .ok (.iconst 3, 1) := by decide +kernel
theorem dL_law_154 : decode cL_law 154 = .ok (.iadd, 1) := by decide +kernel
theorem dL_law_155 : decode cL_law 155 = .ok (.iaload, 1) := by decide +kernel
theorem dL_law_156 : decode cL_law 156 = .ok (.i2l, 1) := by decide +kernel
theorem dL_law_157 : decode cL_law 157 = .ok (.ldc2_w 13, 3) := by decide +kernel
theorem dL_law_160 : decode cL_law 160 = .ok (.land, 1) := by decide +kernel
theorem dL_law_161 : decode cL_law 161 = .ok (.lor, 1) := by decide +kernel
theorem dL_law_162 : decode cL_law 162 = .ok (.invokevirtual 15, 3) := by decide +kernel
theorem dL_law_165 : decode cL_law 165 = .ok (.aload_n 2, 1) := by decide +kernel
theorem dL_law_166 : decode cL_law 166 = .ok (.aload_n 0, 1) := by decide +kernel
theorem dL_law_167 : decode cL_law 167 = .ok (.iload_n 3, 1) := by decide +kernel
theorem dL_law_168 : decode cL_law 168 = .ok (.iconst 1, 1) := by decide +kernel
theorem dL_law_169 : decode cL_law 169 = .ok (.iadd, 1) := by decide +kernel
theorem dL_law_170 : decode cL_law 170 = .ok (.iaload, 1) := by decide +kernel
theorem dL_law_171 : decode cL_law 171 = .ok (.aload_n 0, 1) := by decide +kernel
theorem dL_law_172 : decode cL_law 172 = .ok (.iload_n 3, 1) := by decide +kernel
theorem dL_law_173 : decode cL_law 173 = .ok (.iconst 2, 1) := by decide +kernel
theorem dL_law_174 : decode cL_law 174 = .ok (.iadd, 1) := by decide +kernel
theorem dL_law_175 : decode cL_law 175 = .ok (.iaload, 1) := by decide +kernel
theorem dL_law_176 : decode cL_law 176 = .ok (.i2l, 1) := by decide +kernel
theorem dL_law_177 : decode cL_law 177 = .ok (.bipush 32, 2) := by decide +kernel
theorem dL_law_179 : decode cL_law 179 = .ok (.lshl, 1) := by decide +kernel
theorem dL_law_180 : decode cL_law 180 = .ok (.aload_n 0, 1) := by decide +kernel
theorem dL_law_181 : decode cL_law 181 = .ok (.iload_n 3, 1) := by decide +kernel
theorem dL_law_182 : decode cL_law 182 = .ok (.iconst 3, 1) := by decide +kernel
theorem dL_law_183 : decode cL_law 183 = .ok (.iadd, 1) := by decide +kernel
theorem dL_law_184 : decode cL_law 184 = .ok (.iaload, 1) := by decide +kernel
theorem dL_law_185 : decode cL_law 185 = .ok (.i2l, 1) := by decide +kernel
theorem dL_law_186 : decode cL_law 186 = .ok (.ldc2_w 13, 3) := by decide +kernel
theorem dL_law_189 : decode cL_law 189 = .ok (.land, 1) := by decide +kernel
theorem dL_law_190 : decode cL_law 190 = .ok (.lor, 1) := by decide +kernel
theorem dL_law_191 : decode cL_law 191 = .ok (.invokevirtual 19, 3) := by decide +kernel
theorem dL_law_194 : decode cL_law 194 = .ok (.if_icmp .eq 605, 3) := by decide +kernel
theorem dL_law_197 : decode cL_law 197 = .ok (.iconst 0, 1) := by decide +kernel
theorem dL_law_198 : decode cL_law 198 = .ok (.ireturn, 1) := by decide +kernel
theorem dL_law_199 : decode cL_law 199 = .ok (.aload_n 1, 1) := by decide +kernel
theorem dL_law_200 : decode cL_law 200 = .ok (.invokevirtual 20, 3) := by decide +kernel
theorem dL_law_203 : decode cL_law 203 = .ok (.aload_n 2, 1) := by decide +kernel
theorem dL_law_204 : decode cL_law 204 = .ok (.invokevirtual 24, 3) := by decide +kernel
theorem dL_law_207 : decode cL_law 207 = .ok (.if_icmp .eq 592, 3) := by decide +kernel
theorem dL_law_210 : decode cL_law 210 = .ok (.iconst 0, 1) := by decide +kernel
theorem dL_law_211 : decode cL_law 211 = .ok (.ireturn, 1) := by decide +kernel
theorem dL_law_212 : decode cL_law 212 = .ok (.aload_n 1, 1) := by decide +kernel
theorem dL_law_213 : decode cL_law 213 = .ok (.invokevirtual 25, 3) := by decide +kernel
theorem dL_law_216 : decode cL_law 216 = .ok (.aload_n 2, 1) := by decide +kernel
theorem dL_law_217 : decode cL_law 217 = .ok (.invokevirtual 28, 3) := by decide +kernel
theorem dL_law_220 : decode cL_law 220 = .ok (.if_icmp .eq 579, 3) := by decide +kernel
theorem dL_law_223 : decode cL_law 223 = .ok (.iconst 0, 1) := by decide +kernel
theorem dL_law_224 : decode cL_law 224 = .ok (.ireturn, 1) := by decide +kernel
theorem dL_law_225 : decode cL_law 225 = .ok (.aload_n 1, 1) := by decide +kernel
theorem dL_law_226 : decode cL_law 226 = .ok (.invokevirtual 29, 3) := by decide +kernel
theorem dL_law_229 : decode cL_law 229 = .ok (.aload_n 2, 1) := by decide +kernel
theorem dL_law_230 : decode cL_law 230 = .ok (.invokevirtual 32, 3) := by decide +kernel
theorem dL_law_233 : decode cL_law 233 = .ok (.if_icmp .eq 566, 3) := by decide +kernel
theorem dL_law_236 : decode cL_law 236 = .ok (.iconst 0, 1) := by decide +kernel
theorem dL_law_237 : decode cL_law 237 = .ok (.ireturn, 1) := by decide +kernel
theorem dL_law_238 : decode cL_law 238 = .ok (.aload_n 1, 1) := by decide +kernel
theorem dL_law_239 : decode cL_law 239 = .ok (.aload_n 0, 1) := by decide +kernel
theorem dL_law_240 : decode cL_law 240 = .ok (.iload_n 3, 1) := by decide +kernel
theorem dL_law_241 : decode cL_law 241 = .ok (.iconst 1, 1) := by decide +kernel
theorem dL_law_242 : decode cL_law 242 = .ok (.iadd, 1) := by decide +kernel
theorem dL_law_243 : decode cL_law 243 = .ok (.iaload, 1) := by decide +kernel
theorem dL_law_244 : decode cL_law 244 = .ok (.invokevirtual 33, 3) := by decide +kernel
theorem dL_law_247 : decode cL_law 247 = .ok (.aload_n 2, 1) := by decide +kernel
theorem dL_law_248 : decode cL_law 248 = .ok (.aload_n 0, 1) := by decide +kernel
theorem dL_law_249 : decode cL_law 249 = .ok (.iload_n 3, 1) := by decide +kernel
theorem dL_law_250 : decode cL_law 250 = .ok (.iconst 1, 1) := by decide +kernel
theorem dL_law_251 : decode cL_law 251 = .ok (.iadd, 1) := by decide +kernel
theorem dL_law_252 : decode cL_law 252 = .ok (.iaload, 1) := by decide +kernel
theorem dL_law_253 : decode cL_law 253 = .ok (.invokevirtual 37, 3) := by decide +kernel
theorem dL_law_256 : decode cL_law 256 = .ok (.if_icmp .eq 543, 3) := by decide +kernel
theorem dL_law_259 : decode cL_law 259 = .ok (.iconst 0, 1) := by decide +kernel
theorem dL_law_260 : decode cL_law 260 = .ok (.ireturn, 1) := by decide +kernel
theorem dL_law_261 : decode cL_law 261 = .ok (.aload_n 1, 1) := by decide +kernel
theorem dL_law_262 : decode cL_law 262 = .ok (.aload_n 0, 1) := by decide +kernel
theorem dL_law_263 : decode cL_law 263 = .ok (.iload_n 3, 1) := by decide +kernel
theorem dL_law_264 : decode cL_law 264 = .ok (.iconst 1, 1) := by decide +kernel
theorem dL_law_265 : decode cL_law 265 = .ok (.iadd, 1) := by decide +kernel
theorem dL_law_266 : decode cL_law 266 = .ok (.iaload, 1) := by decide +kernel
theorem dL_law_267 : decode cL_law 267 = .ok (.aload_n 0, 1) := by decide +kernel
theorem dL_law_268 : decode cL_law 268 = .ok (.iload_n 3, 1) := by decide +kernel
theorem dL_law_269 : decode cL_law 269 = .ok (.iconst 2, 1) := by decide +kernel
theorem dL_law_270 : decode cL_law 270 = .ok (.iadd, 1) := by decide +kernel
theorem dL_law_271 : decode cL_law 271 = .ok (.iaload, 1) := by decide +kernel
theorem dL_law_272 : decode cL_law 272 = .ok (.invokevirtual 38, 3) := by decide +kernel
theorem dL_law_275 : decode cL_law 275 = .ok (.aload_n 2, 1) := by decide +kernel
theorem dL_law_276 : decode cL_law 276 = .ok (.aload_n 0, 1) := by decide +kernel
theorem dL_law_277 : decode cL_law 277 = .ok (.iload_n 3, 1) := by decide +kernel
theorem dL_law_278 : decode cL_law 278 = .ok (.iconst 1, 1) := by decide +kernel
theorem dL_law_279 : decode cL_law 279 = .ok (.iadd, 1) := by decide +kernel
theorem dL_law_280 : decode cL_law 280 = .ok (.iaload, 1) := by decide +kernel
theorem dL_law_281 : decode cL_law 281 = .ok (.aload_n 0, 1) := by decide +kernel
theorem dL_law_282 : decode cL_law 282 = .ok (.iload_n 3, 1) := by decide +kernel
theorem dL_law_283 : decode cL_law 283 = .ok (.iconst 2, 1) := by decide +kernel
theorem dL_law_284 : decode cL_law 284 = .ok (.iadd, 1) := by decide +kernel
theorem dL_law_285 : decode cL_law 285 = .ok (.iaload, 1) := by decide +kernel
theorem dL_law_286 : decode cL_law 286 = .ok (.invokevirtual 42, 3) := by decide +kernel
theorem dL_law_289 : decode cL_law 289 = .ok (.if_icmp .eq 510, 3) := by decide +kernel
theorem dL_law_292 : decode cL_law 292 = .ok (.iconst 0, 1) := by decide +kernel
theorem dL_law_293 : decode cL_law 293 = .ok (.ireturn, 1) := by decide +kernel
theorem dL_law_294 : decode cL_law 294 = .ok (.aload_n 1, 1) := by decide +kernel
theorem dL_law_295 : decode cL_law 295 = .ok (.aload_n 0, 1) := by decide +kernel
theorem dL_law_296 : decode cL_law 296 = .ok (.iload_n 3, 1) := by decide +kernel
theorem dL_law_297 : decode cL_law 297 = .ok (.iconst 1, 1) := by decide +kernel
theorem dL_law_298 : decode cL_law 298 = .ok (.iadd, 1) := by decide +kernel
theorem dL_law_299 : decode cL_law 299 = .ok (.iaload, 1) := by decide +kernel
theorem dL_law_300 : decode cL_law 300 = .ok (.aload_n 0, 1) := by decide +kernel
theorem dL_law_301 : decode cL_law 301 = .ok (.iload_n 3, 1) := by decide +kernel
theorem dL_law_302 : decode cL_law 302 = .ok (.iconst 2, 1) := by decide +kernel
theorem dL_law_303 : decode cL_law 303 = .ok (.iadd, 1) := by decide +kernel
theorem dL_law_304 : decode cL_law 304 = .ok (.iaload, 1) := by decide +kernel
theorem dL_law_305 : decode cL_law 305 = .ok (.invokevirtual 43, 3) := by decide +kernel
theorem dL_law_308 : decode cL_law 308 = .ok (.aload_n 2, 1) := by decide +kernel
theorem dL_law_309 : decode cL_law 309 = .ok (.aload_n 0, 1) := by decide +kernel
theorem dL_law_310 : decode cL_law 310 = .ok (.iload_n 3, 1) := by decide +kernel
theorem dL_law_311 : decode cL_law 311 = .ok (.iconst 1, 1) := by decide +kernel
theorem dL_law_312 : decode cL_law 312 = .ok (.iadd, 1) := by decide +kernel
theorem dL_law_313 : decode cL_law 313 = .ok (.iaload, 1) := by decide +kernel
theorem dL_law_314 : decode cL_law 314 = .ok (.aload_n 0, 1) := by decide +kernel
theorem dL_law_315 : decode cL_law 315 = .ok (.iload_n 3, 1) := by decide +kernel
theorem dL_law_316 : decode cL_law 316 = .ok (.iconst 2, 1) := by decide +kernel
theorem dL_law_317 : decode cL_law 317 = .ok (.iadd, 1) := by decide +kernel
theorem dL_law_318 : decode cL_law 318 = .ok (.iaload, 1) := by decide +kernel
theorem dL_law_319 : decode cL_law 319 = .ok (.invokevirtual 46, 3) := by decide +kernel
theorem dL_law_322 : decode cL_law 322 = .ok (.if_icmp .eq 477, 3) := by decide +kernel
theorem dL_law_325 : decode cL_law 325 = .ok (.iconst 0, 1) := by decide +kernel
theorem dL_law_326 : decode cL_law 326 = .ok (.ireturn, 1) := by decide +kernel
theorem dL_law_327 : decode cL_law 327 = .ok (.aload_n 1, 1) := by decide +kernel
theorem dL_law_328 : decode cL_law 328 = .ok (.aload_n 0, 1) := by decide +kernel
theorem dL_law_329 : decode cL_law 329 = .ok (.iload_n 3, 1) := by decide +kernel
theorem dL_law_330 : decode cL_law 330 = .ok (.iconst 1, 1) := by decide +kernel
theorem dL_law_331 : decode cL_law 331 = .ok (.iadd, 1) := by decide +kernel
theorem dL_law_332 : decode cL_law 332 = .ok (.iaload, 1) := by decide +kernel
theorem dL_law_333 : decode cL_law 333 = .ok (.invokevirtual 47, 3) := by decide +kernel
theorem dL_law_336 : decode cL_law 336 = .ok (.aload_n 2, 1) := by decide +kernel
theorem dL_law_337 : decode cL_law 337 = .ok (.aload_n 0, 1) := by decide +kernel
theorem dL_law_338 : decode cL_law 338 = .ok (.iload_n 3, 1) := by decide +kernel
theorem dL_law_339 : decode cL_law 339 = .ok (.iconst 1, 1) := by decide +kernel
theorem dL_law_340 : decode cL_law 340 = .ok (.iadd, 1) := by decide +kernel
theorem dL_law_341 : decode cL_law 341 = .ok (.iaload, 1) := by decide +kernel
theorem dL_law_342 : decode cL_law 342 = .ok (.invokevirtual 50, 3) := by decide +kernel
theorem dL_law_345 : decode cL_law 345 = .ok (.if_icmp .eq 454, 3) := by decide +kernel
theorem dL_law_348 : decode cL_law 348 = .ok (.iconst 0, 1) := by decide +kernel
theorem dL_law_349 : decode cL_law 349 = .ok (.ireturn, 1) := by decide +kernel
theorem dL_law_350 : decode cL_law 350 = .ok (.aload_n 1, 1) := by decide +kernel
theorem dL_law_351 : decode cL_law 351 = .ok (.aload_n 0, 1) := by decide +kernel
theorem dL_law_352 : decode cL_law 352 = .ok (.iload_n 3, 1) := by decide +kernel
theorem dL_law_353 : decode cL_law 353 = .ok (.iconst 1, 1) := by decide +kernel
theorem dL_law_354 : decode cL_law 354 = .ok (.iadd, 1) := by decide +kernel
theorem dL_law_355 : decode cL_law 355 = .ok (.iaload, 1) := by decide +kernel
theorem dL_law_356 : decode cL_law 356 = .ok (.aload_n 0, 1) := by decide +kernel
theorem dL_law_357 : decode cL_law 357 = .ok (.iload_n 3, 1) := by decide +kernel
theorem dL_law_358 : decode cL_law 358 = .ok (.iconst 2, 1) := by decide +kernel
theorem dL_law_359 : decode cL_law 359 = .ok (.iadd, 1) := by decide +kernel
theorem dL_law_360 : decode cL_law 360 = .ok (.iaload, 1) := by decide +kernel
theorem dL_law_361 : decode cL_law 361 = .ok (.invokevirtual 51, 3) := by decide +kernel
theorem dL_law_364 : decode cL_law 364 = .ok (.aload_n 2, 1) := by decide +kernel
theorem dL_law_365 : decode cL_law 365 = .ok (.aload_n 0, 1) := by decide +kernel
theorem dL_law_366 : decode cL_law 366 = .ok (.iload_n 3, 1) := by decide +kernel
theorem dL_law_367 : decode cL_law 367 = .ok (.iconst 1, 1) := by decide +kernel
theorem dL_law_368 : decode cL_law 368 = .ok (.iadd, 1) := by decide +kernel
theorem dL_law_369 : decode cL_law 369 = .ok (.iaload, 1) := by decide +kernel
theorem dL_law_370 : decode cL_law 370 = .ok (.aload_n 0, 1) := by decide +kernel
theorem dL_law_371 : decode cL_law 371 = .ok (.iload_n 3, 1) := by decide +kernel
theorem dL_law_372 : decode cL_law 372 = .ok (.iconst 2, 1) := by decide +kernel
theorem dL_law_373 : decode cL_law 373 = .ok (.iadd, 1) := by decide +kernel
theorem dL_law_374 : decode cL_law 374 = .ok (.iaload, 1) := by decide +kernel
theorem dL_law_375 : decode cL_law 375 = .ok (.invokevirtual 54, 3) := by decide +kernel
theorem dL_law_378 : decode cL_law 378 = .ok (.if_icmp .eq 421, 3) := by decide +kernel
theorem dL_law_381 : decode cL_law 381 = .ok (.iconst 0, 1) := by decide +kernel
theorem dL_law_382 : decode cL_law 382 = .ok (.ireturn, 1) := by decide +kernel
theorem dL_law_383 : decode cL_law 383 = .ok (.aload_n 1, 1) := by decide +kernel
theorem dL_law_384 : decode cL_law 384 = .ok (.aload_n 0, 1) := by decide +kernel
theorem dL_law_385 : decode cL_law 385 = .ok (.iload_n 3, 1) := by decide +kernel
theorem dL_law_386 : decode cL_law 386 = .ok (.iconst 1, 1) := by decide +kernel
theorem dL_law_387 : decode cL_law 387 = .ok (.iadd, 1) := by decide +kernel
theorem dL_law_388 : decode cL_law 388 = .ok (.iaload, 1) := by decide +kernel
theorem dL_law_389 : decode cL_law 389 = .ok (.invokevirtual 55, 3) := by decide +kernel
theorem dL_law_392 : decode cL_law 392 = .ok (.aload_n 2, 1) := by decide +kernel
theorem dL_law_393 : decode cL_law 393 = .ok (.aload_n 0, 1) := by decide +kernel
theorem dL_law_394 : decode cL_law 394 = .ok (.iload_n 3, 1) := by decide +kernel
theorem dL_law_395 : decode cL_law 395 = .ok (.iconst 1, 1) := by decide +kernel
theorem dL_law_396 : decode cL_law 396 = .ok (.iadd, 1) := by decide +kernel
theorem dL_law_397 : decode cL_law 397 = .ok (.iaload, 1) := by decide +kernel
theorem dL_law_398 : decode cL_law 398 = .ok (.invokevirtual 58, 3) := by decide +kernel
theorem dL_law_401 : decode cL_law 401 = .ok (.if_icmp .eq 398, 3) := by decide +kernel
theorem dL_law_404 : decode cL_law 404 = .ok (.iconst 0, 1) := by decide +kernel
theorem dL_law_405 : decode cL_law 405 = .ok (.ireturn, 1) := by decide +kernel
theorem dL_law_406 : decode cL_law 406 = .ok (.aload_n 1, 1) := by decide +kernel
theorem dL_law_407 : decode cL_law 407 = .ok (.invokevirtual 59, 3) := by decide +kernel
theorem dL_law_410 : decode cL_law 410 = .ok (.aload_n 2, 1) := by decide +kernel
theorem dL_law_411 : decode cL_law 411 = .ok (.invokevirtual 62, 3) := by decide +kernel
theorem dL_law_414 : decode cL_law 414 = .ok (.if_icmp .eq 385, 3) := by decide +kernel
theorem dL_law_417 : decode cL_law 417 = .ok (.iconst 0, 1) := by decide +kernel
theorem dL_law_418 : decode cL_law 418 = .ok (.ireturn, 1) := by decide +kernel
theorem dL_law_419 : decode cL_law 419 = .ok (.aload_n 1, 1) := by decide +kernel
theorem dL_law_420 : decode cL_law 420 = .ok (.aload_n 0, 1) := by decide +kernel
theorem dL_law_421 : decode cL_law 421 = .ok (.iload_n 3, 1) := by decide +kernel
theorem dL_law_422 : decode cL_law 422 = .ok (.iconst 1, 1) := by decide +kernel
theorem dL_law_423 : decode cL_law 423 = .ok (.iadd, 1) := by decide +kernel
theorem dL_law_424 : decode cL_law 424 = .ok (.iaload, 1) := by decide +kernel
theorem dL_law_425 : decode cL_law 425 = .ok (.aload_n 0, 1) := by decide +kernel
theorem dL_law_426 : decode cL_law 426 = .ok (.iload_n 3, 1) := by decide +kernel
theorem dL_law_427 : decode cL_law 427 = .ok (.iconst 2, 1) := by decide +kernel
theorem dL_law_428 : decode cL_law 428 = .ok (.iadd, 1) := by decide +kernel
theorem dL_law_429 : decode cL_law 429 = .ok (.iaload, 1) := by decide +kernel
theorem dL_law_430 : decode cL_law 430 = .ok (.invokevirtual 63, 3) := by decide +kernel
theorem dL_law_433 : decode cL_law 433 = .ok (.aload_n 2, 1) := by decide +kernel
theorem dL_law_434 : decode cL_law 434 = .ok (.aload_n 0, 1) := by decide +kernel
theorem dL_law_435 : decode cL_law 435 = .ok (.iload_n 3, 1) := by decide +kernel
theorem dL_law_436 : decode cL_law 436 = .ok (.iconst 1, 1) := by decide +kernel
theorem dL_law_437 : decode cL_law 437 = .ok (.iadd, 1) := by decide +kernel
theorem dL_law_438 : decode cL_law 438 = .ok (.iaload, 1) := by decide +kernel
theorem dL_law_439 : decode cL_law 439 = .ok (.aload_n 0, 1) := by decide +kernel
theorem dL_law_440 : decode cL_law 440 = .ok (.iload_n 3, 1) := by decide +kernel
theorem dL_law_441 : decode cL_law 441 = .ok (.iconst 2, 1) := by decide +kernel
theorem dL_law_442 : decode cL_law 442 = .ok (.iadd, 1) := by decide +kernel
theorem dL_law_443 : decode cL_law 443 = .ok (.iaload, 1) := by decide +kernel
theorem dL_law_444 : decode cL_law 444 = .ok (.invokevirtual 66, 3) := by decide +kernel
theorem dL_law_447 : decode cL_law 447 = .ok (.if_icmp .eq 352, 3) := by decide +kernel
theorem dL_law_450 : decode cL_law 450 = .ok (.iconst 0, 1) := by decide +kernel
theorem dL_law_451 : decode cL_law 451 = .ok (.ireturn, 1) := by decide +kernel
theorem dL_law_452 : decode cL_law 452 = .ok (.aload_n 1, 1) := by decide +kernel
theorem dL_law_453 : decode cL_law 453 = .ok (.invokevirtual 67, 3) := by decide +kernel
theorem dL_law_456 : decode cL_law 456 = .ok (.aload_n 2, 1) := by decide +kernel
theorem dL_law_457 : decode cL_law 457 = .ok (.invokevirtual 70, 3) := by decide +kernel
theorem dL_law_460 : decode cL_law 460 = .ok (.if_icmp .eq 339, 3) := by decide +kernel
theorem dL_law_463 : decode cL_law 463 = .ok (.iconst 0, 1) := by decide +kernel
theorem dL_law_464 : decode cL_law 464 = .ok (.ireturn, 1) := by decide +kernel
theorem dL_law_465 : decode cL_law 465 = .ok (.aload_n 1, 1) := by decide +kernel
theorem dL_law_466 : decode cL_law 466 = .ok (.aload_n 0, 1) := by decide +kernel
theorem dL_law_467 : decode cL_law 467 = .ok (.iload_n 3, 1) := by decide +kernel
theorem dL_law_468 : decode cL_law 468 = .ok (.iconst 1, 1) := by decide +kernel
theorem dL_law_469 : decode cL_law 469 = .ok (.iadd, 1) := by decide +kernel
theorem dL_law_470 : decode cL_law 470 = .ok (.iaload, 1) := by decide +kernel
theorem dL_law_471 : decode cL_law 471 = .ok (.invokevirtual 71, 3) := by decide +kernel
theorem dL_law_474 : decode cL_law 474 = .ok (.aload_n 2, 1) := by decide +kernel
theorem dL_law_475 : decode cL_law 475 = .ok (.aload_n 0, 1) := by decide +kernel
theorem dL_law_476 : decode cL_law 476 = .ok (.iload_n 3, 1) := by decide +kernel
theorem dL_law_477 : decode cL_law 477 = .ok (.iconst 1, 1) := by decide +kernel
theorem dL_law_478 : decode cL_law 478 = .ok (.iadd, 1) := by decide +kernel
theorem dL_law_479 : decode cL_law 479 = .ok (.iaload, 1) := by decide +kernel
theorem dL_law_480 : decode cL_law 480 = .ok (.invokevirtual 74, 3) := by decide +kernel
theorem dL_law_483 : decode cL_law 483 = .ok (.if_icmp .eq 316, 3) := by decide +kernel
theorem dL_law_486 : decode cL_law 486 = .ok (.iconst 0, 1) := by decide +kernel
theorem dL_law_487 : decode cL_law 487 = .ok (.ireturn, 1) := by decide +kernel
theorem dL_law_488 : decode cL_law 488 = .ok (.aload_n 1, 1) := by decide +kernel
theorem dL_law_489 : decode cL_law 489 = .ok (.aload_n 0, 1) := by decide +kernel
theorem dL_law_490 : decode cL_law 490 = .ok (.iload_n 3, 1) := by decide +kernel
theorem dL_law_491 : decode cL_law 491 = .ok (.iconst 1, 1) := by decide +kernel
theorem dL_law_492 : decode cL_law 492 = .ok (.iadd, 1) := by decide +kernel
theorem dL_law_493 : decode cL_law 493 = .ok (.iaload, 1) := by decide +kernel
theorem dL_law_494 : decode cL_law 494 = .ok (.aload_n 0, 1) := by decide +kernel
theorem dL_law_495 : decode cL_law 495 = .ok (.iload_n 3, 1) := by decide +kernel
theorem dL_law_496 : decode cL_law 496 = .ok (.iconst 2, 1) := by decide +kernel
theorem dL_law_497 : decode cL_law 497 = .ok (.iadd, 1) := by decide +kernel
theorem dL_law_498 : decode cL_law 498 = .ok (.iaload, 1) := by decide +kernel
theorem dL_law_499 : decode cL_law 499 = .ok (.invokevirtual 75, 3) := by decide +kernel
theorem dL_law_502 : decode cL_law 502 = .ok (.aload_n 2, 1) := by decide +kernel
theorem dL_law_503 : decode cL_law 503 = .ok (.aload_n 0, 1) := by decide +kernel
theorem dL_law_504 : decode cL_law 504 = .ok (.iload_n 3, 1) := by decide +kernel
theorem dL_law_505 : decode cL_law 505 = .ok (.iconst 1, 1) := by decide +kernel
theorem dL_law_506 : decode cL_law 506 = .ok (.iadd, 1) := by decide +kernel
theorem dL_law_507 : decode cL_law 507 = .ok (.iaload, 1) := by decide +kernel
theorem dL_law_508 : decode cL_law 508 = .ok (.aload_n 0, 1) := by decide +kernel
theorem dL_law_509 : decode cL_law 509 = .ok (.iload_n 3, 1) := by decide +kernel
theorem dL_law_510 : decode cL_law 510 = .ok (.iconst 2, 1) := by decide +kernel
theorem dL_law_511 : decode cL_law 511 = .ok (.iadd, 1) := by decide +kernel
theorem dL_law_512 : decode cL_law 512 = .ok (.iaload, 1) := by decide +kernel
theorem dL_law_513 : decode cL_law 513 = .ok (.invokevirtual 78, 3) := by decide +kernel
theorem dL_law_516 : decode cL_law 516 = .ok (.if_icmp .eq 283, 3) := by decide +kernel
theorem dL_law_519 : decode cL_law 519 = .ok (.iconst 0, 1) := by decide +kernel
theorem dL_law_520 : decode cL_law 520 = .ok (.ireturn, 1) := by decide +kernel
theorem dL_law_521 : decode cL_law 521 = .ok (.aload_n 1, 1) := by decide +kernel
theorem dL_law_522 : decode cL_law 522 = .ok (.aload_n 0, 1) := by decide +kernel
theorem dL_law_523 : decode cL_law 523 = .ok (.iload_n 3, 1) := by decide +kernel
theorem dL_law_524 : decode cL_law 524 = .ok (.iconst 1, 1) := by decide +kernel
theorem dL_law_525 : decode cL_law 525 = .ok (.iadd, 1) := by decide +kernel
theorem dL_law_526 : decode cL_law 526 = .ok (.iaload, 1) := by decide +kernel
theorem dL_law_527 : decode cL_law 527 = .ok (.aload_n 0, 1) := by decide +kernel
theorem dL_law_528 : decode cL_law 528 = .ok (.iload_n 3, 1) := by decide +kernel
theorem dL_law_529 : decode cL_law 529 = .ok (.iconst 2, 1) := by decide +kernel
theorem dL_law_530 : decode cL_law 530 = .ok (.iadd, 1) := by decide +kernel
theorem dL_law_531 : decode cL_law 531 = .ok (.iaload, 1) := by decide +kernel
theorem dL_law_532 : decode cL_law 532 = .ok (.invokevirtual 79, 3) := by decide +kernel
theorem dL_law_535 : decode cL_law 535 = .ok (.aload_n 2, 1) := by decide +kernel
theorem dL_law_536 : decode cL_law 536 = .ok (.aload_n 0, 1) := by decide +kernel
theorem dL_law_537 : decode cL_law 537 = .ok (.iload_n 3, 1) := by decide +kernel
theorem dL_law_538 : decode cL_law 538 = .ok (.iconst 1, 1) := by decide +kernel
theorem dL_law_539 : decode cL_law 539 = .ok (.iadd, 1) := by decide +kernel
theorem dL_law_540 : decode cL_law 540 = .ok (.iaload, 1) := by decide +kernel
theorem dL_law_541 : decode cL_law 541 = .ok (.aload_n 0, 1) := by decide +kernel
theorem dL_law_542 : decode cL_law 542 = .ok (.iload_n 3, 1) := by decide +kernel
theorem dL_law_543 : decode cL_law 543 = .ok (.iconst 2, 1) := by decide +kernel
theorem dL_law_544 : decode cL_law 544 = .ok (.iadd, 1) := by decide +kernel
theorem dL_law_545 : decode cL_law 545 = .ok (.iaload, 1) := by decide +kernel
theorem dL_law_546 : decode cL_law 546 = .ok (.invokevirtual 82, 3) := by decide +kernel
theorem dL_law_549 : decode cL_law 549 = .ok (.if_icmp .eq 250, 3) := by decide +kernel
theorem dL_law_552 : decode cL_law 552 = .ok (.iconst 0, 1) := by decide +kernel
theorem dL_law_553 : decode cL_law 553 = .ok (.ireturn, 1) := by decide +kernel
theorem dL_law_554 : decode cL_law 554 = .ok (.aload_n 1, 1) := by decide +kernel
theorem dL_law_555 : decode cL_law 555 = .ok (.aload_n 0, 1) := by decide +kernel
theorem dL_law_556 : decode cL_law 556 = .ok (.iload_n 3, 1) := by decide +kernel
theorem dL_law_557 : decode cL_law 557 = .ok (.iconst 1, 1) := by decide +kernel
theorem dL_law_558 : decode cL_law 558 = .ok (.iadd, 1) := by decide +kernel
theorem dL_law_559 : decode cL_law 559 = .ok (.iaload, 1) := by decide +kernel
theorem dL_law_560 : decode cL_law 560 = .ok (.aload_n 0, 1) := by decide +kernel
theorem dL_law_561 : decode cL_law 561 = .ok (.iload_n 3, 1) := by decide +kernel
theorem dL_law_562 : decode cL_law 562 = .ok (.iconst 2, 1) := by decide +kernel
theorem dL_law_563 : decode cL_law 563 = .ok (.iadd, 1) := by decide +kernel
theorem dL_law_564 : decode cL_law 564 = .ok (.iaload, 1) := by decide +kernel
theorem dL_law_565 : decode cL_law 565 = .ok (.aload_n 0, 1) := by decide +kernel
theorem dL_law_566 : decode cL_law 566 = .ok (.iload_n 3, 1) := by decide +kernel
theorem dL_law_567 : decode cL_law 567 = .ok (.iconst 3, 1) := by decide +kernel
theorem dL_law_568 : decode cL_law 568 = .ok (.iadd, 1) := by decide +kernel
theorem dL_law_569 : decode cL_law 569 = .ok (.iaload, 1) := by decide +kernel
theorem dL_law_570 : decode cL_law 570 = .ok (.invokevirtual 83, 3) := by decide +kernel
theorem dL_law_573 : decode cL_law 573 = .ok (.aload_n 2, 1) := by decide +kernel
theorem dL_law_574 : decode cL_law 574 = .ok (.aload_n 0, 1) := by decide +kernel
theorem dL_law_575 : decode cL_law 575 = .ok (.iload_n 3, 1) := by decide +kernel
theorem dL_law_576 : decode cL_law 576 = .ok (.iconst 1, 1) := by decide +kernel
theorem dL_law_577 : decode cL_law 577 = .ok (.iadd, 1) := by decide +kernel
theorem dL_law_578 : decode cL_law 578 = .ok (.iaload, 1) := by decide +kernel
theorem dL_law_579 : decode cL_law 579 = .ok (.aload_n 0, 1) := by decide +kernel
theorem dL_law_580 : decode cL_law 580 = .ok (.iload_n 3, 1) := by decide +kernel
theorem dL_law_581 : decode cL_law 581 = .ok (.iconst 2, 1) := by decide +kernel
theorem dL_law_582 : decode cL_law 582 = .ok (.iadd, 1) := by decide +kernel
theorem dL_law_583 : decode cL_law 583 = .ok (.iaload, 1) := by decide +kernel
theorem dL_law_584 : decode cL_law 584 = .ok (.aload_n 0, 1) := by decide +kernel
theorem dL_law_585 : decode cL_law 585 = .ok (.iload_n 3, 1) := by decide +kernel
theorem dL_law_586 : decode cL_law 586 = .ok (.iconst 3, 1) := by decide +kernel
theorem dL_law_587 : decode cL_law 587 = .ok (.iadd, 1) := by decide +kernel
theorem dL_law_588 : decode cL_law 588 = .ok (.iaload, 1) := by decide +kernel
theorem dL_law_589 : decode cL_law 589 = .ok (.invokevirtual 87, 3) := by decide +kernel
theorem dL_law_592 : decode cL_law 592 = .ok (.if_icmp .eq 207, 3) := by decide +kernel
theorem dL_law_595 : decode cL_law 595 = .ok (.iconst 0, 1) := by decide +kernel
theorem dL_law_596 : decode cL_law 596 = .ok (.ireturn, 1) := by decide +kernel
theorem dL_law_597 : decode cL_law 597 = .ok (.aload_n 1, 1) := by decide +kernel
theorem dL_law_598 : decode cL_law 598 = .ok (.aload_n 0, 1) := by decide +kernel
theorem dL_law_599 : decode cL_law 599 = .ok (.iload_n 3, 1) := by decide +kernel
theorem dL_law_600 : decode cL_law 600 = .ok (.iconst 1, 1) := by decide +kernel
theorem dL_law_601 : decode cL_law 601 = .ok (.iadd, 1) := by decide +kernel
theorem dL_law_602 : decode cL_law 602 = .ok (.iaload, 1) := by decide +kernel
theorem dL_law_603 : decode cL_law 603 = .ok (.aload_n 0, 1) := by decide +kernel
theorem dL_law_604 : decode cL_law 604 = .ok (.iload_n 3, 1) := by decide +kernel
theorem dL_law_605 : decode cL_law 605 = .ok (.iconst 2, 1) := by decide +kernel
theorem dL_law_606 : decode cL_law 606 = .ok (.iadd, 1) := by decide +kernel
theorem dL_law_607 : decode cL_law 607 = .ok (.iaload, 1) := by decide +kernel
theorem dL_law_608 : decode cL_law 608 = .ok (.invokevirtual 88, 3) := by decide +kernel
theorem dL_law_611 : decode cL_law 611 = .ok (.aload_n 2, 1) := by decide +kernel
theorem dL_law_612 : decode cL_law 612 = .ok (.aload_n 0, 1) := by decide +kernel
theorem dL_law_613 : decode cL_law 613 = .ok (.iload_n 3, 1) := by decide +kernel
theorem dL_law_614 : decode cL_law 614 = .ok (.iconst 1, 1) := by decide +kernel
theorem dL_law_615 : decode cL_law 615 = .ok (.iadd, 1) := by decide +kernel
theorem dL_law_616 : decode cL_law 616 = .ok (.iaload, 1) := by decide +kernel
theorem dL_law_617 : decode cL_law 617 = .ok (.aload_n 0, 1) := by decide +kernel
theorem dL_law_618 : decode cL_law 618 = .ok (.iload_n 3, 1) := by decide +kernel
theorem dL_law_619 : decode cL_law 619 = .ok (.iconst 2, 1) := by decide +kernel
theorem dL_law_620 : decode cL_law 620 = .ok (.iadd, 1) := by decide +kernel
theorem dL_law_621 : decode cL_law 621 = .ok (.iaload, 1) := by decide +kernel
theorem dL_law_622 : decode cL_law 622 = .ok (.invokevirtual 91, 3) := by decide +kernel
theorem dL_law_625 : decode cL_law 625 = .ok (.if_icmp .eq 174, 3) := by decide +kernel
theorem dL_law_628 : decode cL_law 628 = .ok (.iconst 0, 1) := by decide +kernel
theorem dL_law_629 : decode cL_law 629 = .ok (.ireturn, 1) := by decide +kernel
theorem dL_law_630 : decode cL_law 630 = .ok (.aload_n 1, 1) := by decide +kernel
theorem dL_law_631 : decode cL_law 631 = .ok (.aload_n 0, 1) := by decide +kernel
theorem dL_law_632 : decode cL_law 632 = .ok (.iload_n 3, 1) := by decide +kernel
theorem dL_law_633 : decode cL_law 633 = .ok (.iconst 1, 1) := by decide +kernel
theorem dL_law_634 : decode cL_law 634 = .ok (.iadd, 1) := by decide +kernel
theorem dL_law_635 : decode cL_law 635 = .ok (.iaload, 1) := by decide +kernel
theorem dL_law_636 : decode cL_law 636 = .ok (.aload_n 0, 1) := by decide +kernel
theorem dL_law_637 : decode cL_law 637 = .ok (.iload_n 3, 1) := by decide +kernel
theorem dL_law_638 : decode cL_law 638 = .ok (.iconst 2, 1) := by decide +kernel
theorem dL_law_639 : decode cL_law 639 = .ok (.iadd, 1) := by decide +kernel
theorem dL_law_640 : decode cL_law 640 = .ok (.iaload, 1) := by decide +kernel
theorem dL_law_641 : decode cL_law 641 = .ok (.aload_n 0, 1) := by decide +kernel
theorem dL_law_642 : decode cL_law 642 = .ok (.iload_n 3, 1) := by decide +kernel
theorem dL_law_643 : decode cL_law 643 = .ok (.iconst 3, 1) := by decide +kernel
theorem dL_law_644 : decode cL_law 644 = .ok (.iadd, 1) := by decide +kernel
theorem dL_law_645 : decode cL_law 645 = .ok (.iaload, 1) := by decide +kernel
theorem dL_law_646 : decode cL_law 646 = .ok (.aload_n 0, 1) := by decide +kernel
theorem dL_law_647 : decode cL_law 647 = .ok (.iload_n 3, 1) := by decide +kernel
theorem dL_law_648 : decode cL_law 648 = .ok (.iconst 4, 1) := by decide +kernel
theorem dL_law_649 : decode cL_law 649 = .ok (.iadd, 1) := by decide +kernel
theorem dL_law_650 : decode cL_law 650 = .ok (.iaload, 1) := by decide +kernel
theorem dL_law_651 : decode cL_law 651 = .ok (.invokevirtual 92, 3) := by decide +kernel
theorem dL_law_654 : decode cL_law 654 = .ok (.aload_n 2, 1) := by decide +kernel
theorem dL_law_655 : decode cL_law 655 = .ok (.aload_n 0, 1) := by decide +kernel
theorem dL_law_656 : decode cL_law 656 = .ok (.iload_n 3, 1) := by decide +kernel
theorem dL_law_657 : decode cL_law 657 = .ok (.iconst 1, 1) := by decide +kernel
theorem dL_law_658 : decode cL_law 658 = .ok (.iadd, 1) := by decide +kernel
theorem dL_law_659 : decode cL_law 659 = .ok (.iaload, 1) := by decide +kernel
theorem dL_law_660 : decode cL_law 660 = .ok (.aload_n 0, 1) := by decide +kernel
theorem dL_law_661 : decode cL_law 661 = .ok (.iload_n 3, 1) := by decide +kernel
theorem dL_law_662 : decode cL_law 662 = .ok (.iconst 2, 1) := by decide +kernel
theorem dL_law_663 : decode cL_law 663 = .ok (.iadd, 1) := by decide +kernel
theorem dL_law_664 : decode cL_law 664 = .ok (.iaload, 1) := by decide +kernel
theorem dL_law_665 : decode cL_law 665 = .ok (.aload_n 0, 1) := by decide +kernel
theorem dL_law_666 : decode cL_law 666 = .ok (.iload_n 3, 1) := by decide +kernel
theorem dL_law_667 : decode cL_law 667 = .ok (.iconst 3, 1) := by decide +kernel
theorem dL_law_668 : decode cL_law 668 = .ok (.iadd, 1) := by decide +kernel
theorem dL_law_669 : decode cL_law 669 = .ok (.iaload, 1) := by decide +kernel
theorem dL_law_670 : decode cL_law 670 = .ok (.aload_n 0, 1) := by decide +kernel
theorem dL_law_671 : decode cL_law 671 = .ok (.iload_n 3, 1) := by decide +kernel
theorem dL_law_672 : decode cL_law 672 = .ok (.iconst 4, 1) := by decide +kernel
theorem dL_law_673 : decode cL_law 673 = .ok (.iadd, 1) := by decide +kernel
theorem dL_law_674 : decode cL_law 674 = .ok (.iaload, 1) := by decide +kernel
theorem dL_law_675 : decode cL_law 675 = .ok (.invokevirtual 96, 3) := by decide +kernel
theorem dL_law_678 : decode cL_law 678 = .ok (.if_icmp .eq 121, 3) := by decide +kernel
theorem dL_law_681 : decode cL_law 681 = .ok (.iconst 0, 1) := by decide +kernel
theorem dL_law_682 : decode cL_law 682 = .ok (.ireturn, 1) := by decide +kernel
theorem dL_law_683 : decode cL_law 683 = .ok (.aload_n 1, 1) := by decide +kernel
theorem dL_law_684 : decode cL_law 684 = .ok (.aload_n 0, 1) := by decide +kernel
theorem dL_law_685 : decode cL_law 685 = .ok (.iload_n 3, 1) := by decide +kernel
theorem dL_law_686 : decode cL_law 686 = .ok (.iconst 1, 1) := by decide +kernel
theorem dL_law_687 : decode cL_law 687 = .ok (.iadd, 1) := by decide +kernel
theorem dL_law_688 : decode cL_law 688 = .ok (.iaload, 1) := by decide +kernel
theorem dL_law_689 : decode cL_law 689 = .ok (.aload_n 0, 1) := by decide +kernel
theorem dL_law_690 : decode cL_law 690 = .ok (.iload_n 3, 1) := by decide +kernel
theorem dL_law_691 : decode cL_law 691 = .ok (.iconst 2, 1) := by decide +kernel
theorem dL_law_692 : decode cL_law 692 = .ok (.iadd, 1) := by decide +kernel
theorem dL_law_693 : decode cL_law 693 = .ok (.iaload, 1) := by decide +kernel
theorem dL_law_694 : decode cL_law 694 = .ok (.aload_n 0, 1) := by decide +kernel
theorem dL_law_695 : decode cL_law 695 = .ok (.iload_n 3, 1) := by decide +kernel
theorem dL_law_696 : decode cL_law 696 = .ok (.iconst 3, 1) := by decide +kernel
theorem dL_law_697 : decode cL_law 697 = .ok (.iadd, 1) := by decide +kernel
theorem dL_law_698 : decode cL_law 698 = .ok (.iaload, 1) := by decide +kernel
theorem dL_law_699 : decode cL_law 699 = .ok (.aload_n 0, 1) := by decide +kernel
theorem dL_law_700 : decode cL_law 700 = .ok (.iload_n 3, 1) := by decide +kernel
theorem dL_law_701 : decode cL_law 701 = .ok (.iconst 4, 1) := by decide +kernel
theorem dL_law_702 : decode cL_law 702 = .ok (.iadd, 1) := by decide +kernel
theorem dL_law_703 : decode cL_law 703 = .ok (.iaload, 1) := by decide +kernel
theorem dL_law_704 : decode cL_law 704 = .ok (.ifCond .eq 7, 3) := by decide +kernel
theorem dL_law_707 : decode cL_law 707 = .ok (.iconst 1, 1) := by decide +kernel
theorem dL_law_708 : decode cL_law 708 = .ok (.goto 4, 3) := by decide +kernel
theorem dL_law_711 : decode cL_law 711 = .ok (.iconst 0, 1) := by decide +kernel
theorem dL_law_712 : decode cL_law 712 = .ok (.invokevirtual 97, 3) := by decide +kernel
theorem dL_law_715 : decode cL_law 715 = .ok (.aload_n 2, 1) := by decide +kernel
theorem dL_law_716 : decode cL_law 716 = .ok (.aload_n 0, 1) := by decide +kernel
theorem dL_law_717 : decode cL_law 717 = .ok (.iload_n 3, 1) := by decide +kernel
theorem dL_law_718 : decode cL_law 718 = .ok (.iconst 1, 1) := by decide +kernel
theorem dL_law_719 : decode cL_law 719 = .ok (.iadd, 1) := by decide +kernel
theorem dL_law_720 : decode cL_law 720 = .ok (.iaload, 1) := by decide +kernel
theorem dL_law_721 : decode cL_law 721 = .ok (.aload_n 0, 1) := by decide +kernel
theorem dL_law_722 : decode cL_law 722 = .ok (.iload_n 3, 1) := by decide +kernel
theorem dL_law_723 : decode cL_law 723 = .ok (.iconst 2, 1) := by decide +kernel
theorem dL_law_724 : decode cL_law 724 = .ok (.iadd, 1) := by decide +kernel
theorem dL_law_725 : decode cL_law 725 = .ok (.iaload, 1) := by decide +kernel
theorem dL_law_726 : decode cL_law 726 = .ok (.aload_n 0, 1) := by decide +kernel
theorem dL_law_727 : decode cL_law 727 = .ok (.iload_n 3, 1) := by decide +kernel
theorem dL_law_728 : decode cL_law 728 = .ok (.iconst 3, 1) := by decide +kernel
theorem dL_law_729 : decode cL_law 729 = .ok (.iadd, 1) := by decide +kernel
theorem dL_law_730 : decode cL_law 730 = .ok (.iaload, 1) := by decide +kernel
theorem dL_law_731 : decode cL_law 731 = .ok (.aload_n 0, 1) := by decide +kernel
theorem dL_law_732 : decode cL_law 732 = .ok (.iload_n 3, 1) := by decide +kernel
theorem dL_law_733 : decode cL_law 733 = .ok (.iconst 4, 1) := by decide +kernel
theorem dL_law_734 : decode cL_law 734 = .ok (.iadd, 1) := by decide +kernel
theorem dL_law_735 : decode cL_law 735 = .ok (.iaload, 1) := by decide +kernel
theorem dL_law_736 : decode cL_law 736 = .ok (.ifCond .eq 7, 3) := by decide +kernel
theorem dL_law_739 : decode cL_law 739 = .ok (.iconst 1, 1) := by decide +kernel
theorem dL_law_740 : decode cL_law 740 = .ok (.goto 4, 3) := by decide +kernel
theorem dL_law_743 : decode cL_law 743 = .ok (.iconst 0, 1) := by decide +kernel
theorem dL_law_744 : decode cL_law 744 = .ok (.invokevirtual 101, 3) := by decide +kernel
theorem dL_law_747 : decode cL_law 747 = .ok (.lcmp, 1) := by decide +kernel
theorem dL_law_748 : decode cL_law 748 = .ok (.ifCond .eq 51, 3) := by decide +kernel
theorem dL_law_751 : decode cL_law 751 = .ok (.iconst 0, 1) := by decide +kernel
theorem dL_law_752 : decode cL_law 752 = .ok (.ireturn, 1) := by decide +kernel
theorem dL_law_753 : decode cL_law 753 = .ok (.aload_n 1, 1) := by decide +kernel
theorem dL_law_754 : decode cL_law 754 = .ok (.aload_n 0, 1) := by decide +kernel
theorem dL_law_755 : decode cL_law 755 = .ok (.iload_n 3, 1) := by decide +kernel
theorem dL_law_756 : decode cL_law 756 = .ok (.iconst 1, 1) := by decide +kernel
theorem dL_law_757 : decode cL_law 757 = .ok (.iadd, 1) := by decide +kernel
theorem dL_law_758 : decode cL_law 758 = .ok (.iaload, 1) := by decide +kernel
theorem dL_law_759 : decode cL_law 759 = .ok (.invokevirtual 102, 3) := by decide +kernel
theorem dL_law_762 : decode cL_law 762 = .ok (.aload_n 2, 1) := by decide +kernel
theorem dL_law_763 : decode cL_law 763 = .ok (.aload_n 0, 1) := by decide +kernel
theorem dL_law_764 : decode cL_law 764 = .ok (.iload_n 3, 1) := by decide +kernel
theorem dL_law_765 : decode cL_law 765 = .ok (.iconst 1, 1) := by decide +kernel
theorem dL_law_766 : decode cL_law 766 = .ok (.iadd, 1) := by decide +kernel
theorem dL_law_767 : decode cL_law 767 = .ok (.iaload, 1) := by decide +kernel
theorem dL_law_768 : decode cL_law 768 = .ok (.invokevirtual 105, 3) := by decide +kernel
theorem dL_law_771 : decode cL_law 771 = .ok (.if_icmp .eq 28, 3) := by decide +kernel
theorem dL_law_774 : decode cL_law 774 = .ok (.iconst 0, 1) := by decide +kernel
theorem dL_law_775 : decode cL_law 775 = .ok (.ireturn, 1) := by decide +kernel
theorem dL_law_776 : decode cL_law 776 = .ok (.aload_n 1, 1) := by decide +kernel
theorem dL_law_777 : decode cL_law 777 = .ok (.aload_n 0, 1) := by decide +kernel
theorem dL_law_778 : decode cL_law 778 = .ok (.iload_n 3, 1) := by decide +kernel
theorem dL_law_779 : decode cL_law 779 = .ok (.iconst 1, 1) := by decide +kernel
theorem dL_law_780 : decode cL_law 780 = .ok (.iadd, 1) := by decide +kernel
theorem dL_law_781 : decode cL_law 781 = .ok (.iaload, 1) := by decide +kernel
theorem dL_law_782 : decode cL_law 782 = .ok (.invokevirtual 106, 3) := by decide +kernel
theorem dL_law_785 : decode cL_law 785 = .ok (.aload_n 2, 1) := by decide +kernel
theorem dL_law_786 : decode cL_law 786 = .ok (.aload_n 0, 1) := by decide +kernel
theorem dL_law_787 : decode cL_law 787 = .ok (.iload_n 3, 1) := by decide +kernel
theorem dL_law_788 : decode cL_law 788 = .ok (.iconst 1, 1) := by decide +kernel
theorem dL_law_789 : decode cL_law 789 = .ok (.iadd, 1) := by decide +kernel
theorem dL_law_790 : decode cL_law 790 = .ok (.iaload, 1) := by decide +kernel
theorem dL_law_791 : decode cL_law 791 = .ok (.invokevirtual 109, 3) := by decide +kernel
theorem dL_law_794 : decode cL_law 794 = .ok (.if_icmp .eq 5, 3) := by decide +kernel
theorem dL_law_797 : decode cL_law 797 = .ok (.iconst 0, 1) := by decide +kernel
theorem dL_law_798 : decode cL_law 798 = .ok (.ireturn, 1) := by decide +kernel
theorem dL_law_799 : decode cL_law 799 = .ok (.iinc 3 5, 3) := by decide +kernel
theorem dL_law_802 : decode cL_law 802 = .ok (.goto (-784), 3) := by decide +kernel
theorem dL_law_805 : decode cL_law 805 = .ok (.iconst 1, 1) := by decide +kernel
theorem dL_law_806 : decode cL_law 806 = .ok (.ireturn, 1) := by decide +kernel
end
section
/-! The judgement of pure machines: cells by number, ints and references of a cell by place; a state is (how many cells, ints, references) -/
/-- the words that stay, whatever the arguments are -/
def zq_T : List Cond := lw_tbl.filter goodWord
theorem zq_mem {w : Cond} (h : w ∈ lw_tbl) (hg : goodWord w = true) : w ∈ zq_T := List.mem_filter.mpr ⟨h, hg⟩
theorem zq_good {w : Cond} (h : w ∈ zq_T) : goodWord w = true := (List.mem_filter.mp h).2
def zq_isN : Cond → Bool
  | .methodLinkNest .. => true
  | .arrayOver (.object _) => true
  | _ => false
/-- the words on nest mates and arrays of objects -/
def zq_NW : List Cond := lw_tbl.filter zq_isN
abbrev zq_M : Type := MethodName × ByteArray × Nat × Option FieldType
/-- names, the class ids of arrays, the first own address, the script: its address, its length, its ints -/
abbrev zq_G : Type := va_G × (Nat → ClassId) × Nat × Nat × Nat × (Nat → Int32)
abbrev zq_I : Type := Nat → Nat → Int32
abbrev zq_P : Type := Nat → Nat → Option Nat
def zq_cls (ci : Nat) : vw_C := vwCl.getD ci (RX0, TX0, 8)
def zq_ty : Nat → Nat → FieldType
  | 0 => tyX0
  | 1 => tyX1
  | 2 => tyX2
  | 3 => tyX3
  | 4 => tyX4
  | 5 => tyX5
  | 6 => tyX6
  | 7 => tyX7
  | _ => tyX8
def zq_isr (ci k : Nat) : Bool := match zq_ty ci k with
  | .object _ => true
  | .array _ => true
  | _ => false
/-- the kinds of the cells, in the order in which they are made: an object of a class, or an array: 0 int, 1 byte, 2 boolean, 3 Worlds; its length -/
def zq_wk : List (Nat ⊕ Nat × Nat) := [.inl 6, .inr (0, 8), .inr (0, 8), .inr (0, 8), .inr (0, 4)]
def zq_kl : List (Nat ⊕ Nat × Nat) :=
  [.inl 7, .inl 4, .inr (1, 80), .inl 2, .inl 5, .inl 3, .inr (0, 3), .inr (0, 3), .inl 5, .inl 1, .inr (3, 16)] ++ zq_wk ++ zq_wk ++ zq_wk ++ zq_wk ++ zq_wk ++ zq_wk ++ zq_wk ++ zq_wk ++ zq_wk ++ zq_wk ++ zq_wk ++ zq_wk ++ zq_wk ++ zq_wk ++ zq_wk ++ zq_wk ++ zq_wk ++
  [.inr (3, 2)] ++ zq_wk ++ zq_wk ++ [.inr (2, 2), .inr (0, 8), .inl 0, .inr (0, 8), .inr (0, 8), .inr (0, 8), .inr (0, 8), .inl 0, .inr (0, 8), .inr (0, 8), .inr (0, 8), .inr (0, 8),
   .inl 8, .inr (0, 80), .inr (0, 8), .inr (0, 8), .inr (0, 8), .inr (0, 8), .inr (0, 8), .inr (0, 8), .inr (0, 8), .inr (0, 4), .inr (0, 8), .inr (0, 8), .inr (0, 8), .inr (0, 8), .inr (0, 464), .inr (0, 58), .inr (2, 2), .inr (0, 8), .inr (0, 8)]
def zq_kd (c : Nat) : Option (Nat ⊕ Nat × Nat) := zq_kl[c]?
def zq_sc : Nat := 100000
def zq_ad (G : zq_G) (c : Nat) : Nat := if c < zq_sc then G.2.2.1 + c else G.2.2.2.1
def zq_tv (G : zq_G) : Value → Value
  | .ref c => .ref (zq_ad G c)
  | v => v
def zq_fs (G : zq_G) (I : zq_I) (P : zq_P) (c ci : Nat) : List Value := (List.range (zq_cls ci).2.2).map (fun k => if zq_isr ci k = true then va_rf ((P c k).map (zq_ad G)) else .int (I c k))
def zq_ent (G : zq_G) (I : zq_I) (P : zq_P) (c : Nat) : va_E := match zq_kd c with
  | some (.inl ci) => .inr (ci, zq_fs G I P c ci)
  | some (.inr (t, n)) => .inl (G.2.1 t, n, if t = 3 then .inr (.inr (.inr (.inr (fun j => (P c j).map (zq_ad G))))) else .inl (I c))
  | none => .inl (0, 0, .inl (I c))
def zq_ws (G : zq_G) (n : Nat) (I : zq_I) (P : zq_P) : va_W := (List.range n).map (fun c => (zq_ad G c, zq_ent G I P c))
def zq_tt (t : Nat) : FieldType := if t = 0 then .int else if t = 1 then .byte else if t = 2 then .boolean else .object RX6
def zq_tys (G : zq_G) : List (ClassId × FieldType) := [(G.2.1 0, .int), (G.2.1 1, .byte), (G.2.1 2, .boolean), (G.2.1 3, .object RX6)]
/-- what the tables say at a method's start -/
def zq_U (G : zq_G) (U : State) : Prop := va_K G.1 vwCl (zq_tys G) U ∧ ∀ w ∈ zq_NW, w.before #[] U = true
/-- the heap holds the state -/
def zq_H (G : zq_G) (n : Nat) (I : zq_I) (P : zq_P) (H : Heap) : Prop := H.size = G.2.2.1 + n ∧ n ≤ 1000 ∧ va_P G.1 vwCl (zq_ws G n I P) H
abbrev zq_A (G : zq_G) : Nat → Prop := fun q => G.2.2.1 ≤ q
def zq_as (G : zq_G) : Nat → List (Option Value) → List (Nat × Value)
  | _, [] => []
  | k, none :: t => zq_as G (k + 1) t
  | k, some v :: t => (k, zq_tv G v) :: zq_as G (k + 1) t
def zq_X (G : zq_G) (M : zq_M) (d : Nat) (sc : Bool) (p : Program) (Rm : Room) (s : State) (m : MethodId) (args : Array Value) (meth : Method) (c : Code) : Prop :=
  p.tables.exec = Jvm.exec ∧ c.code = M.2.1 ∧ c.maxLocals = M.2.2.1 ∧ s.vm.findClass M.1.cls = some m.cls ∧ (∀ w ∈ zq_T, w.before args s = true) ∧ zq_U G s ∧ G.2.2.1 ≤ s.heap.size ∧ d ≤ Rm.frames ∧ 60 * d ≤ Rm.locals ∧
  (sc = true → va_X G.2.2.2.1 G.2.2.2.2.1 G.2.2.2.2.2 s s.heap ∧ G.2.2.2.1 < s.heap.size ∧ G.2.2.2.1 < G.2.2.1) ∧ meth.name = M.1.name
def zq_rt (M : zq_M) (pc : Nat) : Option Value → Prop
  | none => decode M.2.1 pc = .ok (.return_, 1) ∧ M.2.2.2 = none
  | some (.int x) => decode M.2.1 pc = .ok (.ireturn, 1) ∧ ∃ ty, M.2.2.2 = some ty ∧ narrow ty (.int x) = .int x
  | some (.long _) => decode M.2.1 pc = .ok (.lreturn, 1) ∧ M.2.2.2 = some .long
  | some _ => False
abbrev zq_R : Type := Option Value → Nat → zq_I → zq_P → Prop
/-- the method M, from pc on, with these locals, this stack, in this state, with room for d frames, comes to its end: R of its answer and the state then; kc new cells, ks new slots at most -/
def zq_E (G : zq_G) (M : zq_M) (d kc ks : Nat) (sc : Bool) (pc : Nat) (L : List (Option Value)) (st : List Value) (n : Nat) (I : zq_I) (P : zq_P) (R : zq_R) : Prop :=
  ∀ (p : Program) (l : Launch) (e : Env) (Rm : Room) (s : State) (m : MethodId) (args : Array Value) (below : List Frame) (meth : Method) (c : Code) (Q : State → Prop) (H : Heap) (locs : List Loc) (cells slots cE sE : Nat) (ls : Array Slot),
    zq_X G M d sc p Rm s m args meth c →
    (∀ (v : Option Value) (n' : Nat) (I' : zq_I) (P' : zq_P) (H' : Heap) (locs' : List Loc) (ls' : Array Slot) (pc' : Nat), R v n' I' P' → zq_H G n' I' P' H' → va_S (zq_A G) s.heap H' locs' → zq_rt M pc' v → W p l e Rm s m args below meth c H' locs' cE sE Q (F0 m pc' ls' v.toList)) →
    cells + kc ≤ cE → slots + ks ≤ sE → cE ≤ Rm.cells → sE ≤ Rm.slots →
    zq_H G n I P H → va_S (zq_A G) s.heap H locs → lv_has ls M.2.2.1 (zq_as G 0 L) →
    W p l e Rm s m args below meth c H locs cells slots Q (F0 m pc ls (st.map (zq_tv G)))
/-! locals -/
theorem zq_cat (G : zq_G) (v : Value) : (zq_tv G v).category = v.category := by cases v <;> rfl
theorem zq_as_mem (G : zq_G) : ∀ (L : List (Option Value)) (k : Nat) (q : Nat × Value), q ∈ zq_as G k L ↔ ∃ i v, L[i]? = some (some v) ∧ q = (k + i, zq_tv G v) := by
  intro L
  induction L with
  | nil => intro k q; simp [zq_as]
  | cons a t ih =>
    intro k q
    constructor
    · intro h
      cases a with
      | none =>
        obtain ⟨i, v, h1, h2⟩ := (ih (k + 1) q).mp h
        exact ⟨i + 1, v, by simpa using h1, by rw [h2]; congr 1; omega⟩
      | some w =>
        rcases List.mem_cons.mp h with h | h
        · exact ⟨0, w, by simp, h⟩
        · obtain ⟨i, v, h1, h2⟩ := (ih (k + 1) q).mp h
          exact ⟨i + 1, v, by simpa using h1, by rw [h2]; congr 1; omega⟩
    · rintro ⟨i, v, h1, h2⟩
      cases i with
      | zero =>
        have h3 : a = some v := by simpa using h1
        subst h3
        exact List.mem_cons.mpr (Or.inl h2)
      | succ i =>
        have h3 : q ∈ zq_as G (k + 1) t := (ih (k + 1) q).mpr ⟨i, v, by simpa using h1, by rw [h2]; congr 1; omega⟩
        cases a with
        | none => exact h3
        | some w => exact List.mem_cons_of_mem _ h3
theorem zq_get {G : zq_G} {ls : Array Slot} {nL : Nat} {L : List (Option Value)} (h : lv_has ls nL (zq_as G 0 L)) {i : Nat} {v : Value} (hi : L[i]? = some (some v)) : ls[i]? = some (.val (zq_tv G v)) :=
  h.2.2 (i, zq_tv G v) ((zq_as_mem G L 0 _).mpr ⟨i, v, hi, by simp⟩)
theorem zq_less {G : zq_G} {ls : Array Slot} {nL : Nat} {L : List (Option Value)} {l : List (Nat × Value)} (h : lv_has ls nL l) (hs : ∀ q ∈ zq_as G 0 L, q ∈ l) : lv_has ls nL (zq_as G 0 L) := ⟨h.1, h.2.1, fun q hq => h.2.2 q (hs q hq)⟩
def zq_clr (L : List (Option Value)) : Nat → List (Option Value)
  | 0 => L
  | j + 1 => match L[j]? with
    | some (some w) => if w.category = 2 then L.set j none else L
    | _ => L
def zq_s1 (L : List (Option Value)) (i : Nat) (v : Value) : List (Option Value) := (zq_clr L i).set i (some v)
def zq_s2 (L : List (Option Value)) (i : Nat) (v : Value) : List (Option Value) := ((zq_clr L i).set i (some v)).set (i + 1) none
theorem zq_clr_at {L : List (Option Value)} {i j : Nat} {w : Value} (h : (zq_clr L i)[j]? = some (some w)) : L[j]? = some (some w) ∧ ¬ (j + 1 = i ∧ w.category = 2) := by
  cases i with
  | zero => exact ⟨h, by omega⟩
  | succ k =>
    have h' : (match L[k]? with
      | some (some w) => if w.category = 2 then L.set k none else L
      | _ => L)[j]? = some (some w) := h
    clear h
    by_cases hjk : j = k
    · subst hjk
      split at h'
      · rename_i w' hw
        split at h'
        · rw [List.getElem?_set] at h'
          simp only [if_true] at h'
          split at h' <;> cases h'
        · rename_i hc
          rw [hw] at h'
          cases h'
          exact ⟨hw, fun q => hc q.2⟩
      · rename_i hn
        exact absurd h' (hn w)
    · split at h'
      · split at h'
        · rw [List.getElem?_set_ne (by omega)] at h'
          exact ⟨h', by omega⟩
        · exact ⟨h', by omega⟩
      · exact ⟨h', by omega⟩
theorem zq_st1 {G : zq_G} {L : List (Option Value)} {i : Nat} {v : Value} : ∀ q ∈ zq_as G 0 (zq_s1 L i v), q ∈ (i, zq_tv G v) :: (zq_as G 0 L).filter (fun q => !(q.1 == i) && !(q.1 + 1 == i && q.2.category == 2)) := by
  intro q hq
  obtain ⟨j, w, h1, h2⟩ := (zq_as_mem G _ 0 q).mp hq
  rw [Nat.zero_add] at h2
  subst h2
  unfold zq_s1 at h1
  by_cases hj : j = i
  · subst hj
    rw [List.getElem?_set] at h1
    simp only [if_true] at h1
    split at h1
    · cases h1; exact List.mem_cons_self
    · cases h1
  · rw [List.getElem?_set_ne (by omega)] at h1
    obtain ⟨h3, h4⟩ := zq_clr_at h1
    refine List.mem_cons_of_mem _ (List.mem_filter.mpr ⟨(zq_as_mem G L 0 _).mpr ⟨j, w, h3, by simp⟩, ?_⟩)
    simp only [zq_cat]
    by_cases h5 : j + 1 = i
    · have h6 : ¬ w.category = 2 := fun q => h4 ⟨h5, q⟩
      simp [hj, h6]
    · simp [hj, h5]
theorem zq_st2 {G : zq_G} {L : List (Option Value)} {i : Nat} {v : Value} : ∀ q ∈ zq_as G 0 (zq_s2 L i v), q ∈ (i, zq_tv G v) :: (zq_as G 0 L).filter (fun q => !(q.1 == i) && (!(q.1 == i + 1) && !(q.1 + 1 == i && q.2.category == 2))) := by
  intro q hq
  obtain ⟨j, w, h1, h2⟩ := (zq_as_mem G _ 0 q).mp hq
  rw [Nat.zero_add] at h2
  subst h2
  unfold zq_s2 at h1
  by_cases hk : j = i + 1
  · subst hk
    rw [List.getElem?_set] at h1
    simp only [if_true] at h1
    split at h1 <;> cases h1
  · rw [List.getElem?_set_ne (by omega)] at h1
    by_cases hj : j = i
    · subst hj
      rw [List.getElem?_set] at h1
      simp only [if_true] at h1
      split at h1
      · cases h1; exact List.mem_cons_self
      · cases h1
    · rw [List.getElem?_set_ne (by omega)] at h1
      obtain ⟨h3, h4⟩ := zq_clr_at h1
      refine List.mem_cons_of_mem _ (List.mem_filter.mpr ⟨(zq_as_mem G L 0 _).mpr ⟨j, w, h3, by simp⟩, ?_⟩)
      simp only [zq_cat]
      by_cases h5 : j + 1 = i
      · have h6 : ¬ w.category = 2 := fun q => h4 ⟨h5, q⟩
        simp [hj, hk, h6]
      · simp [hj, hk, h5]
/-! the classes -/
theorem zq_in : ∀ ci, ci < 9 → ∀ w ∈ u_ws (zq_cls ci).1 (zq_cls ci).2.1 (zq_cls ci).2.2, w ∈ zq_T := by decide +kernel
theorem zq_nm : ∀ ci, ci < 9 → ∀ a, a < (zq_cls ci).2.2 → ∀ b, b < (zq_cls ci).2.2 → a ≠ b → ((zq_cls ci).2.1 a).2.1 ≠ ((zq_cls ci).2.1 b).2.1 := by decide +kernel
theorem zq_tyok : ∀ ci, ci < 9 → ∀ k, k < (zq_cls ci).2.2 → parseFieldDescriptor ((zq_cls ci).2.1 k).2.2.1 = some (zq_ty ci k) := by decide +kernel
theorem zq_clat {ci : Nat} (h : ci < 9) : vwCl[ci]? = some ((zq_cls ci).1, (zq_cls ci).2.1, (zq_cls ci).2.2) := by
  have h1 : ∀ ci, ci < 9 → vwCl[ci]? = some ((zq_cls ci).1, (zq_cls ci).2.1, (zq_cls ci).2.2) := by
    intro k hk
    rcases (by omega : k = 0 ∨ k = 1 ∨ k = 2 ∨ k = 3 ∨ k = 4 ∨ k = 5 ∨ k = 6 ∨ k = 7 ∨ k = 8) with rfl | rfl | rfl | rfl | rfl | rfl | rfl | rfl | rfl <;> rfl
  exact h1 ci h
/-! the world as a list of cells -/
theorem zq_ws_at {G : zq_G} {n : Nat} {I : zq_I} {P : zq_P} {c : Nat} (h : c < n) : (zq_ws G n I P)[c]? = some (zq_ad G c, zq_ent G I P c) := by
  simp [zq_ws, List.getElem?_map, List.getElem?_range h]
theorem zq_ws_inv {G : zq_G} {n : Nat} {I : zq_I} {P : zq_P} {c : Nat} {q : Nat × va_E} (h : (zq_ws G n I P)[c]? = some q) : c < n ∧ q = (zq_ad G c, zq_ent G I P c) := by
  have hl : c < (zq_ws G n I P).length := (List.getElem?_eq_some_iff.mp h).1
  have hn : c < n := by simpa [zq_ws] using hl
  rw [zq_ws_at hn] at h
  exact ⟨hn, (Option.some.inj h).symm⟩
theorem zq_adlt {G : zq_G} {c n : Nat} (h : c < n) (hn : n ≤ 1000) : zq_ad G c = G.2.2.1 + c := by
  unfold zq_ad
  rw [if_pos]
  have : zq_sc = 100000 := rfl
  omega
theorem zq_D (G : zq_G) {n : Nat} (I : zq_I) (P : zq_P) (hn : n ≤ 1000) : va_D (zq_A G) (zq_ws G n I P) := by
  refine ⟨fun i j p q hp hq h => ?_, fun k q hk => ?_⟩
  · obtain ⟨h1, rfl⟩ := zq_ws_inv hp
    obtain ⟨h2, rfl⟩ := zq_ws_inv hq
    simp only [zq_adlt h1 hn, zq_adlt h2 hn] at h
    omega
  · obtain ⟨h1, rfl⟩ := zq_ws_inv hk
    show G.2.2.1 ≤ zq_ad G k
    rw [zq_adlt h1 hn]
    omega
theorem zq_ws_set {G : zq_G} {n : Nat} {I I' : zq_I} {P P' : zq_P} {c : Nat} {e : va_E} (he : zq_ent G I' P' c = e) (ho : ∀ b, b ≠ c → zq_ent G I' P' b = zq_ent G I P b) : (zq_ws G n I P).set c (zq_ad G c, e) = zq_ws G n I' P' := by
  apply List.ext_getElem?
  intro k
  rw [List.getElem?_set]
  by_cases hk : k < n
  · by_cases hc : c = k
    · subst hc
      rw [zq_ws_at (I := I') (P := P') hk, he]
      have : c < (zq_ws G n I P).length := by simpa [zq_ws] using hk
      simp [this]
    · rw [if_neg hc, zq_ws_at hk, zq_ws_at hk, ho k (fun q => hc q.symm)]
  · have h1 : ∀ (I : zq_I) (P : zq_P), (zq_ws G n I P)[k]? = none := fun I P => by simp [zq_ws]; omega
    by_cases hc : c = k
    · subst hc
      have : ¬ c < (zq_ws G n I P).length := by simpa [zq_ws] using hk
      rw [if_pos rfl, if_neg this, h1 I' P']
    · rw [if_neg hc, h1, h1]
theorem zq_ws_push (G : zq_G) (n : Nat) (I : zq_I) (P : zq_P) : zq_ws G (n + 1) I P = zq_ws G n I P ++ [(zq_ad G n, zq_ent G I P n)] := by
  simp [zq_ws, List.range_succ]
def zu (I : zq_I) (c k : Nat) (v : Int32) : zq_I := fun c' k' => if c' = c ∧ k' = k then v else I c' k'
def zp (P : zq_P) (c k : Nat) (v : Option Nat) : zq_P := fun c' k' => if c' = c ∧ k' = k then v else P c' k'
theorem zq_ent_o {G : zq_G} {I : zq_I} {P : zq_P} {c ci : Nat} (h : zq_kd c = some (.inl ci)) : zq_ent G I P c = .inr (ci, zq_fs G I P c ci) := by
  unfold zq_ent; rw [h]
theorem zq_ent_i {G : zq_G} {I : zq_I} {P : zq_P} {c t n : Nat} (h : zq_kd c = some (.inr (t, n))) (ht : t ≠ 3) : zq_ent G I P c = .inl (G.2.1 t, n, .inl (I c)) := by
  unfold zq_ent; rw [h]; simp [ht]
theorem zq_ent_q {G : zq_G} {I : zq_I} {P : zq_P} {c n : Nat} (h : zq_kd c = some (.inr (3, n))) : zq_ent G I P c = .inl (G.2.1 3, n, .inr (.inr (.inr (.inr (fun j => (P c j).map (zq_ad G)))))) := by
  unfold zq_ent; rw [h]; simp
theorem zq_ent_other {G : zq_G} {I I' : zq_I} {P P' : zq_P} {b : Nat} (h1 : I' b = I b) (h2 : P' b = P b) : zq_ent G I' P' b = zq_ent G I P b := by
  unfold zq_ent zq_fs
  rw [h1, h2]
theorem zu_other {I : zq_I} {c k : Nat} {v : Int32} {b : Nat} (h : b ≠ c) : zu I c k v b = I b := by
  funext j; simp [zu, h]
theorem zp_other {P : zq_P} {c k : Nat} {v : Option Nat} {b : Nat} (h : b ≠ c) : zp P c k v b = P b := by
  funext j; simp [zp, h]
theorem zu_self {I : zq_I} {c k : Nat} {v : Int32} : zu I c k v c = upd (I c) k v := by
  funext j; simp [zu, upd]
theorem zq_fs_at {G : zq_G} {I : zq_I} {P : zq_P} {c ci k : Nat} (h : k < (zq_cls ci).2.2) : (zq_fs G I P c ci)[k]? = some (if zq_isr ci k = true then va_rf ((P c k).map (zq_ad G)) else .int (I c k)) := by
  simp [zq_fs, List.getElem?_map, List.getElem?_range h]
theorem zq_fs_len {G : zq_G} {I : zq_I} {P : zq_P} {c ci : Nat} : (zq_fs G I P c ci).length = (zq_cls ci).2.2 := by simp [zq_fs]
theorem zq_fs_set {G : zq_G} {I I' : zq_I} {P P' : zq_P} {c ci k : Nat} {v : Value} (hk : k < (zq_cls ci).2.2) (hv : (if zq_isr ci k = true then va_rf ((P' c k).map (zq_ad G)) else .int (I' c k)) = v)
    (ho : ∀ j, j ≠ k → I' c j = I c j ∧ P' c j = P c j) : (zq_fs G I P c ci).set k v = zq_fs G I' P' c ci := by
  apply List.ext_getElem?
  intro j
  rw [List.getElem?_set]
  by_cases hj : j < (zq_cls ci).2.2
  · by_cases hc : k = j
    · subst hc
      rw [zq_fs_at (I := I') (P := P') hj, hv]
      simp [zq_fs_len, hj]
    · rw [if_neg hc, zq_fs_at hj, zq_fs_at hj]
      obtain ⟨h1, h2⟩ := ho j (fun q => hc q.symm)
      rw [h1, h2]
  · have h1 : ∀ (I : zq_I) (P : zq_P), (zq_fs G I P c ci)[j]? = none := fun I P => by simp [zq_fs]; omega
    have h2 : ¬ k = j := by omega
    rw [if_neg h2, h1, h1]
end
section
section ROWS
variable {G : zq_G} {M : zq_M} {d kc ks : Nat} {sc : Bool} {pc q : Nat} {L : List (Option Value)} {st : List Value} {n : Nat} {I : zq_I} {P : zq_P} {R : zq_R}
theorem ev_iconst {z : Int} (v : Int32) (hd : decode M.2.1 pc = .ok (.iconst z, 1)) (hq : pc + 1 = q) (hv : Int32.ofInt z = v) (k : zq_E G M d kc ks sc q L (.int v :: st) n I P R) : zq_E G M d kc ks sc pc L st n I P R := by
  subst hq
  intro p l e Rm s m args below meth c Q H locs cells slots cE sE ls X hr h1 h2 h3 h4 hP hS hl
  exact lv_iconst X.1 X.2.1 hd hv (k p l e Rm s m args below meth c Q H locs cells slots cE sE ls X hr h1 h2 h3 h4 hP hS hl)
theorem ev_bipush {z : Int} (v : Int32) (hd : decode M.2.1 pc = .ok (.bipush z, 2)) (hq : pc + 2 = q) (hv : (Int8.ofInt z).toInt32 = v) (k : zq_E G M d kc ks sc q L (.int v :: st) n I P R) : zq_E G M d kc ks sc pc L st n I P R := by
  subst hq
  intro p l e Rm s m args below meth c Q H locs cells slots cE sE ls X hr h1 h2 h3 h4 hP hS hl
  exact lv_bipush X.1 X.2.1 hd hv (k p l e Rm s m args below meth c Q H locs cells slots cE sE ls X hr h1 h2 h3 h4 hP hS hl)
theorem ev_sipush {z : Int} (v : Int32) (hd : decode M.2.1 pc = .ok (.sipush z, 3)) (hq : pc + 3 = q) (hv : (Int16.ofInt z).toInt32 = v) (k : zq_E G M d kc ks sc q L (.int v :: st) n I P R) : zq_E G M d kc ks sc pc L st n I P R := by
  subst hq
  intro p l e Rm s m args below meth c Q H locs cells slots cE sE ls X hr h1 h2 h3 h4 hP hS hl
  exact lv_sipush X.1 X.2.1 hd hv (k p l e Rm s m args below meth c Q H locs cells slots cE sE ls X hr h1 h2 h3 h4 hP hS hl)
theorem ev_lconst {z : Fin 2} (v : Int64) (hd : decode M.2.1 pc = .ok (.lconst z, 1)) (hq : pc + 1 = q) (hv : Int64.ofNat (z : Nat) = v) (k : zq_E G M d kc ks sc q L (.long v :: st) n I P R) : zq_E G M d kc ks sc pc L st n I P R := by
  subst hq
  intro p l e Rm s m args below meth c Q H locs cells slots cE sE ls X hr h1 h2 h3 h4 hP hS hl
  exact lv_lconst X.1 X.2.1 hd hv (k p l e Rm s m args below meth c Q H locs cells slots cE sE ls X hr h1 h2 h3 h4 hP hS hl)
theorem ev_ldcw {z : Nat} {v : Int32} (hd : decode M.2.1 pc = .ok (.ldc_w z, 3)) (hq : pc + 3 = q) (hw : Cond.constant M.1.cls z v ∈ zq_T) (k : zq_E G M d kc ks sc q L (.int v :: st) n I P R) : zq_E G M d kc ks sc pc L st n I P R := by
  subst hq
  intro p l e Rm s m args below meth c Q H locs cells slots cE sE ls X hr h1 h2 h3 h4 hP hS hl
  exact lv_ldcw X.1 X.2.1 X.2.2.2.1 (X.2.2.2.2.1 _ hw) hd (k p l e Rm s m args below meth c Q H locs cells slots cE sE ls X hr h1 h2 h3 h4 hP hS hl)
theorem ev_ldc2 {z : Nat} {v : Int64} (hd : decode M.2.1 pc = .ok (.ldc2_w z, 3)) (hq : pc + 3 = q) (hw : Cond.constantLong M.1.cls z v ∈ zq_T) (k : zq_E G M d kc ks sc q L (.long v :: st) n I P R) : zq_E G M d kc ks sc pc L st n I P R := by
  subst hq
  intro p l e Rm s m args below meth c Q H locs cells slots cE sE ls X hr h1 h2 h3 h4 hP hS hl
  exact lv_ldc2 X.1 X.2.1 X.2.2.2.1 (X.2.2.2.2.1 _ hw) hd (k p l e Rm s m args below meth c Q H locs cells slots cE sE ls X hr h1 h2 h3 h4 hP hS hl)
theorem ev_iload_n {z : Fin 4} {x : Int32} (hd : decode M.2.1 pc = .ok (.iload_n z, 1)) (hq : pc + 1 = q) (hx : L[(z : Nat)]? = some (some (.int x))) (k : zq_E G M d kc ks sc q L (.int x :: st) n I P R) : zq_E G M d kc ks sc pc L st n I P R := by
  subst hq
  intro p l e Rm s m args below meth c Q H locs cells slots cE sE ls X hr h1 h2 h3 h4 hP hS hl
  exact lv_iload_n X.1 X.2.1 hd rfl (zq_get hl hx) (k p l e Rm s m args below meth c Q H locs cells slots cE sE ls X hr h1 h2 h3 h4 hP hS hl)
theorem ev_iload {z : Nat} {x : Int32} (hd : decode M.2.1 pc = .ok (.iload z, 2)) (hq : pc + 2 = q) (hx : L[z]? = some (some (.int x))) (k : zq_E G M d kc ks sc q L (.int x :: st) n I P R) : zq_E G M d kc ks sc pc L st n I P R := by
  subst hq
  intro p l e Rm s m args below meth c Q H locs cells slots cE sE ls X hr h1 h2 h3 h4 hP hS hl
  exact lv_iload X.1 X.2.1 hd (zq_get hl hx) (k p l e Rm s m args below meth c Q H locs cells slots cE sE ls X hr h1 h2 h3 h4 hP hS hl)
theorem ev_lload_n {z : Fin 4} {x : Int64} (hd : decode M.2.1 pc = .ok (.lload_n z, 1)) (hq : pc + 1 = q) (hx : L[(z : Nat)]? = some (some (.long x))) (k : zq_E G M d kc ks sc q L (.long x :: st) n I P R) : zq_E G M d kc ks sc pc L st n I P R := by
  subst hq
  intro p l e Rm s m args below meth c Q H locs cells slots cE sE ls X hr h1 h2 h3 h4 hP hS hl
  exact lv_lload_n X.1 X.2.1 hd rfl (zq_get hl hx) (k p l e Rm s m args below meth c Q H locs cells slots cE sE ls X hr h1 h2 h3 h4 hP hS hl)
theorem ev_lload {z : Nat} {x : Int64} (hd : decode M.2.1 pc = .ok (.lload z, 2)) (hq : pc + 2 = q) (hx : L[z]? = some (some (.long x))) (k : zq_E G M d kc ks sc q L (.long x :: st) n I P R) : zq_E G M d kc ks sc pc L st n I P R := by
  subst hq
  intro p l e Rm s m args below meth c Q H locs cells slots cE sE ls X hr h1 h2 h3 h4 hP hS hl
  exact lv_lload X.1 X.2.1 hd (zq_get hl hx) (k p l e Rm s m args below meth c Q H locs cells slots cE sE ls X hr h1 h2 h3 h4 hP hS hl)
theorem ev_aload_n {z : Fin 4} {x : Nat} (hd : decode M.2.1 pc = .ok (.aload_n z, 1)) (hq : pc + 1 = q) (hx : L[(z : Nat)]? = some (some (.ref x))) (k : zq_E G M d kc ks sc q L (.ref x :: st) n I P R) : zq_E G M d kc ks sc pc L st n I P R := by
  subst hq
  intro p l e Rm s m args below meth c Q H locs cells slots cE sE ls X hr h1 h2 h3 h4 hP hS hl
  exact lv_aload_n X.1 X.2.1 hd rfl (zq_get hl hx) (k p l e Rm s m args below meth c Q H locs cells slots cE sE ls X hr h1 h2 h3 h4 hP hS hl)
theorem ev_aload {z : Nat} {x : Nat} (hd : decode M.2.1 pc = .ok (.aload z, 2)) (hq : pc + 2 = q) (hx : L[z]? = some (some (.ref x))) (k : zq_E G M d kc ks sc q L (.ref x :: st) n I P R) : zq_E G M d kc ks sc pc L st n I P R := by
  subst hq
  intro p l e Rm s m args below meth c Q H locs cells slots cE sE ls X hr h1 h2 h3 h4 hP hS hl
  exact lv_aload X.1 X.2.1 hd (zq_get hl hx) (k p l e Rm s m args below meth c Q H locs cells slots cE sE ls X hr h1 h2 h3 h4 hP hS hl)
theorem ev_istore_n {z : Fin 4} {x : Int32} (hd : decode M.2.1 pc = .ok (.istore_n z, 1)) (hq : pc + 1 = q) (hn : (z : Nat) < M.2.2.1) (k : zq_E G M d kc ks sc q (zq_s1 L (z : Nat) (.int x)) st n I P R) : zq_E G M d kc ks sc pc L (.int x :: st) n I P R := by
  subst hq
  intro p l e Rm s m args below meth c Q H locs cells slots cE sE ls X hr h1 h2 h3 h4 hP hS hl
  exact lv_istore_n X.1 X.2.1 hd rfl hl hn rfl (fun ls9 hl9 => k p l e Rm s m args below meth c Q H locs cells slots cE sE ls9 X hr h1 h2 h3 h4 hP hS (zq_less hl9 zq_st1))
theorem ev_istore {z : Nat} {x : Int32} (hd : decode M.2.1 pc = .ok (.istore z, 2)) (hq : pc + 2 = q) (hn : z < M.2.2.1) (k : zq_E G M d kc ks sc q (zq_s1 L z (.int x)) st n I P R) : zq_E G M d kc ks sc pc L (.int x :: st) n I P R := by
  subst hq
  intro p l e Rm s m args below meth c Q H locs cells slots cE sE ls X hr h1 h2 h3 h4 hP hS hl
  exact lv_istore X.1 X.2.1 hd hl hn rfl (fun ls9 hl9 => k p l e Rm s m args below meth c Q H locs cells slots cE sE ls9 X hr h1 h2 h3 h4 hP hS (zq_less hl9 zq_st1))
theorem ev_astore_n {z : Fin 4} {x : Nat} (hd : decode M.2.1 pc = .ok (.astore_n z, 1)) (hq : pc + 1 = q) (hn : (z : Nat) < M.2.2.1) (k : zq_E G M d kc ks sc q (zq_s1 L (z : Nat) (.ref x)) st n I P R) : zq_E G M d kc ks sc pc L (.ref x :: st) n I P R := by
  subst hq
  intro p l e Rm s m args below meth c Q H locs cells slots cE sE ls X hr h1 h2 h3 h4 hP hS hl
  exact lv_astore_n X.1 X.2.1 hd rfl hl hn rfl (fun ls9 hl9 => k p l e Rm s m args below meth c Q H locs cells slots cE sE ls9 X hr h1 h2 h3 h4 hP hS (zq_less hl9 zq_st1))
theorem ev_astore {z : Nat} {x : Nat} (hd : decode M.2.1 pc = .ok (.astore z, 2)) (hq : pc + 2 = q) (hn : z < M.2.2.1) (k : zq_E G M d kc ks sc q (zq_s1 L z (.ref x)) st n I P R) : zq_E G M d kc ks sc pc L (.ref x :: st) n I P R := by
  subst hq
  intro p l e Rm s m args below meth c Q H locs cells slots cE sE ls X hr h1 h2 h3 h4 hP hS hl
  exact lv_astore X.1 X.2.1 hd hl hn rfl (fun ls9 hl9 => k p l e Rm s m args below meth c Q H locs cells slots cE sE ls9 X hr h1 h2 h3 h4 hP hS (zq_less hl9 zq_st1))
theorem ev_lstore_n {z : Fin 4} {x : Int64} (hd : decode M.2.1 pc = .ok (.lstore_n z, 1)) (hq : pc + 1 = q) (hn : (z : Nat) + 1 < M.2.2.1) (k : zq_E G M d kc ks sc q (zq_s2 L (z : Nat) (.long x)) st n I P R) : zq_E G M d kc ks sc pc L (.long x :: st) n I P R := by
  subst hq
  intro p l e Rm s m args below meth c Q H locs cells slots cE sE ls X hr h1 h2 h3 h4 hP hS hl
  exact lv_lstore_n X.1 X.2.1 hd rfl hl hn rfl (fun ls9 hl9 => k p l e Rm s m args below meth c Q H locs cells slots cE sE ls9 X hr h1 h2 h3 h4 hP hS (zq_less hl9 zq_st2))
theorem ev_lstore {z : Nat} {x : Int64} (hd : decode M.2.1 pc = .ok (.lstore z, 2)) (hq : pc + 2 = q) (hn : z + 1 < M.2.2.1) (k : zq_E G M d kc ks sc q (zq_s2 L z (.long x)) st n I P R) : zq_E G M d kc ks sc pc L (.long x :: st) n I P R := by
  subst hq
  intro p l e Rm s m args below meth c Q H locs cells slots cE sE ls X hr h1 h2 h3 h4 hP hS hl
  exact lv_lstore X.1 X.2.1 hd hl hn rfl (fun ls9 hl9 => k p l e Rm s m args below meth c Q H locs cells slots cE sE ls9 X hr h1 h2 h3 h4 hP hS (zq_less hl9 zq_st2))
theorem ev_iinc {z : Nat} {y : Int} {x : Int32} (v : Int32) (hd : decode M.2.1 pc = .ok (.iinc z y, 3)) (hq : pc + 3 = q) (hx : L[z]? = some (some (.int x))) (hv : Int32.ofInt y = v) (hn : z < M.2.2.1) (k : zq_E G M d kc ks sc q (zq_s1 L z (.int (x + v))) st n I P R) : zq_E G M d kc ks sc pc L st n I P R := by
  subst hq
  intro p l e Rm s m args below meth c Q H locs cells slots cE sE ls X hr h1 h2 h3 h4 hP hS hl
  obtain ⟨j, hj⟩ := List.getElem?_of_mem ((zq_as_mem G L 0 (z, .int x)).mpr ⟨z, .int x, hx, by rw [Nat.zero_add]; rfl⟩)
  exact lv_iinc (v := x + v) X.1 X.2.1 hd hl hj (by rw [hv]) hn rfl (fun ls9 hl9 => k p l e Rm s m args below meth c Q H locs cells slots cE sE ls9 X hr h1 h2 h3 h4 hP hS (zq_less hl9 zq_st1))
theorem ev_iadd {x y : Int32} (hd : decode M.2.1 pc = .ok (.iadd, 1)) (hq : pc + 1 = q) (k : zq_E G M d kc ks sc q L (.int (x + y) :: st) n I P R) : zq_E G M d kc ks sc pc L (.int y :: .int x :: st) n I P R := by
  subst hq
  intro p l e Rm s m args below meth c Q H locs cells slots cE sE ls X hr h1 h2 h3 h4 hP hS hl
  exact lv_iadd X.1 X.2.1 hd (k p l e Rm s m args below meth c Q H locs cells slots cE sE ls X hr h1 h2 h3 h4 hP hS hl)
theorem ev_isub {x y : Int32} (hd : decode M.2.1 pc = .ok (.isub, 1)) (hq : pc + 1 = q) (k : zq_E G M d kc ks sc q L (.int (x - y) :: st) n I P R) : zq_E G M d kc ks sc pc L (.int y :: .int x :: st) n I P R := by
  subst hq
  intro p l e Rm s m args below meth c Q H locs cells slots cE sE ls X hr h1 h2 h3 h4 hP hS hl
  exact lv_isub X.1 X.2.1 hd (k p l e Rm s m args below meth c Q H locs cells slots cE sE ls X hr h1 h2 h3 h4 hP hS hl)
theorem ev_imul {x y : Int32} (hd : decode M.2.1 pc = .ok (.imul, 1)) (hq : pc + 1 = q) (k : zq_E G M d kc ks sc q L (.int (x * y) :: st) n I P R) : zq_E G M d kc ks sc pc L (.int y :: .int x :: st) n I P R := by
  subst hq
  intro p l e Rm s m args below meth c Q H locs cells slots cE sE ls X hr h1 h2 h3 h4 hP hS hl
  exact lv_imul X.1 X.2.1 hd (k p l e Rm s m args below meth c Q H locs cells slots cE sE ls X hr h1 h2 h3 h4 hP hS hl)
theorem ev_iand {x y : Int32} (hd : decode M.2.1 pc = .ok (.iand, 1)) (hq : pc + 1 = q) (k : zq_E G M d kc ks sc q L (.int (x &&& y) :: st) n I P R) : zq_E G M d kc ks sc pc L (.int y :: .int x :: st) n I P R := by
  subst hq
  intro p l e Rm s m args below meth c Q H locs cells slots cE sE ls X hr h1 h2 h3 h4 hP hS hl
  exact lv_iand X.1 X.2.1 hd (k p l e Rm s m args below meth c Q H locs cells slots cE sE ls X hr h1 h2 h3 h4 hP hS hl)
theorem ev_ior {x y : Int32} (hd : decode M.2.1 pc = .ok (.ior, 1)) (hq : pc + 1 = q) (k : zq_E G M d kc ks sc q L (.int (x ||| y) :: st) n I P R) : zq_E G M d kc ks sc pc L (.int y :: .int x :: st) n I P R := by
  subst hq
  intro p l e Rm s m args below meth c Q H locs cells slots cE sE ls X hr h1 h2 h3 h4 hP hS hl
  exact lv_ior X.1 X.2.1 hd (k p l e Rm s m args below meth c Q H locs cells slots cE sE ls X hr h1 h2 h3 h4 hP hS hl)
theorem ev_ixor {x y : Int32} (hd : decode M.2.1 pc = .ok (.ixor, 1)) (hq : pc + 1 = q) (k : zq_E G M d kc ks sc q L (.int (x ^^^ y) :: st) n I P R) : zq_E G M d kc ks sc pc L (.int y :: .int x :: st) n I P R := by
  subst hq
  intro p l e Rm s m args below meth c Q H locs cells slots cE sE ls X hr h1 h2 h3 h4 hP hS hl
  exact lv_ixor X.1 X.2.1 hd (k p l e Rm s m args below meth c Q H locs cells slots cE sE ls X hr h1 h2 h3 h4 hP hS hl)
theorem ev_ishl {x y : Int32} (hd : decode M.2.1 pc = .ok (.ishl, 1)) (hq : pc + 1 = q) (k : zq_E G M d kc ks sc q L (.int (x <<< (y &&& 31)) :: st) n I P R) : zq_E G M d kc ks sc pc L (.int y :: .int x :: st) n I P R := by
  subst hq
  intro p l e Rm s m args below meth c Q H locs cells slots cE sE ls X hr h1 h2 h3 h4 hP hS hl
  exact lv_ishl X.1 X.2.1 hd (k p l e Rm s m args below meth c Q H locs cells slots cE sE ls X hr h1 h2 h3 h4 hP hS hl)
theorem ev_ishr {x y : Int32} (hd : decode M.2.1 pc = .ok (.ishr, 1)) (hq : pc + 1 = q) (k : zq_E G M d kc ks sc q L (.int (x >>> (y &&& 31)) :: st) n I P R) : zq_E G M d kc ks sc pc L (.int y :: .int x :: st) n I P R := by
  subst hq
  intro p l e Rm s m args below meth c Q H locs cells slots cE sE ls X hr h1 h2 h3 h4 hP hS hl
  exact lv_ishr X.1 X.2.1 hd (k p l e Rm s m args below meth c Q H locs cells slots cE sE ls X hr h1 h2 h3 h4 hP hS hl)
theorem ev_iushr {x y : Int32} (hd : decode M.2.1 pc = .ok (.iushr, 1)) (hq : pc + 1 = q) (k : zq_E G M d kc ks sc q L (.int ((x.toUInt32 >>> (y.toUInt32 &&& Int32.toUInt32 31)).toInt32) :: st) n I P R) : zq_E G M d kc ks sc pc L (.int y :: .int x :: st) n I P R := by
  subst hq
  intro p l e Rm s m args below meth c Q H locs cells slots cE sE ls X hr h1 h2 h3 h4 hP hS hl
  exact lv_iushr X.1 X.2.1 hd rfl (k p l e Rm s m args below meth c Q H locs cells slots cE sE ls X hr h1 h2 h3 h4 hP hS hl)
theorem ev_idiv {x y : Int32} (hd : decode M.2.1 pc = .ok (.idiv, 1)) (hq : pc + 1 = q) (hne : ¬ y = 0) (k : zq_E G M d kc ks sc q L (.int (x / y) :: st) n I P R) : zq_E G M d kc ks sc pc L (.int y :: .int x :: st) n I P R := by
  subst hq
  intro p l e Rm s m args below meth c Q H locs cells slots cE sE ls X hr h1 h2 h3 h4 hP hS hl
  exact lv_idiv X.1 X.2.1 hd hne (k p l e Rm s m args below meth c Q H locs cells slots cE sE ls X hr h1 h2 h3 h4 hP hS hl)
theorem ev_irem {x y : Int32} (hd : decode M.2.1 pc = .ok (.irem, 1)) (hq : pc + 1 = q) (hne : ¬ y = 0) (k : zq_E G M d kc ks sc q L (.int (x - x / y * y) :: st) n I P R) : zq_E G M d kc ks sc pc L (.int y :: .int x :: st) n I P R := by
  subst hq
  intro p l e Rm s m args below meth c Q H locs cells slots cE sE ls X hr h1 h2 h3 h4 hP hS hl
  exact lv_irem X.1 X.2.1 hd hne (k p l e Rm s m args below meth c Q H locs cells slots cE sE ls X hr h1 h2 h3 h4 hP hS hl)
theorem ev_ladd {x y : Int64} (hd : decode M.2.1 pc = .ok (.ladd, 1)) (hq : pc + 1 = q) (k : zq_E G M d kc ks sc q L (.long (x + y) :: st) n I P R) : zq_E G M d kc ks sc pc L (.long y :: .long x :: st) n I P R := by
  subst hq
  intro p l e Rm s m args below meth c Q H locs cells slots cE sE ls X hr h1 h2 h3 h4 hP hS hl
  exact lv_ladd X.1 X.2.1 hd (k p l e Rm s m args below meth c Q H locs cells slots cE sE ls X hr h1 h2 h3 h4 hP hS hl)
theorem ev_lsub {x y : Int64} (hd : decode M.2.1 pc = .ok (.lsub, 1)) (hq : pc + 1 = q) (k : zq_E G M d kc ks sc q L (.long (x - y) :: st) n I P R) : zq_E G M d kc ks sc pc L (.long y :: .long x :: st) n I P R := by
  subst hq
  intro p l e Rm s m args below meth c Q H locs cells slots cE sE ls X hr h1 h2 h3 h4 hP hS hl
  exact lv_lsub X.1 X.2.1 hd (k p l e Rm s m args below meth c Q H locs cells slots cE sE ls X hr h1 h2 h3 h4 hP hS hl)
theorem ev_lmul {x y : Int64} (hd : decode M.2.1 pc = .ok (.lmul, 1)) (hq : pc + 1 = q) (k : zq_E G M d kc ks sc q L (.long (x * y) :: st) n I P R) : zq_E G M d kc ks sc pc L (.long y :: .long x :: st) n I P R := by
  subst hq
  intro p l e Rm s m args below meth c Q H locs cells slots cE sE ls X hr h1 h2 h3 h4 hP hS hl
  exact lv_lmul X.1 X.2.1 hd (k p l e Rm s m args below meth c Q H locs cells slots cE sE ls X hr h1 h2 h3 h4 hP hS hl)
theorem ev_land {x y : Int64} (hd : decode M.2.1 pc = .ok (.land, 1)) (hq : pc + 1 = q) (k : zq_E G M d kc ks sc q L (.long (x &&& y) :: st) n I P R) : zq_E G M d kc ks sc pc L (.long y :: .long x :: st) n I P R := by
  subst hq
  intro p l e Rm s m args below meth c Q H locs cells slots cE sE ls X hr h1 h2 h3 h4 hP hS hl
  exact lv_land X.1 X.2.1 hd (k p l e Rm s m args below meth c Q H locs cells slots cE sE ls X hr h1 h2 h3 h4 hP hS hl)
theorem ev_lor {x y : Int64} (hd : decode M.2.1 pc = .ok (.lor, 1)) (hq : pc + 1 = q) (k : zq_E G M d kc ks sc q L (.long (x ||| y) :: st) n I P R) : zq_E G M d kc ks sc pc L (.long y :: .long x :: st) n I P R := by
  subst hq
  intro p l e Rm s m args below meth c Q H locs cells slots cE sE ls X hr h1 h2 h3 h4 hP hS hl
  exact lv_lor X.1 X.2.1 hd (k p l e Rm s m args below meth c Q H locs cells slots cE sE ls X hr h1 h2 h3 h4 hP hS hl)
theorem ev_ldiv {x y : Int64} (hd : decode M.2.1 pc = .ok (.ldiv, 1)) (hq : pc + 1 = q) (hne : ¬ y = 0) (k : zq_E G M d kc ks sc q L (.long (x / y) :: st) n I P R) : zq_E G M d kc ks sc pc L (.long y :: .long x :: st) n I P R := by
  subst hq
  intro p l e Rm s m args below meth c Q H locs cells slots cE sE ls X hr h1 h2 h3 h4 hP hS hl
  exact lv_ldiv X.1 X.2.1 hd hne (k p l e Rm s m args below meth c Q H locs cells slots cE sE ls X hr h1 h2 h3 h4 hP hS hl)
theorem ev_lrem {x y : Int64} (hd : decode M.2.1 pc = .ok (.lrem, 1)) (hq : pc + 1 = q) (hne : ¬ y = 0) (k : zq_E G M d kc ks sc q L (.long (x - x / y * y) :: st) n I P R) : zq_E G M d kc ks sc pc L (.long y :: .long x :: st) n I P R := by
  subst hq
  intro p l e Rm s m args below meth c Q H locs cells slots cE sE ls X hr h1 h2 h3 h4 hP hS hl
  exact lv_lrem X.1 X.2.1 hd hne (k p l e Rm s m args below meth c Q H locs cells slots cE sE ls X hr h1 h2 h3 h4 hP hS hl)
theorem ev_lshl {x : Int64} {y : Int32} (hd : decode M.2.1 pc = .ok (.lshl, 1)) (hq : pc + 1 = q) (k : zq_E G M d kc ks sc q L (.long (x <<< (y.toInt64 &&& 63)) :: st) n I P R) : zq_E G M d kc ks sc pc L (.int y :: .long x :: st) n I P R := by
  subst hq
  intro p l e Rm s m args below meth c Q H locs cells slots cE sE ls X hr h1 h2 h3 h4 hP hS hl
  exact lv_lshl X.1 X.2.1 hd rfl (k p l e Rm s m args below meth c Q H locs cells slots cE sE ls X hr h1 h2 h3 h4 hP hS hl)
theorem ev_lshr {x : Int64} {y : Int32} (hd : decode M.2.1 pc = .ok (.lshr, 1)) (hq : pc + 1 = q) (k : zq_E G M d kc ks sc q L (.long (x >>> (y.toInt64 &&& 63)) :: st) n I P R) : zq_E G M d kc ks sc pc L (.int y :: .long x :: st) n I P R := by
  subst hq
  intro p l e Rm s m args below meth c Q H locs cells slots cE sE ls X hr h1 h2 h3 h4 hP hS hl
  exact lv_lshr X.1 X.2.1 hd rfl (k p l e Rm s m args below meth c Q H locs cells slots cE sE ls X hr h1 h2 h3 h4 hP hS hl)
theorem ev_i2l {x : Int32} (hd : decode M.2.1 pc = .ok (.i2l, 1)) (hq : pc + 1 = q) (k : zq_E G M d kc ks sc q L (.long x.toInt64 :: st) n I P R) : zq_E G M d kc ks sc pc L (.int x :: st) n I P R := by
  subst hq
  intro p l e Rm s m args below meth c Q H locs cells slots cE sE ls X hr h1 h2 h3 h4 hP hS hl
  exact lv_i2l X.1 X.2.1 hd rfl (k p l e Rm s m args below meth c Q H locs cells slots cE sE ls X hr h1 h2 h3 h4 hP hS hl)
theorem ev_l2i {x : Int64} (hd : decode M.2.1 pc = .ok (.l2i, 1)) (hq : pc + 1 = q) (k : zq_E G M d kc ks sc q L (.int x.toInt32 :: st) n I P R) : zq_E G M d kc ks sc pc L (.long x :: st) n I P R := by
  subst hq
  intro p l e Rm s m args below meth c Q H locs cells slots cE sE ls X hr h1 h2 h3 h4 hP hS hl
  exact lv_l2i X.1 X.2.1 hd rfl (k p l e Rm s m args below meth c Q H locs cells slots cE sE ls X hr h1 h2 h3 h4 hP hS hl)
theorem ev_i2b {x : Int32} (hd : decode M.2.1 pc = .ok (.i2b, 1)) (hq : pc + 1 = q) (k : zq_E G M d kc ks sc q L (.int x.toInt8.toInt32 :: st) n I P R) : zq_E G M d kc ks sc pc L (.int x :: st) n I P R := by
  subst hq
  intro p l e Rm s m args below meth c Q H locs cells slots cE sE ls X hr h1 h2 h3 h4 hP hS hl
  exact lv_i2b X.1 X.2.1 hd rfl (k p l e Rm s m args below meth c Q H locs cells slots cE sE ls X hr h1 h2 h3 h4 hP hS hl)
theorem ev_lcmp {x y : Int64} (hd : decode M.2.1 pc = .ok (.lcmp, 1)) (hq : pc + 1 = q) (k : zq_E G M d kc ks sc q L (.int (lg_cmp x y) :: st) n I P R) : zq_E G M d kc ks sc pc L (.long y :: .long x :: st) n I P R := by
  subst hq
  intro p l e Rm s m args below meth c Q H locs cells slots cE sE ls X hr h1 h2 h3 h4 hP hS hl
  exact W.lcmp X.1 X.2.1 hd (k p l e Rm s m args below meth c Q H locs cells slots cE sE ls X hr h1 h2 h3 h4 hP hS hl)
theorem ev_dup {x : Value} (hd : decode M.2.1 pc = .ok (.dup, 1)) (hq : pc + 1 = q) (hx : x.category = 1) (k : zq_E G M d kc ks sc q L (x :: x :: st) n I P R) : zq_E G M d kc ks sc pc L (x :: st) n I P R := by
  subst hq
  intro p l e Rm s m args below meth c Q H locs cells slots cE sE ls X hr h1 h2 h3 h4 hP hS hl
  exact lv_dup X.1 X.2.1 hd ((zq_cat G x).trans hx) (k p l e Rm s m args below meth c Q H locs cells slots cE sE ls X hr h1 h2 h3 h4 hP hS hl)
theorem ev_dup2 {x y : Value} (hd : decode M.2.1 pc = .ok (.dup2, 1)) (hq : pc + 1 = q) (hx : x.category = 1) (hy : y.category = 1) (k : zq_E G M d kc ks sc q L (x :: y :: x :: y :: st) n I P R) : zq_E G M d kc ks sc pc L (x :: y :: st) n I P R := by
  subst hq
  intro p l e Rm s m args below meth c Q H locs cells slots cE sE ls X hr h1 h2 h3 h4 hP hS hl
  exact lv_dup2_11 X.1 X.2.1 hd ((zq_cat G x).trans hx) ((zq_cat G y).trans hy) (k p l e Rm s m args below meth c Q H locs cells slots cE sE ls X hr h1 h2 h3 h4 hP hS hl)
theorem ev_if_eq {x : Int32} {z : Int} {t : Nat} (hd : decode M.2.1 pc = .ok (.ifCond .eq z, 3)) (hq : pc + 3 = q) (ht : (pc : Int) + z = (t : Int)) (kt : x = 0 → zq_E G M d kc ks sc t L st n I P R) (kf : ¬ x = 0 → zq_E G M d kc ks sc q L st n I P R) : zq_E G M d kc ks sc pc L (.int x :: st) n I P R := by
  subst hq
  intro p l e Rm s m args below meth c Q H locs cells slots cE sE ls X hr h1 h2 h3 h4 hP hS hl
  exact lv_if_eq X.1 X.2.1 hd ht (fun h => kt h p l e Rm s m args below meth c Q H locs cells slots cE sE ls X hr h1 h2 h3 h4 hP hS hl) (fun h => kf h p l e Rm s m args below meth c Q H locs cells slots cE sE ls X hr h1 h2 h3 h4 hP hS hl)
theorem ev_icmp_eq {x y : Int32} {z : Int} {t : Nat} (hd : decode M.2.1 pc = .ok (.if_icmp .eq z, 3)) (hq : pc + 3 = q) (ht : (pc : Int) + z = (t : Int)) (kt : x = y → zq_E G M d kc ks sc t L st n I P R) (kf : ¬ x = y → zq_E G M d kc ks sc q L st n I P R) : zq_E G M d kc ks sc pc L (.int y :: .int x :: st) n I P R := by
  subst hq
  intro p l e Rm s m args below meth c Q H locs cells slots cE sE ls X hr h1 h2 h3 h4 hP hS hl
  exact lv_icmp_eq X.1 X.2.1 hd ht (fun h => kt h p l e Rm s m args below meth c Q H locs cells slots cE sE ls X hr h1 h2 h3 h4 hP hS hl) (fun h => kf h p l e Rm s m args below meth c Q H locs cells slots cE sE ls X hr h1 h2 h3 h4 hP hS hl)
theorem ev_if_ne {x : Int32} {z : Int} {t : Nat} (hd : decode M.2.1 pc = .ok (.ifCond .ne z, 3)) (hq : pc + 3 = q) (ht : (pc : Int) + z = (t : Int)) (kt : ¬ x = 0 → zq_E G M d kc ks sc t L st n I P R) (kf : x = 0 → zq_E G M d kc ks sc q L st n I P R) : zq_E G M d kc ks sc pc L (.int x :: st) n I P R := by
  subst hq
  intro p l e Rm s m args below meth c Q H locs cells slots cE sE ls X hr h1 h2 h3 h4 hP hS hl
  exact lv_if_ne X.1 X.2.1 hd ht (fun h => kt h p l e Rm s m args below meth c Q H locs cells slots cE sE ls X hr h1 h2 h3 h4 hP hS hl) (fun h => kf h p l e Rm s m args below meth c Q H locs cells slots cE sE ls X hr h1 h2 h3 h4 hP hS hl)
theorem ev_icmp_ne {x y : Int32} {z : Int} {t : Nat} (hd : decode M.2.1 pc = .ok (.if_icmp .ne z, 3)) (hq : pc + 3 = q) (ht : (pc : Int) + z = (t : Int)) (kt : ¬ x = y → zq_E G M d kc ks sc t L st n I P R) (kf : x = y → zq_E G M d kc ks sc q L st n I P R) : zq_E G M d kc ks sc pc L (.int y :: .int x :: st) n I P R := by
  subst hq
  intro p l e Rm s m args below meth c Q H locs cells slots cE sE ls X hr h1 h2 h3 h4 hP hS hl
  exact lv_icmp_ne X.1 X.2.1 hd ht (fun h => kt h p l e Rm s m args below meth c Q H locs cells slots cE sE ls X hr h1 h2 h3 h4 hP hS hl) (fun h => kf h p l e Rm s m args below meth c Q H locs cells slots cE sE ls X hr h1 h2 h3 h4 hP hS hl)
theorem ev_if_lt {x : Int32} {z : Int} {t : Nat} (hd : decode M.2.1 pc = .ok (.ifCond .lt z, 3)) (hq : pc + 3 = q) (ht : (pc : Int) + z = (t : Int)) (kt : x < 0 → zq_E G M d kc ks sc t L st n I P R) (kf : ¬ x < 0 → zq_E G M d kc ks sc q L st n I P R) : zq_E G M d kc ks sc pc L (.int x :: st) n I P R := by
  subst hq
  intro p l e Rm s m args below meth c Q H locs cells slots cE sE ls X hr h1 h2 h3 h4 hP hS hl
  exact lv_if_lt X.1 X.2.1 hd ht (fun h => kt h p l e Rm s m args below meth c Q H locs cells slots cE sE ls X hr h1 h2 h3 h4 hP hS hl) (fun h => kf h p l e Rm s m args below meth c Q H locs cells slots cE sE ls X hr h1 h2 h3 h4 hP hS hl)
theorem ev_icmp_lt {x y : Int32} {z : Int} {t : Nat} (hd : decode M.2.1 pc = .ok (.if_icmp .lt z, 3)) (hq : pc + 3 = q) (ht : (pc : Int) + z = (t : Int)) (kt : x < y → zq_E G M d kc ks sc t L st n I P R) (kf : ¬ x < y → zq_E G M d kc ks sc q L st n I P R) : zq_E G M d kc ks sc pc L (.int y :: .int x :: st) n I P R := by
  subst hq
  intro p l e Rm s m args below meth c Q H locs cells slots cE sE ls X hr h1 h2 h3 h4 hP hS hl
  exact lv_icmp_lt X.1 X.2.1 hd ht (fun h => kt h p l e Rm s m args below meth c Q H locs cells slots cE sE ls X hr h1 h2 h3 h4 hP hS hl) (fun h => kf h p l e Rm s m args below meth c Q H locs cells slots cE sE ls X hr h1 h2 h3 h4 hP hS hl)
theorem ev_if_ge {x : Int32} {z : Int} {t : Nat} (hd : decode M.2.1 pc = .ok (.ifCond .ge z, 3)) (hq : pc + 3 = q) (ht : (pc : Int) + z = (t : Int)) (kt : 0 ≤ x → zq_E G M d kc ks sc t L st n I P R) (kf : ¬ 0 ≤ x → zq_E G M d kc ks sc q L st n I P R) : zq_E G M d kc ks sc pc L (.int x :: st) n I P R := by
  subst hq
  intro p l e Rm s m args below meth c Q H locs cells slots cE sE ls X hr h1 h2 h3 h4 hP hS hl
  exact lv_if_ge X.1 X.2.1 hd ht (fun h => kt h p l e Rm s m args below meth c Q H locs cells slots cE sE ls X hr h1 h2 h3 h4 hP hS hl) (fun h => kf h p l e Rm s m args below meth c Q H locs cells slots cE sE ls X hr h1 h2 h3 h4 hP hS hl)
theorem ev_icmp_ge {x y : Int32} {z : Int} {t : Nat} (hd : decode M.2.1 pc = .ok (.if_icmp .ge z, 3)) (hq : pc + 3 = q) (ht : (pc : Int) + z = (t : Int)) (kt : y ≤ x → zq_E G M d kc ks sc t L st n I P R) (kf : ¬ y ≤ x → zq_E G M d kc ks sc q L st n I P R) : zq_E G M d kc ks sc pc L (.int y :: .int x :: st) n I P R := by
  subst hq
  intro p l e Rm s m args below meth c Q H locs cells slots cE sE ls X hr h1 h2 h3 h4 hP hS hl
  exact lv_icmp_ge X.1 X.2.1 hd ht (fun h => kt h p l e Rm s m args below meth c Q H locs cells slots cE sE ls X hr h1 h2 h3 h4 hP hS hl) (fun h => kf h p l e Rm s m args below meth c Q H locs cells slots cE sE ls X hr h1 h2 h3 h4 hP hS hl)
theorem ev_if_gt {x : Int32} {z : Int} {t : Nat} (hd : decode M.2.1 pc = .ok (.ifCond .gt z, 3)) (hq : pc + 3 = q) (ht : (pc : Int) + z = (t : Int)) (kt : 0 < x → zq_E G M d kc ks sc t L st n I P R) (kf : ¬ 0 < x → zq_E G M d kc ks sc q L st n I P R) : zq_E G M d kc ks sc pc L (.int x :: st) n I P R := by
  subst hq
  intro p l e Rm s m args below meth c Q H locs cells slots cE sE ls X hr h1 h2 h3 h4 hP hS hl
  exact lv_if_gt X.1 X.2.1 hd ht (fun h => kt h p l e Rm s m args below meth c Q H locs cells slots cE sE ls X hr h1 h2 h3 h4 hP hS hl) (fun h => kf h p l e Rm s m args below meth c Q H locs cells slots cE sE ls X hr h1 h2 h3 h4 hP hS hl)
theorem ev_icmp_gt {x y : Int32} {z : Int} {t : Nat} (hd : decode M.2.1 pc = .ok (.if_icmp .gt z, 3)) (hq : pc + 3 = q) (ht : (pc : Int) + z = (t : Int)) (kt : y < x → zq_E G M d kc ks sc t L st n I P R) (kf : ¬ y < x → zq_E G M d kc ks sc q L st n I P R) : zq_E G M d kc ks sc pc L (.int y :: .int x :: st) n I P R := by
  subst hq
  intro p l e Rm s m args below meth c Q H locs cells slots cE sE ls X hr h1 h2 h3 h4 hP hS hl
  exact lv_icmp_gt X.1 X.2.1 hd ht (fun h => kt h p l e Rm s m args below meth c Q H locs cells slots cE sE ls X hr h1 h2 h3 h4 hP hS hl) (fun h => kf h p l e Rm s m args below meth c Q H locs cells slots cE sE ls X hr h1 h2 h3 h4 hP hS hl)
theorem ev_if_le {x : Int32} {z : Int} {t : Nat} (hd : decode M.2.1 pc = .ok (.ifCond .le z, 3)) (hq : pc + 3 = q) (ht : (pc : Int) + z = (t : Int)) (kt : x ≤ 0 → zq_E G M d kc ks sc t L st n I P R) (kf : ¬ x ≤ 0 → zq_E G M d kc ks sc q L st n I P R) : zq_E G M d kc ks sc pc L (.int x :: st) n I P R := by
  subst hq
  intro p l e Rm s m args below meth c Q H locs cells slots cE sE ls X hr h1 h2 h3 h4 hP hS hl
  exact lv_if_le X.1 X.2.1 hd ht (fun h => kt h p l e Rm s m args below meth c Q H locs cells slots cE sE ls X hr h1 h2 h3 h4 hP hS hl) (fun h => kf h p l e Rm s m args below meth c Q H locs cells slots cE sE ls X hr h1 h2 h3 h4 hP hS hl)
theorem ev_icmp_le {x y : Int32} {z : Int} {t : Nat} (hd : decode M.2.1 pc = .ok (.if_icmp .le z, 3)) (hq : pc + 3 = q) (ht : (pc : Int) + z = (t : Int)) (kt : x ≤ y → zq_E G M d kc ks sc t L st n I P R) (kf : ¬ x ≤ y → zq_E G M d kc ks sc q L st n I P R) : zq_E G M d kc ks sc pc L (.int y :: .int x :: st) n I P R := by
  subst hq
  intro p l e Rm s m args below meth c Q H locs cells slots cE sE ls X hr h1 h2 h3 h4 hP hS hl
  exact lv_icmp_le X.1 X.2.1 hd ht (fun h => kt h p l e Rm s m args below meth c Q H locs cells slots cE sE ls X hr h1 h2 h3 h4 hP hS hl) (fun h => kf h p l e Rm s m args below meth c Q H locs cells slots cE sE ls X hr h1 h2 h3 h4 hP hS hl)
theorem ev_goto {z : Int} {t : Nat} (hd : decode M.2.1 pc = .ok (.goto z, 3)) (ht : (pc : Int) + z = (t : Int)) (k : zq_E G M d kc ks sc t L st n I P R) : zq_E G M d kc ks sc pc L st n I P R := by
  intro p l e Rm s m args below meth c Q H locs cells slots cE sE ls X hr h1 h2 h3 h4 hP hS hl
  exact lv_goto X.1 X.2.1 hd ht (k p l e Rm s m args below meth c Q H locs cells slots cE sE ls X hr h1 h2 h3 h4 hP hS hl)
theorem ev_swOut {dflt lo hi : Int} {offs : Array Int} {len : Nat} {x : Int32} {t : Nat} (hd : decode M.2.1 pc = .ok (.tableswitch dflt lo hi offs, len)) (h : x.toInt < lo ∨ hi < x.toInt) (ht : (pc : Int) + dflt = (t : Int)) (k : zq_E G M d kc ks sc t L st n I P R) : zq_E G M d kc ks sc pc L (.int x :: st) n I P R := by
  intro p l e Rm s m args below meth c Q H locs cells slots cE sE ls X hr h1 h2 h3 h4 hP hS hl
  exact lv_tableOut X.1 X.2.1 hd h ht (k p l e Rm s m args below meth c Q H locs cells slots cE sE ls X hr h1 h2 h3 h4 hP hS hl)
theorem ev_swIn {dflt lo hi : Int} {offs : Array Int} {len : Nat} {x : Int32} {off : Int} {t : Nat} (hd : decode M.2.1 pc = .ok (.tableswitch dflt lo hi offs, len)) (hx1 : ¬ x.toInt < lo) (hx2 : ¬ hi < x.toInt) (ho : offs[(x.toInt - lo).toNat]? = some off) (ht : (pc : Int) + off = (t : Int)) (k : zq_E G M d kc ks sc t L st n I P R) : zq_E G M d kc ks sc pc L (.int x :: st) n I P R := by
  intro p l e Rm s m args below meth c Q H locs cells slots cE sE ls X hr h1 h2 h3 h4 hP hS hl
  exact lv_tableIn X.1 X.2.1 hd hx1 hx2 ho ht (k p l e Rm s m args below meth c Q H locs cells slots cE sE ls X hr h1 h2 h3 h4 hP hS hl)
theorem ev_getI {z b ci f : Nat} (hd : decode M.2.1 pc = .ok (.getfield z, 3)) (hq : pc + 3 = q) (hk : zq_kd b = some (.inl ci)) (hbn : b < n) (hci : ci < 9) (hf : f < (zq_cls ci).2.2) (hlk : Cond.fieldLink M.1.cls z ((zq_cls ci).2.1 f).1 ((zq_cls ci).2.1 f).2.1 ((zq_cls ci).2.1 f).2.2.1 ∈ zq_T) (hr0 : zq_isr ci f = false) (k : zq_E G M d kc ks sc q L (.int (I b f) :: st) n I P R) : zq_E G M d kc ks sc pc L (.ref b :: st) n I P R := by
  subst hq
  intro p l e Rm s m args below meth c Q H locs cells slots cE sE ls X hr h1 h2 h3 h4 hP hS hl
  have hws := zq_ws_at (G := G) (I := I) (P := P) hbn
  rw [zq_ent_o hk] at hws
  exact va_get X.1 X.2.1 X.2.2.2.2.1 (zq_in ci hci) X.2.2.2.1 X.2.2.2.2.2.1.1 hP.2.2 b hws (zq_clat hci) f hf (X.2.2.2.2.1 _ hlk) (fun _ h9 => h9) (v := .int (I b f)) (by rw [zq_fs_at hf, hr0]; rfl) hd (k p l e Rm s m args below meth c Q H locs cells slots cE sE ls X hr h1 h2 h3 h4 hP hS hl)
theorem ev_getR {z b ci f a : Nat} (hd : decode M.2.1 pc = .ok (.getfield z, 3)) (hq : pc + 3 = q) (hk : zq_kd b = some (.inl ci)) (hbn : b < n) (hci : ci < 9) (hf : f < (zq_cls ci).2.2) (hlk : Cond.fieldLink M.1.cls z ((zq_cls ci).2.1 f).1 ((zq_cls ci).2.1 f).2.1 ((zq_cls ci).2.1 f).2.2.1 ∈ zq_T) (hr0 : zq_isr ci f = true) (ha : P b f = some a) (k : zq_E G M d kc ks sc q L (.ref a :: st) n I P R) : zq_E G M d kc ks sc pc L (.ref b :: st) n I P R := by
  subst hq
  intro p l e Rm s m args below meth c Q H locs cells slots cE sE ls X hr h1 h2 h3 h4 hP hS hl
  have hws := zq_ws_at (G := G) (I := I) (P := P) hbn
  rw [zq_ent_o hk] at hws
  exact va_get X.1 X.2.1 X.2.2.2.2.1 (zq_in ci hci) X.2.2.2.1 X.2.2.2.2.2.1.1 hP.2.2 b hws (zq_clat hci) f hf (X.2.2.2.2.1 _ hlk) (fun _ h9 => h9) (v := .ref (zq_ad G a)) (by rw [zq_fs_at hf, hr0, ha]; rfl) hd (k p l e Rm s m args below meth c Q H locs cells slots cE sE ls X hr h1 h2 h3 h4 hP hS hl)
end ROWS
section PUTS
variable {G : zq_G} {M : zq_M} {d : Nat} {sc : Bool} {p : Program} {l : Launch} {e : Env} {Rm : Room} {s : State} {m : MethodId} {args : Array Value} {below : List Frame} {meth : Method} {c : Code} {Q : State → Prop} {H : Heap} {locs : List Loc} {cells slots : Nat} {ls : Array Slot} {n pc : Nat} {I I' : zq_I} {P P' : zq_P} {rest : List Value}
/-- a field's new value, at the machine: the heap's size stays -/
theorem zq_Wput {z b ci f : Nat} {v : Value} (X : zq_X G M d sc p Rm s m args meth c) (hP : zq_H G n I P H) (hS : va_S (zq_A G) s.heap H locs) (hk : zq_kd b = some (.inl ci)) (hbn : b < n) (hci : ci < 9) (hf : f < (zq_cls ci).2.2)
    (hlk : Cond.fieldLink M.1.cls z ((zq_cls ci).2.1 f).1 ((zq_cls ci).2.1 f).2.1 ((zq_cls ci).2.1 f).2.2.1 ∈ zq_T)
    (hfin : ((zq_cls ci).2.1 f).2.2.2 = false ∨ (((zq_cls ci).2.1 f).2.2.2 = true ∧ M.1.name = "<init>" ∧ ((zq_cls ci).2.1 f).1 = M.1.cls)) (hn : narrow (zq_ty ci f) v = v) (hfit : fits (zq_ty ci f) v = true)
    (he : (zq_fs G I P b ci).set f v = zq_fs G I' P' b ci) (ho : ∀ b', b' ≠ b → I' b' = I b' ∧ P' b' = P b') (hd : decode M.2.1 pc = .ok (.putfield z, 3))
    (kk : ∀ (H1 : Heap) (locs1 : List Loc), zq_H G n I' P' H1 → va_S (zq_A G) s.heap H1 locs1 → W p l e Rm s m args below meth c H1 locs1 cells slots Q (F0 m (pc + 3) ls rest)) : W p l e Rm s m args below meth c H locs cells slots Q (F0 m pc ls (v :: .ref (zq_ad G b) :: rest)) := by
  have hws := zq_ws_at (G := G) (I := I) (P := P) hbn
  rw [zq_ent_o hk] at hws
  have hts := X.2.2.2.2.1
  have hK := X.2.2.2.2.2.1.1
  have hown := X.2.2.2.1
  have hD := zq_D G I P hP.2.1
  have hap := va_apart (own := M.1.cls) hts (zq_in ci hci) (zq_ty ci) (zq_tyok ci hci) (zq_nm ci hci) hK (zq_clat hci)
  obtain ⟨r, g1, cell, q1, q2, q3, q4⟩ := hP.2.2 b _ hws
  have hr : r = ((zq_cls ci).1, (zq_cls ci).2.1, (zq_cls ci).2.2) := Option.some.inj (g1.symm.trans (zq_clat hci))
  subst hr
  obtain ⟨hSl, hfc, kC, hkC, hkind⟩ := hK.1 ci _ (zq_clat hci)
  obtain ⟨cf, kf, fi, fd, hi, hsl⟩ := hSl f hf
  have hlay := hts _ (zq_in ci hci _ (u_in_lay hf))
  unfold u_lay at hlay
  have hst := (u_facts hfc hkC (u_lays hts (zq_in ci hci) hf) hi).1
  have fin : ∀ H' : Heap, H'[zq_ad G b]? = some (cell.setSlot fd.slot v) → H'.size = H.size → (∀ q, q ≠ zq_ad G b → H'[q]? = H[q]?) → W p l e Rm s m args below meth c H' (locs ++ [⟨zq_ad G b, fd.slot⟩]) cells slots Q (F0 m (pc + 3) ls rest) := by
    intro H' e1 e2 e3
    rw [hsl] at e1 ⊢
    have hnew := hP.2.2.set hD hws (e := .inr (ci, (zq_fs G I P b ci).set f v)) ⟨_, zq_clat hci, t_OB.to (V := updV (vp_V (zq_fs G I P b ci)) f v) ⟨_, e1, q2, q3, t_set q4 hap hf v⟩ (fun j _ => vp_updV_set (by rw [zq_fs_len]; exact hf) v j)⟩ e3
    rw [he] at hnew
    rw [zq_ws_set (I' := I') (P' := P') (zq_ent_o hk) (fun b' hb' => zq_ent_other (ho b' hb').1 (ho b' hb').2)] at hnew
    exact kk H' _ ⟨by rw [e2]; exact hP.1, hP.2.1, hnew⟩ (hS.put e2 e3 (hD.2 b _ hws))
  rcases hfin with hfin | ⟨hfin, hini, hdecl⟩
  · rw [if_neg (by rw [hfin]; decide)] at hlay
    have h6 := u_store hfc hkC hkind hlay hi (zq_tyok ci hci f hf) hn hfit
    exact W.putK X.1 X.2.1 (f := fd) ⟨hown, hts _ hlk, ⟨_, _, _, hi⟩, hst⟩ (by rw [q2]; exact h6) q1 q3 (by rw [hsl]; exact k2_hasslot (q4 f hf)) rfl rfl hd fun H' e1 e2 e3 => fin H' e1 e2 e3
  · rw [if_pos hfin] at hlay
    have hcf : m.cls = cf := by
      obtain ⟨_, _, c', _, _, _, -, -, hf', -, -, -, hown2, -⟩ := Cond.laysFinal_spec hlay
      have e1 : c' = cf := by have := hi.symm.trans hf'; simp at this; exact this.1.symm
      rw [hdecl] at hown2
      rw [← e1]; exact Option.some.inj (hown.symm.trans hown2)
    have h6 := u_fits hfc hkC hkind (Or.inr hlay) hi (zq_tyok ci hci f hf) hn hfit
    exact W.putFinK X.1 X.2.1 hown (hts _ hlk) hi hst hcf (X.2.2.2.2.2.2.2.2.2.2.trans hini) (by rw [q2]; exact h6) q1 q3 (by rw [hsl]; exact k2_hasslot (q4 f hf)) rfl rfl hd fun H' e1 e2 e3 => fin H' e1 e2 e3
/-- what a store into a row of ints, bytes or booleans does -/
theorem zq_Wst {b t N k : Nat} {x : Int32} {H' : Heap} (hP : zq_H G n I P H) (hS : va_S (zq_A G) s.heap H locs) (hk : zq_kd b = some (.inr (t, N))) (ht : t ≠ 3) (hbn : b < n)
    (e : H'[zq_ad G b]? = some ((vp_cell (G.2.1 t) (N, .inl (I b))).setSlot k (.int x))) (z : H'.size = H.size) (oq : ∀ q, q ≠ zq_ad G b → H'[q]? = H[q]?) : zq_H G n (zu I b k x) P H' ∧ va_S (zq_A G) s.heap H' (locs ++ [⟨zq_ad G b, k⟩]) := by
  have hws := zq_ws_at (G := G) (I := I) (P := P) hbn
  rw [zq_ent_i hk ht] at hws
  have hD := zq_D G I P hP.2.1
  have h1 := hP.2.2.set hD hws (e := .inl (G.2.1 t, N, .inl (zu I b k x b))) (by
    show H'[zq_ad G b]? = some (vp_cell _ _)
    rw [e, vp_cell_i, vp_cell_i, arrV_store]
    congr 2
    funext q
    by_cases hq : q = k
    · subst hq; simp [updV, zu]
    · simp [updV, zu, hq]) oq
  rw [zq_ws_set (I' := zu I b k x) (P' := P) (zq_ent_i hk ht) (fun b' hb' => zq_ent_other (zu_other hb') rfl)] at h1
  exact ⟨⟨by rw [z]; exact hP.1, hP.2.1, h1⟩, hS.put z oq (hD.2 b _ hws)⟩
theorem zq_tysat {t : Nat} (ht : t < 4) : (zq_tys G)[t]? = some (G.2.1 t, zq_tt t) := by
  rcases (by omega : t = 0 ∨ t = 1 ∨ t = 2 ∨ t = 3) with rfl | rfl | rfl | rfl <;> rfl
end PUTS
section ROWS2
variable {G : zq_G} {M : zq_M} {d kc ks : Nat} {sc : Bool} {pc q : Nat} {L : List (Option Value)} {st : List Value} {n : Nat} {I : zq_I} {P : zq_P} {R : zq_R}
theorem ev_putI {z b ci f : Nat} {x : Int32} (hd : decode M.2.1 pc = .ok (.putfield z, 3)) (hq : pc + 3 = q) (hk : zq_kd b = some (.inl ci)) (hbn : b < n) (hci : ci < 9) (hf : f < (zq_cls ci).2.2) (hlk : Cond.fieldLink M.1.cls z ((zq_cls ci).2.1 f).1 ((zq_cls ci).2.1 f).2.1 ((zq_cls ci).2.1 f).2.2.1 ∈ zq_T) (hfin : ((zq_cls ci).2.1 f).2.2.2 = false) (hr0 : zq_isr ci f = false) (hnar : narrow (zq_ty ci f) (.int x) = .int x) (hfit : fits (zq_ty ci f) (.int x) = true) (k : zq_E G M d kc ks sc q L st n (zu I b f x) P R) : zq_E G M d kc ks sc pc L (.int x :: .ref b :: st) n I P R := by
  subst hq
  intro p l e Rm s m args below meth c Q H locs cells slots cE sE ls X hr h1 h2 h3 h4 hP hS hl
  exact zq_Wput (I' := (zu I b f x)) (P' := P) (v := .int x) X hP hS hk hbn hci hf hlk (Or.inl hfin) hnar hfit (zq_fs_set hf (by rw [hr0]; simp [zu]) (fun j hj => ⟨by simp [zu, hj], rfl⟩)) (fun b' hb' => ⟨zu_other hb', rfl⟩) hd (fun H1 locs1 hP1 hS1 => k p l e Rm s m args below meth c Q H1 locs1 cells slots cE sE ls X hr h1 h2 h3 h4 hP1 hS1 hl)
theorem ev_putR {z b ci f : Nat} {x : Nat} (hd : decode M.2.1 pc = .ok (.putfield z, 3)) (hq : pc + 3 = q) (hk : zq_kd b = some (.inl ci)) (hbn : b < n) (hci : ci < 9) (hf : f < (zq_cls ci).2.2) (hlk : Cond.fieldLink M.1.cls z ((zq_cls ci).2.1 f).1 ((zq_cls ci).2.1 f).2.1 ((zq_cls ci).2.1 f).2.2.1 ∈ zq_T) (hfin : ((zq_cls ci).2.1 f).2.2.2 = false) (hr0 : zq_isr ci f = true) (hnar : ∀ a : Nat, narrow (zq_ty ci f) (.ref a) = .ref a) (hfit : ∀ a : Nat, fits (zq_ty ci f) (.ref a) = true) (k : zq_E G M d kc ks sc q L st n I (zp P b f (some x)) R) : zq_E G M d kc ks sc pc L (.ref x :: .ref b :: st) n I P R := by
  subst hq
  intro p l e Rm s m args below meth c Q H locs cells slots cE sE ls X hr h1 h2 h3 h4 hP hS hl
  exact zq_Wput (I' := I) (P' := (zp P b f (some x))) (v := .ref (zq_ad G x)) X hP hS hk hbn hci hf hlk (Or.inl hfin) (hnar _) (hfit _) (zq_fs_set hf (by rw [hr0]; simp [zp]; rfl) (fun j hj => ⟨rfl, by simp [zp, hj]⟩)) (fun b' hb' => ⟨rfl, zp_other hb'⟩) hd (fun H1 locs1 hP1 hS1 => k p l e Rm s m args below meth c Q H1 locs1 cells slots cE sE ls X hr h1 h2 h3 h4 hP1 hS1 hl)
theorem ev_putIF {z b ci f : Nat} {x : Int32} (hd : decode M.2.1 pc = .ok (.putfield z, 3)) (hq : pc + 3 = q) (hk : zq_kd b = some (.inl ci)) (hbn : b < n) (hci : ci < 9) (hf : f < (zq_cls ci).2.2) (hlk : Cond.fieldLink M.1.cls z ((zq_cls ci).2.1 f).1 ((zq_cls ci).2.1 f).2.1 ((zq_cls ci).2.1 f).2.2.1 ∈ zq_T) (hfin : ((zq_cls ci).2.1 f).2.2.2 = true) (hini : M.1.name = "<init>") (hdecl : ((zq_cls ci).2.1 f).1 = M.1.cls) (hr0 : zq_isr ci f = false) (hnar : narrow (zq_ty ci f) (.int x) = .int x) (hfit : fits (zq_ty ci f) (.int x) = true) (k : zq_E G M d kc ks sc q L st n (zu I b f x) P R) : zq_E G M d kc ks sc pc L (.int x :: .ref b :: st) n I P R := by
  subst hq
  intro p l e Rm s m args below meth c Q H locs cells slots cE sE ls X hr h1 h2 h3 h4 hP hS hl
  exact zq_Wput (I' := (zu I b f x)) (P' := P) (v := .int x) X hP hS hk hbn hci hf hlk (Or.inr ⟨hfin, hini, hdecl⟩) hnar hfit (zq_fs_set hf (by rw [hr0]; simp [zu]) (fun j hj => ⟨by simp [zu, hj], rfl⟩)) (fun b' hb' => ⟨zu_other hb', rfl⟩) hd (fun H1 locs1 hP1 hS1 => k p l e Rm s m args below meth c Q H1 locs1 cells slots cE sE ls X hr h1 h2 h3 h4 hP1 hS1 hl)
theorem ev_putRF {z b ci f : Nat} {x : Nat} (hd : decode M.2.1 pc = .ok (.putfield z, 3)) (hq : pc + 3 = q) (hk : zq_kd b = some (.inl ci)) (hbn : b < n) (hci : ci < 9) (hf : f < (zq_cls ci).2.2) (hlk : Cond.fieldLink M.1.cls z ((zq_cls ci).2.1 f).1 ((zq_cls ci).2.1 f).2.1 ((zq_cls ci).2.1 f).2.2.1 ∈ zq_T) (hfin : ((zq_cls ci).2.1 f).2.2.2 = true) (hini : M.1.name = "<init>") (hdecl : ((zq_cls ci).2.1 f).1 = M.1.cls) (hr0 : zq_isr ci f = true) (hnar : ∀ a : Nat, narrow (zq_ty ci f) (.ref a) = .ref a) (hfit : ∀ a : Nat, fits (zq_ty ci f) (.ref a) = true) (k : zq_E G M d kc ks sc q L st n I (zp P b f (some x)) R) : zq_E G M d kc ks sc pc L (.ref x :: .ref b :: st) n I P R := by
  subst hq
  intro p l e Rm s m args below meth c Q H locs cells slots cE sE ls X hr h1 h2 h3 h4 hP hS hl
  exact zq_Wput (I' := I) (P' := (zp P b f (some x))) (v := .ref (zq_ad G x)) X hP hS hk hbn hci hf hlk (Or.inr ⟨hfin, hini, hdecl⟩) (hnar _) (hfit _) (zq_fs_set hf (by rw [hr0]; simp [zp]; rfl) (fun j hj => ⟨rfl, by simp [zp, hj]⟩)) (fun b' hb' => ⟨rfl, zp_other hb'⟩) hd (fun H1 locs1 hP1 hS1 => k p l e Rm s m args below meth c Q H1 locs1 cells slots cE sE ls X hr h1 h2 h3 h4 hP1 hS1 hl)
theorem ev_iald {b N : Nat} {i : Int32} (hd : decode M.2.1 pc = .ok (.iaload, 1)) (hq : pc + 1 = q) (hk : zq_kd b = some (.inr (0, N))) (hbn : b < n) (hi : vp_in i N) (k : zq_E G M d kc ks sc q L (.int (I b i.toNatClampNeg) :: st) n I P R) : zq_E G M d kc ks sc pc L (.int i :: .ref b :: st) n I P R := by
  subst hq
  intro p l e Rm s m args below meth c Q H locs cells slots cE sE ls X hr h1 h2 h3 h4 hP hS hl
  have hws := zq_ws_at (G := G) (I := I) (P := P) hbn
  rw [zq_ent_i hk (by decide)] at hws
  exact va_iald X.1 X.2.1 X.2.2.2.2.2.1.1 hP.2.2 b 0 hws (zq_tysat (by decide)) hi hd (k p l e Rm s m args below meth c Q H locs cells slots cE sE ls X hr h1 h2 h3 h4 hP hS hl)
theorem ev_bald {b N : Nat} {i : Int32} (hd : decode M.2.1 pc = .ok (.baload, 1)) (hq : pc + 1 = q) (hk : zq_kd b = some (.inr (1, N))) (hbn : b < n) (hi : vp_in i N) (k : zq_E G M d kc ks sc q L (.int (I b i.toNatClampNeg) :: st) n I P R) : zq_E G M d kc ks sc pc L (.int i :: .ref b :: st) n I P R := by
  subst hq
  intro p l e Rm s m args below meth c Q H locs cells slots cE sE ls X hr h1 h2 h3 h4 hP hS hl
  have hws := zq_ws_at (G := G) (I := I) (P := P) hbn
  rw [zq_ent_i hk (by decide)] at hws
  exact va_bald X.1 X.2.1 X.2.2.2.2.2.1.1 hP.2.2 b 1 hws (zq_tysat (by decide)) hi hd (k p l e Rm s m args below meth c Q H locs cells slots cE sE ls X hr h1 h2 h3 h4 hP hS hl)
theorem ev_zald {b N : Nat} {i : Int32} (hd : decode M.2.1 pc = .ok (.baload, 1)) (hq : pc + 1 = q) (hk : zq_kd b = some (.inr (2, N))) (hbn : b < n) (hi : vp_in i N) (k : zq_E G M d kc ks sc q L (.int (I b i.toNatClampNeg) :: st) n I P R) : zq_E G M d kc ks sc pc L (.int i :: .ref b :: st) n I P R := by
  subst hq
  intro p l e Rm s m args below meth c Q H locs cells slots cE sE ls X hr h1 h2 h3 h4 hP hS hl
  have hws := zq_ws_at (G := G) (I := I) (P := P) hbn
  rw [zq_ent_i hk (by decide)] at hws
  exact va_zald X.1 X.2.1 X.2.2.2.2.2.1.1 hP.2.2 b 2 hws (zq_tysat (by decide)) hi hd (k p l e Rm s m args below meth c Q H locs cells slots cE sE ls X hr h1 h2 h3 h4 hP hS hl)
theorem ev_iast {b N : Nat} {i x : Int32} (hd : decode M.2.1 pc = .ok (.iastore, 1)) (hq : pc + 1 = q) (hk : zq_kd b = some (.inr (0, N))) (hbn : b < n) (hi : vp_in i N) (k : zq_E G M d kc ks sc q L st n (zu I b i.toNatClampNeg x) P R) : zq_E G M d kc ks sc pc L (.int x :: .int i :: .ref b :: st) n I P R := by
  subst hq
  intro p l e Rm s m args below meth c Q H locs cells slots cE sE ls X hr h1 h2 h3 h4 hP hS hl
  have hws := zq_ws_at (G := G) (I := I) (P := P) hbn
  rw [zq_ent_i hk (by decide)] at hws
  refine W.iast X.1 X.2.1 (hP.2.2 b _ hws) ((X.2.2.2.2.2.1.1.2 0 _ (zq_tysat (by decide))).1 N (fun j => .int (I b j))) (fun q => by cases q) (by show ¬ (i < 0 ∨ (arrV _ _ _).slots.size ≤ _); rw [arrV_size]; exact hi) rfl rfl hd fun H1 e1 z1 oq => ?_
  obtain ⟨hP1, hS1⟩ := zq_Wst (x := x) hP hS hk (by decide) hbn e1 z1 oq
  exact k p l e Rm s m args below meth c Q H1 _ cells slots cE sE ls X hr h1 h2 h3 h4 hP1 hS1 hl
theorem ev_bast {b N : Nat} {i x : Int32} (hd : decode M.2.1 pc = .ok (.bastore, 1)) (hq : pc + 1 = q) (hk : zq_kd b = some (.inr (1, N))) (hbn : b < n) (hi : vp_in i N) (k : zq_E G M d kc ks sc q L st n (zu I b i.toNatClampNeg x.toInt8.toInt32) P R) : zq_E G M d kc ks sc pc L (.int x :: .int i :: .ref b :: st) n I P R := by
  subst hq
  intro p l e Rm s m args below meth c Q H locs cells slots cE sE ls X hr h1 h2 h3 h4 hP hS hl
  have hws := zq_ws_at (G := G) (I := I) (P := P) hbn
  rw [zq_ent_i hk (by decide)] at hws
  refine W.bast X.1 X.2.1 (hP.2.2 b _ hws) ((X.2.2.2.2.2.1.1.2 1 _ (zq_tysat (by decide))).1 N (fun j => .int (I b j))) (fun q => by cases q) (by show ¬ (i < 0 ∨ (arrV _ _ _).slots.size ≤ _); rw [arrV_size]; exact hi) rfl rfl hd fun H1 e1 z1 oq => ?_
  obtain ⟨hP1, hS1⟩ := zq_Wst (x := x.toInt8.toInt32) hP hS hk (by decide) hbn e1 z1 oq
  exact k p l e Rm s m args below meth c Q H1 _ cells slots cE sE ls X hr h1 h2 h3 h4 hP1 hS1 hl
theorem ev_zast {b N : Nat} {i x : Int32} (hd : decode M.2.1 pc = .ok (.bastore, 1)) (hq : pc + 1 = q) (hk : zq_kd b = some (.inr (2, N))) (hbn : b < n) (hi : vp_in i N) (k : zq_E G M d kc ks sc q L st n (zu I b i.toNatClampNeg (x &&& 1)) P R) : zq_E G M d kc ks sc pc L (.int x :: .int i :: .ref b :: st) n I P R := by
  subst hq
  intro p l e Rm s m args below meth c Q H locs cells slots cE sE ls X hr h1 h2 h3 h4 hP hS hl
  have hws := zq_ws_at (G := G) (I := I) (P := P) hbn
  rw [zq_ent_i hk (by decide)] at hws
  refine W.zast X.1 X.2.1 (hP.2.2 b _ hws) ((X.2.2.2.2.2.1.1.2 2 _ (zq_tysat (by decide))).1 N (fun j => .int (I b j))) (fun q => by cases q) (by show ¬ (i < 0 ∨ (arrV _ _ _).slots.size ≤ _); rw [arrV_size]; exact hi) rfl rfl hd fun H1 e1 z1 oq => ?_
  obtain ⟨hP1, hS1⟩ := zq_Wst (x := (x &&& 1)) hP hS hk (by decide) hbn e1 z1 oq
  exact k p l e Rm s m args below meth c Q H1 _ cells slots cE sE ls X hr h1 h2 h3 h4 hP1 hS1 hl
theorem ev_aald {b N a : Nat} {i : Int32} (hd : decode M.2.1 pc = .ok (.aaload, 1)) (hq : pc + 1 = q) (hk : zq_kd b = some (.inr (3, N))) (hbn : b < n) (hi : vp_in i N) (ha : P b i.toNatClampNeg = some a) (k : zq_E G M d kc ks sc q L (.ref a :: st) n I P R) : zq_E G M d kc ks sc pc L (.int i :: .ref b :: st) n I P R := by
  subst hq
  intro p l e Rm s m args below meth c Q H locs cells slots cE sE ls X hr h1 h2 h3 h4 hP hS hl
  have hws := zq_ws_at (G := G) (I := I) (P := P) hbn
  rw [zq_ent_q hk] at hws
  refine va_aldq (C := RX6) X.1 X.2.1 X.2.2.2.2.2.1.1 hP.2.2 b 3 hws (zq_tysat (by decide)) hi hd ?_
  rw [ha]
  exact k p l e Rm s m args below meth c Q H locs cells slots cE sE ls X hr h1 h2 h3 h4 hP hS hl
theorem ev_aast {b N a ci : Nat} {i : Int32} (hd : decode M.2.1 pc = .ok (.aastore, 1)) (hq : pc + 1 = q) (hk : zq_kd b = some (.inr (3, N))) (hbn : b < n) (hi : vp_in i N) (hka : zq_kd a = some (.inl 6)) (han : a < n) (k : zq_E G M d kc ks sc q L st n I (zp P b i.toNatClampNeg (some a)) R) : zq_E G M d kc ks sc pc L (.ref a :: .int i :: .ref b :: st) n I P R := by
  subst hq
  intro p l e Rm s m args below meth c Q H locs cells slots cE sE ls X hr h1 h2 h3 h4 hP hS hl
  have hws := zq_ws_at (G := G) (I := I) (P := P) hbn
  rw [zq_ent_q hk] at hws
  have hwa := zq_ws_at (G := G) (I := I) (P := P) han
  rw [zq_ent_o hka] at hwa
  have hlt : i.toNatClampNeg < N := Nat.not_le.mp fun q => hi (Or.inr q)
  have h0 : ¬ i < 0 := fun q => hi (Or.inl q)
  obtain ⟨r', hr', cellV, g1, g2, g3, -⟩ := hP.2.2 a _ hwa
  have hcls := (X.2.2.2.2.2.1.1.1 6 _ (zq_clat (by decide))).2
  obtain ⟨kA, comp, k1, k2, k3, -⟩ := (X.2.2.2.2.2.1.1.2 3 _ (zq_tysat (by decide))).2
  have hcomp : comp = G.1.1 6 := Option.some.inj (k3.symm.trans hcls.1)
  subst hcomp
  obtain ⟨kC, hkC, -⟩ := hcls.2
  refine W.aast X.1 X.2.1 (hP.2.2 b _ hws) (fun q h => by cases h) (fun h => by cases h) k1 k2 rfl hkC ⟨h0, by show _ < (arrV _ _ _).slots.size; rw [arrV_size]; exact hlt⟩ g1 (fun q h => by rw [g3] at h; cases h) (by rw [g2]; exact hkC) (by rw [g2]; exact va_assign hcls) rfl rfl hd fun H1 e1 z1 oq => ?_
  have hD := zq_D G I P hP.2.1
  have hnew := hP.2.2.set hD hws (e := .inl (G.2.1 3, N, .inr (.inr (.inr (.inr (fun j => (zp P b i.toNatClampNeg (some a) b j).map (zq_ad G))))))) (by
    show H1[zq_ad G b]? = some (vp_cell _ _)
    rw [e1, vp_cell_q, vp_cell_q, arrV_store]
    congr 2
    funext q
    by_cases hq : q = i.toNatClampNeg
    · subst hq; simp [updV, zp, va_rf, zq_tv]
    · simp [updV, zp, hq]) oq
  rw [zq_ws_set (I' := I) (P' := zp P b i.toNatClampNeg (some a)) (zq_ent_q hk) (fun b' hb' => zq_ent_other rfl (zp_other hb'))] at hnew
  exact k p l e Rm s m args below meth c Q H1 _ cells slots cE sE ls X hr h1 h2 h3 h4 ⟨by rw [z1]; exact hP.1, hP.2.1, hnew⟩ (hS.put z1 oq (hD.2 b _ hws)) hl
theorem ev_slen (hd : decode M.2.1 pc = .ok (.arraylength, 1)) (hq : pc + 1 = q) (hsc : sc = true) (k : zq_E G M d kc ks sc q L (.int (Int32.ofNat G.2.2.2.2.1) :: st) n I P R) : zq_E G M d kc ks sc pc L (.ref zq_sc :: st) n I P R := by
  subst hq
  intro p l e Rm s m args below meth c Q H locs cells slots cE sE ls X hr h1 h2 h3 h4 hP hS hl
  obtain ⟨x1, x2, x3⟩ := X.2.2.2.2.2.2.2.2.2.1 hsc
  exact va_slen X.1 X.2.1 x1 x2 (A := zq_A G) (fun h => by have h' : G.2.2.1 ≤ G.2.2.2.1 := h; omega) hS hd (k p l e Rm s m args below meth c Q H locs cells slots cE sE ls X hr h1 h2 h3 h4 hP hS hl)
theorem ev_sald {i : Int32} (hd : decode M.2.1 pc = .ok (.iaload, 1)) (hq : pc + 1 = q) (hsc : sc = true) (hi : vp_in i G.2.2.2.2.1) (k : zq_E G M d kc ks sc q L (.int (G.2.2.2.2.2 i.toNatClampNeg) :: st) n I P R) : zq_E G M d kc ks sc pc L (.int i :: .ref zq_sc :: st) n I P R := by
  subst hq
  intro p l e Rm s m args below meth c Q H locs cells slots cE sE ls X hr h1 h2 h3 h4 hP hS hl
  obtain ⟨x1, x2, x3⟩ := X.2.2.2.2.2.2.2.2.2.1 hsc
  exact va_sld X.1 X.2.1 x1 x2 (A := zq_A G) (fun h => by have h' : G.2.2.1 ≤ G.2.2.2.1 := h; omega) hS hi hd (k p l e Rm s m args below meth c Q H locs cells slots cE sE ls X hr h1 h2 h3 h4 hP hS hl)
theorem ev_iret {x : Int32} {ty : FieldType} (hd : decode M.2.1 pc = .ok (.ireturn, 1)) (hty : M.2.2.2 = some ty) (hnar : narrow ty (.int x) = .int x) (hR : R (some (.int x)) n I P) : zq_E G M d kc ks sc pc L [.int x] n I P R := by
  intro p l e Rm s m args below meth c Q H locs cells slots cE sE ls X hr h1 h2 h3 h4 hP hS hl
  exact W.widen (Nat.le_trans (Nat.le_add_right _ _) h1) (Nat.le_trans (Nat.le_add_right _ _) h2) (hr _ n I P H locs ls pc hR hP hS ⟨hd, ty, hty, hnar⟩)
theorem ev_lret {x : Int64} (hd : decode M.2.1 pc = .ok (.lreturn, 1)) (hty : M.2.2.2 = some .long) (hR : R (some (.long x)) n I P) : zq_E G M d kc ks sc pc L [.long x] n I P R := by
  intro p l e Rm s m args below meth c Q H locs cells slots cE sE ls X hr h1 h2 h3 h4 hP hS hl
  exact W.widen (Nat.le_trans (Nat.le_add_right _ _) h1) (Nat.le_trans (Nat.le_add_right _ _) h2) (hr _ n I P H locs ls pc hR hP hS ⟨hd, hty⟩)
theorem ev_vret (hd : decode M.2.1 pc = .ok (.return_, 1)) (hty : M.2.2.2 = none) (hR : R none n I P) : zq_E G M d kc ks sc pc L [] n I P R := by
  intro p l e Rm s m args below meth c Q H locs cells slots cE sE ls X hr h1 h2 h3 h4 hP hS hl
  exact W.widen (Nat.le_trans (Nat.le_add_right _ _) h1) (Nat.le_trans (Nat.le_add_right _ _) h2) (hr _ n I P H locs ls pc hR hP hS ⟨hd, hty⟩)
end ROWS2
end
section
/-! contracts and calls of pure machines -/
def zq_Qc (G : zq_G) (R : zq_R) : Array Value → State → Outcome → State → Prop := fun _ st o t => (∃ (v : Option Value) (n' : Nat) (I' : zq_I) (P' : zq_P), o = .returned (v.map (zq_tv G)) ∧ R v n' I' P' ∧ zq_H G n' I' P' t.heap) ∧ va_F (zq_A G) st t
def zq_wsM (M : zq_M) : List Cond := Cond.code M.1 M.2.1 M.2.2.1 M.2.2.2 :: zq_T
def zq_rm (d mc ms : Nat) : Room := { frames := d, cells := mc, slots := ms, locals := 60 * d }
/-- the contract: with these arguments, from this state, M returns: R of its answer and the state behind it -/
def zq_Met (G : zq_G) (M : zq_M) (d mc ms : Nat) (As : List Value) (n : Nat) (I : zq_I) (P : zq_P) (R : zq_R) : Prop := ∀ l : Launch,
  Met l M.1 (zq_wsM M) (zq_rm d mc ms) (va_Pc (As.map (zq_tv G)) (fun U => zq_U G U ∧ zq_H G n I P U.heap)) (zq_Qc G R) mc ms (zq_A G)
/-- what the tables say of a method -/
def zq_ok (M : zq_M) (na : Nat) : Prop := Cond.code M.1 M.2.1 M.2.2.1 M.2.2.2 ∈ zq_T ∧ Cond.initialized M.1.cls ∈ zq_T ∧ (M.1.cls ≠ "java/lang/invoke/MethodHandle" ∧ M.1.cls ≠ "java/lang/invoke/VarHandle" ∧ (parseMethodDescriptor M.1.desc).map (fun d => d.parameters.length) = some na) ∧ plainName M.1.cls = true ∧ M.2.2.1 ≤ 41
theorem zq_GI {M : zq_M} {na : Nat} (h : zq_ok M na) : GoodIn zq_T (zq_wsM M) := by
  intro w hw
  have h1 : w ∈ zq_T := by
    rcases List.mem_cons.mp hw with rfl | hw
    · exact h.1
    · exact hw
  exact ⟨h1, good_of_word (zq_good h1)⟩
theorem zq_NWmoved {s U : State} (hW : s.WarmedH U.vm) (h : ∀ w ∈ zq_NW, w.before #[] s = true) : ∀ w ∈ zq_NW, w.before #[] U = true := by
  intro w hw
  have h1 := h w hw
  have h2 : zq_isN w = true := (List.mem_filter.mp hw).2
  unfold zq_isN at h2
  split at h2
  · exact va_Nw.warmM hW h1
  · exact va_AO.moved hW.alike h1
  · cases h2
theorem zq_Umoved {G : zq_G} {s U : State} (hW : s.WarmedH U.vm) (h : zq_U G s) : zq_U G U := ⟨va_K.moved hW.alike h.1, zq_NWmoved hW h.2⟩
theorem zq_NWsame {s U : State} (hW : s.vm = U.vm) (h : ∀ w ∈ zq_NW, w.before #[] s = true) : ∀ w ∈ zq_NW, w.before #[] U = true := by
  intro w hw
  have h1 := h w hw
  have h2 : zq_isN w = true := (List.mem_filter.mp hw).2
  unfold zq_isN at h2
  split at h2
  · exact va_Nw.same rfl hW h1
  · exact va_AO.moved (by rw [hW]; exact Vm.Alike.refl _) h1
  · cases h2
theorem zq_blind {G : zq_G} {As : List Value} {n : Nat} {I : zq_I} {P : zq_P} : FrameBlind (va_Pc (As.map (zq_tv G)) (fun U => zq_U G U ∧ zq_H G n I P U.heap)) := by
  intro a U g mk q
  obtain ⟨q0, ⟨q1, q2⟩, q3⟩ := q
  exact ⟨q0, ⟨va_K.moved (u := U) (U := U.calling g mk a) (Vm.Alike.refl U.vm) q1, zq_NWsame (s := U) (U := U.calling g mk a) rfl q2⟩, q3⟩
/-- behind a call -/
theorem zq_callw {G : zq_G} {R' : zq_R} {p : Program} {l : Launch} {e : Env} {Rm : Room} {s : State} {m : MethodId} {args : Array Value} {below : List Frame} {meth : Method} {c : Code} {Q : State → Prop} {H : Heap} {locs : List Loc} {cells slots mc ms pc : Nat} {ls : Array Slot} {st0 rest : List Value} {a : Array Value}
    (hr : va_Run p l e Rm s m args below meth c H locs cells slots mc ms (F0 m pc ls st0) (rest.map (zq_tv G)) (zq_Qc G R' a) (zq_A G)) (hS : va_S (zq_A G) s.heap H locs)
    (kk : ∀ (v : Option Value) (n' : Nat) (I' : zq_I) (P' : zq_P) (H1 : Heap) (locs1 : List Loc), R' v n' I' P' → zq_H G n' I' P' H1 → va_S (zq_A G) s.heap H1 locs1 → W p l e Rm s m args below meth c H1 locs1 (cells + mc) (slots + ms) Q (F0 m (pc + 3) ls ((v.toList ++ rest).map (zq_tv G)))) : W p l e Rm s m args below meth c H locs cells slots Q (F0 m pc ls st0) := by
  intro T hT X
  obtain ⟨v, st₀, t, T', L, h0, X', hL, e1, e2, ⟨⟨v', n', I', P', hv, hR, hP⟩, hz, hk⟩, st⟩ := hr T hT X
  cases hv
  rw [h0] at hz hk
  obtain ⟨t2, a1, b1⟩ := kk v' n' I' P' T'.heap (locs ++ L) hR (by rw [e1]; exact hP)
    ⟨Nat.le_trans hS.1 (by rw [e1]; exact hz), fun q h1 h2 => by rw [e1, hk q (Nat.lt_of_lt_of_le h1 hS.1) h2]; exact hS.2.1 q h1 h2, fun q hq => by
      rcases List.mem_append.mp hq with h | h
      · exact hS.2.2 q h
      · exact hL q h⟩ T' rfl X'
  refine ⟨t2, st t2 ?_, b1⟩
  have e : ((v'.toList ++ rest).map (zq_tv G)) = (v'.map (zq_tv G)).toList ++ rest.map (zq_tv G) := by
    cases v' <;> simp
  rw [e] at a1
  exact a1
theorem zq_cats (G : zq_G) (st : List Value) : ((st.map (zq_tv G)).map fun v => v.category) = st.map fun v => v.category := by
  induction st with
  | nil => rfl
  | cons a t ih => simp [zq_cat]
section CALLS
variable {G : zq_G} {M M' : zq_M} {d d' kc ks mc ms na : Nat} {sc : Bool} {pc q z : Nat} {L : List (Option Value)} {stk rest As : List Value} {n : Nat} {I : zq_I} {P : zq_P} {R R' : zq_R}
theorem zq_CallB {s : State} {args : Array Value} {Rm : Room} {p : Program} {m : MethodId} {meth : Method} {c : Code} (X : zq_X G M d sc p Rm s m args meth c) (hok : zq_ok M' na) (hlk : Cond.methodLink M.1.cls z M'.1 ∈ zq_T) (hd' : d' < d) :
    CallB Rm s args M.1.cls z M'.1 M'.2.1 M'.2.2.1 M'.2.2.2 (zq_wsM M') (zq_rm d' mc ms) mc ms na := by
  have hts := X.2.2.2.2.1
  have h1 := X.2.2.2.2.2.2.2.1
  have h2 := X.2.2.2.2.2.2.2.2.1
  have h3 := hok.2.2.2.2
  refine callB_of na hts (zq_GI hok) rfl rfl rfl (hts _ hok.2.1) (hts _ hlk) hok.2.2.1 ⟨?_, ?_⟩
  · show d' + 1 ≤ _; omega
  · show 8 + (_ + 11) + 60 * d' ≤ _; omega
theorem zq_sum (h : (rest.map fun v => v.category).sum ≤ 8) : ((rest.map (zq_tv G)).map fun v => v.category).sum ≤ 8 := by rw [zq_cats]; exact h
/-- a virtual call -/
theorem ev_callV {b ci : Nat} (hd : decode M.2.1 pc = .ok (.invokevirtual z, 3)) (hq : pc + 3 = q) (hok : zq_ok M' na) (hlk : Cond.methodLink M.1.cls z M'.1 ∈ zq_T) (hin : Cond.instanceMethod M'.1 ∈ zq_T) (hsel : Cond.selects M'.1.cls M'.1 M'.1 ∈ zq_T)
    (hk : zq_kd b = some (.inl ci)) (hbn : b < n) (hci : ci < 9) (hcl : (zq_cls ci).1 = M'.1.cls) (hM : zq_Met G M' d' mc ms (.ref b :: As) n I P R') (hd' : d' < d) (hlen : As.length = na) (hst : stk = As.reverse ++ .ref b :: rest) (hsm : (rest.map fun v => v.category).sum ≤ 8)
    (kk : ∀ (v : Option Value) (n' : Nat) (I' : zq_I) (P' : zq_P), R' v n' I' P' → zq_E G M d kc ks sc q L (v.toList ++ rest) n' I' P' R) : zq_E G M d (kc + mc) (ks + ms) sc pc L stk n I P R := by
  subst hq
  intro p l e Rm s m args below meth c Q H locs cells slots cE sE ls X hr h1 h2 h3 h4 hP hS hl
  have hts := X.2.2.2.2.1
  have hws := zq_ws_at (G := G) (I := I) (P := P) hbn
  rw [zq_ent_o hk] at hws
  refine zq_callw (rest := rest) (va_runV (As := As.map (zq_tv G)) (C := M'.1.cls) ⟨X.1, X.2.1, X.2.2.1, X.2.2.2.1, hts⟩ (hM l) ⟨zq_CallB X hok hlk hd', hts _ hin, hts _ hsel⟩
    ⟨zq_blind, by rw [← hcl]; exact va_recv X.2.2.2.2.2.1.1 hP.2.2 (zq_clat hci) hws, fun U hU hW => ⟨rfl, zq_Umoved hW X.2.2.2.2.2.1, by rw [hU]; exact hP⟩⟩ rfl (by rw [List.length_map]; exact hlen) hl.1 (by rw [hst]; simp [zq_tv]) (lv_room (zq_sum hsm)) hd ⟨by omega, by omega⟩) hS
    (fun v n' I' P' H1 locs1 hR hP1 hS1 => kk v n' I' P' hR p l e Rm s m args below meth c Q H1 locs1 _ _ cE sE ls X hr (by omega) (by omega) h3 h4 hP1 hS1 hl)
/-- a static call -/
theorem ev_callS (hd : decode M.2.1 pc = .ok (.invokestatic z, 3)) (hq : pc + 3 = q) (hok : zq_ok M' na) (hlk : Cond.methodLink M.1.cls z M'.1 ∈ zq_T) (hstat : Cond.static M'.1 ∈ zq_T)
    (hM : zq_Met G M' d' mc ms As n I P R') (hd' : d' < d) (hlen : As.length = na) (hst : stk = As.reverse ++ rest) (hsm : (rest.map fun v => v.category).sum ≤ 8)
    (kk : ∀ (v : Option Value) (n' : Nat) (I' : zq_I) (P' : zq_P), R' v n' I' P' → zq_E G M d kc ks sc q L (v.toList ++ rest) n' I' P' R) : zq_E G M d (kc + mc) (ks + ms) sc pc L stk n I P R := by
  subst hq
  intro p l e Rm s m args below meth c Q H locs cells slots cE sE ls X hr h1 h2 h3 h4 hP hS hl
  have hts := X.2.2.2.2.1
  refine zq_callw (rest := rest) (va_runS (As := As.map (zq_tv G)) ⟨X.1, X.2.1, X.2.2.1, X.2.2.2.1, hts⟩ (hM l) ⟨zq_CallB X hok hlk hd', hts _ hstat⟩
    ⟨zq_blind, fun U hU hW => ⟨rfl, zq_Umoved hW X.2.2.2.2.2.1, by rw [hU]; exact hP⟩⟩ rfl (by rw [List.length_map]; exact hlen) hl.1 (by rw [hst]; simp) (lv_room (zq_sum hsm)) hd ⟨by omega, by omega⟩) hS
    (fun v n' I' P' H1 locs1 hR hP1 hS1 => kk v n' I' P' hR p l e Rm s m args below meth c Q H1 locs1 _ _ cE sE ls X hr (by omega) (by omega) h3 h4 hP1 hS1 hl)
/-- a constructor's call -/
theorem ev_callI {b : Nat} (hd : decode M.2.1 pc = .ok (.invokespecial z, 3)) (hq : pc + 3 = q) (hok : zq_ok M' na) (hlk : Cond.methodLink M.1.cls z M'.1 ∈ zq_T) (hin : Cond.instanceMethod M'.1 ∈ zq_T) (hnm : M'.1.name = "<init>") (hrt : M'.2.2.2 = none)
    (hM : zq_Met G M' d' mc ms (.ref b :: As) n I P R') (hd' : d' < d) (hlen : As.length = na) (hst : stk = As.reverse ++ .ref b :: rest) (hsm : (rest.map fun v => v.category).sum ≤ 8)
    (kk : ∀ (v : Option Value) (n' : Nat) (I' : zq_I) (P' : zq_P), R' v n' I' P' → zq_E G M d kc ks sc q L (v.toList ++ rest) n' I' P' R) : zq_E G M d (kc + mc) (ks + ms) sc pc L stk n I P R := by
  subst hq
  intro p l e Rm s m args below meth c Q H locs cells slots cE sE ls X hr h1 h2 h3 h4 hP hS hl
  have hts := X.2.2.2.2.1
  have hB := zq_CallB (mc := mc) (ms := ms) X hok hlk hd'
  rw [hrt] at hB
  refine zq_callw (rest := rest) (va_runI (As := As.map (zq_tv G)) (b := zq_ad G b) ⟨X.1, X.2.1, X.2.2.1, X.2.2.2.1, hts⟩ (hM l) ⟨hB, hnm, hts _ hin⟩
    ⟨zq_blind, fun U hU hW => ⟨rfl, zq_Umoved hW X.2.2.2.2.2.1, by rw [hU]; exact hP⟩⟩ rfl (by rw [List.length_map]; exact hlen) hl.1 (by rw [hst]; simp [zq_tv]) (lv_room (zq_sum hsm)) hd ⟨by omega, by omega⟩) hS
    (fun v n' I' P' H1 locs1 hR hP1 hS1 => kk v n' I' P' hR p l e Rm s m args below meth c Q H1 locs1 _ _ cE sE ls X hr (by omega) (by omega) h3 h4 hP1 hS1 hl)
theorem zq_CallN {host : String} {s : State} {args : Array Value} {Rm : Room} {p : Program} {m : MethodId} {meth : Method} {c : Code} (X : zq_X G M d sc p Rm s m args meth c) (hok : zq_ok M' na) (hlk : Cond.methodLinkNest M.1.cls z M'.1 host ∈ zq_NW) (hd' : d' < d) :
    va_CN Rm s args M.1.cls z M'.1 host M'.2.1 M'.2.2.1 M'.2.2.2 (zq_wsM M') (zq_rm d' mc ms) mc ms na := by
  have hts := X.2.2.2.2.1
  have h1 := X.2.2.2.2.2.2.2.1
  have h2 := X.2.2.2.2.2.2.2.2.1
  have h3 := hok.2.2.2.2
  refine va_cnB na hts (zq_GI hok) rfl rfl rfl (X.2.2.2.2.2.1.2 _ hlk) (hts _ hok.2.1) hok.2.2.1 ⟨?_, ?_⟩
  · show d' + 1 ≤ _; omega
  · show 8 + (_ + 11) + 60 * d' ≤ _; omega
/-- a nest mate's static method -/
theorem ev_callSN {host : String} (hd : decode M.2.1 pc = .ok (.invokestatic z, 3)) (hq : pc + 3 = q) (hok : zq_ok M' na) (hlk : Cond.methodLinkNest M.1.cls z M'.1 host ∈ zq_NW) (hstat : Cond.static M'.1 ∈ zq_T)
    (hM : zq_Met G M' d' mc ms As n I P R') (hd' : d' < d) (hlen : As.length = na) (hst : stk = As.reverse ++ rest) (hsm : (rest.map fun v => v.category).sum ≤ 8)
    (kk : ∀ (v : Option Value) (n' : Nat) (I' : zq_I) (P' : zq_P), R' v n' I' P' → zq_E G M d kc ks sc q L (v.toList ++ rest) n' I' P' R) : zq_E G M d (kc + mc) (ks + ms) sc pc L stk n I P R := by
  subst hq
  intro p l e Rm s m args below meth c Q H locs cells slots cE sE ls X hr h1 h2 h3 h4 hP hS hl
  have hts := X.2.2.2.2.1
  refine zq_callw (rest := rest) (va_runSN (As := As.map (zq_tv G)) ⟨X.1, X.2.1, X.2.2.1, X.2.2.2.1, hts⟩ (hM l) ⟨zq_CallN X hok hlk hd', hts _ hstat, trivial⟩
    ⟨zq_blind, fun U hU hW => ⟨rfl, zq_Umoved hW X.2.2.2.2.2.1, by rw [hU]; exact hP⟩⟩ rfl (by rw [List.length_map]; exact hlen) hl.1 (by rw [hst]; simp) (lv_room (zq_sum hsm)) hd ⟨by omega, by omega⟩) hS
    (fun v n' I' P' H1 locs1 hR hP1 hS1 => kk v n' I' P' hR p l e Rm s m args below meth c Q H1 locs1 _ _ cE sE ls X hr (by omega) (by omega) h3 h4 hP1 hS1 hl)
/-- a nest mate's constructor -/
theorem ev_callIN {host : String} {b : Nat} (hd : decode M.2.1 pc = .ok (.invokespecial z, 3)) (hq : pc + 3 = q) (hok : zq_ok M' na) (hlk : Cond.methodLinkNest M.1.cls z M'.1 host ∈ zq_NW) (hin : Cond.instanceMethod M'.1 ∈ zq_T) (hnm : M'.1.name = "<init>") (hrt : M'.2.2.2 = none)
    (hM : zq_Met G M' d' mc ms (.ref b :: As) n I P R') (hd' : d' < d) (hlen : As.length = na) (hst : stk = As.reverse ++ .ref b :: rest) (hsm : (rest.map fun v => v.category).sum ≤ 8)
    (kk : ∀ (v : Option Value) (n' : Nat) (I' : zq_I) (P' : zq_P), R' v n' I' P' → zq_E G M d kc ks sc q L (v.toList ++ rest) n' I' P' R) : zq_E G M d (kc + mc) (ks + ms) sc pc L stk n I P R := by
  subst hq
  intro p l e Rm s m args below meth c Q H locs cells slots cE sE ls X hr h1 h2 h3 h4 hP hS hl
  have hts := X.2.2.2.2.1
  have hB := zq_CallN (mc := mc) (ms := ms) X hok hlk hd'
  rw [hrt] at hB
  refine zq_callw (rest := rest) (va_runIN (As := As.map (zq_tv G)) (b := zq_ad G b) ⟨X.1, X.2.1, X.2.2.1, X.2.2.2.1, hts⟩ (hM l) ⟨hB, hnm, hts _ hin⟩
    ⟨zq_blind, fun U hU hW => ⟨rfl, zq_Umoved hW X.2.2.2.2.2.1, by rw [hU]; exact hP⟩⟩ rfl (by rw [List.length_map]; exact hlen) hl.1 (by rw [hst]; simp [zq_tv]) (lv_room (zq_sum hsm)) hd ⟨by omega, by omega⟩) hS
    (fun v n' I' P' H1 locs1 hR hP1 hS1 => kk v n' I' P' hR p l e Rm s m args below meth c Q H1 locs1 _ _ cE sE ls X hr (by omega) (by omega) h3 h4 hP1 hS1 hl)
/-- Object's constructor -/
theorem ev_objInit {b : Nat} {st : List Value} (hd : decode M.2.1 pc = .ok (.invokespecial z, 3)) (hq : pc + 3 = q) (hlk : Cond.methodLink M.1.cls z objectInit ∈ zq_T) (hin : Cond.instanceMethod objectInit ∈ zq_T) (hcd : Cond.code objectInit ⟨#[0xb1]⟩ 1 none ∈ zq_T) (hd' : 0 < d) (hsm : (st.map fun v => v.category).sum ≤ 8)
    (k : zq_E G M d kc ks sc q L st n I P R) : zq_E G M d kc ks sc pc L (.ref b :: st) n I P R := by
  subst hq
  intro p l e Rm s m args below meth c Q H locs cells slots cE sE ls X hr h1 h2 h3 h4 hP hS hl
  have hts := X.2.2.2.2.1
  have g1 := X.2.2.2.2.2.2.2.1
  have g2 := X.2.2.2.2.2.2.2.2.1
  have g3 := zq_sum (G := G) hsm
  exact W.objInit X.1 X.2.1 X.2.2.2.1 (hts _ hlk) (hts _ hin) (hts _ hcd) rfl (by rw [X.2.2.1]; exact hl.1) rfl hd (by omega) (by show 2 * 0 + _ + 12 ≤ _; omega) (k p l e Rm s m args below meth c Q H locs cells slots cE sE ls X hr h1 h2 h3 h4 hP hS hl)
/-- Math's max, min, abs -/
theorem ev_maxI {x y : Int32} {st : List Value} (hd : decode M.2.1 pc = .ok (.invokestatic z, 3)) (hq : pc + 3 = q) (hlk : Cond.methodLink M.1.cls z Lib.Math.max.name ∈ zq_T) (hs : Cond.static Lib.Math.max.name ∈ zq_T) (hi : Cond.initialized "java/lang/Math" ∈ zq_T) (hcd : Cond.code Lib.Math.max.name Lib.Math.max.code 2 (some .int) ∈ zq_T) (hd' : 0 < d) (hsm : (st.map fun v => v.category).sum ≤ 8)
    (k : zq_E G M d kc ks sc q L (.int (if x < y then y else x) :: st) n I P R) : zq_E G M d kc ks sc pc L (.int y :: .int x :: st) n I P R := by
  subst hq
  intro p l e Rm s m args below meth c Q H locs cells slots cE sE ls X hr h1 h2 h3 h4 hP hS hl
  have hts := X.2.2.2.2.1
  have g1 := X.2.2.2.2.2.2.2.1
  have g2 := X.2.2.2.2.2.2.2.2.1
  have g3 := zq_sum (G := G) hsm
  exact va_mmax X.1 X.2.1 (by rw [X.2.2.1]; exact hl.1.symm) X.2.2.2.1 (hts _ hlk) (hts _ hs) (hts _ hi) (hts _ hcd) (by omega) (by omega) (by omega) (by omega) hd (k p l e Rm s m args below meth c Q H locs cells slots cE sE ls X hr h1 h2 h3 h4 hP hS hl)
theorem ev_minI {x y : Int32} {st : List Value} (hd : decode M.2.1 pc = .ok (.invokestatic z, 3)) (hq : pc + 3 = q) (hlk : Cond.methodLink M.1.cls z Lib.Math.min.name ∈ zq_T) (hs : Cond.static Lib.Math.min.name ∈ zq_T) (hi : Cond.initialized "java/lang/Math" ∈ zq_T) (hcd : Cond.code Lib.Math.min.name Lib.Math.min.code 2 (some .int) ∈ zq_T) (hd' : 0 < d) (hsm : (st.map fun v => v.category).sum ≤ 8)
    (k : zq_E G M d kc ks sc q L (.int (if y < x then y else x) :: st) n I P R) : zq_E G M d kc ks sc pc L (.int y :: .int x :: st) n I P R := by
  subst hq
  intro p l e Rm s m args below meth c Q H locs cells slots cE sE ls X hr h1 h2 h3 h4 hP hS hl
  have hts := X.2.2.2.2.1
  have g1 := X.2.2.2.2.2.2.2.1
  have g2 := X.2.2.2.2.2.2.2.2.1
  have g3 := zq_sum (G := G) hsm
  exact va_mmin X.1 X.2.1 (by rw [X.2.2.1]; exact hl.1.symm) X.2.2.2.1 (hts _ hlk) (hts _ hs) (hts _ hi) (hts _ hcd) (by omega) (by omega) (by omega) (by omega) hd (k p l e Rm s m args below meth c Q H locs cells slots cE sE ls X hr h1 h2 h3 h4 hP hS hl)
theorem ev_absI {x : Int32} {st : List Value} (hd : decode M.2.1 pc = .ok (.invokestatic z, 3)) (hq : pc + 3 = q) (hlk : Cond.methodLink M.1.cls z Lib.Math.abs.name ∈ zq_T) (hs : Cond.static Lib.Math.abs.name ∈ zq_T) (hi : Cond.initialized "java/lang/Math" ∈ zq_T) (hcd : Cond.code Lib.Math.abs.name Lib.Math.abs.code 1 (some .int) ∈ zq_T) (hd' : 0 < d) (hsm : (st.map fun v => v.category).sum ≤ 8)
    (k : zq_E G M d kc ks sc q L (.int (if 0 ≤ x then x else 0 - x) :: st) n I P R) : zq_E G M d kc ks sc pc L (.int x :: st) n I P R := by
  subst hq
  intro p l e Rm s m args below meth c Q H locs cells slots cE sE ls X hr h1 h2 h3 h4 hP hS hl
  have hts := X.2.2.2.2.1
  have g1 := X.2.2.2.2.2.2.2.1
  have g2 := X.2.2.2.2.2.2.2.2.1
  have g3 := zq_sum (G := G) hsm
  exact va_mabs X.1 X.2.1 (by rw [X.2.2.1]; exact hl.1.symm) X.2.2.2.1 (hts _ hlk) (hts _ hs) (hts _ hi) (hts _ hcd) (by omega) (by omega) (by omega) (by omega) hd (k p l e Rm s m args below meth c Q H locs cells slots cE sE ls X hr h1 h2 h3 h4 hP hS hl)
theorem ev_maxL {x y : Int64} {st : List Value} (hd : decode M.2.1 pc = .ok (.invokestatic z, 3)) (hq : pc + 3 = q) (hlk : Cond.methodLink M.1.cls z Lib.MathLoose.max_long.x ∈ zq_T) (hs : Cond.static Lib.MathLoose.max_long.x ∈ zq_T) (hi : Cond.initialized "java/lang/Math" ∈ zq_T) (hcd : Cond.code Lib.MathLoose.max_long.x Lib.MathLoose.max_long.code 4 (some .long) ∈ zq_T) (hd' : 0 < d) (hsm : (st.map fun v => v.category).sum ≤ 8)
    (k : zq_E G M d kc ks sc q L (.long (if y < x then x else y) :: st) n I P R) : zq_E G M d kc ks sc pc L (.long y :: .long x :: st) n I P R := by
  subst hq
  intro p l e Rm s m args below meth c Q H locs cells slots cE sE ls X hr h1 h2 h3 h4 hP hS hl
  have hts := X.2.2.2.2.1
  have g1 := X.2.2.2.2.2.2.2.1
  have g2 := X.2.2.2.2.2.2.2.2.1
  have g3 := zq_sum (G := G) hsm
  exact va_mmax_long X.1 X.2.1 (by rw [X.2.2.1]; exact hl.1.symm) X.2.2.2.1 (hts _ hlk) (hts _ hs) (hts _ hi) (hts _ hcd) (by omega) (by omega) (by omega) (by omega) hd (k p l e Rm s m args below meth c Q H locs cells slots cE sE ls X hr h1 h2 h3 h4 hP hS hl)
end CALLS
/-! a contract out of a walk -/
def zq_L0 (nL : Nat) (As : List Value) : List (Option Value) := (As.flatMap fun v => if v.category = 2 then [some v, none] else [some v]) ++ List.replicate (nL - (As.flatMap fun v => if v.category = 2 then [some v, none] else [some v]).length) none
theorem zq_as_app (G : zq_G) : ∀ (a b : List (Option Value)) (k : Nat), zq_as G k (a ++ b) = zq_as G k a ++ zq_as G (k + a.length) b := by
  intro a
  induction a with
  | nil => intro b k; simp [zq_as]
  | cons x t ih =>
    intro b k
    cases x with
    | none => simp only [List.cons_append, zq_as, ih]; congr 2; simp; omega
    | some v => simp only [List.cons_append, zq_as, ih]; congr 3; simp; omega
theorem zq_as_none (G : zq_G) : ∀ (j k : Nat), zq_as G k (List.replicate j none) = [] := by
  intro j
  induction j with
  | zero => intro k; rfl
  | succ j ih => intro k; simp only [List.replicate_succ, zq_as]; exact ih _
theorem zq_as_args (G : zq_G) : ∀ (As : List Value) (k : Nat), zq_as G k (As.flatMap fun v => if v.category = 2 then [some v, none] else [some v]) = lv_args k (As.map (zq_tv G)) := by
  intro As
  induction As with
  | nil => intro k; rfl
  | cons v t ih =>
    intro k
    rw [List.flatMap_cons, zq_as_app, ih, List.map_cons]
    by_cases h : v.category = 2
    · simp [h, zq_as, lv_args, zq_cat]
    · simp [h, zq_as, lv_args, zq_cat]
theorem zq_slen (G : zq_G) (As : List Value) : (lg_sl (As.map (zq_tv G))).length = (As.flatMap fun v => if v.category = 2 then [some v, none] else [some v]).length := by
  induction As with
  | nil => rfl
  | cons v t ih =>
    rw [List.map_cons, List.flatMap_cons, List.length_append, ← ih]
    by_cases h : v.category = 2
    · simp [lg_sl, h, zq_cat]; omega
    · simp [lg_sl, h, zq_cat]; omega
theorem zq_Met.of {G : zq_G} {M : zq_M} {d mc ms na : Nat} {As : List Value} {n : Nat} {I : zq_I} {P : zq_P} {R : zq_R} (hok : zq_ok M na) (hlen : (As.flatMap fun v => if v.category = 2 then [some v, none] else [some v]).length ≤ M.2.2.1)
    (body : zq_E G M d mc ms false 0 (zq_L0 M.2.2.1 As) [] n I P R) : zq_Met G M d mc ms As n I P R := by
  intro l
  refine Met.ofW (cc := M.2.1) (maxL := M.2.2.1) (ret := M.2.2.2) hok.2.2.2.1 rfl ?_
  intro p e s m args below meth c s₁ B hml hv
  obtain ⟨rfl, hU, hH⟩ := hv
  have hts0 := atoms_spec (ws := zq_wsM M) B.pre
  have hts : ∀ w ∈ zq_T, w.before (As.map (zq_tv G)).toArray s = true := fun w h => hts0 w (List.mem_cons_of_mem _ h)
  have hl := lv_entry (As.map (zq_tv G)) (n := M.2.2.1) (by rw [zq_slen]; exact hlen)
  rw [lg_entry_eq]
  generalize (lg_sl (As.map (zq_tv G)) ++ List.replicate (M.2.2.1 - (lg_sl (As.map (zq_tv G))).length) Slot.unset).toArray = ls at hl ⊢
  have hl2 : lv_has ls M.2.2.1 (zq_as G 0 (zq_L0 M.2.2.1 As)) := by
    unfold zq_L0
    rw [zq_as_app, zq_as_none, zq_as_args, List.append_nil]
    exact hl
  have hin : meth.name = M.1.name := (name_of_methodNamed B.named B.method).1
  refine body p l e _ s m _ below meth c _ s.heap [] 0 0 mc ms ls ⟨B.exec, B.bytes, hml, findClass_of_methodNamed B.named, hts, hU, by rw [hH.1]; omega, Nat.le_refl _, Nat.le_refl _, fun h => by (cases h), hin⟩ ?_ (by omega) (by omega) (Nat.le_refl _) (Nat.le_refl _) hH va_S.rf hl2
  intro v n' I' P' H' locs' ls' pc' hR hP' hS' hrt
  have hlocks := B.notSynchronized
  have hq : ∀ t : State, t.heap = H' → zq_Qc G R (As.map (zq_tv G)).toArray s (.returned (v.map (zq_tv G))) t := fun t ht => ⟨⟨v, n', I', P', rfl, hR, by rw [ht]; exact hP'⟩, hS'.F ht⟩
  cases v with
  | none => exact W.vret B.exec B.bytes (by rw [B.returns]; exact hrt.2) (fun t ht _ => hq t ht) hS'.2.2 hrt.1 hlocks
  | some v =>
    cases v with
    | int x =>
      obtain ⟨h1, ty, h2, h3⟩ := hrt
      exact W.zret (ty := ty) B.exec B.bytes (by rw [B.returns]; exact h2) h3 (fun t ht _ => hq t ht) hS'.2.2 h1 hlocks
    | long x => exact W.lret B.exec B.bytes (by rw [B.returns]; exact hrt.2) (fun t ht _ => hq t ht) hS'.2.2 hrt.1 hlocks
    | _ => exact False.elim hrt
/-- locals may be forgotten, answers may be said more weakly -/
def zq_le : List (Option Value) → List (Option Value) → Prop
  | [], _ => True
  | none :: a, _ :: b => zq_le a b
  | none :: a, [] => zq_le a []
  | some v :: a, w :: b => w = some v ∧ zq_le a b
  | some _ :: _, [] => False
theorem zq_le_at : ∀ (A B : List (Option Value)) (i : Nat) (v : Value), zq_le A B → A[i]? = some (some v) → B[i]? = some (some v) := by
  intro A
  induction A with
  | nil => intro B i v _ h; simp at h
  | cons a t ih =>
    intro B i v h hi
    cases a with
    | none =>
      cases i with
      | zero => simp at hi
      | succ i =>
        cases B with
        | nil =>
          have h0 : t[i]? = some (some v) := by simpa using hi
          have := ih [] i v h h0
          simp at this
        | cons b bs => simpa using ih bs i v h (by simpa using hi)
    | some w =>
      cases B with
      | nil => exact False.elim h
      | cons b bs =>
        obtain ⟨h1, h2⟩ := h
        cases i with
        | zero => simp at hi ⊢; rw [h1, hi]
        | succ i => simpa using ih bs i v h2 (by simpa using hi)
theorem ev_wk {G : zq_G} {M : zq_M} {d kc ks : Nat} {sc : Bool} {pc : Nat} {L L' : List (Option Value)} {st : List Value} {n : Nat} {I : zq_I} {P : zq_P} {R : zq_R} (h : zq_le L' L) (k : zq_E G M d kc ks sc pc L' st n I P R) : zq_E G M d kc ks sc pc L st n I P R := by
  intro p l e Rm s m args below meth c Q H locs cells slots cE sE ls X hr h1 h2 h3 h4 hP hS hl
  refine k p l e Rm s m args below meth c Q H locs cells slots cE sE ls X hr h1 h2 h3 h4 hP hS (zq_less hl ?_)
  intro q hq
  obtain ⟨i, v, g1, g2⟩ := (zq_as_mem G L' 0 q).mp hq
  exact (zq_as_mem G L 0 q).mpr ⟨i, v, zq_le_at L' L i v h g1, g2⟩
theorem ev_post {G : zq_G} {M : zq_M} {d kc ks : Nat} {sc : Bool} {pc : Nat} {L : List (Option Value)} {st : List Value} {n : Nat} {I : zq_I} {P : zq_P} {R R' : zq_R} (h : ∀ v n' I' P', R' v n' I' P' → R v n' I' P') (k : zq_E G M d kc ks sc pc L st n I P R') : zq_E G M d kc ks sc pc L st n I P R := by
  intro p l e Rm s m args below meth c Q H locs cells slots cE sE ls X hr h1 h2 h3 h4 hP hS hl
  exact k p l e Rm s m args below meth c Q H locs cells slots cE sE ls X (fun v n' I' P' H' locs' ls' pc' hR => hr v n' I' P' H' locs' ls' pc' (h _ _ _ _ hR)) h1 h2 h3 h4 hP hS hl
theorem ev_room {G : zq_G} {M : zq_M} {d kc ks kc' ks' : Nat} {sc : Bool} {pc : Nat} {L : List (Option Value)} {st : List Value} {n : Nat} {I : zq_I} {P : zq_P} {R : zq_R} (h1 : kc ≤ kc') (h2 : ks ≤ ks') (k : zq_E G M d kc ks sc pc L st n I P R) : zq_E G M d kc' ks' sc pc L st n I P R := by
  intro p l e Rm s m args below meth c Q H locs cells slots cE sE ls X hr g1 g2 h3 h4 hP hS hl
  exact k p l e Rm s m args below meth c Q H locs cells slots cE sE ls X hr (by omega) (by omega) h3 h4 hP hS hl
end
section
/-! what is made: the next cell's number is how many there are -/
theorem zq_dflt : ∀ ci, ci < 9 → ∀ j, j < (zq_cls ci).2.2 → defaultValue (zq_ty ci j) = if zq_isr ci j = true then Value.null else Value.int 0 := by decide +kernel
theorem zq_RAof {G : zq_G} {s : State} {t : Nat} {cA : ClassId} (hK : va_K G.1 vwCl (zq_tys G) s) (ht : t < 3) (h : s.vm.findClass ("[" ++ (zq_tt t).toString) = some cA) : cA = G.2.1 t := by
  have h1 := (hK.2 t _ (zq_tysat (by omega))).2
  rcases (by omega : t = 0 ∨ t = 1 ∨ t = 2) with rfl | rfl | rfl
  · exact Option.some.inj (h.symm.trans h1)
  · exact Option.some.inj (h.symm.trans h1)
  · exact Option.some.inj (h.symm.trans h1)
section ALLOC
variable {G : zq_G} {M : zq_M} {d kc ks : Nat} {sc : Bool} {pc q z : Nat} {L : List (Option Value)} {st : List Value} {n : Nat} {I : zq_I} {P : zq_P} {R : zq_R}
theorem zq_pushed {H H1 : Heap} {s : State} {locs : List Loc} (hP : zq_H G n I P H) (hS : va_S (zq_A G) s.heap H locs) (hn : n + 1 ≤ 1000) (z1 : H1.size = H.size + 1) (o1 : ∀ q, q < H.size → H1[q]? = H[q]?) (ha : va_at G.1 vwCl (H.size, zq_ent G I P n) H1) : zq_H G (n + 1) I P H1 ∧ va_S (zq_A G) s.heap H1 locs := by
  have had : zq_ad G n = H.size := by
    rw [zq_adlt (show n < n + 1 by omega) hn, hP.1]
  refine ⟨⟨by rw [z1, hP.1]; omega, hn, ?_⟩, ⟨Nat.le_trans hS.1 (by omega), fun x h1 h2 => (o1 x (Nat.lt_of_lt_of_le h1 hS.1)).trans (hS.2.1 x h1 h2), hS.2.2⟩⟩
  rw [zq_ws_push, had]
  refine (hP.2.2.kept (fun k x hx => o1 x.1 ((hP.2.2 k x hx).lt))).app (fun k x hx => ?_)
  have hz : k < 1 := (List.getElem?_eq_some_iff.mp hx).1
  rw [show k = 0 by omega] at hx
  cases hx
  exact ha
theorem ev_new {ci : Nat} (hd : decode M.2.1 pc = .ok (.new z, 3)) (hq : pc + 3 = q) (hk : zq_kd n = some (.inl ci)) (hci : ci < 9) (hcl : Cond.classLink M.1.cls z (zq_cls ci).1 ∈ zq_T) (hinst : Cond.instantiable (zq_cls ci).1 (zq_cls ci).2.2 ∈ zq_T) (hini : Cond.initialized (zq_cls ci).1 ∈ zq_T)
    (hn : n + 1 ≤ 1000) (hI : ∀ f, I n f = 0) (hPn : ∀ f, P n f = none) (k : zq_E G M d kc ks sc q L (.ref n :: st) (n + 1) I P R) : zq_E G M d (kc + 1) (ks + (zq_cls ci).2.2) sc pc L st n I P R := by
  subst hq
  intro p l e Rm s m args below meth c Q H locs cells slots cE sE ls X hr h1 h2 h3 h4 hP hS hl
  have hts := X.2.2.2.2.1
  have hKn := X.2.2.2.2.2.1.1.1 ci _ (zq_clat hci)
  refine W.newcK X.1 X.2.1 X.2.2.2.1 (hts _ hcl) (hts _ hinst) (hts _ hini) rfl hd (by omega) (by omega) hKn.2.1 rfl fun H1 kC hkC e1 z1 o1 => ?_
  obtain ⟨hP1, hS1⟩ := zq_pushed hP hS hn z1 o1 (by
    rw [zq_ent_o hk]
    refine ⟨_, zq_clat hci, (u_born (zq_ty ci) hts (zq_in ci hci) hKn hkC e1 (zq_tyok ci hci)).to (fun j hj => ?_)⟩
    show _ = (zq_fs G I P n ci).getD j .null
    rw [List.getD_eq_getElem?_getD, zq_fs_at hj, zq_dflt ci hci j hj, hI, hPn]
    rfl)
  have had : zq_ad G n = H.size := by rw [zq_adlt (show n < n + 1 by omega) hn, hP.1]
  have hk9 := k p l e Rm s m args below meth c Q H1 locs (cells + 1) (slots + (zq_cls ci).2.2) cE sE ls X hr (by omega) (by omega) h3 h4 hP1 hS1 hl
  simp only [List.map_cons, zq_tv, had] at hk9
  exact hk9
theorem ev_newarr {t N : Nat} {at' : ArrayType} {x : Int32} (hd : decode M.2.1 pc = .ok (.newarray at', 2)) (hq : pc + 2 = q) (hk : zq_kd n = some (.inr (t, N))) (ht : t < 3) (hty : newarray.typeOf at' = zq_tt t) (harr : Cond.arrayClass (zq_tt t) ∈ zq_T) (hx : ¬ x < 0) (hN : x.toNatClampNeg = N) (hN2 : N ≤ 1000)
    (hn : n + 1 ≤ 1000) (hI : ∀ f, I n f = 0) (k : zq_E G M d kc ks sc q L (.ref n :: st) (n + 1) I P R) : zq_E G M d (kc + 1) (ks + N) sc pc L (.int x :: st) n I P R := by
  subst hq
  intro p l e Rm s m args below meth c Q H locs cells slots cE sE ls X hr h1 h2 h3 h4 hP hS hl
  have hts := X.2.2.2.2.1
  have hcb : componentBytes (zq_tt t) ≤ 4 := by rcases (by omega : t = 0 ∨ t = 1 ∨ t = 2) with rfl | rfl | rfl <;> decide
  have hdv : defaultValue (zq_tt t) = .int 0 := by rcases (by omega : t = 0 ∨ t = 1 ∨ t = 2) with rfl | rfl | rfl <;> rfl
  refine va_newaK X.1 X.2.1 (atype := at') (by rw [hty]; exact hts _ harr) rfl hd rfl hx hN (by rw [hty]; exact Nat.le_trans (Nat.mul_le_mul hN2 hcb) (by decide)) (by omega) (by omega) rfl fun H1 cA e1 z1 o1 hAr hNm => ?_
  rw [hty] at hNm e1
  have hcA := zq_RAof X.2.2.2.2.2.1.1 ht hNm
  obtain ⟨hP1, hS1⟩ := zq_pushed hP hS hn z1 o1 (by
    rw [zq_ent_i hk (by omega)]
    show H1[H.size]? = some (vp_cell _ _)
    rw [e1, hcA, vp_cell_i, hdv]
    congr 2
    funext j
    rw [hI])
  have had : zq_ad G n = H.size := by rw [zq_adlt (show n < n + 1 by omega) hn, hP.1]
  have hk9 := k p l e Rm s m args below meth c Q H1 locs (cells + 1) (slots + N) cE sE ls X hr (by omega) (by omega) h3 h4 hP1 hS1 hl
  simp only [List.map_cons, zq_tv, had] at hk9
  exact hk9
theorem ev_anew {N : Nat} {x : Int32} (hd : decode M.2.1 pc = .ok (.anewarray z, 3)) (hq : pc + 3 = q) (hk : zq_kd n = some (.inr (3, N))) (hcl : Cond.classLink M.1.cls z RX6 ∈ zq_T) (hov : Cond.arrayOver (.object RX6) ∈ zq_NW) (hx : ¬ x < 0) (hN : x.toNatClampNeg = N) (hN2 : N ≤ 1000)
    (hn : n + 1 ≤ 1000) (hPn : ∀ f, P n f = none) (k : zq_E G M d kc ks sc q L (.ref n :: st) (n + 1) I P R) : zq_E G M d (kc + 1) (ks + N) sc pc L (.int x :: st) n I P R := by
  subst hq
  subst hN
  intro p l e Rm s m args below meth c Q H locs cells slots cE sE ls X hr h1 h2 h3 h4 hP hS hl
  have hts := X.2.2.2.2.1
  refine W.anew X.1 X.2.1 X.2.2.2.1 (hts _ hcl) (va_AO.use (C := RX6) (X.2.2.2.2.2.1.2 _ hov)) rfl hd rfl hx (Nat.le_trans (Nat.mul_le_mul_right 4 hN2) (by decide)) (by omega) (by omega) fun cA kA comp f1 f2 f3 f4 => ?_
  generalize hH1 : H.push ({ cls := cA, slots := Array.replicate x.toNatClampNeg .null, vm := .none } : Cell) = H1
  have z1 : H1.size = H.size + 1 := by rw [← hH1, Array.size_push]
  have e1 : H1[H.size]? = some (arrV cA x.toNatClampNeg (fun _ => .null)) := by rw [← hH1, Array.getElem?_push_size, ← arrV_new]
  have o1 : ∀ q : Nat, q < H.size → H1[q]? = H[q]? := fun q hq => by rw [← hH1, Array.getElem?_push, if_neg (Nat.ne_of_lt hq)]
  obtain ⟨-, kA', comp', k1, k2, k3, k4⟩ := X.2.2.2.2.2.1.1.2 3 _ (zq_tysat (by decide))
  have hcA : cA = G.2.1 3 := Option.some.inj (f1.symm.trans k4)
  obtain ⟨hP1, hS1⟩ := zq_pushed hP hS hn z1 o1 (by
    rw [zq_ent_q hk]
    show H1[H.size]? = some (vp_cell _ _)
    rw [e1, hcA, vp_cell_q]
    congr 2
    funext j
    rw [hPn]
    rfl)
  have had : zq_ad G n = H.size := by rw [zq_adlt (show n < n + 1 by omega) hn, hP.1]
  have hk9 := k p l e Rm s m args below meth c Q H1 locs (cells + 1) (slots + x.toNatClampNeg) cE sE ls X hr (by omega) (by omega) h3 h4 hP1 hS1 hl
  simp only [List.map_cons, zq_tv, had] at hk9
  exact hk9
end ALLOC
end
section
theorem iniRL : Cond.initialized RL ∈ zq_T := zq_mem (List.mem_of_getElem? (i := 48) (by decide +kernel)) (by decide +kernel)
theorem iniRX7 : Cond.initialized RX7 ∈ zq_T := zq_mem (List.mem_of_getElem? (i := 49) (by decide +kernel)) (by decide +kernel)
theorem iniRX4 : Cond.initialized RX4 ∈ zq_T := zq_mem (List.mem_of_getElem? (i := 50) (by decide +kernel)) (by decide +kernel)
theorem iniRX2 : Cond.initialized RX2 ∈ zq_T := zq_mem (List.mem_of_getElem? (i := 51) (by decide +kernel)) (by decide +kernel)
theorem iniRX5 : Cond.initialized RX5 ∈ zq_T := zq_mem (List.mem_of_getElem? (i := 52) (by decide +kernel)) (by decide +kernel)
theorem iniRX3 : Cond.initialized RX3 ∈ zq_T := zq_mem (List.mem_of_getElem? (i := 53) (by decide +kernel)) (by decide +kernel)
theorem iniRX1 : Cond.initialized RX1 ∈ zq_T := zq_mem (List.mem_of_getElem? (i := 54) (by decide +kernel)) (by decide +kernel)
theorem iniRX6 : Cond.initialized RX6 ∈ zq_T := zq_mem (List.mem_of_getElem? (i := 55) (by decide +kernel)) (by decide +kernel)
theorem iniRX0 : Cond.initialized RX0 ∈ zq_T := zq_mem (List.mem_of_getElem? (i := 56) (by decide +kernel)) (by decide +kernel)
theorem iniRX8 : Cond.initialized RX8 ∈ zq_T := zq_mem (List.mem_of_getElem? (i := 57) (by decide +kernel)) (by decide +kernel)
theorem iniRJ6 : Cond.initialized RJ6 ∈ zq_T := zq_mem (List.mem_of_getElem? (i := 58) (by decide +kernel)) (by decide +kernel)
theorem iniRJ9 : Cond.initialized RJ9 ∈ zq_T := zq_mem (List.mem_of_getElem? (i := 59) (by decide +kernel)) (by decide +kernel)
abbrev mX0_init : zq_M := (yX0_init, cX0_init, 1, none)
theorem okX0_init : zq_ok mX0_init 0 := ⟨zq_mem (List.mem_of_getElem? (i := 188) (by decide +kernel)) (by decide +kernel), iniRX0, by decide +kernel, by decide +kernel, by decide⟩
theorem imX0_init : Cond.instanceMethod yX0_init ∈ zq_T := zq_mem (List.mem_of_getElem? (i := 187) (by decide +kernel)) (by decide +kernel)
abbrev mX0_clear : zq_M := (yX0_clear, cX0_clear, 1, none)
theorem okX0_clear : zq_ok mX0_clear 0 := ⟨zq_mem (List.mem_of_getElem? (i := 310) (by decide +kernel)) (by decide +kernel), iniRX0, by decide +kernel, by decide +kernel, by decide⟩
theorem imX0_clear : Cond.instanceMethod yX0_clear ∈ zq_T := zq_mem (List.mem_of_getElem? (i := 308) (by decide +kernel)) (by decide +kernel)
theorem seX0_clear : Cond.selects RX0 yX0_clear yX0_clear ∈ zq_T := zq_mem (List.mem_of_getElem? (i := 309) (by decide +kernel)) (by decide +kernel)
abbrev mX0_hasTown : zq_M := (yX0_hasTown, cX0_hasTown, 2, (some .boolean))
theorem okX0_hasTown : zq_ok mX0_hasTown 1 := ⟨zq_mem (List.mem_of_getElem? (i := 335) (by decide +kernel)) (by decide +kernel), iniRX0, by decide +kernel, by decide +kernel, by decide⟩
theorem imX0_hasTown : Cond.instanceMethod yX0_hasTown ∈ zq_T := zq_mem (List.mem_of_getElem? (i := 333) (by decide +kernel)) (by decide +kernel)
theorem seX0_hasTown : Cond.selects RX0 yX0_hasTown yX0_hasTown ∈ zq_T := zq_mem (List.mem_of_getElem? (i := 334) (by decide +kernel)) (by decide +kernel)
abbrev mX0_hasPerson : zq_M := (yX0_hasPerson, cX0_hasPerson, 2, (some .boolean))
theorem okX0_hasPerson : zq_ok mX0_hasPerson 1 := ⟨zq_mem (List.mem_of_getElem? (i := 347) (by decide +kernel)) (by decide +kernel), iniRX0, by decide +kernel, by decide +kernel, by decide⟩
theorem imX0_hasPerson : Cond.instanceMethod yX0_hasPerson ∈ zq_T := zq_mem (List.mem_of_getElem? (i := 345) (by decide +kernel)) (by decide +kernel)
theorem seX0_hasPerson : Cond.selects RX0 yX0_hasPerson yX0_hasPerson ∈ zq_T := zq_mem (List.mem_of_getElem? (i := 346) (by decide +kernel)) (by decide +kernel)
abbrev mX0_mayAddPair : zq_M := (yX0_mayAddPair, cX0_mayAddPair, 1, (some .boolean))
theorem okX0_mayAddPair : zq_ok mX0_mayAddPair 0 := ⟨zq_mem (List.mem_of_getElem? (i := 327) (by decide +kernel)) (by decide +kernel), iniRX0, by decide +kernel, by decide +kernel, by decide⟩
theorem imX0_mayAddPair : Cond.instanceMethod yX0_mayAddPair ∈ zq_T := zq_mem (List.mem_of_getElem? (i := 325) (by decide +kernel)) (by decide +kernel)
theorem seX0_mayAddPair : Cond.selects RX0 yX0_mayAddPair yX0_mayAddPair ∈ zq_T := zq_mem (List.mem_of_getElem? (i := 326) (by decide +kernel)) (by decide +kernel)
abbrev mX0_mayAskMore : zq_M := (yX0_mayAskMore, cX0_mayAskMore, 2, (some .boolean))
theorem okX0_mayAskMore : zq_ok mX0_mayAskMore 1 := ⟨zq_mem (List.mem_of_getElem? (i := 343) (by decide +kernel)) (by decide +kernel), iniRX0, by decide +kernel, by decide +kernel, by decide⟩
theorem imX0_mayAskMore : Cond.instanceMethod yX0_mayAskMore ∈ zq_T := zq_mem (List.mem_of_getElem? (i := 341) (by decide +kernel)) (by decide +kernel)
theorem seX0_mayAskMore : Cond.selects RX0 yX0_mayAskMore yX0_mayAskMore ∈ zq_T := zq_mem (List.mem_of_getElem? (i := 342) (by decide +kernel)) (by decide +kernel)
abbrev mX0_mayAsk : zq_M := (yX0_mayAsk, cX0_mayAsk, 3, (some .boolean))
theorem okX0_mayAsk : zq_ok mX0_mayAsk 2 := ⟨zq_mem (List.mem_of_getElem? (i := 357) (by decide +kernel)) (by decide +kernel), iniRX0, by decide +kernel, by decide +kernel, by decide⟩
theorem imX0_mayAsk : Cond.instanceMethod yX0_mayAsk ∈ zq_T := zq_mem (List.mem_of_getElem? (i := 355) (by decide +kernel)) (by decide +kernel)
theorem seX0_mayAsk : Cond.selects RX0 yX0_mayAsk yX0_mayAsk ∈ zq_T := zq_mem (List.mem_of_getElem? (i := 356) (by decide +kernel)) (by decide +kernel)
abbrev mX0_ofHome : zq_M := (yX0_ofHome, cX0_ofHome, 4, (some .int))
theorem okX0_ofHome : zq_ok mX0_ofHome 1 := ⟨zq_mem (List.mem_of_getElem? (i := 433) (by decide +kernel)) (by decide +kernel), iniRX0, by decide +kernel, by decide +kernel, by decide⟩
theorem imX0_ofHome : Cond.instanceMethod yX0_ofHome ∈ zq_T := zq_mem (List.mem_of_getElem? (i := 431) (by decide +kernel)) (by decide +kernel)
theorem seX0_ofHome : Cond.selects RX0 yX0_ofHome yX0_ofHome ∈ zq_T := zq_mem (List.mem_of_getElem? (i := 432) (by decide +kernel)) (by decide +kernel)
abbrev mX0_namesOf : zq_M := (yX0_namesOf, cX0_namesOf, 4, (some .int))
theorem okX0_namesOf : zq_ok mX0_namesOf 1 := ⟨zq_mem (List.mem_of_getElem? (i := 459) (by decide +kernel)) (by decide +kernel), iniRX0, by decide +kernel, by decide +kernel, by decide⟩
theorem imX0_namesOf : Cond.instanceMethod yX0_namesOf ∈ zq_T := zq_mem (List.mem_of_getElem? (i := 457) (by decide +kernel)) (by decide +kernel)
theorem seX0_namesOf : Cond.selects RX0 yX0_namesOf yX0_namesOf ∈ zq_T := zq_mem (List.mem_of_getElem? (i := 458) (by decide +kernel)) (by decide +kernel)
abbrev mX1_init : zq_M := (yX1_init, cX1_init, 2, none)
theorem okX1_init : zq_ok mX1_init 0 := ⟨zq_mem (List.mem_of_getElem? (i := 142) (by decide +kernel)) (by decide +kernel), iniRX1, by decide +kernel, by decide +kernel, by decide⟩
theorem imX1_init : Cond.instanceMethod yX1_init ∈ zq_T := zq_mem (List.mem_of_getElem? (i := 141) (by decide +kernel)) (by decide +kernel)
abbrev mX1_size : zq_M := (yX1_size, cX1_size, 1, (some .int))
theorem okX1_size : zq_ok mX1_size 0 := ⟨zq_mem (List.mem_of_getElem? (i := 415) (by decide +kernel)) (by decide +kernel), iniRX1, by decide +kernel, by decide +kernel, by decide⟩
theorem imX1_size : Cond.instanceMethod yX1_size ∈ zq_T := zq_mem (List.mem_of_getElem? (i := 413) (by decide +kernel)) (by decide +kernel)
theorem seX1_size : Cond.selects RX1 yX1_size yX1_size ∈ zq_T := zq_mem (List.mem_of_getElem? (i := 414) (by decide +kernel)) (by decide +kernel)
abbrev mX1_clear : zq_M := (yX1_clear, cX1_clear, 1, none)
theorem okX1_clear : zq_ok mX1_clear 0 := ⟨zq_mem (List.mem_of_getElem? (i := 368) (by decide +kernel)) (by decide +kernel), iniRX1, by decide +kernel, by decide +kernel, by decide⟩
theorem imX1_clear : Cond.instanceMethod yX1_clear ∈ zq_T := zq_mem (List.mem_of_getElem? (i := 366) (by decide +kernel)) (by decide +kernel)
theorem seX1_clear : Cond.selects RX1 yX1_clear yX1_clear ∈ zq_T := zq_mem (List.mem_of_getElem? (i := 367) (by decide +kernel)) (by decide +kernel)
abbrev mX1_remember : zq_M := (yX1_remember, cX1_remember, 2, none)
theorem okX1_remember : zq_ok mX1_remember 1 := ⟨zq_mem (List.mem_of_getElem? (i := 479) (by decide +kernel)) (by decide +kernel), iniRX1, by decide +kernel, by decide +kernel, by decide⟩
theorem imX1_remember : Cond.instanceMethod yX1_remember ∈ zq_T := zq_mem (List.mem_of_getElem? (i := 477) (by decide +kernel)) (by decide +kernel)
theorem seX1_remember : Cond.selects RX1 yX1_remember yX1_remember ∈ zq_T := zq_mem (List.mem_of_getElem? (i := 478) (by decide +kernel)) (by decide +kernel)
abbrev mX1_bringBack : zq_M := (yX1_bringBack, cX1_bringBack, 2, none)
theorem okX1_bringBack : zq_ok mX1_bringBack 1 := ⟨zq_mem (List.mem_of_getElem? (i := 507) (by decide +kernel)) (by decide +kernel), iniRX1, by decide +kernel, by decide +kernel, by decide⟩
theorem imX1_bringBack : Cond.instanceMethod yX1_bringBack ∈ zq_T := zq_mem (List.mem_of_getElem? (i := 505) (by decide +kernel)) (by decide +kernel)
theorem seX1_bringBack : Cond.selects RX1 yX1_bringBack yX1_bringBack ∈ zq_T := zq_mem (List.mem_of_getElem? (i := 506) (by decide +kernel)) (by decide +kernel)
abbrev mX2_init : zq_M := (yX2_init, cX2_init, 1, none)
theorem okX2_init : zq_ok mX2_init 0 := ⟨zq_mem (List.mem_of_getElem? (i := 86) (by decide +kernel)) (by decide +kernel), iniRX2, by decide +kernel, by decide +kernel, by decide⟩
theorem imX2_init : Cond.instanceMethod yX2_init ∈ zq_T := zq_mem (List.mem_of_getElem? (i := 85) (by decide +kernel)) (by decide +kernel)
abbrev mX2_faultOf : zq_M := (yX2_faultOf, cX2_faultOf, 4, (some .int))
theorem okX2_faultOf : zq_ok mX2_faultOf 2 := ⟨zq_mem (List.mem_of_getElem? (i := 306) (by decide +kernel)) (by decide +kernel), iniRX2, by decide +kernel, by decide +kernel, by decide⟩
theorem imX2_faultOf : Cond.instanceMethod yX2_faultOf ∈ zq_T := zq_mem (List.mem_of_getElem? (i := 304) (by decide +kernel)) (by decide +kernel)
theorem seX2_faultOf : Cond.selects RX2 yX2_faultOf yX2_faultOf ∈ zq_T := zq_mem (List.mem_of_getElem? (i := 305) (by decide +kernel)) (by decide +kernel)
abbrev mX2_takes : zq_M := (yX2_takes, cX2_takes, 3, (some .boolean))
theorem okX2_takes : zq_ok mX2_takes 2 := ⟨zq_mem (List.mem_of_getElem? (i := 319) (by decide +kernel)) (by decide +kernel), iniRX2, by decide +kernel, by decide +kernel, by decide⟩
theorem imX2_takes : Cond.instanceMethod yX2_takes ∈ zq_T := zq_mem (List.mem_of_getElem? (i := 318) (by decide +kernel)) (by decide +kernel)
theorem seX2_takes : Cond.selects RX2 yX2_takes yX2_takes ∈ zq_T := zq_mem (List.mem_of_getElem? (i := 0) (by decide +kernel)) (by decide +kernel)
abbrev mX2_takesPart : zq_M := (yX2_takesPart, cX2_takesPart, 3, (some .boolean))
theorem okX2_takesPart : zq_ok mX2_takesPart 2 := ⟨zq_mem (List.mem_of_getElem? (i := 323) (by decide +kernel)) (by decide +kernel), iniRX2, by decide +kernel, by decide +kernel, by decide⟩
theorem imX2_takesPart : Cond.instanceMethod yX2_takesPart ∈ zq_T := zq_mem (List.mem_of_getElem? (i := 322) (by decide +kernel)) (by decide +kernel)
theorem seX2_takesPart : Cond.selects RX2 yX2_takesPart yX2_takesPart ∈ zq_T := zq_mem (List.mem_of_getElem? (i := 1) (by decide +kernel)) (by decide +kernel)
abbrev mX2_takesOfPerson : zq_M := (yX2_takesOfPerson, cX2_takesOfPerson, 4, (some .boolean))
theorem okX2_takesOfPerson : zq_ok mX2_takesOfPerson 2 := ⟨zq_mem (List.mem_of_getElem? (i := 331) (by decide +kernel)) (by decide +kernel), iniRX2, by decide +kernel, by decide +kernel, by decide⟩
theorem imX2_takesOfPerson : Cond.instanceMethod yX2_takesOfPerson ∈ zq_T := zq_mem (List.mem_of_getElem? (i := 330) (by decide +kernel)) (by decide +kernel)
theorem seX2_takesOfPerson : Cond.selects RX2 yX2_takesOfPerson yX2_takesOfPerson ∈ zq_T := zq_mem (List.mem_of_getElem? (i := 2) (by decide +kernel)) (by decide +kernel)
abbrev mX2_takesOfPair : zq_M := (yX2_takesOfPair, cX2_takesOfPair, 3, (some .boolean))
theorem okX2_takesOfPair : zq_ok mX2_takesOfPair 2 := ⟨zq_mem (List.mem_of_getElem? (i := 339) (by decide +kernel)) (by decide +kernel), iniRX2, by decide +kernel, by decide +kernel, by decide⟩
theorem imX2_takesOfPair : Cond.instanceMethod yX2_takesOfPair ∈ zq_T := zq_mem (List.mem_of_getElem? (i := 338) (by decide +kernel)) (by decide +kernel)
theorem seX2_takesOfPair : Cond.selects RX2 yX2_takesOfPair yX2_takesOfPair ∈ zq_T := zq_mem (List.mem_of_getElem? (i := 3) (by decide +kernel)) (by decide +kernel)
abbrev mX3_init : zq_M := (yX3_init, cX3_init, 1, none)
theorem okX3_init : zq_ok mX3_init 0 := ⟨zq_mem (List.mem_of_getElem? (i := 112) (by decide +kernel)) (by decide +kernel), iniRX3, by decide +kernel, by decide +kernel, by decide⟩
theorem imX3_init : Cond.instanceMethod yX3_init ∈ zq_T := zq_mem (List.mem_of_getElem? (i := 111) (by decide +kernel)) (by decide +kernel)
abbrev mX3_tellAll : zq_M := (yX3_tellAll, cX3_tellAll, 7, none)
theorem okX3_tellAll : zq_ok mX3_tellAll 4 := ⟨zq_mem (List.mem_of_getElem? (i := 575) (by decide +kernel)) (by decide +kernel), iniRX3, by decide +kernel, by decide +kernel, by decide⟩
theorem imX3_tellAll : Cond.instanceMethod yX3_tellAll ∈ zq_T := zq_mem (List.mem_of_getElem? (i := 573) (by decide +kernel)) (by decide +kernel)
theorem seX3_tellAll : Cond.selects RX3 yX3_tellAll yX3_tellAll ∈ zq_T := zq_mem (List.mem_of_getElem? (i := 574) (by decide +kernel)) (by decide +kernel)
abbrev mX3_tellFrom : zq_M := (yX3_tellFrom, cX3_tellFrom, 7, none)
theorem okX3_tellFrom : zq_ok mX3_tellFrom 4 := ⟨zq_mem (List.mem_of_getElem? (i := 579) (by decide +kernel)) (by decide +kernel), iniRX3, by decide +kernel, by decide +kernel, by decide⟩
theorem smX3_tellFrom : Cond.static yX3_tellFrom ∈ zq_T := zq_mem (List.mem_of_getElem? (i := 578) (by decide +kernel)) (by decide +kernel)
abbrev mX3_countIn : zq_M := (yX3_countIn, cX3_countIn, 5, (some .int))
theorem okX3_countIn : zq_ok mX3_countIn 3 := ⟨zq_mem (List.mem_of_getElem? (i := 584) (by decide +kernel)) (by decide +kernel), iniRX3, by decide +kernel, by decide +kernel, by decide⟩
theorem imX3_countIn : Cond.instanceMethod yX3_countIn ∈ zq_T := zq_mem (List.mem_of_getElem? (i := 583) (by decide +kernel)) (by decide +kernel)
theorem seX3_countIn : Cond.selects RX3 yX3_countIn yX3_countIn ∈ zq_T := zq_mem (List.mem_of_getElem? (i := 22) (by decide +kernel)) (by decide +kernel)
abbrev mX3_leftSince : zq_M := (yX3_leftSince, cX3_leftSince, 5, (some .int))
theorem okX3_leftSince : zq_ok mX3_leftSince 2 := ⟨zq_mem (List.mem_of_getElem? (i := 590) (by decide +kernel)) (by decide +kernel), iniRX3, by decide +kernel, by decide +kernel, by decide⟩
theorem imX3_leftSince : Cond.instanceMethod yX3_leftSince ∈ zq_T := zq_mem (List.mem_of_getElem? (i := 589) (by decide +kernel)) (by decide +kernel)
theorem seX3_leftSince : Cond.selects RX3 yX3_leftSince yX3_leftSince ∈ zq_T := zq_mem (List.mem_of_getElem? (i := 23) (by decide +kernel)) (by decide +kernel)
abbrev mX4_init : zq_M := (yX4_init, cX4_init, 1, none)
theorem okX4_init : zq_ok mX4_init 0 := ⟨zq_mem (List.mem_of_getElem? (i := 72) (by decide +kernel)) (by decide +kernel), iniRX4, by decide +kernel, by decide +kernel, by decide⟩
theorem imX4_init : Cond.instanceMethod yX4_init ∈ zq_T := zq_mem (List.mem_of_getElem? (i := 71) (by decide +kernel)) (by decide +kernel)
abbrev mX4_size : zq_M := (yX4_size, cX4_size, 1, (some .int))
theorem okX4_size : zq_ok mX4_size 0 := ⟨zq_mem (List.mem_of_getElem? (i := 290) (by decide +kernel)) (by decide +kernel), iniRX4, by decide +kernel, by decide +kernel, by decide⟩
theorem imX4_size : Cond.instanceMethod yX4_size ∈ zq_T := zq_mem (List.mem_of_getElem? (i := 288) (by decide +kernel)) (by decide +kernel)
theorem seX4_size : Cond.selects RX4 yX4_size yX4_size ∈ zq_T := zq_mem (List.mem_of_getElem? (i := 289) (by decide +kernel)) (by decide +kernel)
abbrev mX4_byteAt : zq_M := (yX4_byteAt, cX4_byteAt, 2, (some .int))
theorem okX4_byteAt : zq_ok mX4_byteAt 1 := ⟨zq_mem (List.mem_of_getElem? (i := 315) (by decide +kernel)) (by decide +kernel), iniRX4, by decide +kernel, by decide +kernel, by decide⟩
theorem imX4_byteAt : Cond.instanceMethod yX4_byteAt ∈ zq_T := zq_mem (List.mem_of_getElem? (i := 313) (by decide +kernel)) (by decide +kernel)
theorem seX4_byteAt : Cond.selects RX4 yX4_byteAt yX4_byteAt ∈ zq_T := zq_mem (List.mem_of_getElem? (i := 314) (by decide +kernel)) (by decide +kernel)
abbrev mX4_takeBytes : zq_M := (yX4_takeBytes, cX4_takeBytes, 5, (some .boolean))
theorem okX4_takeBytes : zq_ok mX4_takeBytes 2 := ⟨zq_mem (List.mem_of_getElem? (i := 286) (by decide +kernel)) (by decide +kernel), iniRX4, by decide +kernel, by decide +kernel, by decide⟩
theorem imX4_takeBytes : Cond.instanceMethod yX4_takeBytes ∈ zq_T := zq_mem (List.mem_of_getElem? (i := 284) (by decide +kernel)) (by decide +kernel)
theorem seX4_takeBytes : Cond.selects RX4 yX4_takeBytes yX4_takeBytes ∈ zq_T := zq_mem (List.mem_of_getElem? (i := 285) (by decide +kernel)) (by decide +kernel)
abbrev mX4_clear : zq_M := (yX4_clear, cX4_clear, 1, none)
theorem okX4_clear : zq_ok mX4_clear 0 := ⟨zq_mem (List.mem_of_getElem? (i := 298) (by decide +kernel)) (by decide +kernel), iniRX4, by decide +kernel, by decide +kernel, by decide⟩
theorem imX4_clear : Cond.instanceMethod yX4_clear ∈ zq_T := zq_mem (List.mem_of_getElem? (i := 296) (by decide +kernel)) (by decide +kernel)
theorem seX4_clear : Cond.selects RX4 yX4_clear yX4_clear ∈ zq_T := zq_mem (List.mem_of_getElem? (i := 297) (by decide +kernel)) (by decide +kernel)
abbrev mX5_init : zq_M := (yX5_init, cX5_init, 1, none)
theorem okX5_init : zq_ok mX5_init 0 := ⟨zq_mem (List.mem_of_getElem? (i := 99) (by decide +kernel)) (by decide +kernel), iniRX5, by decide +kernel, by decide +kernel, by decide⟩
theorem imX5_init : Cond.instanceMethod yX5_init ∈ zq_T := zq_mem (List.mem_of_getElem? (i := 98) (by decide +kernel)) (by decide +kernel)
abbrev mX5_clear : zq_M := (yX5_clear, cX5_clear, 1, none)
theorem okX5_clear : zq_ok mX5_clear 0 := ⟨zq_mem (List.mem_of_getElem? (i := 445) (by decide +kernel)) (by decide +kernel), iniRX5, by decide +kernel, by decide +kernel, by decide⟩
theorem imX5_clear : Cond.instanceMethod yX5_clear ∈ zq_T := zq_mem (List.mem_of_getElem? (i := 443) (by decide +kernel)) (by decide +kernel)
theorem seX5_clear : Cond.selects RX5 yX5_clear yX5_clear ∈ zq_T := zq_mem (List.mem_of_getElem? (i := 444) (by decide +kernel)) (by decide +kernel)
abbrev mX5_addMissed : zq_M := (yX5_addMissed, cX5_addMissed, 2, none)
theorem okX5_addMissed : zq_ok mX5_addMissed 1 := ⟨zq_mem (List.mem_of_getElem? (i := 450) (by decide +kernel)) (by decide +kernel), iniRX5, by decide +kernel, by decide +kernel, by decide⟩
theorem imX5_addMissed : Cond.instanceMethod yX5_addMissed ∈ zq_T := zq_mem (List.mem_of_getElem? (i := 448) (by decide +kernel)) (by decide +kernel)
theorem seX5_addMissed : Cond.selects RX5 yX5_addMissed yX5_addMissed ∈ zq_T := zq_mem (List.mem_of_getElem? (i := 449) (by decide +kernel)) (by decide +kernel)
abbrev mX5_countByLaw : zq_M := (yX5_countByLaw, cX5_countByLaw, 2, (some .int))
theorem okX5_countByLaw : zq_ok mX5_countByLaw 1 := ⟨zq_mem (List.mem_of_getElem? (i := 455) (by decide +kernel)) (by decide +kernel), iniRX5, by decide +kernel, by decide +kernel, by decide⟩
theorem imX5_countByLaw : Cond.instanceMethod yX5_countByLaw ∈ zq_T := zq_mem (List.mem_of_getElem? (i := 453) (by decide +kernel)) (by decide +kernel)
theorem seX5_countByLaw : Cond.selects RX5 yX5_countByLaw yX5_countByLaw ∈ zq_T := zq_mem (List.mem_of_getElem? (i := 454) (by decide +kernel)) (by decide +kernel)
abbrev mX6_init : zq_M := (yX6_init, cX6_init, 1, none)
theorem okX6_init : zq_ok mX6_init 0 := ⟨zq_mem (List.mem_of_getElem? (i := 149) (by decide +kernel)) (by decide +kernel), iniRX6, by decide +kernel, by decide +kernel, by decide⟩
theorem imX6_init : Cond.instanceMethod yX6_init ∈ zq_T := zq_mem (List.mem_of_getElem? (i := 148) (by decide +kernel)) (by decide +kernel)
abbrev mX6_begin : zq_M := (yX6_begin, cX6_begin, 3, none)
theorem okX6_begin : zq_ok mX6_begin 1 := ⟨zq_mem (List.mem_of_getElem? (i := 240) (by decide +kernel)) (by decide +kernel), iniRX6, by decide +kernel, by decide +kernel, by decide⟩
theorem imX6_begin : Cond.instanceMethod yX6_begin ∈ zq_T := zq_mem (List.mem_of_getElem? (i := 238) (by decide +kernel)) (by decide +kernel)
theorem seX6_begin : Cond.selects RX6 yX6_begin yX6_begin ∈ zq_T := zq_mem (List.mem_of_getElem? (i := 239) (by decide +kernel)) (by decide +kernel)
abbrev mX6_clearRumours : zq_M := (yX6_clearRumours, cX6_clearRumours, 2, none)
theorem okX6_clearRumours : zq_ok mX6_clearRumours 0 := ⟨zq_mem (List.mem_of_getElem? (i := 244) (by decide +kernel)) (by decide +kernel), iniRX6, by decide +kernel, by decide +kernel, by decide⟩
theorem imX6_clearRumours : Cond.instanceMethod yX6_clearRumours ∈ zq_T := zq_mem (List.mem_of_getElem? (i := 242) (by decide +kernel)) (by decide +kernel)
theorem seX6_clearRumours : Cond.selects RX6 yX6_clearRumours yX6_clearRumours ∈ zq_T := zq_mem (List.mem_of_getElem? (i := 243) (by decide +kernel)) (by decide +kernel)
abbrev mX6_passYear : zq_M := (yX6_passYear, cX6_passYear, 1, none)
theorem okX6_passYear : zq_ok mX6_passYear 0 := ⟨zq_mem (List.mem_of_getElem? (i := 495) (by decide +kernel)) (by decide +kernel), iniRX6, by decide +kernel, by decide +kernel, by decide⟩
theorem imX6_passYear : Cond.instanceMethod yX6_passYear ∈ zq_T := zq_mem (List.mem_of_getElem? (i := 493) (by decide +kernel)) (by decide +kernel)
theorem seX6_passYear : Cond.selects RX6 yX6_passYear yX6_passYear ∈ zq_T := zq_mem (List.mem_of_getElem? (i := 494) (by decide +kernel)) (by decide +kernel)
abbrev mX6_isAlive : zq_M := (yX6_isAlive, cX6_isAlive, 2, (some .boolean))
theorem okX6_isAlive : zq_ok mX6_isAlive 1 := ⟨zq_mem (List.mem_of_getElem? (i := 380) (by decide +kernel)) (by decide +kernel), iniRX6, by decide +kernel, by decide +kernel, by decide⟩
theorem imX6_isAlive : Cond.instanceMethod yX6_isAlive ∈ zq_T := zq_mem (List.mem_of_getElem? (i := 378) (by decide +kernel)) (by decide +kernel)
theorem seX6_isAlive : Cond.selects RX6 yX6_isAlive yX6_isAlive ∈ zq_T := zq_mem (List.mem_of_getElem? (i := 379) (by decide +kernel)) (by decide +kernel)
abbrev mX6_heardIn : zq_M := (yX6_heardIn, cX6_heardIn, 3, (some .int))
theorem okX6_heardIn : zq_ok mX6_heardIn 2 := ⟨zq_mem (List.mem_of_getElem? (i := 408) (by decide +kernel)) (by decide +kernel), iniRX6, by decide +kernel, by decide +kernel, by decide⟩
theorem imX6_heardIn : Cond.instanceMethod yX6_heardIn ∈ zq_T := zq_mem (List.mem_of_getElem? (i := 406) (by decide +kernel)) (by decide +kernel)
theorem seX6_heardIn : Cond.selects RX6 yX6_heardIn yX6_heardIn ∈ zq_T := zq_mem (List.mem_of_getElem? (i := 407) (by decide +kernel)) (by decide +kernel)
abbrev mX6_copyFrom : zq_M := (yX6_copyFrom, cX6_copyFrom, 3, none)
theorem okX6_copyFrom : zq_ok mX6_copyFrom 1 := ⟨zq_mem (List.mem_of_getElem? (i := 483) (by decide +kernel)) (by decide +kernel), iniRX6, by decide +kernel, by decide +kernel, by decide⟩
theorem imX6_copyFrom : Cond.instanceMethod yX6_copyFrom ∈ zq_T := zq_mem (List.mem_of_getElem? (i := 481) (by decide +kernel)) (by decide +kernel)
theorem seX6_copyFrom : Cond.selects RX6 yX6_copyFrom yX6_copyFrom ∈ zq_T := zq_mem (List.mem_of_getElem? (i := 482) (by decide +kernel)) (by decide +kernel)
abbrev mX7_init : zq_M := (yX7_init, cX7_init, 1, none)
theorem okX7_init : zq_ok mX7_init 0 := ⟨zq_mem (List.mem_of_getElem? (i := 64) (by decide +kernel)) (by decide +kernel), iniRX7, by decide +kernel, by decide +kernel, by decide⟩
theorem imX7_init : Cond.instanceMethod yX7_init ∈ zq_T := zq_mem (List.mem_of_getElem? (i := 63) (by decide +kernel)) (by decide +kernel)
abbrev mX7_write : zq_M := (yX7_write, cX7_write, 4, (some .int))
theorem okX7_write : zq_ok mX7_write 2 := ⟨zq_mem (List.mem_of_getElem? (i := 282) (by decide +kernel)) (by decide +kernel), iniRX7, by decide +kernel, by decide +kernel, by decide⟩
theorem imX7_write : Cond.instanceMethod yX7_write ∈ zq_T := zq_mem (List.mem_of_getElem? (i := 280) (by decide +kernel)) (by decide +kernel)
theorem seX7_write : Cond.selects RX7 yX7_write yX7_write ∈ zq_T := zq_mem (List.mem_of_getElem? (i := 281) (by decide +kernel)) (by decide +kernel)
abbrev mX7_wipe : zq_M := (yX7_wipe, cX7_wipe, 2, (some .int))
theorem okX7_wipe : zq_ok mX7_wipe 0 := ⟨zq_mem (List.mem_of_getElem? (i := 294) (by decide +kernel)) (by decide +kernel), iniRX7, by decide +kernel, by decide +kernel, by decide⟩
theorem imX7_wipe : Cond.instanceMethod yX7_wipe ∈ zq_T := zq_mem (List.mem_of_getElem? (i := 292) (by decide +kernel)) (by decide +kernel)
theorem seX7_wipe : Cond.selects RX7 yX7_wipe yX7_wipe ∈ zq_T := zq_mem (List.mem_of_getElem? (i := 293) (by decide +kernel)) (by decide +kernel)
abbrev mX7_fault : zq_M := (yX7_fault, cX7_fault, 1, (some .int))
theorem okX7_fault : zq_ok mX7_fault 0 := ⟨zq_mem (List.mem_of_getElem? (i := 302) (by decide +kernel)) (by decide +kernel), iniRX7, by decide +kernel, by decide +kernel, by decide⟩
theorem imX7_fault : Cond.instanceMethod yX7_fault ∈ zq_T := zq_mem (List.mem_of_getElem? (i := 300) (by decide +kernel)) (by decide +kernel)
theorem seX7_fault : Cond.selects RX7 yX7_fault yX7_fault ∈ zq_T := zq_mem (List.mem_of_getElem? (i := 301) (by decide +kernel)) (by decide +kernel)
abbrev mX7_census : zq_M := (yX7_census, cX7_census, 3, (some .int))
theorem okX7_census : zq_ok mX7_census 0 := ⟨zq_mem (List.mem_of_getElem? (i := 364) (by decide +kernel)) (by decide +kernel), iniRX7, by decide +kernel, by decide +kernel, by decide⟩
theorem imX7_census : Cond.instanceMethod yX7_census ∈ zq_T := zq_mem (List.mem_of_getElem? (i := 362) (by decide +kernel)) (by decide +kernel)
theorem seX7_census : Cond.selects RX7 yX7_census yX7_census ∈ zq_T := zq_mem (List.mem_of_getElem? (i := 363) (by decide +kernel)) (by decide +kernel)
abbrev mX7_about : zq_M := (yX7_about, cX7_about, 2, (some .int))
theorem okX7_about : zq_ok mX7_about 1 := ⟨zq_mem (List.mem_of_getElem? (i := 372) (by decide +kernel)) (by decide +kernel), iniRX7, by decide +kernel, by decide +kernel, by decide⟩
theorem imX7_about : Cond.instanceMethod yX7_about ∈ zq_T := zq_mem (List.mem_of_getElem? (i := 370) (by decide +kernel)) (by decide +kernel)
theorem seX7_about : Cond.selects RX7 yX7_about yX7_about ∈ zq_T := zq_mem (List.mem_of_getElem? (i := 371) (by decide +kernel)) (by decide +kernel)
abbrev mX7_person : zq_M := (yX7_person, cX7_person, 3, (some .int))
theorem okX7_person : zq_ok mX7_person 2 := ⟨zq_mem (List.mem_of_getElem? (i := 419) (by decide +kernel)) (by decide +kernel), iniRX7, by decide +kernel, by decide +kernel, by decide⟩
theorem imX7_person : Cond.instanceMethod yX7_person ∈ zq_T := zq_mem (List.mem_of_getElem? (i := 417) (by decide +kernel)) (by decide +kernel)
theorem seX7_person : Cond.selects RX7 yX7_person yX7_person ∈ zq_T := zq_mem (List.mem_of_getElem? (i := 418) (by decide +kernel)) (by decide +kernel)
abbrev mX7_town : zq_M := (yX7_town, cX7_town, 3, (some .int))
theorem okX7_town : zq_ok mX7_town 2 := ⟨zq_mem (List.mem_of_getElem? (i := 424) (by decide +kernel)) (by decide +kernel), iniRX7, by decide +kernel, by decide +kernel, by decide⟩
theorem imX7_town : Cond.instanceMethod yX7_town ∈ zq_T := zq_mem (List.mem_of_getElem? (i := 422) (by decide +kernel)) (by decide +kernel)
theorem seX7_town : Cond.selects RX7 yX7_town yX7_town ∈ zq_T := zq_mem (List.mem_of_getElem? (i := 423) (by decide +kernel)) (by decide +kernel)
abbrev mX7_law : zq_M := (yX7_law, cX7_law, 3, (some .int))
theorem okX7_law : zq_ok mX7_law 1 := ⟨zq_mem (List.mem_of_getElem? (i := 471) (by decide +kernel)) (by decide +kernel), iniRX7, by decide +kernel, by decide +kernel, by decide⟩
theorem imX7_law : Cond.instanceMethod yX7_law ∈ zq_T := zq_mem (List.mem_of_getElem? (i := 469) (by decide +kernel)) (by decide +kernel)
theorem seX7_law : Cond.selects RX7 yX7_law yX7_law ∈ zq_T := zq_mem (List.mem_of_getElem? (i := 470) (by decide +kernel)) (by decide +kernel)
abbrev mX7_go : zq_M := (yX7_go, cX7_go, 4, (some .int))
theorem okX7_go : zq_ok mX7_go 2 := ⟨zq_mem (List.mem_of_getElem? (i := 475) (by decide +kernel)) (by decide +kernel), iniRX7, by decide +kernel, by decide +kernel, by decide⟩
theorem imX7_go : Cond.instanceMethod yX7_go ∈ zq_T := zq_mem (List.mem_of_getElem? (i := 473) (by decide +kernel)) (by decide +kernel)
theorem seX7_go : Cond.selects RX7 yX7_go yX7_go ∈ zq_T := zq_mem (List.mem_of_getElem? (i := 474) (by decide +kernel)) (by decide +kernel)
abbrev mX7_die : zq_M := (yX7_die, cX7_die, 2, (some .int))
theorem okX7_die : zq_ok mX7_die 1 := ⟨zq_mem (List.mem_of_getElem? (i := 487) (by decide +kernel)) (by decide +kernel), iniRX7, by decide +kernel, by decide +kernel, by decide⟩
theorem imX7_die : Cond.instanceMethod yX7_die ∈ zq_T := zq_mem (List.mem_of_getElem? (i := 485) (by decide +kernel)) (by decide +kernel)
theorem seX7_die : Cond.selects RX7 yX7_die yX7_die ∈ zq_T := zq_mem (List.mem_of_getElem? (i := 486) (by decide +kernel)) (by decide +kernel)
abbrev mX7_year : zq_M := (yX7_year, cX7_year, 1, (some .int))
theorem okX7_year : zq_ok mX7_year 0 := ⟨zq_mem (List.mem_of_getElem? (i := 491) (by decide +kernel)) (by decide +kernel), iniRX7, by decide +kernel, by decide +kernel, by decide⟩
theorem imX7_year : Cond.instanceMethod yX7_year ∈ zq_T := zq_mem (List.mem_of_getElem? (i := 489) (by decide +kernel)) (by decide +kernel)
theorem seX7_year : Cond.selects RX7 yX7_year yX7_year ∈ zq_T := zq_mem (List.mem_of_getElem? (i := 490) (by decide +kernel)) (by decide +kernel)
abbrev mX7_rumour : zq_M := (yX7_rumour, cX7_rumour, 3, (some .int))
theorem okX7_rumour : zq_ok mX7_rumour 2 := ⟨zq_mem (List.mem_of_getElem? (i := 499) (by decide +kernel)) (by decide +kernel), iniRX7, by decide +kernel, by decide +kernel, by decide⟩
theorem imX7_rumour : Cond.instanceMethod yX7_rumour ∈ zq_T := zq_mem (List.mem_of_getElem? (i := 497) (by decide +kernel)) (by decide +kernel)
theorem seX7_rumour : Cond.selects RX7 yX7_rumour yX7_rumour ∈ zq_T := zq_mem (List.mem_of_getElem? (i := 498) (by decide +kernel)) (by decide +kernel)
abbrev mX7_undo : zq_M := (yX7_undo, cX7_undo, 1, (some .int))
theorem okX7_undo : zq_ok mX7_undo 0 := ⟨zq_mem (List.mem_of_getElem? (i := 503) (by decide +kernel)) (by decide +kernel), iniRX7, by decide +kernel, by decide +kernel, by decide⟩
theorem imX7_undo : Cond.instanceMethod yX7_undo ∈ zq_T := zq_mem (List.mem_of_getElem? (i := 501) (by decide +kernel)) (by decide +kernel)
theorem seX7_undo : Cond.selects RX7 yX7_undo yX7_undo ∈ zq_T := zq_mem (List.mem_of_getElem? (i := 502) (by decide +kernel)) (by decide +kernel)
abbrev mX7_forgotten : zq_M := (yX7_forgotten, cX7_forgotten, 4, (some .int))
theorem okX7_forgotten : zq_ok mX7_forgotten 1 := ⟨zq_mem (List.mem_of_getElem? (i := 511) (by decide +kernel)) (by decide +kernel), iniRX7, by decide +kernel, by decide +kernel, by decide⟩
theorem imX7_forgotten : Cond.instanceMethod yX7_forgotten ∈ zq_T := zq_mem (List.mem_of_getElem? (i := 509) (by decide +kernel)) (by decide +kernel)
theorem seX7_forgotten : Cond.selects RX7 yX7_forgotten yX7_forgotten ∈ zq_T := zq_mem (List.mem_of_getElem? (i := 510) (by decide +kernel)) (by decide +kernel)
abbrev mX7_lie : zq_M := (yX7_lie, cX7_lie, 4, (some .int))
theorem okX7_lie : zq_ok mX7_lie 2 := ⟨zq_mem (List.mem_of_getElem? (i := 519) (by decide +kernel)) (by decide +kernel), iniRX7, by decide +kernel, by decide +kernel, by decide⟩
theorem imX7_lie : Cond.instanceMethod yX7_lie ∈ zq_T := zq_mem (List.mem_of_getElem? (i := 517) (by decide +kernel)) (by decide +kernel)
theorem seX7_lie : Cond.selects RX7 yX7_lie yX7_lie ∈ zq_T := zq_mem (List.mem_of_getElem? (i := 518) (by decide +kernel)) (by decide +kernel)
abbrev mX7_leave : zq_M := (yX7_leave, cX7_leave, 3, (some .int))
theorem okX7_leave : zq_ok mX7_leave 2 := ⟨zq_mem (List.mem_of_getElem? (i := 527) (by decide +kernel)) (by decide +kernel), iniRX7, by decide +kernel, by decide +kernel, by decide⟩
theorem imX7_leave : Cond.instanceMethod yX7_leave ∈ zq_T := zq_mem (List.mem_of_getElem? (i := 525) (by decide +kernel)) (by decide +kernel)
theorem seX7_leave : Cond.selects RX7 yX7_leave yX7_leave ∈ zq_T := zq_mem (List.mem_of_getElem? (i := 526) (by decide +kernel)) (by decide +kernel)
abbrev mX7_spans : zq_M := (yX7_spans, cX7_spans, 12, (some .int))
theorem okX7_spans : zq_ok mX7_spans 3 := ⟨zq_mem (List.mem_of_getElem? (i := 543) (by decide +kernel)) (by decide +kernel), iniRX7, by decide +kernel, by decide +kernel, by decide⟩
theorem imX7_spans : Cond.instanceMethod yX7_spans ∈ zq_T := zq_mem (List.mem_of_getElem? (i := 541) (by decide +kernel)) (by decide +kernel)
theorem seX7_spans : Cond.selects RX7 yX7_spans yX7_spans ∈ zq_T := zq_mem (List.mem_of_getElem? (i := 542) (by decide +kernel)) (by decide +kernel)
abbrev mX7_toAsk : zq_M := (yX7_toAsk, cX7_toAsk, 10, (some .int))
theorem okX7_toAsk : zq_ok mX7_toAsk 2 := ⟨zq_mem (List.mem_of_getElem? (i := 557) (by decide +kernel)) (by decide +kernel), iniRX7, by decide +kernel, by decide +kernel, by decide⟩
theorem imX7_toAsk : Cond.instanceMethod yX7_toAsk ∈ zq_T := zq_mem (List.mem_of_getElem? (i := 555) (by decide +kernel)) (by decide +kernel)
theorem seX7_toAsk : Cond.selects RX7 yX7_toAsk yX7_toAsk ∈ zq_T := zq_mem (List.mem_of_getElem? (i := 556) (by decide +kernel)) (by decide +kernel)
abbrev mX7_retold : zq_M := (yX7_retold, cX7_retold, 6, (some .int))
theorem okX7_retold : zq_ok mX7_retold 4 := ⟨zq_mem (List.mem_of_getElem? (i := 565) (by decide +kernel)) (by decide +kernel), iniRX7, by decide +kernel, by decide +kernel, by decide⟩
theorem imX7_retold : Cond.instanceMethod yX7_retold ∈ zq_T := zq_mem (List.mem_of_getElem? (i := 563) (by decide +kernel)) (by decide +kernel)
theorem seX7_retold : Cond.selects RX7 yX7_retold yX7_retold ∈ zq_T := zq_mem (List.mem_of_getElem? (i := 564) (by decide +kernel)) (by decide +kernel)
abbrev mX7_chance : zq_M := (yX7_chance, cX7_chance, 15, (some .long))
theorem okX7_chance : zq_ok mX7_chance 4 := ⟨zq_mem (List.mem_of_getElem? (i := 598) (by decide +kernel)) (by decide +kernel), iniRX7, by decide +kernel, by decide +kernel, by decide⟩
theorem imX7_chance : Cond.instanceMethod yX7_chance ∈ zq_T := zq_mem (List.mem_of_getElem? (i := 596) (by decide +kernel)) (by decide +kernel)
theorem seX7_chance : Cond.selects RX7 yX7_chance yX7_chance ∈ zq_T := zq_mem (List.mem_of_getElem? (i := 597) (by decide +kernel)) (by decide +kernel)
abbrev mX7_keep : zq_M := (yX7_keep, cX7_keep, 2, (some .int))
theorem okX7_keep : zq_ok mX7_keep 1 := ⟨zq_mem (List.mem_of_getElem? (i := 610) (by decide +kernel)) (by decide +kernel), iniRX7, by decide +kernel, by decide +kernel, by decide⟩
theorem imX7_keep : Cond.instanceMethod yX7_keep ∈ zq_T := zq_mem (List.mem_of_getElem? (i := 608) (by decide +kernel)) (by decide +kernel)
theorem seX7_keep : Cond.selects RX7 yX7_keep yX7_keep ∈ zq_T := zq_mem (List.mem_of_getElem? (i := 609) (by decide +kernel)) (by decide +kernel)
abbrev mX7_again : zq_M := (yX7_again, cX7_again, 2, (some .int))
theorem okX7_again : zq_ok mX7_again 1 := ⟨zq_mem (List.mem_of_getElem? (i := 615) (by decide +kernel)) (by decide +kernel), iniRX7, by decide +kernel, by decide +kernel, by decide⟩
theorem imX7_again : Cond.instanceMethod yX7_again ∈ zq_T := zq_mem (List.mem_of_getElem? (i := 613) (by decide +kernel)) (by decide +kernel)
theorem seX7_again : Cond.selects RX7 yX7_again yX7_again ∈ zq_T := zq_mem (List.mem_of_getElem? (i := 614) (by decide +kernel)) (by decide +kernel)
abbrev mX7_everybody : zq_M := (yX7_everybody, cX7_everybody, 1, (some .int))
theorem okX7_everybody : zq_ok mX7_everybody 0 := ⟨zq_mem (List.mem_of_getElem? (i := 384) (by decide +kernel)) (by decide +kernel), iniRX7, by decide +kernel, by decide +kernel, by decide⟩
theorem imX7_everybody : Cond.instanceMethod yX7_everybody ∈ zq_T := zq_mem (List.mem_of_getElem? (i := 383) (by decide +kernel)) (by decide +kernel)
theorem seX7_everybody : Cond.selects RX7 yX7_everybody yX7_everybody ∈ zq_T := zq_mem (List.mem_of_getElem? (i := 5) (by decide +kernel)) (by decide +kernel)
abbrev mX7_aliveBits : zq_M := (yX7_aliveBits, cX7_aliveBits, 3, (some .int))
theorem okX7_aliveBits : zq_ok mX7_aliveBits 0 := ⟨zq_mem (List.mem_of_getElem? (i := 376) (by decide +kernel)) (by decide +kernel), iniRX7, by decide +kernel, by decide +kernel, by decide⟩
theorem imX7_aliveBits : Cond.instanceMethod yX7_aliveBits ∈ zq_T := zq_mem (List.mem_of_getElem? (i := 375) (by decide +kernel)) (by decide +kernel)
theorem seX7_aliveBits : Cond.selects RX7 yX7_aliveBits yX7_aliveBits ∈ zq_T := zq_mem (List.mem_of_getElem? (i := 4) (by decide +kernel)) (by decide +kernel)
abbrev mX7_trulyIn : zq_M := (yX7_trulyIn, cX7_trulyIn, 4, (some .int))
theorem okX7_trulyIn : zq_ok mX7_trulyIn 1 := ⟨zq_mem (List.mem_of_getElem? (i := 463) (by decide +kernel)) (by decide +kernel), iniRX7, by decide +kernel, by decide +kernel, by decide⟩
theorem imX7_trulyIn : Cond.instanceMethod yX7_trulyIn ∈ zq_T := zq_mem (List.mem_of_getElem? (i := 462) (by decide +kernel)) (by decide +kernel)
theorem seX7_trulyIn : Cond.selects RX7 yX7_trulyIn yX7_trulyIn ∈ zq_T := zq_mem (List.mem_of_getElem? (i := 14) (by decide +kernel)) (by decide +kernel)
abbrev mX7_atHomeIn : zq_M := (yX7_atHomeIn, cX7_atHomeIn, 4, (some .int))
theorem okX7_atHomeIn : zq_ok mX7_atHomeIn 1 := ⟨zq_mem (List.mem_of_getElem? (i := 531) (by decide +kernel)) (by decide +kernel), iniRX7, by decide +kernel, by decide +kernel, by decide⟩
theorem imX7_atHomeIn : Cond.instanceMethod yX7_atHomeIn ∈ zq_T := zq_mem (List.mem_of_getElem? (i := 530) (by decide +kernel)) (by decide +kernel)
theorem seX7_atHomeIn : Cond.selects RX7 yX7_atHomeIn yX7_atHomeIn ∈ zq_T := zq_mem (List.mem_of_getElem? (i := 18) (by decide +kernel)) (by decide +kernel)
abbrev mX7_isAtHome : zq_M := (yX7_isAtHome, cX7_isAtHome, 2, (some .boolean))
theorem okX7_isAtHome : zq_ok mX7_isAtHome 1 := ⟨zq_mem (List.mem_of_getElem? (i := 396) (by decide +kernel)) (by decide +kernel), iniRX7, by decide +kernel, by decide +kernel, by decide⟩
theorem imX7_isAtHome : Cond.instanceMethod yX7_isAtHome ∈ zq_T := zq_mem (List.mem_of_getElem? (i := 395) (by decide +kernel)) (by decide +kernel)
theorem seX7_isAtHome : Cond.selects RX7 yX7_isAtHome yX7_isAtHome ∈ zq_T := zq_mem (List.mem_of_getElem? (i := 8) (by decide +kernel)) (by decide +kernel)
abbrev mX7_isMissing : zq_M := (yX7_isMissing, cX7_isMissing, 3, (some .boolean))
theorem okX7_isMissing : zq_ok mX7_isMissing 2 := ⟨zq_mem (List.mem_of_getElem? (i := 404) (by decide +kernel)) (by decide +kernel), iniRX7, by decide +kernel, by decide +kernel, by decide⟩
theorem imX7_isMissing : Cond.instanceMethod yX7_isMissing ∈ zq_T := zq_mem (List.mem_of_getElem? (i := 403) (by decide +kernel)) (by decide +kernel)
theorem seX7_isMissing : Cond.selects RX7 yX7_isMissing yX7_isMissing ∈ zq_T := zq_mem (List.mem_of_getElem? (i := 10) (by decide +kernel)) (by decide +kernel)
abbrev mX7_missingOf : zq_M := (yX7_missingOf, cX7_missingOf, 4, (some .int))
theorem okX7_missingOf : zq_ok mX7_missingOf 1 := ⟨zq_mem (List.mem_of_getElem? (i := 467) (by decide +kernel)) (by decide +kernel), iniRX7, by decide +kernel, by decide +kernel, by decide⟩
theorem imX7_missingOf : Cond.instanceMethod yX7_missingOf ∈ zq_T := zq_mem (List.mem_of_getElem? (i := 466) (by decide +kernel)) (by decide +kernel)
theorem seX7_missingOf : Cond.selects RX7 yX7_missingOf yX7_missingOf ∈ zq_T := zq_mem (List.mem_of_getElem? (i := 15) (by decide +kernel)) (by decide +kernel)
abbrev mX7_rememberedBy : zq_M := (yX7_rememberedBy, cX7_rememberedBy, 5, (some .int))
theorem okX7_rememberedBy : zq_ok mX7_rememberedBy 2 := ⟨zq_mem (List.mem_of_getElem? (i := 400) (by decide +kernel)) (by decide +kernel), iniRX7, by decide +kernel, by decide +kernel, by decide⟩
theorem imX7_rememberedBy : Cond.instanceMethod yX7_rememberedBy ∈ zq_T := zq_mem (List.mem_of_getElem? (i := 399) (by decide +kernel)) (by decide +kernel)
theorem seX7_rememberedBy : Cond.selects RX7 yX7_rememberedBy yX7_rememberedBy ∈ zq_T := zq_mem (List.mem_of_getElem? (i := 9) (by decide +kernel)) (by decide +kernel)
abbrev mX7_missedBy : zq_M := (yX7_missedBy, cX7_missedBy, 3, (some .int))
theorem okX7_missedBy : zq_ok mX7_missedBy 2 := ⟨zq_mem (List.mem_of_getElem? (i := 392) (by decide +kernel)) (by decide +kernel), iniRX7, by decide +kernel, by decide +kernel, by decide⟩
theorem imX7_missedBy : Cond.instanceMethod yX7_missedBy ∈ zq_T := zq_mem (List.mem_of_getElem? (i := 391) (by decide +kernel)) (by decide +kernel)
theorem seX7_missedBy : Cond.selects RX7 yX7_missedBy yX7_missedBy ∈ zq_T := zq_mem (List.mem_of_getElem? (i := 7) (by decide +kernel)) (by decide +kernel)
abbrev mX7_isMissed : zq_M := (yX7_isMissed, cX7_isMissed, 4, (some .boolean))
theorem okX7_isMissed : zq_ok mX7_isMissed 2 := ⟨zq_mem (List.mem_of_getElem? (i := 515) (by decide +kernel)) (by decide +kernel), iniRX7, by decide +kernel, by decide +kernel, by decide⟩
theorem imX7_isMissed : Cond.instanceMethod yX7_isMissed ∈ zq_T := zq_mem (List.mem_of_getElem? (i := 514) (by decide +kernel)) (by decide +kernel)
theorem seX7_isMissed : Cond.selects RX7 yX7_isMissed yX7_isMissed ∈ zq_T := zq_mem (List.mem_of_getElem? (i := 16) (by decide +kernel)) (by decide +kernel)
abbrev mX7_missedOf : zq_M := (yX7_missedOf, cX7_missedOf, 4, (some .int))
theorem okX7_missedOf : zq_ok mX7_missedOf 1 := ⟨zq_mem (List.mem_of_getElem? (i := 388) (by decide +kernel)) (by decide +kernel), iniRX7, by decide +kernel, by decide +kernel, by decide⟩
theorem imX7_missedOf : Cond.instanceMethod yX7_missedOf ∈ zq_T := zq_mem (List.mem_of_getElem? (i := 387) (by decide +kernel)) (by decide +kernel)
theorem seX7_missedOf : Cond.selects RX7 yX7_missedOf yX7_missedOf ∈ zq_T := zq_mem (List.mem_of_getElem? (i := 6) (by decide +kernel)) (by decide +kernel)
abbrev mX7_countOf : zq_M := (yX7_countOf, cX7_countOf, 3, (some .int))
theorem okX7_countOf : zq_ok mX7_countOf 1 := ⟨zq_mem (List.mem_of_getElem? (i := 429) (by decide +kernel)) (by decide +kernel), iniRX7, by decide +kernel, by decide +kernel, by decide⟩
theorem imX7_countOf : Cond.instanceMethod yX7_countOf ∈ zq_T := zq_mem (List.mem_of_getElem? (i := 428) (by decide +kernel)) (by decide +kernel)
theorem seX7_countOf : Cond.selects RX7 yX7_countOf yX7_countOf ∈ zq_T := zq_mem (List.mem_of_getElem? (i := 11) (by decide +kernel)) (by decide +kernel)
abbrev mX7_fillMisses : zq_M := (yX7_fillMisses, cX7_fillMisses, 2, none)
theorem okX7_fillMisses : zq_ok mX7_fillMisses 0 := ⟨zq_mem (List.mem_of_getElem? (i := 437) (by decide +kernel)) (by decide +kernel), iniRX7, by decide +kernel, by decide +kernel, by decide⟩
theorem imX7_fillMisses : Cond.instanceMethod yX7_fillMisses ∈ zq_T := zq_mem (List.mem_of_getElem? (i := 436) (by decide +kernel)) (by decide +kernel)
theorem seX7_fillMisses : Cond.selects RX7 yX7_fillMisses yX7_fillMisses ∈ zq_T := zq_mem (List.mem_of_getElem? (i := 12) (by decide +kernel)) (by decide +kernel)
abbrev mX7_countMissedBy : zq_M := (yX7_countMissedBy, cX7_countMissedBy, 3, (some .int))
theorem okX7_countMissedBy : zq_ok mX7_countMissedBy 1 := ⟨zq_mem (List.mem_of_getElem? (i := 441) (by decide +kernel)) (by decide +kernel), iniRX7, by decide +kernel, by decide +kernel, by decide⟩
theorem imX7_countMissedBy : Cond.instanceMethod yX7_countMissedBy ∈ zq_T := zq_mem (List.mem_of_getElem? (i := 440) (by decide +kernel)) (by decide +kernel)
theorem seX7_countMissedBy : Cond.selects RX7 yX7_countMissedBy yX7_countMissedBy ∈ zq_T := zq_mem (List.mem_of_getElem? (i := 13) (by decide +kernel)) (by decide +kernel)
abbrev mX7_mostCountByLies : zq_M := (yX7_mostCountByLies, cX7_mostCountByLies, 3, (some .int))
theorem okX7_mostCountByLies : zq_ok mX7_mostCountByLies 1 := ⟨zq_mem (List.mem_of_getElem? (i := 523) (by decide +kernel)) (by decide +kernel), iniRX7, by decide +kernel, by decide +kernel, by decide⟩
theorem imX7_mostCountByLies : Cond.instanceMethod yX7_mostCountByLies ∈ zq_T := zq_mem (List.mem_of_getElem? (i := 522) (by decide +kernel)) (by decide +kernel)
theorem seX7_mostCountByLies : Cond.selects RX7 yX7_mostCountByLies yX7_mostCountByLies ∈ zq_T := zq_mem (List.mem_of_getElem? (i := 17) (by decide +kernel)) (by decide +kernel)
abbrev mX7_fewestToLeave : zq_M := (yX7_fewestToLeave, cX7_fewestToLeave, 7, (some .int))
theorem okX7_fewestToLeave : zq_ok mX7_fewestToLeave 2 := ⟨zq_mem (List.mem_of_getElem? (i := 535) (by decide +kernel)) (by decide +kernel), iniRX7, by decide +kernel, by decide +kernel, by decide⟩
theorem imX7_fewestToLeave : Cond.instanceMethod yX7_fewestToLeave ∈ zq_T := zq_mem (List.mem_of_getElem? (i := 534) (by decide +kernel)) (by decide +kernel)
theorem seX7_fewestToLeave : Cond.selects RX7 yX7_fewestToLeave yX7_fewestToLeave ∈ zq_T := zq_mem (List.mem_of_getElem? (i := 19) (by decide +kernel)) (by decide +kernel)
abbrev mX7_countIfAway : zq_M := (yX7_countIfAway, cX7_countIfAway, 4, (some .int))
theorem okX7_countIfAway : zq_ok mX7_countIfAway 2 := ⟨zq_mem (List.mem_of_getElem? (i := 547) (by decide +kernel)) (by decide +kernel), iniRX7, by decide +kernel, by decide +kernel, by decide⟩
theorem imX7_countIfAway : Cond.instanceMethod yX7_countIfAway ∈ zq_T := zq_mem (List.mem_of_getElem? (i := 546) (by decide +kernel)) (by decide +kernel)
theorem seX7_countIfAway : Cond.selects RX7 yX7_countIfAway yX7_countIfAway ∈ zq_T := zq_mem (List.mem_of_getElem? (i := 20) (by decide +kernel)) (by decide +kernel)
abbrev mX7_setsWithout : zq_M := (yX7_setsWithout, cX7_setsWithout, 9, (some .int))
theorem okX7_setsWithout : zq_ok mX7_setsWithout 3 := ⟨zq_mem (List.mem_of_getElem? (i := 561) (by decide +kernel)) (by decide +kernel), iniRX7, by decide +kernel, by decide +kernel, by decide⟩
theorem imX7_setsWithout : Cond.instanceMethod yX7_setsWithout ∈ zq_T := zq_mem (List.mem_of_getElem? (i := 560) (by decide +kernel)) (by decide +kernel)
theorem seX7_setsWithout : Cond.selects RX7 yX7_setsWithout yX7_setsWithout ∈ zq_T := zq_mem (List.mem_of_getElem? (i := 21) (by decide +kernel)) (by decide +kernel)
abbrev mX7_has : zq_M := (yX7_has, cX7_has, 2, (some .boolean))
theorem okX7_has : zq_ok mX7_has 2 := ⟨zq_mem (List.mem_of_getElem? (i := 360) (by decide +kernel)) (by decide +kernel), iniRX7, by decide +kernel, by decide +kernel, by decide⟩
theorem smX7_has : Cond.static yX7_has ∈ zq_T := zq_mem (List.mem_of_getElem? (i := 359) (by decide +kernel)) (by decide +kernel)
abbrev mX7_nextPart : zq_M := (yX7_nextPart, cX7_nextPart, 2, (some .int))
theorem okX7_nextPart : zq_ok mX7_nextPart 2 := ⟨zq_mem (List.mem_of_getElem? (i := 539) (by decide +kernel)) (by decide +kernel), iniRX7, by decide +kernel, by decide +kernel, by decide⟩
theorem smX7_nextPart : Cond.static yX7_nextPart ∈ zq_T := zq_mem (List.mem_of_getElem? (i := 538) (by decide +kernel)) (by decide +kernel)
abbrev mX7_power : zq_M := (yX7_power, cX7_power, 5, (some .long))
theorem okX7_power : zq_ok mX7_power 2 := ⟨zq_mem (List.mem_of_getElem? (i := 571) (by decide +kernel)) (by decide +kernel), iniRX7, by decide +kernel, by decide +kernel, by decide⟩
theorem smX7_power : Cond.static yX7_power ∈ zq_T := zq_mem (List.mem_of_getElem? (i := 570) (by decide +kernel)) (by decide +kernel)
abbrev mX7_powerOfTen : zq_M := (yX7_powerOfTen, cX7_powerOfTen, 1, (some .int))
theorem okX7_powerOfTen : zq_ok mX7_powerOfTen 1 := ⟨zq_mem (List.mem_of_getElem? (i := 568) (by decide +kernel)) (by decide +kernel), iniRX7, by decide +kernel, by decide +kernel, by decide⟩
theorem smX7_powerOfTen : Cond.static yX7_powerOfTen ∈ zq_T := zq_mem (List.mem_of_getElem? (i := 567) (by decide +kernel)) (by decide +kernel)
abbrev mX7_commonDivisor : zq_M := (yX7_commonDivisor, cX7_commonDivisor, 7, (some .long))
theorem okX7_commonDivisor : zq_ok mX7_commonDivisor 2 := ⟨zq_mem (List.mem_of_getElem? (i := 603) (by decide +kernel)) (by decide +kernel), iniRX7, by decide +kernel, by decide +kernel, by decide⟩
theorem smX7_commonDivisor : Cond.static yX7_commonDivisor ∈ zq_T := zq_mem (List.mem_of_getElem? (i := 602) (by decide +kernel)) (by decide +kernel)
abbrev mX8_init : zq_M := (yX8_init, cX8_init, 1, none)
theorem okX8_init : zq_ok mX8_init 0 := ⟨zq_mem (List.mem_of_getElem? (i := 620) (by decide +kernel)) (by decide +kernel), iniRX8, by decide +kernel, by decide +kernel, by decide⟩
theorem imX8_init : Cond.instanceMethod yX8_init ∈ zq_T := zq_mem (List.mem_of_getElem? (i := 619) (by decide +kernel)) (by decide +kernel)
abbrev mX8_in : zq_M := (yX8_in, cX8_in, 6, (some .boolean))
theorem okX8_in : zq_ok mX8_in 3 := ⟨zq_mem (List.mem_of_getElem? (i := 729) (by decide +kernel)) (by decide +kernel), iniRX8, by decide +kernel, by decide +kernel, by decide⟩
theorem smX8_in : Cond.static yX8_in ∈ zq_T := zq_mem (List.mem_of_getElem? (i := 728) (by decide +kernel)) (by decide +kernel)
abbrev mX8_has : zq_M := (yX8_has, cX8_has, 2, (some .boolean))
theorem okX8_has : zq_ok mX8_has 2 := ⟨zq_mem (List.mem_of_getElem? (i := 768) (by decide +kernel)) (by decide +kernel), iniRX8, by decide +kernel, by decide +kernel, by decide⟩
theorem smX8_has : Cond.static yX8_has ∈ zq_T := zq_mem (List.mem_of_getElem? (i := 767) (by decide +kernel)) (by decide +kernel)
abbrev mX8_many : zq_M := (yX8_many, cX8_many, 3, (some .int))
theorem okX8_many : zq_ok mX8_many 1 := ⟨zq_mem (List.mem_of_getElem? (i := 779) (by decide +kernel)) (by decide +kernel), iniRX8, by decide +kernel, by decide +kernel, by decide⟩
theorem smX8_many : Cond.static yX8_many ∈ zq_T := zq_mem (List.mem_of_getElem? (i := 778) (by decide +kernel)) (by decide +kernel)
abbrev mX8_noOne : zq_M := (yX8_noOne, cX8_noOne, 2, (some .boolean))
theorem okX8_noOne : zq_ok mX8_noOne 1 := ⟨zq_mem (List.mem_of_getElem? (i := 811) (by decide +kernel)) (by decide +kernel), iniRX8, by decide +kernel, by decide +kernel, by decide⟩
theorem imX8_noOne : Cond.instanceMethod yX8_noOne ∈ zq_T := zq_mem (List.mem_of_getElem? (i := 810) (by decide +kernel)) (by decide +kernel)
theorem seX8_noOne : Cond.selects RX8 yX8_noOne yX8_noOne ∈ zq_T := zq_mem (List.mem_of_getElem? (i := 37) (by decide +kernel)) (by decide +kernel)
abbrev mX8_noTown : zq_M := (yX8_noTown, cX8_noTown, 2, (some .boolean))
theorem okX8_noTown : zq_ok mX8_noTown 1 := ⟨zq_mem (List.mem_of_getElem? (i := 819) (by decide +kernel)) (by decide +kernel), iniRX8, by decide +kernel, by decide +kernel, by decide⟩
theorem imX8_noTown : Cond.instanceMethod yX8_noTown ∈ zq_T := zq_mem (List.mem_of_getElem? (i := 818) (by decide +kernel)) (by decide +kernel)
theorem seX8_noTown : Cond.selects RX8 yX8_noTown yX8_noTown ∈ zq_T := zq_mem (List.mem_of_getElem? (i := 38) (by decide +kernel)) (by decide +kernel)
abbrev mX8_write : zq_M := (yX8_write, cX8_write, 5, (some .int))
theorem okX8_write : zq_ok mX8_write 2 := ⟨zq_mem (List.mem_of_getElem? (i := 725) (by decide +kernel)) (by decide +kernel), iniRX8, by decide +kernel, by decide +kernel, by decide⟩
theorem imX8_write : Cond.instanceMethod yX8_write ∈ zq_T := zq_mem (List.mem_of_getElem? (i := 723) (by decide +kernel)) (by decide +kernel)
theorem seX8_write : Cond.selects RX8 yX8_write yX8_write ∈ zq_T := zq_mem (List.mem_of_getElem? (i := 724) (by decide +kernel)) (by decide +kernel)
abbrev mX8_wipe : zq_M := (yX8_wipe, cX8_wipe, 2, (some .int))
theorem okX8_wipe : zq_ok mX8_wipe 0 := ⟨zq_mem (List.mem_of_getElem? (i := 733) (by decide +kernel)) (by decide +kernel), iniRX8, by decide +kernel, by decide +kernel, by decide⟩
theorem imX8_wipe : Cond.instanceMethod yX8_wipe ∈ zq_T := zq_mem (List.mem_of_getElem? (i := 731) (by decide +kernel)) (by decide +kernel)
theorem seX8_wipe : Cond.selects RX8 yX8_wipe yX8_wipe ∈ zq_T := zq_mem (List.mem_of_getElem? (i := 732) (by decide +kernel)) (by decide +kernel)
abbrev mX8_figure : zq_M := (yX8_figure, cX8_figure, 4, (some .int))
theorem okX8_figure : zq_ok mX8_figure 3 := ⟨zq_mem (List.mem_of_getElem? (i := 745) (by decide +kernel)) (by decide +kernel), iniRX8, by decide +kernel, by decide +kernel, by decide⟩
theorem imX8_figure : Cond.instanceMethod yX8_figure ∈ zq_T := zq_mem (List.mem_of_getElem? (i := 744) (by decide +kernel)) (by decide +kernel)
theorem seX8_figure : Cond.selects RX8 yX8_figure yX8_figure ∈ zq_T := zq_mem (List.mem_of_getElem? (i := 25) (by decide +kernel)) (by decide +kernel)
abbrev mX8_readPerson : zq_M := (yX8_readPerson, cX8_readPerson, 4, (some .boolean))
theorem okX8_readPerson : zq_ok mX8_readPerson 0 := ⟨zq_mem (List.mem_of_getElem? (i := 753) (by decide +kernel)) (by decide +kernel), iniRX8, by decide +kernel, by decide +kernel, by decide⟩
theorem imX8_readPerson : Cond.instanceMethod yX8_readPerson ∈ zq_T := zq_mem (List.mem_of_getElem? (i := 752) (by decide +kernel)) (by decide +kernel)
theorem seX8_readPerson : Cond.selects RX8 yX8_readPerson yX8_readPerson ∈ zq_T := zq_mem (List.mem_of_getElem? (i := 27) (by decide +kernel)) (by decide +kernel)
abbrev mX8_left : zq_M := (yX8_left, cX8_left, 2, (some .int))
theorem okX8_left : zq_ok mX8_left 1 := ⟨zq_mem (List.mem_of_getElem? (i := 761) (by decide +kernel)) (by decide +kernel), iniRX8, by decide +kernel, by decide +kernel, by decide⟩
theorem imX8_left : Cond.instanceMethod yX8_left ∈ zq_T := zq_mem (List.mem_of_getElem? (i := 760) (by decide +kernel)) (by decide +kernel)
theorem seX8_left : Cond.selects RX8 yX8_left yX8_left ∈ zq_T := zq_mem (List.mem_of_getElem? (i := 29) (by decide +kernel)) (by decide +kernel)
abbrev mX8_hasLeft : zq_M := (yX8_hasLeft, cX8_hasLeft, 3, (some .boolean))
theorem okX8_hasLeft : zq_ok mX8_hasLeft 0 := ⟨zq_mem (List.mem_of_getElem? (i := 757) (by decide +kernel)) (by decide +kernel), iniRX8, by decide +kernel, by decide +kernel, by decide⟩
theorem imX8_hasLeft : Cond.instanceMethod yX8_hasLeft ∈ zq_T := zq_mem (List.mem_of_getElem? (i := 756) (by decide +kernel)) (by decide +kernel)
theorem seX8_hasLeft : Cond.selects RX8 yX8_hasLeft yX8_hasLeft ∈ zq_T := zq_mem (List.mem_of_getElem? (i := 28) (by decide +kernel)) (by decide +kernel)
abbrev mX8_readAsk : zq_M := (yX8_readAsk, cX8_readAsk, 3, (some .boolean))
theorem okX8_readAsk : zq_ok mX8_readAsk 0 := ⟨zq_mem (List.mem_of_getElem? (i := 765) (by decide +kernel)) (by decide +kernel), iniRX8, by decide +kernel, by decide +kernel, by decide⟩
theorem imX8_readAsk : Cond.instanceMethod yX8_readAsk ∈ zq_T := zq_mem (List.mem_of_getElem? (i := 764) (by decide +kernel)) (by decide +kernel)
theorem seX8_readAsk : Cond.selects RX8 yX8_readAsk yX8_readAsk ∈ zq_T := zq_mem (List.mem_of_getElem? (i := 30) (by decide +kernel)) (by decide +kernel)
abbrev mX8_readPart : zq_M := (yX8_readPart, cX8_readPart, 2, (some .boolean))
theorem okX8_readPart : zq_ok mX8_readPart 0 := ⟨zq_mem (List.mem_of_getElem? (i := 749) (by decide +kernel)) (by decide +kernel), iniRX8, by decide +kernel, by decide +kernel, by decide⟩
theorem imX8_readPart : Cond.instanceMethod yX8_readPart ∈ zq_T := zq_mem (List.mem_of_getElem? (i := 748) (by decide +kernel)) (by decide +kernel)
theorem seX8_readPart : Cond.selects RX8 yX8_readPart yX8_readPart ∈ zq_T := zq_mem (List.mem_of_getElem? (i := 26) (by decide +kernel)) (by decide +kernel)
abbrev mX8_readCensus : zq_M := (yX8_readCensus, cX8_readCensus, 1, (some .int))
theorem okX8_readCensus : zq_ok mX8_readCensus 0 := ⟨zq_mem (List.mem_of_getElem? (i := 741) (by decide +kernel)) (by decide +kernel), iniRX8, by decide +kernel, by decide +kernel, by decide⟩
theorem imX8_readCensus : Cond.instanceMethod yX8_readCensus ∈ zq_T := zq_mem (List.mem_of_getElem? (i := 740) (by decide +kernel)) (by decide +kernel)
theorem seX8_readCensus : Cond.selects RX8 yX8_readCensus yX8_readCensus ∈ zq_T := zq_mem (List.mem_of_getElem? (i := 24) (by decide +kernel)) (by decide +kernel)
abbrev mX8_fault : zq_M := (yX8_fault, cX8_fault, 1, (some .int))
theorem okX8_fault : zq_ok mX8_fault 0 := ⟨zq_mem (List.mem_of_getElem? (i := 737) (by decide +kernel)) (by decide +kernel), iniRX8, by decide +kernel, by decide +kernel, by decide⟩
theorem imX8_fault : Cond.instanceMethod yX8_fault ∈ zq_T := zq_mem (List.mem_of_getElem? (i := 735) (by decide +kernel)) (by decide +kernel)
theorem seX8_fault : Cond.selects RX8 yX8_fault yX8_fault ∈ zq_T := zq_mem (List.mem_of_getElem? (i := 736) (by decide +kernel)) (by decide +kernel)
abbrev mX8_census : zq_M := (yX8_census, cX8_census, 2, (some .int))
theorem okX8_census : zq_ok mX8_census 0 := ⟨zq_mem (List.mem_of_getElem? (i := 772) (by decide +kernel)) (by decide +kernel), iniRX8, by decide +kernel, by decide +kernel, by decide⟩
theorem imX8_census : Cond.instanceMethod yX8_census ∈ zq_T := zq_mem (List.mem_of_getElem? (i := 770) (by decide +kernel)) (by decide +kernel)
theorem seX8_census : Cond.selects RX8 yX8_census yX8_census ∈ zq_T := zq_mem (List.mem_of_getElem? (i := 771) (by decide +kernel)) (by decide +kernel)
abbrev mX8_away : zq_M := (yX8_away, cX8_away, 2, (some .int))
theorem okX8_away : zq_ok mX8_away 1 := ⟨zq_mem (List.mem_of_getElem? (i := 799) (by decide +kernel)) (by decide +kernel), iniRX8, by decide +kernel, by decide +kernel, by decide⟩
theorem imX8_away : Cond.instanceMethod yX8_away ∈ zq_T := zq_mem (List.mem_of_getElem? (i := 798) (by decide +kernel)) (by decide +kernel)
theorem seX8_away : Cond.selects RX8 yX8_away yX8_away ∈ zq_T := zq_mem (List.mem_of_getElem? (i := 35) (by decide +kernel)) (by decide +kernel)
abbrev mX8_isMissing : zq_M := (yX8_isMissing, cX8_isMissing, 3, (some .boolean))
theorem okX8_isMissing : zq_ok mX8_isMissing 2 := ⟨zq_mem (List.mem_of_getElem? (i := 795) (by decide +kernel)) (by decide +kernel), iniRX8, by decide +kernel, by decide +kernel, by decide⟩
theorem imX8_isMissing : Cond.instanceMethod yX8_isMissing ∈ zq_T := zq_mem (List.mem_of_getElem? (i := 794) (by decide +kernel)) (by decide +kernel)
theorem seX8_isMissing : Cond.selects RX8 yX8_isMissing yX8_isMissing ∈ zq_T := zq_mem (List.mem_of_getElem? (i := 34) (by decide +kernel)) (by decide +kernel)
abbrev mX8_isThere : zq_M := (yX8_isThere, cX8_isThere, 2, (some .boolean))
theorem okX8_isThere : zq_ok mX8_isThere 1 := ⟨zq_mem (List.mem_of_getElem? (i := 791) (by decide +kernel)) (by decide +kernel), iniRX8, by decide +kernel, by decide +kernel, by decide⟩
theorem imX8_isThere : Cond.instanceMethod yX8_isThere ∈ zq_T := zq_mem (List.mem_of_getElem? (i := 790) (by decide +kernel)) (by decide +kernel)
theorem seX8_isThere : Cond.selects RX8 yX8_isThere yX8_isThere ∈ zq_T := zq_mem (List.mem_of_getElem? (i := 33) (by decide +kernel)) (by decide +kernel)
abbrev mX8_remembers : zq_M := (yX8_remembers, cX8_remembers, 4, (some .boolean))
theorem okX8_remembers : zq_ok mX8_remembers 3 := ⟨zq_mem (List.mem_of_getElem? (i := 803) (by decide +kernel)) (by decide +kernel), iniRX8, by decide +kernel, by decide +kernel, by decide⟩
theorem imX8_remembers : Cond.instanceMethod yX8_remembers ∈ zq_T := zq_mem (List.mem_of_getElem? (i := 802) (by decide +kernel)) (by decide +kernel)
theorem seX8_remembers : Cond.selects RX8 yX8_remembers yX8_remembers ∈ zq_T := zq_mem (List.mem_of_getElem? (i := 36) (by decide +kernel)) (by decide +kernel)
abbrev mX8_misses : zq_M := (yX8_misses, cX8_misses, 6, (some .int))
theorem okX8_misses : zq_ok mX8_misses 2 := ⟨zq_mem (List.mem_of_getElem? (i := 787) (by decide +kernel)) (by decide +kernel), iniRX8, by decide +kernel, by decide +kernel, by decide⟩
theorem imX8_misses : Cond.instanceMethod yX8_misses ∈ zq_T := zq_mem (List.mem_of_getElem? (i := 786) (by decide +kernel)) (by decide +kernel)
theorem seX8_misses : Cond.selects RX8 yX8_misses yX8_misses ∈ zq_T := zq_mem (List.mem_of_getElem? (i := 32) (by decide +kernel)) (by decide +kernel)
abbrev mX8_atHome : zq_M := (yX8_atHome, cX8_atHome, 4, (some .int))
theorem okX8_atHome : zq_ok mX8_atHome 1 := ⟨zq_mem (List.mem_of_getElem? (i := 831) (by decide +kernel)) (by decide +kernel), iniRX8, by decide +kernel, by decide +kernel, by decide⟩
theorem imX8_atHome : Cond.instanceMethod yX8_atHome ∈ zq_T := zq_mem (List.mem_of_getElem? (i := 830) (by decide +kernel)) (by decide +kernel)
theorem seX8_atHome : Cond.selects RX8 yX8_atHome yX8_atHome ∈ zq_T := zq_mem (List.mem_of_getElem? (i := 41) (by decide +kernel)) (by decide +kernel)
abbrev mX8_counted : zq_M := (yX8_counted, cX8_counted, 5, (some .int))
theorem okX8_counted : zq_ok mX8_counted 2 := ⟨zq_mem (List.mem_of_getElem? (i := 827) (by decide +kernel)) (by decide +kernel), iniRX8, by decide +kernel, by decide +kernel, by decide⟩
theorem imX8_counted : Cond.instanceMethod yX8_counted ∈ zq_T := zq_mem (List.mem_of_getElem? (i := 826) (by decide +kernel)) (by decide +kernel)
theorem seX8_counted : Cond.selects RX8 yX8_counted yX8_counted ∈ zq_T := zq_mem (List.mem_of_getElem? (i := 40) (by decide +kernel)) (by decide +kernel)
abbrev mX8_count : zq_M := (yX8_count, cX8_count, 6, (some .int))
theorem okX8_count : zq_ok mX8_count 2 := ⟨zq_mem (List.mem_of_getElem? (i := 823) (by decide +kernel)) (by decide +kernel), iniRX8, by decide +kernel, by decide +kernel, by decide⟩
theorem imX8_count : Cond.instanceMethod yX8_count ∈ zq_T := zq_mem (List.mem_of_getElem? (i := 822) (by decide +kernel)) (by decide +kernel)
theorem seX8_count : Cond.selects RX8 yX8_count yX8_count ∈ zq_T := zq_mem (List.mem_of_getElem? (i := 39) (by decide +kernel)) (by decide +kernel)
abbrev mX8_missed : zq_M := (yX8_missed, cX8_missed, 4, (some .int))
theorem okX8_missed : zq_ok mX8_missed 1 := ⟨zq_mem (List.mem_of_getElem? (i := 783) (by decide +kernel)) (by decide +kernel), iniRX8, by decide +kernel, by decide +kernel, by decide⟩
theorem imX8_missed : Cond.instanceMethod yX8_missed ∈ zq_T := zq_mem (List.mem_of_getElem? (i := 782) (by decide +kernel)) (by decide +kernel)
theorem seX8_missed : Cond.selects RX8 yX8_missed yX8_missed ∈ zq_T := zq_mem (List.mem_of_getElem? (i := 31) (by decide +kernel)) (by decide +kernel)
abbrev mX8_about : zq_M := (yX8_about, cX8_about, 5, (some .int))
theorem okX8_about : zq_ok mX8_about 1 := ⟨zq_mem (List.mem_of_getElem? (i := 776) (by decide +kernel)) (by decide +kernel), iniRX8, by decide +kernel, by decide +kernel, by decide⟩
theorem imX8_about : Cond.instanceMethod yX8_about ∈ zq_T := zq_mem (List.mem_of_getElem? (i := 774) (by decide +kernel)) (by decide +kernel)
theorem seX8_about : Cond.selects RX8 yX8_about yX8_about ∈ zq_T := zq_mem (List.mem_of_getElem? (i := 775) (by decide +kernel)) (by decide +kernel)
abbrev mX8_person : zq_M := (yX8_person, cX8_person, 3, (some .int))
theorem okX8_person : zq_ok mX8_person 2 := ⟨zq_mem (List.mem_of_getElem? (i := 807) (by decide +kernel)) (by decide +kernel), iniRX8, by decide +kernel, by decide +kernel, by decide⟩
theorem imX8_person : Cond.instanceMethod yX8_person ∈ zq_T := zq_mem (List.mem_of_getElem? (i := 805) (by decide +kernel)) (by decide +kernel)
theorem seX8_person : Cond.selects RX8 yX8_person yX8_person ∈ zq_T := zq_mem (List.mem_of_getElem? (i := 806) (by decide +kernel)) (by decide +kernel)
abbrev mX8_town : zq_M := (yX8_town, cX8_town, 6, (some .int))
theorem okX8_town : zq_ok mX8_town 2 := ⟨zq_mem (List.mem_of_getElem? (i := 815) (by decide +kernel)) (by decide +kernel), iniRX8, by decide +kernel, by decide +kernel, by decide⟩
theorem imX8_town : Cond.instanceMethod yX8_town ∈ zq_T := zq_mem (List.mem_of_getElem? (i := 813) (by decide +kernel)) (by decide +kernel)
theorem seX8_town : Cond.selects RX8 yX8_town yX8_town ∈ zq_T := zq_mem (List.mem_of_getElem? (i := 814) (by decide +kernel)) (by decide +kernel)
abbrev mX8_law : zq_M := (yX8_law, cX8_law, 3, (some .int))
theorem okX8_law : zq_ok mX8_law 1 := ⟨zq_mem (List.mem_of_getElem? (i := 835) (by decide +kernel)) (by decide +kernel), iniRX8, by decide +kernel, by decide +kernel, by decide⟩
theorem imX8_law : Cond.instanceMethod yX8_law ∈ zq_T := zq_mem (List.mem_of_getElem? (i := 833) (by decide +kernel)) (by decide +kernel)
theorem seX8_law : Cond.selects RX8 yX8_law yX8_law ∈ zq_T := zq_mem (List.mem_of_getElem? (i := 834) (by decide +kernel)) (by decide +kernel)
abbrev mX8_layPage : zq_M := (yX8_layPage, cX8_layPage, 4, none)
theorem okX8_layPage : zq_ok mX8_layPage 2 := ⟨zq_mem (List.mem_of_getElem? (i := 848) (by decide +kernel)) (by decide +kernel), iniRX8, by decide +kernel, by decide +kernel, by decide⟩
theorem imX8_layPage : Cond.instanceMethod yX8_layPage ∈ zq_T := zq_mem (List.mem_of_getElem? (i := 847) (by decide +kernel)) (by decide +kernel)
theorem seX8_layPage : Cond.selects RX8 yX8_layPage yX8_layPage ∈ zq_T := zq_mem (List.mem_of_getElem? (i := 43) (by decide +kernel)) (by decide +kernel)
abbrev mX8_takePage : zq_M := (yX8_takePage, cX8_takePage, 4, none)
theorem okX8_takePage : zq_ok mX8_takePage 2 := ⟨zq_mem (List.mem_of_getElem? (i := 869) (by decide +kernel)) (by decide +kernel), iniRX8, by decide +kernel, by decide +kernel, by decide⟩
theorem imX8_takePage : Cond.instanceMethod yX8_takePage ∈ zq_T := zq_mem (List.mem_of_getElem? (i := 868) (by decide +kernel)) (by decide +kernel)
theorem seX8_takePage : Cond.selects RX8 yX8_takePage yX8_takePage ∈ zq_T := zq_mem (List.mem_of_getElem? (i := 44) (by decide +kernel)) (by decide +kernel)
abbrev mX8_note : zq_M := (yX8_note, cX8_note, 2, none)
theorem okX8_note : zq_ok mX8_note 0 := ⟨zq_mem (List.mem_of_getElem? (i := 844) (by decide +kernel)) (by decide +kernel), iniRX8, by decide +kernel, by decide +kernel, by decide⟩
theorem imX8_note : Cond.instanceMethod yX8_note ∈ zq_T := zq_mem (List.mem_of_getElem? (i := 843) (by decide +kernel)) (by decide +kernel)
theorem seX8_note : Cond.selects RX8 yX8_note yX8_note ∈ zq_T := zq_mem (List.mem_of_getElem? (i := 42) (by decide +kernel)) (by decide +kernel)
abbrev mX8_go : zq_M := (yX8_go, cX8_go, 4, (some .int))
theorem okX8_go : zq_ok mX8_go 2 := ⟨zq_mem (List.mem_of_getElem? (i := 840) (by decide +kernel)) (by decide +kernel), iniRX8, by decide +kernel, by decide +kernel, by decide⟩
theorem imX8_go : Cond.instanceMethod yX8_go ∈ zq_T := zq_mem (List.mem_of_getElem? (i := 838) (by decide +kernel)) (by decide +kernel)
theorem seX8_go : Cond.selects RX8 yX8_go yX8_go ∈ zq_T := zq_mem (List.mem_of_getElem? (i := 839) (by decide +kernel)) (by decide +kernel)
abbrev mX8_die : zq_M := (yX8_die, cX8_die, 2, (some .int))
theorem okX8_die : zq_ok mX8_die 1 := ⟨zq_mem (List.mem_of_getElem? (i := 852) (by decide +kernel)) (by decide +kernel), iniRX8, by decide +kernel, by decide +kernel, by decide⟩
theorem imX8_die : Cond.instanceMethod yX8_die ∈ zq_T := zq_mem (List.mem_of_getElem? (i := 850) (by decide +kernel)) (by decide +kernel)
theorem seX8_die : Cond.selects RX8 yX8_die yX8_die ∈ zq_T := zq_mem (List.mem_of_getElem? (i := 851) (by decide +kernel)) (by decide +kernel)
abbrev mX8_year : zq_M := (yX8_year, cX8_year, 2, (some .int))
theorem okX8_year : zq_ok mX8_year 0 := ⟨zq_mem (List.mem_of_getElem? (i := 856) (by decide +kernel)) (by decide +kernel), iniRX8, by decide +kernel, by decide +kernel, by decide⟩
theorem imX8_year : Cond.instanceMethod yX8_year ∈ zq_T := zq_mem (List.mem_of_getElem? (i := 854) (by decide +kernel)) (by decide +kernel)
theorem seX8_year : Cond.selects RX8 yX8_year yX8_year ∈ zq_T := zq_mem (List.mem_of_getElem? (i := 855) (by decide +kernel)) (by decide +kernel)
abbrev mX8_rumour : zq_M := (yX8_rumour, cX8_rumour, 3, (some .int))
theorem okX8_rumour : zq_ok mX8_rumour 2 := ⟨zq_mem (List.mem_of_getElem? (i := 860) (by decide +kernel)) (by decide +kernel), iniRX8, by decide +kernel, by decide +kernel, by decide⟩
theorem imX8_rumour : Cond.instanceMethod yX8_rumour ∈ zq_T := zq_mem (List.mem_of_getElem? (i := 858) (by decide +kernel)) (by decide +kernel)
theorem seX8_rumour : Cond.selects RX8 yX8_rumour yX8_rumour ∈ zq_T := zq_mem (List.mem_of_getElem? (i := 859) (by decide +kernel)) (by decide +kernel)
abbrev mX8_undo : zq_M := (yX8_undo, cX8_undo, 1, (some .int))
theorem okX8_undo : zq_ok mX8_undo 0 := ⟨zq_mem (List.mem_of_getElem? (i := 865) (by decide +kernel)) (by decide +kernel), iniRX8, by decide +kernel, by decide +kernel, by decide⟩
theorem imX8_undo : Cond.instanceMethod yX8_undo ∈ zq_T := zq_mem (List.mem_of_getElem? (i := 863) (by decide +kernel)) (by decide +kernel)
theorem seX8_undo : Cond.selects RX8 yX8_undo yX8_undo ∈ zq_T := zq_mem (List.mem_of_getElem? (i := 864) (by decide +kernel)) (by decide +kernel)
abbrev mX8_forgotten : zq_M := (yX8_forgotten, cX8_forgotten, 3, (some .int))
theorem okX8_forgotten : zq_ok mX8_forgotten 1 := ⟨zq_mem (List.mem_of_getElem? (i := 873) (by decide +kernel)) (by decide +kernel), iniRX8, by decide +kernel, by decide +kernel, by decide⟩
theorem imX8_forgotten : Cond.instanceMethod yX8_forgotten ∈ zq_T := zq_mem (List.mem_of_getElem? (i := 871) (by decide +kernel)) (by decide +kernel)
theorem seX8_forgotten : Cond.selects RX8 yX8_forgotten yX8_forgotten ∈ zq_T := zq_mem (List.mem_of_getElem? (i := 872) (by decide +kernel)) (by decide +kernel)
abbrev mX8_lie : zq_M := (yX8_lie, cX8_lie, 13, (some .int))
theorem okX8_lie : zq_ok mX8_lie 2 := ⟨zq_mem (List.mem_of_getElem? (i := 877) (by decide +kernel)) (by decide +kernel), iniRX8, by decide +kernel, by decide +kernel, by decide⟩
theorem imX8_lie : Cond.instanceMethod yX8_lie ∈ zq_T := zq_mem (List.mem_of_getElem? (i := 875) (by decide +kernel)) (by decide +kernel)
theorem seX8_lie : Cond.selects RX8 yX8_lie yX8_lie ∈ zq_T := zq_mem (List.mem_of_getElem? (i := 876) (by decide +kernel)) (by decide +kernel)
abbrev mX8_leave : zq_M := (yX8_leave, cX8_leave, 7, (some .int))
theorem okX8_leave : zq_ok mX8_leave 2 := ⟨zq_mem (List.mem_of_getElem? (i := 882) (by decide +kernel)) (by decide +kernel), iniRX8, by decide +kernel, by decide +kernel, by decide⟩
theorem imX8_leave : Cond.instanceMethod yX8_leave ∈ zq_T := zq_mem (List.mem_of_getElem? (i := 880) (by decide +kernel)) (by decide +kernel)
theorem seX8_leave : Cond.selects RX8 yX8_leave yX8_leave ∈ zq_T := zq_mem (List.mem_of_getElem? (i := 881) (by decide +kernel)) (by decide +kernel)
abbrev mX8_countBy : zq_M := (yX8_countBy, cX8_countBy, 6, (some .int))
theorem okX8_countBy : zq_ok mX8_countBy 2 := ⟨zq_mem (List.mem_of_getElem? (i := 894) (by decide +kernel)) (by decide +kernel), iniRX8, by decide +kernel, by decide +kernel, by decide⟩
theorem imX8_countBy : Cond.instanceMethod yX8_countBy ∈ zq_T := zq_mem (List.mem_of_getElem? (i := 893) (by decide +kernel)) (by decide +kernel)
theorem seX8_countBy : Cond.selects RX8 yX8_countBy yX8_countBy ∈ zq_T := zq_mem (List.mem_of_getElem? (i := 46) (by decide +kernel)) (by decide +kernel)
abbrev mX8_laySets : zq_M := (yX8_laySets, cX8_laySets, 7, none)
theorem okX8_laySets : zq_ok mX8_laySets 2 := ⟨zq_mem (List.mem_of_getElem? (i := 890) (by decide +kernel)) (by decide +kernel), iniRX8, by decide +kernel, by decide +kernel, by decide⟩
theorem imX8_laySets : Cond.instanceMethod yX8_laySets ∈ zq_T := zq_mem (List.mem_of_getElem? (i := 889) (by decide +kernel)) (by decide +kernel)
theorem seX8_laySets : Cond.selects RX8 yX8_laySets yX8_laySets ∈ zq_T := zq_mem (List.mem_of_getElem? (i := 45) (by decide +kernel)) (by decide +kernel)
abbrev mX8_spans : zq_M := (yX8_spans, cX8_spans, 4, (some .int))
theorem okX8_spans : zq_ok mX8_spans 3 := ⟨zq_mem (List.mem_of_getElem? (i := 886) (by decide +kernel)) (by decide +kernel), iniRX8, by decide +kernel, by decide +kernel, by decide⟩
theorem imX8_spans : Cond.instanceMethod yX8_spans ∈ zq_T := zq_mem (List.mem_of_getElem? (i := 884) (by decide +kernel)) (by decide +kernel)
theorem seX8_spans : Cond.selects RX8 yX8_spans yX8_spans ∈ zq_T := zq_mem (List.mem_of_getElem? (i := 885) (by decide +kernel)) (by decide +kernel)
abbrev mX8_toAsk : zq_M := (yX8_toAsk, cX8_toAsk, 7, (some .int))
theorem okX8_toAsk : zq_ok mX8_toAsk 2 := ⟨zq_mem (List.mem_of_getElem? (i := 898) (by decide +kernel)) (by decide +kernel), iniRX8, by decide +kernel, by decide +kernel, by decide⟩
theorem imX8_toAsk : Cond.instanceMethod yX8_toAsk ∈ zq_T := zq_mem (List.mem_of_getElem? (i := 896) (by decide +kernel)) (by decide +kernel)
theorem seX8_toAsk : Cond.selects RX8 yX8_toAsk yX8_toAsk ∈ zq_T := zq_mem (List.mem_of_getElem? (i := 897) (by decide +kernel)) (by decide +kernel)
abbrev mX8_countIn : zq_M := (yX8_countIn, cX8_countIn, 9, (some .int))
theorem okX8_countIn : zq_ok mX8_countIn 2 := ⟨zq_mem (List.mem_of_getElem? (i := 906) (by decide +kernel)) (by decide +kernel), iniRX8, by decide +kernel, by decide +kernel, by decide⟩
theorem imX8_countIn : Cond.instanceMethod yX8_countIn ∈ zq_T := zq_mem (List.mem_of_getElem? (i := 905) (by decide +kernel)) (by decide +kernel)
theorem seX8_countIn : Cond.selects RX8 yX8_countIn yX8_countIn ∈ zq_T := zq_mem (List.mem_of_getElem? (i := 47) (by decide +kernel)) (by decide +kernel)
abbrev mX8_retold : zq_M := (yX8_retold, cX8_retold, 16, (some .int))
theorem okX8_retold : zq_ok mX8_retold 4 := ⟨zq_mem (List.mem_of_getElem? (i := 902) (by decide +kernel)) (by decide +kernel), iniRX8, by decide +kernel, by decide +kernel, by decide⟩
theorem imX8_retold : Cond.instanceMethod yX8_retold ∈ zq_T := zq_mem (List.mem_of_getElem? (i := 900) (by decide +kernel)) (by decide +kernel)
theorem seX8_retold : Cond.selects RX8 yX8_retold yX8_retold ∈ zq_T := zq_mem (List.mem_of_getElem? (i := 901) (by decide +kernel)) (by decide +kernel)
abbrev mX8_divisor : zq_M := (yX8_divisor, cX8_divisor, 10, (some .long))
theorem okX8_divisor : zq_ok mX8_divisor 2 := ⟨zq_mem (List.mem_of_getElem? (i := 916) (by decide +kernel)) (by decide +kernel), iniRX8, by decide +kernel, by decide +kernel, by decide⟩
theorem smX8_divisor : Cond.static yX8_divisor ∈ zq_T := zq_mem (List.mem_of_getElem? (i := 915) (by decide +kernel)) (by decide +kernel)
abbrev mX8_chance : zq_M := (yX8_chance, cX8_chance, 14, (some .long))
theorem okX8_chance : zq_ok mX8_chance 4 := ⟨zq_mem (List.mem_of_getElem? (i := 910) (by decide +kernel)) (by decide +kernel), iniRX8, by decide +kernel, by decide +kernel, by decide⟩
theorem imX8_chance : Cond.instanceMethod yX8_chance ∈ zq_T := zq_mem (List.mem_of_getElem? (i := 908) (by decide +kernel)) (by decide +kernel)
theorem seX8_chance : Cond.selects RX8 yX8_chance yX8_chance ∈ zq_T := zq_mem (List.mem_of_getElem? (i := 909) (by decide +kernel)) (by decide +kernel)
abbrev mX8_keep : zq_M := (yX8_keep, cX8_keep, 2, (some .int))
theorem okX8_keep : zq_ok mX8_keep 1 := ⟨zq_mem (List.mem_of_getElem? (i := 920) (by decide +kernel)) (by decide +kernel), iniRX8, by decide +kernel, by decide +kernel, by decide⟩
theorem imX8_keep : Cond.instanceMethod yX8_keep ∈ zq_T := zq_mem (List.mem_of_getElem? (i := 918) (by decide +kernel)) (by decide +kernel)
theorem seX8_keep : Cond.selects RX8 yX8_keep yX8_keep ∈ zq_T := zq_mem (List.mem_of_getElem? (i := 919) (by decide +kernel)) (by decide +kernel)
abbrev mX8_again : zq_M := (yX8_again, cX8_again, 2, (some .int))
theorem okX8_again : zq_ok mX8_again 1 := ⟨zq_mem (List.mem_of_getElem? (i := 924) (by decide +kernel)) (by decide +kernel), iniRX8, by decide +kernel, by decide +kernel, by decide⟩
theorem imX8_again : Cond.instanceMethod yX8_again ∈ zq_T := zq_mem (List.mem_of_getElem? (i := 922) (by decide +kernel)) (by decide +kernel)
theorem seX8_again : Cond.selects RX8 yX8_again yX8_again ∈ zq_T := zq_mem (List.mem_of_getElem? (i := 923) (by decide +kernel)) (by decide +kernel)
abbrev mJ6_bitCount_0f7a4 : zq_M := (yJ6_bitCount_0f7a4, cJ6_bitCount_0f7a4, 1, (some .int))
theorem okJ6_bitCount_0f7a4 : zq_ok mJ6_bitCount_0f7a4 1 := ⟨zq_mem (List.mem_of_getElem? (i := 350) (by decide +kernel)) (by decide +kernel), iniRJ6, by decide +kernel, by decide +kernel, by decide⟩
theorem smJ6_bitCount_0f7a4 : Cond.static yJ6_bitCount_0f7a4 ∈ zq_T := zq_mem (List.mem_of_getElem? (i := 349) (by decide +kernel)) (by decide +kernel)
abbrev mJ9_abs_0f7a4 : zq_M := (yJ9_abs_0f7a4, cJ9_abs_0f7a4, 1, (some .int))
theorem smJ9_abs_0f7a4 : Cond.static yJ9_abs_0f7a4 ∈ zq_T := zq_mem (List.mem_of_getElem? (i := 410) (by decide +kernel)) (by decide +kernel)
abbrev mJ9_max_7cf53 : zq_M := (yJ9_max_7cf53, cJ9_max_7cf53, 2, (some .int))
theorem smJ9_max_7cf53 : Cond.static yJ9_max_7cf53 ∈ zq_T := zq_mem (List.mem_of_getElem? (i := 552) (by decide +kernel)) (by decide +kernel)
abbrev mJ9_max_f86c9 : zq_M := (yJ9_max_f86c9, cJ9_max_f86c9, 4, (some .long))
theorem smJ9_max_f86c9 : Cond.static yJ9_max_f86c9 ∈ zq_T := zq_mem (List.mem_of_getElem? (i := 605) (by decide +kernel)) (by decide +kernel)
abbrev mJ9_min_7cf53 : zq_M := (yJ9_min_7cf53, cJ9_min_7cf53, 2, (some .int))
theorem smJ9_min_7cf53 : Cond.static yJ9_min_7cf53 ∈ zq_T := zq_mem (List.mem_of_getElem? (i := 549) (by decide +kernel)) (by decide +kernel)
theorem imObj : Cond.instanceMethod objectInit ∈ zq_T := zq_mem (List.mem_of_getElem? (i := 66) (by decide +kernel)) (by decide +kernel)
theorem cdObj : Cond.code objectInit ⟨#[0xb1]⟩ 1 none ∈ zq_T := zq_mem (List.mem_of_getElem? (i := 67) (by decide +kernel)) (by decide +kernel)
theorem smmaxI : Cond.static Lib.Math.max.name ∈ zq_T := zq_mem (List.mem_of_getElem? (i := 552) (by decide +kernel)) (by decide +kernel)
theorem cdmaxI : Cond.code Lib.Math.max.name Lib.Math.max.code 2 (some .int) ∈ zq_T := zq_mem (List.mem_of_getElem? (i := 553) (by decide +kernel)) (by decide +kernel)
theorem smminI : Cond.static Lib.Math.min.name ∈ zq_T := zq_mem (List.mem_of_getElem? (i := 549) (by decide +kernel)) (by decide +kernel)
theorem cdminI : Cond.code Lib.Math.min.name Lib.Math.min.code 2 (some .int) ∈ zq_T := zq_mem (List.mem_of_getElem? (i := 550) (by decide +kernel)) (by decide +kernel)
theorem smabsI : Cond.static Lib.Math.abs.name ∈ zq_T := zq_mem (List.mem_of_getElem? (i := 410) (by decide +kernel)) (by decide +kernel)
theorem cdabsI : Cond.code Lib.Math.abs.name Lib.Math.abs.code 1 (some .int) ∈ zq_T := zq_mem (List.mem_of_getElem? (i := 411) (by decide +kernel)) (by decide +kernel)
theorem smmaxL : Cond.static Lib.MathLoose.max_long.x ∈ zq_T := zq_mem (List.mem_of_getElem? (i := 605) (by decide +kernel)) (by decide +kernel)
theorem cdmaxL : Cond.code Lib.MathLoose.max_long.x Lib.MathLoose.max_long.code 4 (some .long) ∈ zq_T := zq_mem (List.mem_of_getElem? (i := 606) (by decide +kernel)) (by decide +kernel)
theorem iniMath : Cond.initialized "java/lang/Math" ∈ zq_T := zq_mem (List.mem_of_getElem? (i := 59) (by decide +kernel)) (by decide +kernel)
theorem lcRL_7 : Cond.classLink RL 7 RX7 ∈ zq_T := zq_mem (List.mem_of_getElem? (i := 60) (by decide +kernel)) (by decide +kernel)
theorem itRX7 : Cond.instantiable RX7 11 ∈ zq_T := zq_mem (List.mem_of_getElem? (i := 61) (by decide +kernel)) (by decide +kernel)
theorem lmRL_9 : Cond.methodLink RL 9 yX7_init ∈ zq_T := zq_mem (List.mem_of_getElem? (i := 62) (by decide +kernel)) (by decide +kernel)
theorem lmRX7_1 : Cond.methodLink RX7 1 objectInit ∈ zq_T := zq_mem (List.mem_of_getElem? (i := 65) (by decide +kernel)) (by decide +kernel)
theorem lcRX7_7 : Cond.classLink RX7 7 RX4 ∈ zq_T := zq_mem (List.mem_of_getElem? (i := 68) (by decide +kernel)) (by decide +kernel)
theorem itRX4 : Cond.instantiable RX4 2 ∈ zq_T := zq_mem (List.mem_of_getElem? (i := 69) (by decide +kernel)) (by decide +kernel)
theorem lnRX7_9 : Cond.methodLinkNest RX7 9 yX4_init RX7 ∈ zq_NW := List.mem_filter.mpr ⟨List.mem_of_getElem? (i := 70) (by decide +kernel), (by decide +kernel)⟩
theorem lmRX4_3 : Cond.methodLink RX4 3 objectInit ∈ zq_T := zq_mem (List.mem_of_getElem? (i := 73) (by decide +kernel)) (by decide +kernel)
theorem lfRX4_9 : Cond.fieldLink RX4 9 "CountedMissing$Script" "bytes" "[B" ∈ zq_T := zq_mem (List.mem_of_getElem? (i := 74) (by decide +kernel)) (by decide +kernel)
theorem lfRX4_15 : Cond.fieldLink RX4 15 "CountedMissing$Script" "length" "I" ∈ zq_T := zq_mem (List.mem_of_getElem? (i := 75) (by decide +kernel)) (by decide +kernel)
theorem ac_byte : Cond.arrayClass .byte ∈ zq_T := zq_mem (List.mem_of_getElem? (i := 81) (by decide +kernel)) (by decide +kernel)
theorem lcRX7_16 : Cond.classLink RX7 16 RX2 ∈ zq_T := zq_mem (List.mem_of_getElem? (i := 82) (by decide +kernel)) (by decide +kernel)
theorem itRX2 : Cond.instantiable RX2 2 ∈ zq_T := zq_mem (List.mem_of_getElem? (i := 83) (by decide +kernel)) (by decide +kernel)
theorem lnRX7_18 : Cond.methodLinkNest RX7 18 yX2_init RX7 ∈ zq_NW := List.mem_filter.mpr ⟨List.mem_of_getElem? (i := 84) (by decide +kernel), (by decide +kernel)⟩
theorem lmRX2_3 : Cond.methodLink RX2 3 objectInit ∈ zq_T := zq_mem (List.mem_of_getElem? (i := 87) (by decide +kernel)) (by decide +kernel)
theorem lfRX2_16 : Cond.fieldLink RX2 16 "CountedMissing$Reader" "wants" "I" ∈ zq_T := zq_mem (List.mem_of_getElem? (i := 88) (by decide +kernel)) (by decide +kernel)
theorem lfRX2_73 : Cond.fieldLink RX2 73 "CountedMissing$Reader" "asker" "I" ∈ zq_T := zq_mem (List.mem_of_getElem? (i := 89) (by decide +kernel)) (by decide +kernel)
theorem lcRX7_23 : Cond.classLink RX7 23 RX5 ∈ zq_T := zq_mem (List.mem_of_getElem? (i := 95) (by decide +kernel)) (by decide +kernel)
theorem itRX5 : Cond.instantiable RX5 2 ∈ zq_T := zq_mem (List.mem_of_getElem? (i := 96) (by decide +kernel)) (by decide +kernel)
theorem lnRX7_25 : Cond.methodLinkNest RX7 25 yX5_init RX7 ∈ zq_NW := List.mem_filter.mpr ⟨List.mem_of_getElem? (i := 97) (by decide +kernel), (by decide +kernel)⟩
theorem lmRX5_3 : Cond.methodLink RX5 3 objectInit ∈ zq_T := zq_mem (List.mem_of_getElem? (i := 100) (by decide +kernel)) (by decide +kernel)
theorem lfRX5_9 : Cond.fieldLink RX5 9 "CountedMissing$Tally" "pairs" "I" ∈ zq_T := zq_mem (List.mem_of_getElem? (i := 101) (by decide +kernel)) (by decide +kernel)
theorem lfRX5_15 : Cond.fieldLink RX5 15 "CountedMissing$Tally" "missed" "I" ∈ zq_T := zq_mem (List.mem_of_getElem? (i := 102) (by decide +kernel)) (by decide +kernel)
theorem lcRX7_30 : Cond.classLink RX7 30 RX3 ∈ zq_T := zq_mem (List.mem_of_getElem? (i := 108) (by decide +kernel)) (by decide +kernel)
theorem itRX3 : Cond.instantiable RX3 6 ∈ zq_T := zq_mem (List.mem_of_getElem? (i := 109) (by decide +kernel)) (by decide +kernel)
theorem lnRX7_32 : Cond.methodLinkNest RX7 32 yX3_init RX7 ∈ zq_NW := List.mem_filter.mpr ⟨List.mem_of_getElem? (i := 110) (by decide +kernel), (by decide +kernel)⟩
theorem lmRX3_3 : Cond.methodLink RX3 3 objectInit ∈ zq_T := zq_mem (List.mem_of_getElem? (i := 113) (by decide +kernel)) (by decide +kernel)
theorem lcRX3_18 : Cond.classLink RX3 18 RX5 ∈ zq_T := zq_mem (List.mem_of_getElem? (i := 114) (by decide +kernel)) (by decide +kernel)
theorem lnRX3_20 : Cond.methodLinkNest RX3 20 yX5_init RX7 ∈ zq_NW := List.mem_filter.mpr ⟨List.mem_of_getElem? (i := 115) (by decide +kernel), (by decide +kernel)⟩
theorem lfRX3_9 : Cond.fieldLink RX3 9 "CountedMissing$Retelling" "left" "[I" ∈ zq_T := zq_mem (List.mem_of_getElem? (i := 116) (by decide +kernel)) (by decide +kernel)
theorem lfRX3_15 : Cond.fieldLink RX3 15 "CountedMissing$Retelling" "counts" "[I" ∈ zq_T := zq_mem (List.mem_of_getElem? (i := 117) (by decide +kernel)) (by decide +kernel)
theorem lfRX3_21 : Cond.fieldLink RX3 21 "CountedMissing$Retelling" "tally" "LCountedMissing$Tally;" ∈ zq_T := zq_mem (List.mem_of_getElem? (i := 118) (by decide +kernel)) (by decide +kernel)
theorem lfRX3_31 : Cond.fieldLink RX3 31 "CountedMissing$Retelling" "years" "I" ∈ zq_T := zq_mem (List.mem_of_getElem? (i := 119) (by decide +kernel)) (by decide +kernel)
theorem lfRX3_35 : Cond.fieldLink RX3 35 "CountedMissing$Retelling" "ways" "I" ∈ zq_T := zq_mem (List.mem_of_getElem? (i := 120) (by decide +kernel)) (by decide +kernel)
theorem lfRX7_230 : Cond.fieldLink RX7 230 "CountedMissing$Retelling" "ways" "I" ∈ zq_T := zq_mem (List.mem_of_getElem? (i := 121) (by decide +kernel)) (by decide +kernel)
theorem lfRX3_38 : Cond.fieldLink RX3 38 "CountedMissing$Retelling" "surely" "I" ∈ zq_T := zq_mem (List.mem_of_getElem? (i := 122) (by decide +kernel)) (by decide +kernel)
theorem lfRX7_233 : Cond.fieldLink RX7 233 "CountedMissing$Retelling" "surely" "I" ∈ zq_T := zq_mem (List.mem_of_getElem? (i := 123) (by decide +kernel)) (by decide +kernel)
theorem ac_int : Cond.arrayClass .int ∈ zq_T := zq_mem (List.mem_of_getElem? (i := 137) (by decide +kernel)) (by decide +kernel)
theorem lcRX7_37 : Cond.classLink RX7 37 RX1 ∈ zq_T := zq_mem (List.mem_of_getElem? (i := 138) (by decide +kernel)) (by decide +kernel)
theorem itRX1 : Cond.instantiable RX1 3 ∈ zq_T := zq_mem (List.mem_of_getElem? (i := 139) (by decide +kernel)) (by decide +kernel)
theorem lmRX7_39 : Cond.methodLink RX7 39 yX1_init ∈ zq_T := zq_mem (List.mem_of_getElem? (i := 140) (by decide +kernel)) (by decide +kernel)
theorem lmRX1_3 : Cond.methodLink RX1 3 objectInit ∈ zq_T := zq_mem (List.mem_of_getElem? (i := 143) (by decide +kernel)) (by decide +kernel)
theorem lcRX1_9 : Cond.classLink RX1 9 RX6 ∈ zq_T := zq_mem (List.mem_of_getElem? (i := 144) (by decide +kernel)) (by decide +kernel)
theorem ao_World : Cond.arrayOver (.object RX6) ∈ zq_NW := List.mem_filter.mpr ⟨List.mem_of_getElem? (i := 145) (by decide +kernel), (by decide +kernel)⟩
theorem itRX6 : Cond.instantiable RX6 5 ∈ zq_T := zq_mem (List.mem_of_getElem? (i := 146) (by decide +kernel)) (by decide +kernel)
theorem lnRX1_17 : Cond.methodLinkNest RX1 17 yX6_init RX7 ∈ zq_NW := List.mem_filter.mpr ⟨List.mem_of_getElem? (i := 147) (by decide +kernel), (by decide +kernel)⟩
theorem lmRX6_3 : Cond.methodLink RX6 3 objectInit ∈ zq_T := zq_mem (List.mem_of_getElem? (i := 150) (by decide +kernel)) (by decide +kernel)
theorem lfRX6_24 : Cond.fieldLink RX6 24 "CountedMissing$World" "year" "I" ∈ zq_T := zq_mem (List.mem_of_getElem? (i := 151) (by decide +kernel)) (by decide +kernel)
theorem lfRX7_103 : Cond.fieldLink RX7 103 "CountedMissing$World" "year" "I" ∈ zq_T := zq_mem (List.mem_of_getElem? (i := 152) (by decide +kernel)) (by decide +kernel)
theorem lfRX6_9 : Cond.fieldLink RX6 9 "CountedMissing$World" "where" "[I" ∈ zq_T := zq_mem (List.mem_of_getElem? (i := 153) (by decide +kernel)) (by decide +kernel)
theorem lfRX7_133 : Cond.fieldLink RX7 133 "CountedMissing$World" "where" "[I" ∈ zq_T := zq_mem (List.mem_of_getElem? (i := 154) (by decide +kernel)) (by decide +kernel)
theorem lfRX6_15 : Cond.fieldLink RX6 15 "CountedMissing$World" "since" "[I" ∈ zq_T := zq_mem (List.mem_of_getElem? (i := 155) (by decide +kernel)) (by decide +kernel)
theorem lfRX7_136 : Cond.fieldLink RX7 136 "CountedMissing$World" "since" "[I" ∈ zq_T := zq_mem (List.mem_of_getElem? (i := 156) (by decide +kernel)) (by decide +kernel)
theorem lfRX6_18 : Cond.fieldLink RX6 18 "CountedMissing$World" "died" "[I" ∈ zq_T := zq_mem (List.mem_of_getElem? (i := 157) (by decide +kernel)) (by decide +kernel)
theorem lfRX7_139 : Cond.fieldLink RX7 139 "CountedMissing$World" "died" "[I" ∈ zq_T := zq_mem (List.mem_of_getElem? (i := 158) (by decide +kernel)) (by decide +kernel)
theorem lfRX6_21 : Cond.fieldLink RX6 21 "CountedMissing$World" "rumours" "[I" ∈ zq_T := zq_mem (List.mem_of_getElem? (i := 159) (by decide +kernel)) (by decide +kernel)
theorem lfRX7_158 : Cond.fieldLink RX7 158 "CountedMissing$World" "rumours" "[I" ∈ zq_T := zq_mem (List.mem_of_getElem? (i := 160) (by decide +kernel)) (by decide +kernel)
theorem lfRX1_11 : Cond.fieldLink RX1 11 "CountedMissing$History" "ahead" "[LCountedMissing$World;" ∈ zq_T := zq_mem (List.mem_of_getElem? (i := 172) (by decide +kernel)) (by decide +kernel)
theorem lfRX1_22 : Cond.fieldLink RX1 22 "CountedMissing$History" "first" "I" ∈ zq_T := zq_mem (List.mem_of_getElem? (i := 173) (by decide +kernel)) (by decide +kernel)
theorem lfRX1_18 : Cond.fieldLink RX1 18 "CountedMissing$History" "count" "I" ∈ zq_T := zq_mem (List.mem_of_getElem? (i := 174) (by decide +kernel)) (by decide +kernel)
theorem lcRX7_44 : Cond.classLink RX7 44 RX6 ∈ zq_T := zq_mem (List.mem_of_getElem? (i := 182) (by decide +kernel)) (by decide +kernel)
theorem lnRX7_46 : Cond.methodLinkNest RX7 46 yX6_init RX7 ∈ zq_NW := List.mem_filter.mpr ⟨List.mem_of_getElem? (i := 183) (by decide +kernel), (by decide +kernel)⟩
theorem lcRX7_63 : Cond.classLink RX7 63 RX0 ∈ zq_T := zq_mem (List.mem_of_getElem? (i := 184) (by decide +kernel)) (by decide +kernel)
theorem itRX0 : Cond.instantiable RX0 8 ∈ zq_T := zq_mem (List.mem_of_getElem? (i := 185) (by decide +kernel)) (by decide +kernel)
theorem lnRX7_65 : Cond.methodLinkNest RX7 65 yX0_init RX7 ∈ zq_NW := List.mem_filter.mpr ⟨List.mem_of_getElem? (i := 186) (by decide +kernel), (by decide +kernel)⟩
theorem lmRX0_3 : Cond.methodLink RX0 3 objectInit ∈ zq_T := zq_mem (List.mem_of_getElem? (i := 189) (by decide +kernel)) (by decide +kernel)
theorem lfRX0_28 : Cond.fieldLink RX0 28 "CountedMissing$Folk" "law" "I" ∈ zq_T := zq_mem (List.mem_of_getElem? (i := 190) (by decide +kernel)) (by decide +kernel)
theorem lfRX2_34 : Cond.fieldLink RX2 34 "CountedMissing$Folk" "law" "I" ∈ zq_T := zq_mem (List.mem_of_getElem? (i := 191) (by decide +kernel)) (by decide +kernel)
theorem lfRX5_24 : Cond.fieldLink RX5 24 "CountedMissing$Folk" "law" "I" ∈ zq_T := zq_mem (List.mem_of_getElem? (i := 192) (by decide +kernel)) (by decide +kernel)
theorem lfRX7_100 : Cond.fieldLink RX7 100 "CountedMissing$Folk" "law" "I" ∈ zq_T := zq_mem (List.mem_of_getElem? (i := 193) (by decide +kernel)) (by decide +kernel)
theorem lfRX0_9 : Cond.fieldLink RX0 9 "CountedMissing$Folk" "towns" "I" ∈ zq_T := zq_mem (List.mem_of_getElem? (i := 194) (by decide +kernel)) (by decide +kernel)
theorem lfRX2_37 : Cond.fieldLink RX2 37 "CountedMissing$Folk" "towns" "I" ∈ zq_T := zq_mem (List.mem_of_getElem? (i := 195) (by decide +kernel)) (by decide +kernel)
theorem lfRX7_97 : Cond.fieldLink RX7 97 "CountedMissing$Folk" "towns" "I" ∈ zq_T := zq_mem (List.mem_of_getElem? (i := 196) (by decide +kernel)) (by decide +kernel)
theorem lfRX0_31 : Cond.fieldLink RX0 31 "CountedMissing$Folk" "people" "I" ∈ zq_T := zq_mem (List.mem_of_getElem? (i := 197) (by decide +kernel)) (by decide +kernel)
theorem lfRX2_49 : Cond.fieldLink RX2 49 "CountedMissing$Folk" "people" "I" ∈ zq_T := zq_mem (List.mem_of_getElem? (i := 198) (by decide +kernel)) (by decide +kernel)
theorem lfRX3_61 : Cond.fieldLink RX3 61 "CountedMissing$Folk" "people" "I" ∈ zq_T := zq_mem (List.mem_of_getElem? (i := 199) (by decide +kernel)) (by decide +kernel)
theorem lfRX7_93 : Cond.fieldLink RX7 93 "CountedMissing$Folk" "people" "I" ∈ zq_T := zq_mem (List.mem_of_getElem? (i := 200) (by decide +kernel)) (by decide +kernel)
theorem lfRX0_34 : Cond.fieldLink RX0 34 "CountedMissing$Folk" "pairs" "I" ∈ zq_T := zq_mem (List.mem_of_getElem? (i := 201) (by decide +kernel)) (by decide +kernel)
theorem lfRX2_83 : Cond.fieldLink RX2 83 "CountedMissing$Folk" "pairs" "I" ∈ zq_T := zq_mem (List.mem_of_getElem? (i := 202) (by decide +kernel)) (by decide +kernel)
theorem lfRX7_116 : Cond.fieldLink RX7 116 "CountedMissing$Folk" "pairs" "I" ∈ zq_T := zq_mem (List.mem_of_getElem? (i := 203) (by decide +kernel)) (by decide +kernel)
theorem lfRX0_15 : Cond.fieldLink RX0 15 "CountedMissing$Folk" "home" "[I" ∈ zq_T := zq_mem (List.mem_of_getElem? (i := 204) (by decide +kernel)) (by decide +kernel)
theorem lfRX6_28 : Cond.fieldLink RX6 28 "CountedMissing$Folk" "home" "[I" ∈ zq_T := zq_mem (List.mem_of_getElem? (i := 205) (by decide +kernel)) (by decide +kernel)
theorem lfRX2_56 : Cond.fieldLink RX2 56 "CountedMissing$Folk" "home" "[I" ∈ zq_T := zq_mem (List.mem_of_getElem? (i := 206) (by decide +kernel)) (by decide +kernel)
theorem lfRX7_124 : Cond.fieldLink RX7 124 "CountedMissing$Folk" "home" "[I" ∈ zq_T := zq_mem (List.mem_of_getElem? (i := 207) (by decide +kernel)) (by decide +kernel)
theorem lfRX0_19 : Cond.fieldLink RX0 19 "CountedMissing$Folk" "name" "[I" ∈ zq_T := zq_mem (List.mem_of_getElem? (i := 208) (by decide +kernel)) (by decide +kernel)
theorem lfRX2_64 : Cond.fieldLink RX2 64 "CountedMissing$Folk" "name" "[I" ∈ zq_T := zq_mem (List.mem_of_getElem? (i := 209) (by decide +kernel)) (by decide +kernel)
theorem lfRX7_127 : Cond.fieldLink RX7 127 "CountedMissing$Folk" "name" "[I" ∈ zq_T := zq_mem (List.mem_of_getElem? (i := 210) (by decide +kernel)) (by decide +kernel)
theorem lfRX0_22 : Cond.fieldLink RX0 22 "CountedMissing$Folk" "memory" "[I" ∈ zq_T := zq_mem (List.mem_of_getElem? (i := 211) (by decide +kernel)) (by decide +kernel)
theorem lfRX3_73 : Cond.fieldLink RX3 73 "CountedMissing$Folk" "memory" "[I" ∈ zq_T := zq_mem (List.mem_of_getElem? (i := 212) (by decide +kernel)) (by decide +kernel)
theorem lfRX2_67 : Cond.fieldLink RX2 67 "CountedMissing$Folk" "memory" "[I" ∈ zq_T := zq_mem (List.mem_of_getElem? (i := 213) (by decide +kernel)) (by decide +kernel)
theorem lfRX7_130 : Cond.fieldLink RX7 130 "CountedMissing$Folk" "memory" "[I" ∈ zq_T := zq_mem (List.mem_of_getElem? (i := 214) (by decide +kernel)) (by decide +kernel)
theorem lfRX0_25 : Cond.fieldLink RX0 25 "CountedMissing$Folk" "asks" "[I" ∈ zq_T := zq_mem (List.mem_of_getElem? (i := 215) (by decide +kernel)) (by decide +kernel)
theorem lfRX3_70 : Cond.fieldLink RX3 70 "CountedMissing$Folk" "asks" "[I" ∈ zq_T := zq_mem (List.mem_of_getElem? (i := 216) (by decide +kernel)) (by decide +kernel)
theorem lfRX2_70 : Cond.fieldLink RX2 70 "CountedMissing$Folk" "asks" "[I" ∈ zq_T := zq_mem (List.mem_of_getElem? (i := 217) (by decide +kernel)) (by decide +kernel)
theorem lfRX7_142 : Cond.fieldLink RX7 142 "CountedMissing$Folk" "asks" "[I" ∈ zq_T := zq_mem (List.mem_of_getElem? (i := 218) (by decide +kernel)) (by decide +kernel)
theorem ac_boolean : Cond.arrayClass .boolean ∈ zq_T := zq_mem (List.mem_of_getElem? (i := 236) (by decide +kernel)) (by decide +kernel)
theorem lmRX7_73 : Cond.methodLink RX7 73 yX6_begin ∈ zq_T := zq_mem (List.mem_of_getElem? (i := 237) (by decide +kernel)) (by decide +kernel)
theorem lmRX6_33 : Cond.methodLink RX6 33 yX6_clearRumours ∈ zq_T := zq_mem (List.mem_of_getElem? (i := 241) (by decide +kernel)) (by decide +kernel)
theorem lfRX7_10 : Cond.fieldLink RX7 10 "CountedMissing" "script" "LCountedMissing$Script;" ∈ zq_T := zq_mem (List.mem_of_getElem? (i := 245) (by decide +kernel)) (by decide +kernel)
theorem lfRX7_19 : Cond.fieldLink RX7 19 "CountedMissing" "reader" "LCountedMissing$Reader;" ∈ zq_T := zq_mem (List.mem_of_getElem? (i := 246) (by decide +kernel)) (by decide +kernel)
theorem lfRX7_26 : Cond.fieldLink RX7 26 "CountedMissing" "tally" "LCountedMissing$Tally;" ∈ zq_T := zq_mem (List.mem_of_getElem? (i := 247) (by decide +kernel)) (by decide +kernel)
theorem lfRX7_33 : Cond.fieldLink RX7 33 "CountedMissing" "retelling" "LCountedMissing$Retelling;" ∈ zq_T := zq_mem (List.mem_of_getElem? (i := 248) (by decide +kernel)) (by decide +kernel)
theorem lfRX7_40 : Cond.fieldLink RX7 40 "CountedMissing" "acts" "LCountedMissing$History;" ∈ zq_T := zq_mem (List.mem_of_getElem? (i := 249) (by decide +kernel)) (by decide +kernel)
theorem lfRX7_47 : Cond.fieldLink RX7 47 "CountedMissing" "now" "LCountedMissing$World;" ∈ zq_T := zq_mem (List.mem_of_getElem? (i := 250) (by decide +kernel)) (by decide +kernel)
theorem lfRX7_51 : Cond.fieldLink RX7 51 "CountedMissing" "kept" "[LCountedMissing$World;" ∈ zq_T := zq_mem (List.mem_of_getElem? (i := 251) (by decide +kernel)) (by decide +kernel)
theorem lfRX7_55 : Cond.fieldLink RX7 55 "CountedMissing" "isKept" "[Z" ∈ zq_T := zq_mem (List.mem_of_getElem? (i := 252) (by decide +kernel)) (by decide +kernel)
theorem lfRX7_59 : Cond.fieldLink RX7 59 "CountedMissing" "misses" "[I" ∈ zq_T := zq_mem (List.mem_of_getElem? (i := 253) (by decide +kernel)) (by decide +kernel)
theorem lfRX7_66 : Cond.fieldLink RX7 66 "CountedMissing" "folk" "LCountedMissing$Folk;" ∈ zq_T := zq_mem (List.mem_of_getElem? (i := 254) (by decide +kernel)) (by decide +kernel)
theorem lfRX7_70 : Cond.fieldLink RX7 70 "CountedMissing" "draft" "LCountedMissing$Folk;" ∈ zq_T := zq_mem (List.mem_of_getElem? (i := 255) (by decide +kernel)) (by decide +kernel)
theorem lmRL_15 : Cond.methodLink RL 15 yX7_write ∈ zq_T := zq_mem (List.mem_of_getElem? (i := 279) (by decide +kernel)) (by decide +kernel)
theorem lmRX7_77 : Cond.methodLink RX7 77 yX4_takeBytes ∈ zq_T := zq_mem (List.mem_of_getElem? (i := 283) (by decide +kernel)) (by decide +kernel)
theorem lmRX7_81 : Cond.methodLink RX7 81 yX4_size ∈ zq_T := zq_mem (List.mem_of_getElem? (i := 287) (by decide +kernel)) (by decide +kernel)
theorem lmRL_20 : Cond.methodLink RL 20 yX7_wipe ∈ zq_T := zq_mem (List.mem_of_getElem? (i := 291) (by decide +kernel)) (by decide +kernel)
theorem lmRX7_85 : Cond.methodLink RX7 85 yX4_clear ∈ zq_T := zq_mem (List.mem_of_getElem? (i := 295) (by decide +kernel)) (by decide +kernel)
theorem lmRL_25 : Cond.methodLink RL 25 yX7_fault ∈ zq_T := zq_mem (List.mem_of_getElem? (i := 299) (by decide +kernel)) (by decide +kernel)
theorem lmRX7_88 : Cond.methodLink RX7 88 yX2_faultOf ∈ zq_T := zq_mem (List.mem_of_getElem? (i := 303) (by decide +kernel)) (by decide +kernel)
theorem lmRX2_9 : Cond.methodLink RX2 9 yX0_clear ∈ zq_T := zq_mem (List.mem_of_getElem? (i := 307) (by decide +kernel)) (by decide +kernel)
theorem lmRX2_20 : Cond.methodLink RX2 20 yX4_size ∈ zq_T := zq_mem (List.mem_of_getElem? (i := 311) (by decide +kernel)) (by decide +kernel)
theorem lmRX2_26 : Cond.methodLink RX2 26 yX4_byteAt ∈ zq_T := zq_mem (List.mem_of_getElem? (i := 312) (by decide +kernel)) (by decide +kernel)
theorem lmRX2_30 : Cond.methodLink RX2 30 yX2_takes ∈ zq_T := zq_mem (List.mem_of_getElem? (i := 316) (by decide +kernel)) (by decide +kernel)
theorem lmRX2_40 : Cond.methodLink RX2 40 yX2_takesPart ∈ zq_T := zq_mem (List.mem_of_getElem? (i := 320) (by decide +kernel)) (by decide +kernel)
theorem lmRX2_52 : Cond.methodLink RX2 52 yX0_mayAddPair ∈ zq_T := zq_mem (List.mem_of_getElem? (i := 324) (by decide +kernel)) (by decide +kernel)
theorem lmRX2_43 : Cond.methodLink RX2 43 yX2_takesOfPerson ∈ zq_T := zq_mem (List.mem_of_getElem? (i := 328) (by decide +kernel)) (by decide +kernel)
theorem lmRX2_60 : Cond.methodLink RX2 60 yX0_hasTown ∈ zq_T := zq_mem (List.mem_of_getElem? (i := 332) (by decide +kernel)) (by decide +kernel)
theorem lmRX2_46 : Cond.methodLink RX2 46 yX2_takesOfPair ∈ zq_T := zq_mem (List.mem_of_getElem? (i := 336) (by decide +kernel)) (by decide +kernel)
theorem lmRX2_76 : Cond.methodLink RX2 76 yX0_mayAskMore ∈ zq_T := zq_mem (List.mem_of_getElem? (i := 340) (by decide +kernel)) (by decide +kernel)
theorem lmRX0_37 : Cond.methodLink RX0 37 yX0_hasPerson ∈ zq_T := zq_mem (List.mem_of_getElem? (i := 344) (by decide +kernel)) (by decide +kernel)
theorem lmRX0_41 : Cond.methodLink RX0 41 yJ6_bitCount_0f7a4 ∈ zq_T := zq_mem (List.mem_of_getElem? (i := 348) (by decide +kernel)) (by decide +kernel)
theorem ctRJ6_265 : Cond.constant RJ6 265 (1431655765) ∈ zq_T := zq_mem (List.mem_of_getElem? (i := 351) (by decide +kernel)) (by decide +kernel)
theorem ctRJ6_266 : Cond.constant RJ6 266 (858993459) ∈ zq_T := zq_mem (List.mem_of_getElem? (i := 352) (by decide +kernel)) (by decide +kernel)
theorem ctRJ6_267 : Cond.constant RJ6 267 (252645135) ∈ zq_T := zq_mem (List.mem_of_getElem? (i := 353) (by decide +kernel)) (by decide +kernel)
theorem lmRX2_79 : Cond.methodLink RX2 79 yX0_mayAsk ∈ zq_T := zq_mem (List.mem_of_getElem? (i := 354) (by decide +kernel)) (by decide +kernel)
theorem lnRX0_47 : Cond.methodLinkNest RX0 47 yX7_has RX7 ∈ zq_NW := List.mem_filter.mpr ⟨List.mem_of_getElem? (i := 358) (by decide +kernel), (by decide +kernel)⟩
theorem lmRL_29 : Cond.methodLink RL 29 yX7_census ∈ zq_T := zq_mem (List.mem_of_getElem? (i := 361) (by decide +kernel)) (by decide +kernel)
theorem lmRX7_92 : Cond.methodLink RX7 92 yX1_clear ∈ zq_T := zq_mem (List.mem_of_getElem? (i := 365) (by decide +kernel)) (by decide +kernel)
theorem lmRL_33 : Cond.methodLink RL 33 yX7_about ∈ zq_T := zq_mem (List.mem_of_getElem? (i := 369) (by decide +kernel)) (by decide +kernel)
theorem lmRX7_106 : Cond.methodLink RX7 106 yX7_aliveBits ∈ zq_T := zq_mem (List.mem_of_getElem? (i := 373) (by decide +kernel)) (by decide +kernel)
theorem lmRX7_167 : Cond.methodLink RX7 167 yX6_isAlive ∈ zq_T := zq_mem (List.mem_of_getElem? (i := 377) (by decide +kernel)) (by decide +kernel)
theorem lmRX7_109 : Cond.methodLink RX7 109 yX7_everybody ∈ zq_T := zq_mem (List.mem_of_getElem? (i := 381) (by decide +kernel)) (by decide +kernel)
theorem lmRX7_112 : Cond.methodLink RX7 112 yX7_missedOf ∈ zq_T := zq_mem (List.mem_of_getElem? (i := 385) (by decide +kernel)) (by decide +kernel)
theorem lmRX7_145 : Cond.methodLink RX7 145 yX7_missedBy ∈ zq_T := zq_mem (List.mem_of_getElem? (i := 389) (by decide +kernel)) (by decide +kernel)
theorem lmRX7_253 : Cond.methodLink RX7 253 yX7_isAtHome ∈ zq_T := zq_mem (List.mem_of_getElem? (i := 393) (by decide +kernel)) (by decide +kernel)
theorem lmRX7_259 : Cond.methodLink RX7 259 yX7_rememberedBy ∈ zq_T := zq_mem (List.mem_of_getElem? (i := 397) (by decide +kernel)) (by decide +kernel)
theorem lmRX7_256 : Cond.methodLink RX7 256 yX7_isMissing ∈ zq_T := zq_mem (List.mem_of_getElem? (i := 401) (by decide +kernel)) (by decide +kernel)
theorem lmRX7_174 : Cond.methodLink RX7 174 yX6_heardIn ∈ zq_T := zq_mem (List.mem_of_getElem? (i := 405) (by decide +kernel)) (by decide +kernel)
theorem lmRX6_36 : Cond.methodLink RX6 36 Lib.Math.abs.name ∈ zq_T := zq_mem (List.mem_of_getElem? (i := 409) (by decide +kernel)) (by decide +kernel)
theorem lmRX7_119 : Cond.methodLink RX7 119 yX1_size ∈ zq_T := zq_mem (List.mem_of_getElem? (i := 412) (by decide +kernel)) (by decide +kernel)
theorem lmRL_38 : Cond.methodLink RL 38 yX7_person ∈ zq_T := zq_mem (List.mem_of_getElem? (i := 416) (by decide +kernel)) (by decide +kernel)
theorem lmRX7_120 : Cond.methodLink RX7 120 yX0_hasPerson ∈ zq_T := zq_mem (List.mem_of_getElem? (i := 420) (by decide +kernel)) (by decide +kernel)
theorem lmRL_43 : Cond.methodLink RL 43 yX7_town ∈ zq_T := zq_mem (List.mem_of_getElem? (i := 421) (by decide +kernel)) (by decide +kernel)
theorem lmRX7_149 : Cond.methodLink RX7 149 yX0_hasTown ∈ zq_T := zq_mem (List.mem_of_getElem? (i := 425) (by decide +kernel)) (by decide +kernel)
theorem lmRX7_152 : Cond.methodLink RX7 152 yX7_countOf ∈ zq_T := zq_mem (List.mem_of_getElem? (i := 426) (by decide +kernel)) (by decide +kernel)
theorem lmRX7_161 : Cond.methodLink RX7 161 yX0_ofHome ∈ zq_T := zq_mem (List.mem_of_getElem? (i := 430) (by decide +kernel)) (by decide +kernel)
theorem lmRX7_262 : Cond.methodLink RX7 262 yX7_fillMisses ∈ zq_T := zq_mem (List.mem_of_getElem? (i := 434) (by decide +kernel)) (by decide +kernel)
theorem lmRX7_265 : Cond.methodLink RX7 265 yX7_countMissedBy ∈ zq_T := zq_mem (List.mem_of_getElem? (i := 438) (by decide +kernel)) (by decide +kernel)
theorem lmRX7_268 : Cond.methodLink RX7 268 yX5_clear ∈ zq_T := zq_mem (List.mem_of_getElem? (i := 442) (by decide +kernel)) (by decide +kernel)
theorem lmRX7_220 : Cond.methodLink RX7 220 yX7_has ∈ zq_T := zq_mem (List.mem_of_getElem? (i := 446) (by decide +kernel)) (by decide +kernel)
theorem lmRX7_269 : Cond.methodLink RX7 269 yX5_addMissed ∈ zq_T := zq_mem (List.mem_of_getElem? (i := 447) (by decide +kernel)) (by decide +kernel)
theorem lmRX5_18 : Cond.methodLink RX5 18 yJ6_bitCount_0f7a4 ∈ zq_T := zq_mem (List.mem_of_getElem? (i := 451) (by decide +kernel)) (by decide +kernel)
theorem lmRX7_273 : Cond.methodLink RX7 273 yX5_countByLaw ∈ zq_T := zq_mem (List.mem_of_getElem? (i := 452) (by decide +kernel)) (by decide +kernel)
theorem lmRX5_29 : Cond.methodLink RX5 29 yX0_namesOf ∈ zq_T := zq_mem (List.mem_of_getElem? (i := 456) (by decide +kernel)) (by decide +kernel)
theorem lmRX7_155 : Cond.methodLink RX7 155 yX7_trulyIn ∈ zq_T := zq_mem (List.mem_of_getElem? (i := 460) (by decide +kernel)) (by decide +kernel)
theorem lmRX7_164 : Cond.methodLink RX7 164 yX7_missingOf ∈ zq_T := zq_mem (List.mem_of_getElem? (i := 464) (by decide +kernel)) (by decide +kernel)
theorem lmRL_47 : Cond.methodLink RL 47 yX7_law ∈ zq_T := zq_mem (List.mem_of_getElem? (i := 468) (by decide +kernel)) (by decide +kernel)
theorem lmRL_51 : Cond.methodLink RL 51 yX7_go ∈ zq_T := zq_mem (List.mem_of_getElem? (i := 472) (by decide +kernel)) (by decide +kernel)
theorem lmRX7_170 : Cond.methodLink RX7 170 yX1_remember ∈ zq_T := zq_mem (List.mem_of_getElem? (i := 476) (by decide +kernel)) (by decide +kernel)
theorem lmRX1_25 : Cond.methodLink RX1 25 yX6_copyFrom ∈ zq_T := zq_mem (List.mem_of_getElem? (i := 480) (by decide +kernel)) (by decide +kernel)
theorem lmRL_55 : Cond.methodLink RL 55 yX7_die ∈ zq_T := zq_mem (List.mem_of_getElem? (i := 484) (by decide +kernel)) (by decide +kernel)
theorem lmRL_59 : Cond.methodLink RL 59 yX7_year ∈ zq_T := zq_mem (List.mem_of_getElem? (i := 488) (by decide +kernel)) (by decide +kernel)
theorem lmRX7_178 : Cond.methodLink RX7 178 yX6_passYear ∈ zq_T := zq_mem (List.mem_of_getElem? (i := 492) (by decide +kernel)) (by decide +kernel)
theorem lmRL_63 : Cond.methodLink RL 63 yX7_rumour ∈ zq_T := zq_mem (List.mem_of_getElem? (i := 496) (by decide +kernel)) (by decide +kernel)
theorem lmRL_67 : Cond.methodLink RL 67 yX7_undo ∈ zq_T := zq_mem (List.mem_of_getElem? (i := 500) (by decide +kernel)) (by decide +kernel)
theorem lmRX7_181 : Cond.methodLink RX7 181 yX1_bringBack ∈ zq_T := zq_mem (List.mem_of_getElem? (i := 504) (by decide +kernel)) (by decide +kernel)
theorem lmRL_71 : Cond.methodLink RL 71 yX7_forgotten ∈ zq_T := zq_mem (List.mem_of_getElem? (i := 508) (by decide +kernel)) (by decide +kernel)
theorem lmRX7_184 : Cond.methodLink RX7 184 yX7_isMissed ∈ zq_T := zq_mem (List.mem_of_getElem? (i := 512) (by decide +kernel)) (by decide +kernel)
theorem lmRL_75 : Cond.methodLink RL 75 yX7_lie ∈ zq_T := zq_mem (List.mem_of_getElem? (i := 516) (by decide +kernel)) (by decide +kernel)
theorem lmRX7_188 : Cond.methodLink RX7 188 yX7_mostCountByLies ∈ zq_T := zq_mem (List.mem_of_getElem? (i := 520) (by decide +kernel)) (by decide +kernel)
theorem lmRL_79 : Cond.methodLink RL 79 yX7_leave ∈ zq_T := zq_mem (List.mem_of_getElem? (i := 524) (by decide +kernel)) (by decide +kernel)
theorem lmRX7_191 : Cond.methodLink RX7 191 yX7_atHomeIn ∈ zq_T := zq_mem (List.mem_of_getElem? (i := 528) (by decide +kernel)) (by decide +kernel)
theorem lmRX7_194 : Cond.methodLink RX7 194 yX7_fewestToLeave ∈ zq_T := zq_mem (List.mem_of_getElem? (i := 532) (by decide +kernel)) (by decide +kernel)
theorem lmRX7_197 : Cond.methodLink RX7 197 yJ6_bitCount_0f7a4 ∈ zq_T := zq_mem (List.mem_of_getElem? (i := 536) (by decide +kernel)) (by decide +kernel)
theorem lmRX7_213 : Cond.methodLink RX7 213 yX7_nextPart ∈ zq_T := zq_mem (List.mem_of_getElem? (i := 537) (by decide +kernel)) (by decide +kernel)
theorem lmRL_83 : Cond.methodLink RL 83 yX7_spans ∈ zq_T := zq_mem (List.mem_of_getElem? (i := 540) (by decide +kernel)) (by decide +kernel)
theorem lmRX7_202 : Cond.methodLink RX7 202 yX7_countIfAway ∈ zq_T := zq_mem (List.mem_of_getElem? (i := 544) (by decide +kernel)) (by decide +kernel)
theorem lmRX7_205 : Cond.methodLink RX7 205 Lib.Math.min.name ∈ zq_T := zq_mem (List.mem_of_getElem? (i := 548) (by decide +kernel)) (by decide +kernel)
theorem lmRX7_210 : Cond.methodLink RX7 210 Lib.Math.max.name ∈ zq_T := zq_mem (List.mem_of_getElem? (i := 551) (by decide +kernel)) (by decide +kernel)
theorem lmRL_88 : Cond.methodLink RL 88 yX7_toAsk ∈ zq_T := zq_mem (List.mem_of_getElem? (i := 554) (by decide +kernel)) (by decide +kernel)
theorem lmRX7_216 : Cond.methodLink RX7 216 yX7_setsWithout ∈ zq_T := zq_mem (List.mem_of_getElem? (i := 558) (by decide +kernel)) (by decide +kernel)
theorem lmRL_92 : Cond.methodLink RL 92 yX7_retold ∈ zq_T := zq_mem (List.mem_of_getElem? (i := 562) (by decide +kernel)) (by decide +kernel)
theorem lmRX7_223 : Cond.methodLink RX7 223 yX7_powerOfTen ∈ zq_T := zq_mem (List.mem_of_getElem? (i := 566) (by decide +kernel)) (by decide +kernel)
theorem lmRX7_240 : Cond.methodLink RX7 240 yX7_power ∈ zq_T := zq_mem (List.mem_of_getElem? (i := 569) (by decide +kernel)) (by decide +kernel)
theorem lmRX7_226 : Cond.methodLink RX7 226 yX3_tellAll ∈ zq_T := zq_mem (List.mem_of_getElem? (i := 572) (by decide +kernel)) (by decide +kernel)
theorem lmRX3_25 : Cond.methodLink RX3 25 Lib.Math.min.name ∈ zq_T := zq_mem (List.mem_of_getElem? (i := 576) (by decide +kernel)) (by decide +kernel)
theorem lmRX3_41 : Cond.methodLink RX3 41 yX3_tellFrom ∈ zq_T := zq_mem (List.mem_of_getElem? (i := 577) (by decide +kernel)) (by decide +kernel)
theorem lmRX3_45 : Cond.methodLink RX3 45 yJ6_bitCount_0f7a4 ∈ zq_T := zq_mem (List.mem_of_getElem? (i := 580) (by decide +kernel)) (by decide +kernel)
theorem lmRX3_51 : Cond.methodLink RX3 51 yX3_countIn ∈ zq_T := zq_mem (List.mem_of_getElem? (i := 581) (by decide +kernel)) (by decide +kernel)
theorem lmRX3_58 : Cond.methodLink RX3 58 yX5_clear ∈ zq_T := zq_mem (List.mem_of_getElem? (i := 585) (by decide +kernel)) (by decide +kernel)
theorem lnRX3_66 : Cond.methodLinkNest RX3 66 yX7_has RX7 ∈ zq_NW := List.mem_filter.mpr ⟨List.mem_of_getElem? (i := 586) (by decide +kernel), (by decide +kernel)⟩
theorem lmRX3_76 : Cond.methodLink RX3 76 yX3_leftSince ∈ zq_T := zq_mem (List.mem_of_getElem? (i := 587) (by decide +kernel)) (by decide +kernel)
theorem lmRX3_87 : Cond.methodLink RX3 87 Lib.Math.max.name ∈ zq_T := zq_mem (List.mem_of_getElem? (i := 591) (by decide +kernel)) (by decide +kernel)
theorem lmRX3_79 : Cond.methodLink RX3 79 yX5_addMissed ∈ zq_T := zq_mem (List.mem_of_getElem? (i := 592) (by decide +kernel)) (by decide +kernel)
theorem lmRX3_83 : Cond.methodLink RX3 83 yX5_countByLaw ∈ zq_T := zq_mem (List.mem_of_getElem? (i := 593) (by decide +kernel)) (by decide +kernel)
theorem lnRX3_55 : Cond.methodLinkNest RX3 55 yX7_nextPart RX7 ∈ zq_NW := List.mem_filter.mpr ⟨List.mem_of_getElem? (i := 594) (by decide +kernel), (by decide +kernel)⟩
theorem lmRL_97 : Cond.methodLink RL 97 yX7_chance ∈ zq_T := zq_mem (List.mem_of_getElem? (i := 595) (by decide +kernel)) (by decide +kernel)
theorem ctRX7_236 : Cond.constantLong RX7 236 (-1) ∈ zq_T := zq_mem (List.mem_of_getElem? (i := 599) (by decide +kernel)) (by decide +kernel)
theorem ctRX7_238 : Cond.constantLong RX7 238 (-2) ∈ zq_T := zq_mem (List.mem_of_getElem? (i := 600) (by decide +kernel)) (by decide +kernel)
theorem lmRX7_244 : Cond.methodLink RX7 244 yX7_commonDivisor ∈ zq_T := zq_mem (List.mem_of_getElem? (i := 601) (by decide +kernel)) (by decide +kernel)
theorem lmRX7_248 : Cond.methodLink RX7 248 Lib.MathLoose.max_long.x ∈ zq_T := zq_mem (List.mem_of_getElem? (i := 604) (by decide +kernel)) (by decide +kernel)
theorem lmRL_102 : Cond.methodLink RL 102 yX7_keep ∈ zq_T := zq_mem (List.mem_of_getElem? (i := 607) (by decide +kernel)) (by decide +kernel)
theorem lmRX7_250 : Cond.methodLink RX7 250 yX6_copyFrom ∈ zq_T := zq_mem (List.mem_of_getElem? (i := 611) (by decide +kernel)) (by decide +kernel)
theorem lmRL_106 : Cond.methodLink RL 106 yX7_again ∈ zq_T := zq_mem (List.mem_of_getElem? (i := 612) (by decide +kernel)) (by decide +kernel)
theorem lcRL_10 : Cond.classLink RL 10 RX8 ∈ zq_T := zq_mem (List.mem_of_getElem? (i := 616) (by decide +kernel)) (by decide +kernel)
theorem itRX8 : Cond.instantiable RX8 33 ∈ zq_T := zq_mem (List.mem_of_getElem? (i := 617) (by decide +kernel)) (by decide +kernel)
theorem lmRL_12 : Cond.methodLink RL 12 yX8_init ∈ zq_T := zq_mem (List.mem_of_getElem? (i := 618) (by decide +kernel)) (by decide +kernel)
theorem lmRX8_1 : Cond.methodLink RX8 1 objectInit ∈ zq_T := zq_mem (List.mem_of_getElem? (i := 621) (by decide +kernel)) (by decide +kernel)
theorem lfRX8_69 : Cond.fieldLink RX8 69 "CountedMissingModel" "thrown" "I" ∈ zq_T := zq_mem (List.mem_of_getElem? (i := 622) (by decide +kernel)) (by decide +kernel)
theorem lfRX8_7 : Cond.fieldLink RX8 7 "CountedMissingModel" "text" "[I" ∈ zq_T := zq_mem (List.mem_of_getElem? (i := 623) (by decide +kernel)) (by decide +kernel)
theorem lfRX8_81 : Cond.fieldLink RX8 81 "CountedMissingModel" "textSize" "I" ∈ zq_T := zq_mem (List.mem_of_getElem? (i := 624) (by decide +kernel)) (by decide +kernel)
theorem lfRX8_84 : Cond.fieldLink RX8 84 "CountedMissingModel" "place" "I" ∈ zq_T := zq_mem (List.mem_of_getElem? (i := 625) (by decide +kernel)) (by decide +kernel)
theorem lfRX8_128 : Cond.fieldLink RX8 128 "CountedMissingModel" "law" "I" ∈ zq_T := zq_mem (List.mem_of_getElem? (i := 626) (by decide +kernel)) (by decide +kernel)
theorem lfRX8_13 : Cond.fieldLink RX8 13 "CountedMissingModel" "towns" "I" ∈ zq_T := zq_mem (List.mem_of_getElem? (i := 627) (by decide +kernel)) (by decide +kernel)
theorem lfRX8_72 : Cond.fieldLink RX8 72 "CountedMissingModel" "people" "I" ∈ zq_T := zq_mem (List.mem_of_getElem? (i := 628) (by decide +kernel)) (by decide +kernel)
theorem lfRX8_17 : Cond.fieldLink RX8 17 "CountedMissingModel" "home" "[I" ∈ zq_T := zq_mem (List.mem_of_getElem? (i := 629) (by decide +kernel)) (by decide +kernel)
theorem lfRX8_20 : Cond.fieldLink RX8 20 "CountedMissingModel" "name" "[I" ∈ zq_T := zq_mem (List.mem_of_getElem? (i := 630) (by decide +kernel)) (by decide +kernel)
theorem lfRX8_23 : Cond.fieldLink RX8 23 "CountedMissingModel" "keeps" "[I" ∈ zq_T := zq_mem (List.mem_of_getElem? (i := 631) (by decide +kernel)) (by decide +kernel)
theorem lfRX8_26 : Cond.fieldLink RX8 26 "CountedMissingModel" "asks" "[I" ∈ zq_T := zq_mem (List.mem_of_getElem? (i := 632) (by decide +kernel)) (by decide +kernel)
theorem lfRX8_29 : Cond.fieldLink RX8 29 "CountedMissingModel" "where" "[I" ∈ zq_T := zq_mem (List.mem_of_getElem? (i := 633) (by decide +kernel)) (by decide +kernel)
theorem lfRX8_32 : Cond.fieldLink RX8 32 "CountedMissingModel" "since" "[I" ∈ zq_T := zq_mem (List.mem_of_getElem? (i := 634) (by decide +kernel)) (by decide +kernel)
theorem lfRX8_35 : Cond.fieldLink RX8 35 "CountedMissingModel" "died" "[I" ∈ zq_T := zq_mem (List.mem_of_getElem? (i := 635) (by decide +kernel)) (by decide +kernel)
theorem lfRX8_38 : Cond.fieldLink RX8 38 "CountedMissingModel" "rumours" "[I" ∈ zq_T := zq_mem (List.mem_of_getElem? (i := 636) (by decide +kernel)) (by decide +kernel)
theorem lfRX8_131 : Cond.fieldLink RX8 131 "CountedMissingModel" "year" "I" ∈ zq_T := zq_mem (List.mem_of_getElem? (i := 637) (by decide +kernel)) (by decide +kernel)
theorem lfRX8_118 : Cond.fieldLink RX8 118 "CountedMissingModel" "readLaw" "I" ∈ zq_T := zq_mem (List.mem_of_getElem? (i := 638) (by decide +kernel)) (by decide +kernel)
theorem lfRX8_87 : Cond.fieldLink RX8 87 "CountedMissingModel" "readTowns" "I" ∈ zq_T := zq_mem (List.mem_of_getElem? (i := 639) (by decide +kernel)) (by decide +kernel)
theorem lfRX8_94 : Cond.fieldLink RX8 94 "CountedMissingModel" "readPeople" "I" ∈ zq_T := zq_mem (List.mem_of_getElem? (i := 640) (by decide +kernel)) (by decide +kernel)
theorem lfRX8_105 : Cond.fieldLink RX8 105 "CountedMissingModel" "readPairs" "I" ∈ zq_T := zq_mem (List.mem_of_getElem? (i := 641) (by decide +kernel)) (by decide +kernel)
theorem lfRX8_41 : Cond.fieldLink RX8 41 "CountedMissingModel" "readHome" "[I" ∈ zq_T := zq_mem (List.mem_of_getElem? (i := 642) (by decide +kernel)) (by decide +kernel)
theorem lfRX8_44 : Cond.fieldLink RX8 44 "CountedMissingModel" "readName" "[I" ∈ zq_T := zq_mem (List.mem_of_getElem? (i := 643) (by decide +kernel)) (by decide +kernel)
theorem lfRX8_47 : Cond.fieldLink RX8 47 "CountedMissingModel" "readKeeps" "[I" ∈ zq_T := zq_mem (List.mem_of_getElem? (i := 644) (by decide +kernel)) (by decide +kernel)
theorem lfRX8_50 : Cond.fieldLink RX8 50 "CountedMissingModel" "readAsks" "[I" ∈ zq_T := zq_mem (List.mem_of_getElem? (i := 645) (by decide +kernel)) (by decide +kernel)
theorem lfRX8_53 : Cond.fieldLink RX8 53 "CountedMissingModel" "book" "[I" ∈ zq_T := zq_mem (List.mem_of_getElem? (i := 646) (by decide +kernel)) (by decide +kernel)
theorem lfRX8_134 : Cond.fieldLink RX8 134 "CountedMissingModel" "acts" "I" ∈ zq_T := zq_mem (List.mem_of_getElem? (i := 647) (by decide +kernel)) (by decide +kernel)
theorem lfRX8_56 : Cond.fieldLink RX8 56 "CountedMissingModel" "kept" "[I" ∈ zq_T := zq_mem (List.mem_of_getElem? (i := 648) (by decide +kernel)) (by decide +kernel)
theorem lfRX8_59 : Cond.fieldLink RX8 59 "CountedMissingModel" "isKept" "[Z" ∈ zq_T := zq_mem (List.mem_of_getElem? (i := 649) (by decide +kernel)) (by decide +kernel)
theorem lfRX8_192 : Cond.fieldLink RX8 192 "CountedMissingModel" "sets" "I" ∈ zq_T := zq_mem (List.mem_of_getElem? (i := 650) (by decide +kernel)) (by decide +kernel)
theorem lfRX8_63 : Cond.fieldLink RX8 63 "CountedMissingModel" "aways" "[I" ∈ zq_T := zq_mem (List.mem_of_getElem? (i := 651) (by decide +kernel)) (by decide +kernel)
theorem lfRX8_195 : Cond.fieldLink RX8 195 "CountedMissingModel" "fewest" "I" ∈ zq_T := zq_mem (List.mem_of_getElem? (i := 652) (by decide +kernel)) (by decide +kernel)
theorem lfRX8_198 : Cond.fieldLink RX8 198 "CountedMissingModel" "most" "I" ∈ zq_T := zq_mem (List.mem_of_getElem? (i := 653) (by decide +kernel)) (by decide +kernel)
theorem lfRX8_66 : Cond.fieldLink RX8 66 "CountedMissingModel" "goes" "[I" ∈ zq_T := zq_mem (List.mem_of_getElem? (i := 654) (by decide +kernel)) (by decide +kernel)
theorem lmRL_19 : Cond.methodLink RL 19 yX8_write ∈ zq_T := zq_mem (List.mem_of_getElem? (i := 722) (by decide +kernel)) (by decide +kernel)
theorem ctRX8_79 : Cond.constantLong RX8 79 (8) ∈ zq_T := zq_mem (List.mem_of_getElem? (i := 726) (by decide +kernel)) (by decide +kernel)
theorem lmRX8_75 : Cond.methodLink RX8 75 yX8_in ∈ zq_T := zq_mem (List.mem_of_getElem? (i := 727) (by decide +kernel)) (by decide +kernel)
theorem lmRL_24 : Cond.methodLink RL 24 yX8_wipe ∈ zq_T := zq_mem (List.mem_of_getElem? (i := 730) (by decide +kernel)) (by decide +kernel)
theorem lmRL_28 : Cond.methodLink RL 28 yX8_fault ∈ zq_T := zq_mem (List.mem_of_getElem? (i := 734) (by decide +kernel)) (by decide +kernel)
theorem lmRX8_124 : Cond.methodLink RX8 124 yX8_readCensus ∈ zq_T := zq_mem (List.mem_of_getElem? (i := 738) (by decide +kernel)) (by decide +kernel)
theorem lmRX8_90 : Cond.methodLink RX8 90 yX8_figure ∈ zq_T := zq_mem (List.mem_of_getElem? (i := 742) (by decide +kernel)) (by decide +kernel)
theorem lmRX8_121 : Cond.methodLink RX8 121 yX8_readPart ∈ zq_T := zq_mem (List.mem_of_getElem? (i := 746) (by decide +kernel)) (by decide +kernel)
theorem lmRX8_108 : Cond.methodLink RX8 108 yX8_readPerson ∈ zq_T := zq_mem (List.mem_of_getElem? (i := 750) (by decide +kernel)) (by decide +kernel)
theorem lmRX8_112 : Cond.methodLink RX8 112 yX8_hasLeft ∈ zq_T := zq_mem (List.mem_of_getElem? (i := 754) (by decide +kernel)) (by decide +kernel)
theorem lmRX8_97 : Cond.methodLink RX8 97 yX8_left ∈ zq_T := zq_mem (List.mem_of_getElem? (i := 758) (by decide +kernel)) (by decide +kernel)
theorem lmRX8_115 : Cond.methodLink RX8 115 yX8_readAsk ∈ zq_T := zq_mem (List.mem_of_getElem? (i := 762) (by decide +kernel)) (by decide +kernel)
theorem lmRX8_101 : Cond.methodLink RX8 101 yX8_has ∈ zq_T := zq_mem (List.mem_of_getElem? (i := 766) (by decide +kernel)) (by decide +kernel)
theorem lmRL_32 : Cond.methodLink RL 32 yX8_census ∈ zq_T := zq_mem (List.mem_of_getElem? (i := 769) (by decide +kernel)) (by decide +kernel)
theorem lmRL_37 : Cond.methodLink RL 37 yX8_about ∈ zq_T := zq_mem (List.mem_of_getElem? (i := 773) (by decide +kernel)) (by decide +kernel)
theorem lmRX8_151 : Cond.methodLink RX8 151 yX8_many ∈ zq_T := zq_mem (List.mem_of_getElem? (i := 777) (by decide +kernel)) (by decide +kernel)
theorem lmRX8_161 : Cond.methodLink RX8 161 yX8_missed ∈ zq_T := zq_mem (List.mem_of_getElem? (i := 780) (by decide +kernel)) (by decide +kernel)
theorem lmRX8_154 : Cond.methodLink RX8 154 yX8_misses ∈ zq_T := zq_mem (List.mem_of_getElem? (i := 784) (by decide +kernel)) (by decide +kernel)
theorem lmRX8_140 : Cond.methodLink RX8 140 yX8_isThere ∈ zq_T := zq_mem (List.mem_of_getElem? (i := 788) (by decide +kernel)) (by decide +kernel)
theorem lmRX8_144 : Cond.methodLink RX8 144 yX8_isMissing ∈ zq_T := zq_mem (List.mem_of_getElem? (i := 792) (by decide +kernel)) (by decide +kernel)
theorem lmRX8_137 : Cond.methodLink RX8 137 yX8_away ∈ zq_T := zq_mem (List.mem_of_getElem? (i := 796) (by decide +kernel)) (by decide +kernel)
theorem lmRX8_147 : Cond.methodLink RX8 147 yX8_remembers ∈ zq_T := zq_mem (List.mem_of_getElem? (i := 800) (by decide +kernel)) (by decide +kernel)
theorem lmRL_42 : Cond.methodLink RL 42 yX8_person ∈ zq_T := zq_mem (List.mem_of_getElem? (i := 804) (by decide +kernel)) (by decide +kernel)
theorem lmRX8_164 : Cond.methodLink RX8 164 yX8_noOne ∈ zq_T := zq_mem (List.mem_of_getElem? (i := 808) (by decide +kernel)) (by decide +kernel)
theorem lmRL_46 : Cond.methodLink RL 46 yX8_town ∈ zq_T := zq_mem (List.mem_of_getElem? (i := 812) (by decide +kernel)) (by decide +kernel)
theorem lmRX8_167 : Cond.methodLink RX8 167 yX8_noTown ∈ zq_T := zq_mem (List.mem_of_getElem? (i := 816) (by decide +kernel)) (by decide +kernel)
theorem lmRX8_170 : Cond.methodLink RX8 170 yX8_count ∈ zq_T := zq_mem (List.mem_of_getElem? (i := 820) (by decide +kernel)) (by decide +kernel)
theorem lmRX8_158 : Cond.methodLink RX8 158 yX8_counted ∈ zq_T := zq_mem (List.mem_of_getElem? (i := 824) (by decide +kernel)) (by decide +kernel)
theorem lmRX8_173 : Cond.methodLink RX8 173 yX8_atHome ∈ zq_T := zq_mem (List.mem_of_getElem? (i := 828) (by decide +kernel)) (by decide +kernel)
theorem lmRL_50 : Cond.methodLink RL 50 yX8_law ∈ zq_T := zq_mem (List.mem_of_getElem? (i := 832) (by decide +kernel)) (by decide +kernel)
theorem ctRX8_176 : Cond.constantLong RX8 176 (2) ∈ zq_T := zq_mem (List.mem_of_getElem? (i := 836) (by decide +kernel)) (by decide +kernel)
theorem lmRL_54 : Cond.methodLink RL 54 yX8_go ∈ zq_T := zq_mem (List.mem_of_getElem? (i := 837) (by decide +kernel)) (by decide +kernel)
theorem lmRX8_182 : Cond.methodLink RX8 182 yX8_note ∈ zq_T := zq_mem (List.mem_of_getElem? (i := 841) (by decide +kernel)) (by decide +kernel)
theorem lmRX8_178 : Cond.methodLink RX8 178 yX8_layPage ∈ zq_T := zq_mem (List.mem_of_getElem? (i := 845) (by decide +kernel)) (by decide +kernel)
theorem lmRL_58 : Cond.methodLink RL 58 yX8_die ∈ zq_T := zq_mem (List.mem_of_getElem? (i := 849) (by decide +kernel)) (by decide +kernel)
theorem lmRL_62 : Cond.methodLink RL 62 yX8_year ∈ zq_T := zq_mem (List.mem_of_getElem? (i := 853) (by decide +kernel)) (by decide +kernel)
theorem lmRL_66 : Cond.methodLink RL 66 yX8_rumour ∈ zq_T := zq_mem (List.mem_of_getElem? (i := 857) (by decide +kernel)) (by decide +kernel)
theorem ctRX8_185 : Cond.constantLong RX8 185 (9) ∈ zq_T := zq_mem (List.mem_of_getElem? (i := 861) (by decide +kernel)) (by decide +kernel)
theorem lmRL_70 : Cond.methodLink RL 70 yX8_undo ∈ zq_T := zq_mem (List.mem_of_getElem? (i := 862) (by decide +kernel)) (by decide +kernel)
theorem lmRX8_187 : Cond.methodLink RX8 187 yX8_takePage ∈ zq_T := zq_mem (List.mem_of_getElem? (i := 866) (by decide +kernel)) (by decide +kernel)
theorem lmRL_74 : Cond.methodLink RL 74 yX8_forgotten ∈ zq_T := zq_mem (List.mem_of_getElem? (i := 870) (by decide +kernel)) (by decide +kernel)
theorem lmRL_78 : Cond.methodLink RL 78 yX8_lie ∈ zq_T := zq_mem (List.mem_of_getElem? (i := 874) (by decide +kernel)) (by decide +kernel)
theorem ctRX8_190 : Cond.constantLong RX8 190 (99) ∈ zq_T := zq_mem (List.mem_of_getElem? (i := 878) (by decide +kernel)) (by decide +kernel)
theorem lmRL_82 : Cond.methodLink RL 82 yX8_leave ∈ zq_T := zq_mem (List.mem_of_getElem? (i := 879) (by decide +kernel)) (by decide +kernel)
theorem lmRL_87 : Cond.methodLink RL 87 yX8_spans ∈ zq_T := zq_mem (List.mem_of_getElem? (i := 883) (by decide +kernel)) (by decide +kernel)
theorem lmRX8_204 : Cond.methodLink RX8 204 yX8_laySets ∈ zq_T := zq_mem (List.mem_of_getElem? (i := 887) (by decide +kernel)) (by decide +kernel)
theorem lmRX8_201 : Cond.methodLink RX8 201 yX8_countBy ∈ zq_T := zq_mem (List.mem_of_getElem? (i := 891) (by decide +kernel)) (by decide +kernel)
theorem lmRL_91 : Cond.methodLink RL 91 yX8_toAsk ∈ zq_T := zq_mem (List.mem_of_getElem? (i := 895) (by decide +kernel)) (by decide +kernel)
theorem lmRL_96 : Cond.methodLink RL 96 yX8_retold ∈ zq_T := zq_mem (List.mem_of_getElem? (i := 899) (by decide +kernel)) (by decide +kernel)
theorem lmRX8_208 : Cond.methodLink RX8 208 yX8_countIn ∈ zq_T := zq_mem (List.mem_of_getElem? (i := 903) (by decide +kernel)) (by decide +kernel)
theorem lmRL_101 : Cond.methodLink RL 101 yX8_chance ∈ zq_T := zq_mem (List.mem_of_getElem? (i := 907) (by decide +kernel)) (by decide +kernel)
theorem ctRX8_211 : Cond.constantLong RX8 211 (-1) ∈ zq_T := zq_mem (List.mem_of_getElem? (i := 911) (by decide +kernel)) (by decide +kernel)
theorem ctRX8_213 : Cond.constantLong RX8 213 (10) ∈ zq_T := zq_mem (List.mem_of_getElem? (i := 912) (by decide +kernel)) (by decide +kernel)
theorem ctRX8_215 : Cond.constantLong RX8 215 (-2) ∈ zq_T := zq_mem (List.mem_of_getElem? (i := 913) (by decide +kernel)) (by decide +kernel)
theorem lmRX8_217 : Cond.methodLink RX8 217 yX8_divisor ∈ zq_T := zq_mem (List.mem_of_getElem? (i := 914) (by decide +kernel)) (by decide +kernel)
theorem lmRL_105 : Cond.methodLink RL 105 yX8_keep ∈ zq_T := zq_mem (List.mem_of_getElem? (i := 917) (by decide +kernel)) (by decide +kernel)
theorem lmRL_109 : Cond.methodLink RL 109 yX8_again ∈ zq_T := zq_mem (List.mem_of_getElem? (i := 921) (by decide +kernel)) (by decide +kernel)
theorem ctRL_13 : Cond.constantLong RL 13 (4294967295) ∈ zq_T := zq_mem (List.mem_of_getElem? (i := 925) (by decide +kernel)) (by decide +kernel)
end
section
/-! pure answers; calls that change nothing; the references, once all is made -/
def zb (b : Bool) : Int32 := if b = true then 1 else 0
theorem zb_nar (b : Bool) : narrow .boolean (.int (zb b)) = .int (zb b) := by cases b <;> rfl
theorem zb_0 (b : Bool) : zb b = 0 ↔ b = false := by cases b <;> simp [zb]
theorem zb_t : zb true = 1 := rfl
theorem zb_f : zb false = 0 := rfl
/-- the answer v, nothing changed -/
def zq_pu (v : Option Value) (n : Nat) (I : zq_I) (P : zq_P) : zq_R := fun v' n' I' P' => v' = v ∧ n' = n ∧ I' = I ∧ P' = P
theorem zq_pu_mk {v : Option Value} {n : Nat} {I : zq_I} {P : zq_P} : zq_pu v n I P v n I P := ⟨rfl, rfl, rfl, rfl⟩
section PCALLS
variable {G : zq_G} {M M' : zq_M} {d d' kc ks na : Nat} {sc : Bool} {pc q z : Nat} {L : List (Option Value)} {stk rest As : List Value} {n : Nat} {I : zq_I} {P : zq_P} {R R' : zq_R} {x : Value}
theorem ev_pV {b ci : Nat} (hd : decode M.2.1 pc = .ok (.invokevirtual z, 3)) (hq : pc + 3 = q) (hok : zq_ok M' na) (hlk : Cond.methodLink M.1.cls z M'.1 ∈ zq_T) (hin : Cond.instanceMethod M'.1 ∈ zq_T) (hsel : Cond.selects M'.1.cls M'.1 M'.1 ∈ zq_T)
    (hk : zq_kd b = some (.inl ci)) (hbn : b < n) (hci : ci < 9) (hcl : (zq_cls ci).1 = M'.1.cls) (hM : zq_Met G M' d' 0 0 (.ref b :: As) n I P (zq_pu (some x) n I P)) (hd' : d' < d) (hlen : As.length = na) (hst : stk = As.reverse ++ .ref b :: rest) (hsm : (rest.map fun v => v.category).sum ≤ 8)
    (kk : zq_E G M d kc ks sc q L (x :: rest) n I P R) : zq_E G M d kc ks sc pc L stk n I P R :=
  ev_callV (mc := 0) (ms := 0) hd hq hok hlk hin hsel hk hbn hci hcl hM hd' hlen hst hsm (fun v n' I' P' h => by obtain ⟨rfl, rfl, rfl, rfl⟩ := h; exact kk)
theorem ev_pS (hd : decode M.2.1 pc = .ok (.invokestatic z, 3)) (hq : pc + 3 = q) (hok : zq_ok M' na) (hlk : Cond.methodLink M.1.cls z M'.1 ∈ zq_T) (hstat : Cond.static M'.1 ∈ zq_T)
    (hM : zq_Met G M' d' 0 0 As n I P (zq_pu (some x) n I P)) (hd' : d' < d) (hlen : As.length = na) (hst : stk = As.reverse ++ rest) (hsm : (rest.map fun v => v.category).sum ≤ 8)
    (kk : zq_E G M d kc ks sc q L (x :: rest) n I P R) : zq_E G M d kc ks sc pc L stk n I P R :=
  ev_callS (mc := 0) (ms := 0) hd hq hok hlk hstat hM hd' hlen hst hsm (fun v n' I' P' h => by obtain ⟨rfl, rfl, rfl, rfl⟩ := h; exact kk)
theorem ev_pSN {host : String} (hd : decode M.2.1 pc = .ok (.invokestatic z, 3)) (hq : pc + 3 = q) (hok : zq_ok M' na) (hlk : Cond.methodLinkNest M.1.cls z M'.1 host ∈ zq_NW) (hstat : Cond.static M'.1 ∈ zq_T)
    (hM : zq_Met G M' d' 0 0 As n I P (zq_pu (some x) n I P)) (hd' : d' < d) (hlen : As.length = na) (hst : stk = As.reverse ++ rest) (hsm : (rest.map fun v => v.category).sum ≤ 8)
    (kk : zq_E G M d kc ks sc q L (x :: rest) n I P R) : zq_E G M d kc ks sc pc L stk n I P R :=
  ev_callSN (mc := 0) (ms := 0) hd hq hok hlk hstat hM hd' hlen hst hsm (fun v n' I' P' h => by obtain ⟨rfl, rfl, rfl, rfl⟩ := h; exact kk)
/-- calls that make nothing -/
theorem ev_cV {b ci : Nat} (hd : decode M.2.1 pc = .ok (.invokevirtual z, 3)) (hq : pc + 3 = q) (hok : zq_ok M' na) (hlk : Cond.methodLink M.1.cls z M'.1 ∈ zq_T) (hin : Cond.instanceMethod M'.1 ∈ zq_T) (hsel : Cond.selects M'.1.cls M'.1 M'.1 ∈ zq_T)
    (hk : zq_kd b = some (.inl ci)) (hbn : b < n) (hci : ci < 9) (hcl : (zq_cls ci).1 = M'.1.cls) (hM : zq_Met G M' d' 0 0 (.ref b :: As) n I P R') (hd' : d' < d) (hlen : As.length = na) (hst : stk = As.reverse ++ .ref b :: rest) (hsm : (rest.map fun v => v.category).sum ≤ 8)
    (kk : ∀ (v : Option Value) (n' : Nat) (I' : zq_I) (P' : zq_P), R' v n' I' P' → zq_E G M d kc ks sc q L (v.toList ++ rest) n' I' P' R) : zq_E G M d kc ks sc pc L stk n I P R :=
  ev_callV (mc := 0) (ms := 0) hd hq hok hlk hin hsel hk hbn hci hcl hM hd' hlen hst hsm kk
theorem ev_cS (hd : decode M.2.1 pc = .ok (.invokestatic z, 3)) (hq : pc + 3 = q) (hok : zq_ok M' na) (hlk : Cond.methodLink M.1.cls z M'.1 ∈ zq_T) (hstat : Cond.static M'.1 ∈ zq_T)
    (hM : zq_Met G M' d' 0 0 As n I P R') (hd' : d' < d) (hlen : As.length = na) (hst : stk = As.reverse ++ rest) (hsm : (rest.map fun v => v.category).sum ≤ 8)
    (kk : ∀ (v : Option Value) (n' : Nat) (I' : zq_I) (P' : zq_P), R' v n' I' P' → zq_E G M d kc ks sc q L (v.toList ++ rest) n' I' P' R) : zq_E G M d kc ks sc pc L stk n I P R :=
  ev_callS (mc := 0) (ms := 0) hd hq hok hlk hstat hM hd' hlen hst hsm kk
end PCALLS
theorem zq_Met.deeper {G : zq_G} {M : zq_M} {d d' mc ms : Nat} {As : List Value} {n : Nat} {I : zq_I} {P : zq_P} {R R' : zq_R} (hr : ∀ v n' I' P', R v n' I' P' → R' v n' I' P') (h : zq_Met G M d mc ms As n I P R) : zq_Met G M d mc ms As n I P R' := by
  intro l p e ha hc hk s m args below hf happ hP hK
  obtain ⟨k, o, h1, h2, h3, ⟨⟨⟨v, n', I', P', g1, g2, g3⟩, g4⟩, g5⟩⟩ := h l p e ha hc hk s m args below hf happ hP hK
  exact ⟨k, o, h1, h2, h3, ⟨⟨⟨v, n', I', P', g1, hr _ _ _ _ g2, g3⟩, g4⟩, g5⟩⟩
/-! how many cells there are, once all is made; what refers to what: fo says which of the two Folk is in use -/
def zq_pl : List (List (Option Nat)) :=
  let w := fun (b : Nat) => [[none, some (b + 1), some (b + 2), some (b + 3), some (b + 4)], [], [], [], []]
  [[some 1, some 3, some 4, some 5, some 9, some 91, some 96, some 107, some 108], [some 2], [], [], [], [some 6, some 7, some 8], [], [], [], [some 10],
   [some 11, some 16, some 21, some 26, some 31, some 36, some 41, some 46, some 51, some 56, some 61, some 66, some 71, some 76, some 81, some 86]] ++
  w 11 ++ w 16 ++ w 21 ++ w 26 ++ w 31 ++ w 36 ++ w 41 ++ w 46 ++ w 51 ++ w 56 ++ w 61 ++ w 66 ++ w 71 ++ w 76 ++ w 81 ++ w 86 ++ w 91 ++ [[some 97, some 102]] ++ w 97 ++ w 102 ++
  [[], [], [none, none, none, none, some 110, some 111, some 112, some 113], [], [], [], [], [none, none, none, none, some 115, some 116, some 117, some 118], [], [], [], [],
   [none, some 120, none, none, none, none, none, some 121, some 122, some 123, some 124, some 125, some 126, some 127, some 128, none, none, none, none, none, some 129, some 130, some 131, some 132, some 133, none, some 134, some 135, none, some 136, none, none, some 137]]
def zq_P0 : zq_P := fun c k => (zq_pl.getD c []).getD k none
def zF (fo : Bool) : Nat := if fo = true then 114 else 109
def zD (fo : Bool) : Nat := if fo = true then 109 else 114
def zPs (fo : Bool) : zq_P := fun c k => if c = 0 ∧ k = 9 then some (zF fo) else if c = 0 ∧ k = 10 then some (zD fo) else zq_P0 c k
end
section
/-! cells of the Folks and of the Worlds; rows read and written at a natural number's place -/
def zq_isF (f : Nat) : Prop := f = 109 ∨ f = 114
theorem zF_is (fo : Bool) : zq_isF (zF fo) := by cases fo <;> simp [zF, zq_isF]
theorem zD_is (fo : Bool) : zq_isF (zD fo) := by cases fo <;> simp [zD, zq_isF]
def zq_wl : List Nat := [11, 16, 21, 26, 31, 36, 41, 46, 51, 56, 61, 66, 71, 76, 81, 86, 91, 97, 102]
def zq_isW (w : Nat) : Prop := w ∈ zq_wl
theorem zW_now : zq_isW 91 := by unfold zq_isW; decide
theorem zf_kd {f : Nat} (h : zq_isF f) : zq_kd f = some (.inl 0) := by rcases h with rfl | rfl <;> rfl
theorem zw_kd {w : Nat} (h : zq_isW w) : zq_kd w = some (.inl 6) := (by decide +kernel : ∀ w ∈ zq_wl, zq_kd w = some (.inl 6)) w h
theorem zf_lt {f : Nat} (h : zq_isF f) : f < 138 := by rcases h with rfl | rfl <;> decide
theorem zw_lt {w : Nat} (h : zq_isW w) : w < 138 := (by decide +kernel : ∀ w ∈ zq_wl, w < 138) w h
theorem zf_kd1 {f : Nat} (h : zq_isF f) : zq_kd (f + 1) = some (.inr (0, 8)) := by rcases h with rfl | rfl <;> rfl
theorem zw_kd1 {w : Nat} (h : zq_isW w) : zq_kd (w + 1) = some (.inr (0, 8)) := (by decide +kernel : ∀ w ∈ zq_wl, zq_kd (w + 1) = some (.inr (0, 8))) w h
theorem zf_lt1 {f : Nat} (h : zq_isF f) : f + 1 < 138 := by rcases h with rfl | rfl <;> decide
theorem zw_lt1 {w : Nat} (h : zq_isW w) : w + 1 < 138 := (by decide +kernel : ∀ w ∈ zq_wl, w + 1 < 138) w h
theorem zf_p4 (fo : Bool) {f : Nat} (h : zq_isF f) : zPs fo f 4 = some (f + 1) := by rcases h with rfl | rfl <;> cases fo <;> rfl
theorem zw_p1 (fo : Bool) {w : Nat} (h : zq_isW w) : zPs fo w 1 = some (w + 1) := (by decide +kernel : ∀ fo, ∀ w ∈ zq_wl, zPs fo w 1 = some (w + 1)) fo w h
theorem zf_kd2 {f : Nat} (h : zq_isF f) : zq_kd (f + 2) = some (.inr (0, 8)) := by rcases h with rfl | rfl <;> rfl
theorem zw_kd2 {w : Nat} (h : zq_isW w) : zq_kd (w + 2) = some (.inr (0, 8)) := (by decide +kernel : ∀ w ∈ zq_wl, zq_kd (w + 2) = some (.inr (0, 8))) w h
theorem zf_lt2 {f : Nat} (h : zq_isF f) : f + 2 < 138 := by rcases h with rfl | rfl <;> decide
theorem zw_lt2 {w : Nat} (h : zq_isW w) : w + 2 < 138 := (by decide +kernel : ∀ w ∈ zq_wl, w + 2 < 138) w h
theorem zf_p5 (fo : Bool) {f : Nat} (h : zq_isF f) : zPs fo f 5 = some (f + 2) := by rcases h with rfl | rfl <;> cases fo <;> rfl
theorem zw_p2 (fo : Bool) {w : Nat} (h : zq_isW w) : zPs fo w 2 = some (w + 2) := (by decide +kernel : ∀ fo, ∀ w ∈ zq_wl, zPs fo w 2 = some (w + 2)) fo w h
theorem zf_kd3 {f : Nat} (h : zq_isF f) : zq_kd (f + 3) = some (.inr (0, 8)) := by rcases h with rfl | rfl <;> rfl
theorem zw_kd3 {w : Nat} (h : zq_isW w) : zq_kd (w + 3) = some (.inr (0, 8)) := (by decide +kernel : ∀ w ∈ zq_wl, zq_kd (w + 3) = some (.inr (0, 8))) w h
theorem zf_lt3 {f : Nat} (h : zq_isF f) : f + 3 < 138 := by rcases h with rfl | rfl <;> decide
theorem zw_lt3 {w : Nat} (h : zq_isW w) : w + 3 < 138 := (by decide +kernel : ∀ w ∈ zq_wl, w + 3 < 138) w h
theorem zf_p6 (fo : Bool) {f : Nat} (h : zq_isF f) : zPs fo f 6 = some (f + 3) := by rcases h with rfl | rfl <;> cases fo <;> rfl
theorem zw_p3 (fo : Bool) {w : Nat} (h : zq_isW w) : zPs fo w 3 = some (w + 3) := (by decide +kernel : ∀ fo, ∀ w ∈ zq_wl, zPs fo w 3 = some (w + 3)) fo w h
theorem zf_kd4 {f : Nat} (h : zq_isF f) : zq_kd (f + 4) = some (.inr (0, 8)) := by rcases h with rfl | rfl <;> rfl
theorem zw_kd4 {w : Nat} (h : zq_isW w) : zq_kd (w + 4) = some (.inr (0, 4)) := (by decide +kernel : ∀ w ∈ zq_wl, zq_kd (w + 4) = some (.inr (0, 4))) w h
theorem zf_lt4 {f : Nat} (h : zq_isF f) : f + 4 < 138 := by rcases h with rfl | rfl <;> decide
theorem zw_lt4 {w : Nat} (h : zq_isW w) : w + 4 < 138 := (by decide +kernel : ∀ w ∈ zq_wl, w + 4 < 138) w h
theorem zf_p7 (fo : Bool) {f : Nat} (h : zq_isF f) : zPs fo f 7 = some (f + 4) := by rcases h with rfl | rfl <;> cases fo <;> rfl
theorem zw_p4 (fo : Bool) {w : Nat} (h : zq_isW w) : zPs fo w 4 = some (w + 4) := (by decide +kernel : ∀ fo, ∀ w ∈ zq_wl, zPs fo w 4 = some (w + 4)) fo w h
theorem zq_kdN {b t N : Nat} (h : zq_kd b = some (.inr (t, N))) : N ≤ 1000 := by
  have h1 : ∀ x ∈ zq_kl, (match x with | .inr (_, N) => decide (N ≤ 1000) | _ => true) = true := by decide +kernel
  have h2 := h1 _ (List.mem_of_getElem? (show zq_kl[b]? = _ from h))
  simpa using h2
theorem zv_in {j N : Nat} (h : j < N) (hN : N ≤ 1000) : vp_in (nI j) N := vp_in_nI h (by omega)
section NROWS
variable {G : zq_G} {M : zq_M} {d kc ks : Nat} {sc : Bool} {pc q : Nat} {L : List (Option Value)} {st : List Value} {n : Nat} {I : zq_I} {P : zq_P} {R : zq_R} {b N j : Nat}
theorem ev_ialdN (hd : decode M.2.1 pc = .ok (.iaload, 1)) (hq : pc + 1 = q) (hk : zq_kd b = some (.inr (0, N))) (hbn : b < n) (hj : j < N) (k : zq_E G M d kc ks sc q L (.int (I b j) :: st) n I P R) : zq_E G M d kc ks sc pc L (.int (nI j) :: .ref b :: st) n I P R := by
  have hN := zq_kdN hk
  have hc := nI_clamp (n := j) (by omega)
  refine ev_iald hd hq hk hbn (zv_in hj hN) ?_
  rw [hc]
  exact k
theorem ev_baldN (hd : decode M.2.1 pc = .ok (.baload, 1)) (hq : pc + 1 = q) (hk : zq_kd b = some (.inr (1, N))) (hbn : b < n) (hj : j < N) (k : zq_E G M d kc ks sc q L (.int (I b j) :: st) n I P R) : zq_E G M d kc ks sc pc L (.int (nI j) :: .ref b :: st) n I P R := by
  have hN := zq_kdN hk
  have hc := nI_clamp (n := j) (by omega)
  refine ev_bald hd hq hk hbn (zv_in hj hN) ?_
  rw [hc]
  exact k
theorem ev_zaldN (hd : decode M.2.1 pc = .ok (.baload, 1)) (hq : pc + 1 = q) (hk : zq_kd b = some (.inr (2, N))) (hbn : b < n) (hj : j < N) (k : zq_E G M d kc ks sc q L (.int (I b j) :: st) n I P R) : zq_E G M d kc ks sc pc L (.int (nI j) :: .ref b :: st) n I P R := by
  have hN := zq_kdN hk
  have hc := nI_clamp (n := j) (by omega)
  refine ev_zald hd hq hk hbn (zv_in hj hN) ?_
  rw [hc]
  exact k
theorem ev_iastN {x : Int32} (hd : decode M.2.1 pc = .ok (.iastore, 1)) (hq : pc + 1 = q) (hk : zq_kd b = some (.inr (0, N))) (hbn : b < n) (hj : j < N) (k : zq_E G M d kc ks sc q L (st) n (zu I b j x) P R) : zq_E G M d kc ks sc pc L (.int x :: .int (nI j) :: .ref b :: st) n I P R := by
  have hN := zq_kdN hk
  have hc := nI_clamp (n := j) (by omega)
  refine ev_iast hd hq hk hbn (zv_in hj hN) ?_
  rw [hc]
  exact k
theorem ev_bastN {x : Int32} (hd : decode M.2.1 pc = .ok (.bastore, 1)) (hq : pc + 1 = q) (hk : zq_kd b = some (.inr (1, N))) (hbn : b < n) (hj : j < N) (k : zq_E G M d kc ks sc q L (st) n (zu I b j x.toInt8.toInt32) P R) : zq_E G M d kc ks sc pc L (.int x :: .int (nI j) :: .ref b :: st) n I P R := by
  have hN := zq_kdN hk
  have hc := nI_clamp (n := j) (by omega)
  refine ev_bast hd hq hk hbn (zv_in hj hN) ?_
  rw [hc]
  exact k
theorem ev_zastN {x : Int32} (hd : decode M.2.1 pc = .ok (.bastore, 1)) (hq : pc + 1 = q) (hk : zq_kd b = some (.inr (2, N))) (hbn : b < n) (hj : j < N) (k : zq_E G M d kc ks sc q L (st) n (zu I b j (x &&& 1)) P R) : zq_E G M d kc ks sc pc L (.int x :: .int (nI j) :: .ref b :: st) n I P R := by
  have hN := zq_kdN hk
  have hc := nI_clamp (n := j) (by omega)
  refine ev_zast hd hq hk hbn (zv_in hj hN) ?_
  rw [hc]
  exact k
theorem ev_aaldN {a : Nat} (hd : decode M.2.1 pc = .ok (.aaload, 1)) (hq : pc + 1 = q) (hk : zq_kd b = some (.inr (3, N))) (hbn : b < n) (hj : j < N) (ha : P b j = some a) (k : zq_E G M d kc ks sc q L (.ref a :: st) n I P R) : zq_E G M d kc ks sc pc L (.int (nI j) :: .ref b :: st) n I P R := by
  have hN := zq_kdN hk
  have hc := nI_clamp (n := j) (by omega)
  exact ev_aald hd hq hk hbn (zv_in hj hN) (by rw [hc]; exact ha) k
theorem ev_aastN {a : Nat} (hd : decode M.2.1 pc = .ok (.aastore, 1)) (hq : pc + 1 = q) (hk : zq_kd b = some (.inr (3, N))) (hbn : b < n) (hj : j < N) (hka : zq_kd a = some (.inl 6)) (han : a < n) (k : zq_E G M d kc ks sc q L st n I (zp P b j (some a)) R) : zq_E G M d kc ks sc pc L (.ref a :: .int (nI j) :: .ref b :: st) n I P R := by
  have hN := zq_kdN hk
  have hc := nI_clamp (n := j) (by omega)
  refine ev_aast (ci := 0) hd hq hk hbn (zv_in hj hN) hka han ?_
  rw [hc]
  exact k
end NROWS
end
section
/-! sets as bits, as the programs make and read them -/
def zsh (k : Nat) : Int32 := (1 : Int32) <<< (nI k &&& 31)
def zhas (m : Int32) (k : Nat) : Bool := !((m >>> (nI k &&& 31)) &&& 1 == 0)
/-- the parts f i of those i below n that c chooses, one into the other -/
def zor (f : Nat → Int32) (c : Nat → Bool) : Nat → Int32
  | 0 => 0
  | n + 1 => if c n = true then zor f c n ||| f n else zor f c n
def zsum (f : Nat → Int32) (c : Nat → Bool) : Nat → Int32
  | 0 => 0
  | n + 1 => if c n = true then zsum f c n + f n else zsum f c n
abbrev zbits (c : Nat → Bool) : Nat → Int32 := zor zsh c
def zus (x y : Int32) : Int32 := (x.toUInt32 >>> (y.toUInt32 &&& Int32.toUInt32 31)).toInt32
def zpop1 (x : Int32) : Int32 := x - (zus x 1 &&& 1431655765)
def zpop2 (x : Int32) : Int32 := (x &&& 858993459) + (zus x 2 &&& 858993459)
def zpop3 (x : Int32) : Int32 := (x + zus x 4) &&& 252645135
def zpop4 (x : Int32) : Int32 := x + zus x 8
def zpop5 (x : Int32) : Int32 := x + zus x 16
/-- Integer.bitCount -/
def zpop (x : Int32) : Int32 := zpop5 (zpop4 (zpop3 (zpop2 (zpop1 x)))) &&& 63
def zin (x m : Int32) : Bool := !decide (x < 0) && !decide (m ≤ x)
def zq_isT (t : Nat) : Prop := t = 4 ∨ t = 8
theorem zt_kd {t : Nat} (h : zq_isT t) : zq_kd t = some (.inl 5) := by rcases h with rfl | rfl <;> rfl
theorem zt_lt {t : Nat} (h : zq_isT t) : t < 138 := by rcases h with rfl | rfl <;> decide
/-- home, name, years remembered, asks, where, since, died -/
abbrev zq_V : Type := (Nat → Int32) × (Nat → Int32) × (Nat → Int32) × (Nat → Int32) × (Nat → Int32) × (Nat → Int32) × (Nat → Int32)
def zV (I : zq_I) : zq_V := (I 121, I 122, I 123, I 124, I 125, I 126, I 127)
def vH (V : zq_V) : Nat → Int32 := V.1
def vN (V : zq_V) : Nat → Int32 := V.2.1
def vK (V : zq_V) : Nat → Int32 := V.2.2.1
def vA (V : zq_V) : Nat → Int32 := V.2.2.2.1
def vW (V : zq_V) : Nat → Int32 := V.2.2.2.2.1
def vS (V : zq_V) : Nat → Int32 := V.2.2.2.2.2.1
def vD (V : zq_V) : Nat → Int32 := V.2.2.2.2.2.2
/-- alive; at home; away from home; missing; remembered; missed by -/
def zAl (V : zq_V) (p : Nat) : Bool := vD V p == -9
def zTh (V : zq_V) (p : Nat) : Bool := zAl V p && (vW V p == vH V p)
def zAw (V : zq_V) (p : Nat) : Int32 := if vW V p < vH V p then vH V p - vW V p else vW V p - vH V p
def zMi (V : zq_V) (p : Nat) (y : Int32) : Bool := if zAl V p = true then !(vW V p == vH V p) else decide (y < vD V p + zAw V p)
def zRe (V : zq_V) (i j : Nat) (y : Int32) : Bool := decide (y - vS V j ≤ vK V i)
def zRb (V : zq_V) (N i : Nat) (y : Int32) : Int32 := zbits (fun j => (vH V j == vH V i) && zMi V j y && zRe V i j y) N
def zMs (V : zq_V) (N i : Nat) (y : Int32) : Int32 := zbits (fun j => zhas (vA V i) j && (vH V i == vH V j) && zTh V i && zMi V j y && zRe V i j y) N
def zOH (V : zq_V) (N : Nat) (t : Int32) : Int32 := zbits (fun i => vH V i == t) N
def zNm (V : zq_V) (N : Nat) (m : Int32) : Int32 := zor (fun i => (1 : Int32) <<< (vN V i &&& 31)) (fun i => zhas m i) N
def zCt (l : Int32) (V : zq_V) (N : Nat) (pairs missed : Int32) : Int32 := if l = 0 then pairs else zpop (if l = 1 then missed else zNm V N missed)
def zCnt (l : Int32) (V : zq_V) (N : Nat) (g : Nat → Int32) (c : Nat → Bool) : Int32 := zCt l V N (zsum (fun i => zpop (g i)) c N) (zor g c N)
/-- so many people, so many towns; the Folk f and the model's census agree -/
def zRL (f N T : Nat) (I : zq_I) : Prop := N ≤ 8 ∧ 1 ≤ T ∧ T ≤ 4 ∧ I 119 6 = nI N ∧ I 119 5 = nI T ∧ I f 2 = nI N ∧ I f 1 = nI T ∧ I f 0 = I 119 4 ∧ ∀ p, p < N → I (f + 1) p = I 121 p ∧ I (f + 2) p = I 122 p ∧ I (f + 3) p = I 123 p ∧ I (f + 4) p = I 124 p
/-- a World w and the model's people agree -/
def zRW (w N : Nat) (I : zq_I) : Prop := I w 0 = I 119 15 ∧ (∀ p, p < N → I (w + 1) p = I 125 p ∧ I (w + 2) p = I 126 p ∧ I (w + 3) p = I 127 p) ∧ ∀ t, t < 4 → I (w + 4) t = I 128 t
/-- what the model's numbers are -/
def zRR (N T Y : Nat) (I : zq_I) : Prop := Y ≤ 1000 ∧ I 119 15 = nI Y ∧ (I 119 4 = 0 ∨ I 119 4 = 1 ∨ I 119 4 = 2) ∧ (∀ p, p < N → (∃ h, h < T ∧ I 121 p = nI h) ∧ (∃ a, a < 6 ∧ I 122 p = nI a) ∧ (∃ m, m ≤ 9 ∧ I 123 p = nI m) ∧ (∃ a, a < 2 ^ N ∧ a.testBit p = false ∧ I 124 p = nI a) ∧ (∃ w, w < T ∧ I 125 p = nI w) ∧ (∃ s, s ≤ Y ∧ I 126 p = nI s) ∧ (I 127 p = -9 ∨ ∃ d, d ≤ Y ∧ I 127 p = nI d)) ∧ ∀ t, t < 4 → ∃ r, r ≤ 99 ∧ I 128 t = nI r
def zS (fo : Bool) (N T Y : Nat) (I : zq_I) : Prop := zRL (zF fo) N T I ∧ zRW 91 N I ∧ zRR N T Y I
/-- what the class's questions may write: the cells that it reckons in -/
def zsc (fo : Bool) (c : Nat) : Bool := c == 3 || c == 4 || c == 5 || c == 6 || c == 7 || c == 8 || c == 108 || (decide (zD fo ≤ c) && decide (c ≤ zD fo + 4))
def zFC (fo : Bool) (I I' : zq_I) : Prop := ∀ c, zsc fo c = false → I' c = I c
def zsm (c : Nat) : Bool := c == 119 || c == 129 || c == 130 || c == 131 || c == 132 || c == 136 || c == 137
def zsk (k : Nat) : Bool := k == 0 || k == 3 || k == 16 || k == 17 || k == 18 || k == 19 || k == 28 || k == 30 || k == 31
/-- what the model's questions may write -/
def zFM (I I' : zq_I) : Prop := (∀ c, zsm c = false → I' c = I c) ∧ ∀ k, zsk k = false → I' 119 k = I 119 k
theorem zFC.rf {fo : Bool} {I : zq_I} : zFC fo I I := fun _ _ => rfl
theorem zFC.tr {fo : Bool} {I I1 I2 : zq_I} (h : zFC fo I I1) (h2 : zFC fo I1 I2) : zFC fo I I2 := fun c hc => (h2 c hc).trans (h c hc)
theorem zFM.rf {I : zq_I} : zFM I I := ⟨fun _ _ => rfl, fun _ _ => rfl⟩
theorem zFM.tr {I I1 I2 : zq_I} (h : zFM I I1) (h2 : zFM I1 I2) : zFM I I2 := ⟨fun c hc => (h2.1 c hc).trans (h.1 c hc), fun c hc => (h2.2 c hc).trans (h.2 c hc)⟩
theorem zFC.zu {fo : Bool} {I I1 : zq_I} (h : zFC fo I I1) (c k : Nat) (v : Int32) (hc : zsc fo c = true) : zFC fo I (zu I1 c k v) := fun b hb => by
  have hbc : b ≠ c := fun e => by rw [e, hc] at hb; cases hb
  rw [zu_other hbc]
  exact h b hb
theorem zFM.zu {I I1 : zq_I} (h : zFM I I1) (c k : Nat) (v : Int32) (hc : (zsm c && (!(c == 119) || zsk k)) = true) : zFM I (zu I1 c k v) := by
  simp only [Bool.and_eq_true, Bool.or_eq_true, Bool.not_eq_true', beq_eq_false_iff_ne] at hc
  refine ⟨fun b hb => ?_, fun j hj => ?_⟩
  · have hbc : b ≠ c := fun e => by rw [e, hc.1] at hb; cases hb
    rw [zu_other hbc]
    exact h.1 b hb
  · rcases hc.2 with h1 | h1
    · rw [zu_other (Ne.symm h1)]; exact h.2 j hj
    · have hjk : j ≠ k := fun e => by rw [e, h1] at hj; cases hj
      show (if 119 = c ∧ j = k then v else I1 119 j) = _
      rw [if_neg (fun q => hjk q.2)]
      exact h.2 j hj
theorem zFC.V {fo : Bool} {I I' : zq_I} (h : zFC fo I I') : zV I' = zV I := by
  unfold zV
  rw [h 121 (by cases fo <;> rfl), h 122 (by cases fo <;> rfl), h 123 (by cases fo <;> rfl), h 124 (by cases fo <;> rfl), h 125 (by cases fo <;> rfl), h 126 (by cases fo <;> rfl), h 127 (by cases fo <;> rfl)]
theorem zFM.V {I I' : zq_I} (h : zFM I I') : zV I' = zV I := by
  unfold zV
  rw [h.1 121 rfl, h.1 122 rfl, h.1 123 rfl, h.1 124 rfl, h.1 125 rfl, h.1 126 rfl, h.1 127 rfl]
theorem zsc_F (fo : Bool) (j : Nat) (hj : j ≤ 4) : zsc fo (zF fo + j) = false := by
  rcases (by omega : j = 0 ∨ j = 1 ∨ j = 2 ∨ j = 3 ∨ j = 4) with rfl | rfl | rfl | rfl | rfl <;> cases fo <;> rfl
theorem zFC.S {fo : Bool} {N T Y : Nat} {I I' : zq_I} (h : zFC fo I I') (hs : zS fo N T Y I) : zS fo N T Y I' := by
  have e0 := h (zF fo) (zsc_F fo 0 (by omega))
  have e1 := h (zF fo + 1) (zsc_F fo 1 (by omega))
  have e2 := h (zF fo + 2) (zsc_F fo 2 (by omega))
  have e3 := h (zF fo + 3) (zsc_F fo 3 (by omega))
  have e4 := h (zF fo + 4) (zsc_F fo 4 (by omega))
  have a : ∀ c, c = 91 ∨ c = 92 ∨ c = 93 ∨ c = 94 ∨ c = 95 ∨ c = 119 ∨ c = 121 ∨ c = 122 ∨ c = 123 ∨ c = 124 ∨ c = 125 ∨ c = 126 ∨ c = 127 ∨ c = 128 → I' c = I c := by
    intro c hc
    rcases hc with rfl | rfl | rfl | rfl | rfl | rfl | rfl | rfl | rfl | rfl | rfl | rfl | rfl | rfl <;> exact h _ (by cases fo <;> rfl)
  obtain ⟨h1, h2, h3⟩ := hs
  refine ⟨?_, ?_, ?_⟩
  · unfold zRL at h1 ⊢
    rw [e0, e1, e2, e3, e4, a 119 (by simp), a 121 (by simp), a 122 (by simp), a 123 (by simp), a 124 (by simp)]
    exact h1
  · unfold zRW at h2 ⊢
    rw [a 91 (by simp), a (91 + 1) (by simp), a (91 + 2) (by simp), a (91 + 3) (by simp), a (91 + 4) (by simp), a 119 (by simp), a 125 (by simp), a 126 (by simp), a 127 (by simp), a 128 (by simp)]
    exact h2
  · unfold zRR at h3 ⊢
    rw [a 119 (by simp), a 121 (by simp), a 122 (by simp), a 123 (by simp), a 124 (by simp), a 125 (by simp), a 126 (by simp), a 127 (by simp), a 128 (by simp)]
    exact h3
section SACC
variable {fo : Bool} {N T Y p : Nat} {I : zq_I}
theorem zS.n8 (h : zS fo N T Y I) : N ≤ 8 := h.1.1
theorem zS.ppl (h : zS fo N T Y I) : I (zF fo) 2 = nI N := h.1.2.2.2.2.2.1
theorem zS.twn (h : zS fo N T Y I) : I (zF fo) 1 = nI T := h.1.2.2.2.2.2.2.1
theorem zS.law (h : zS fo N T Y I) : I (zF fo) 0 = I 119 4 := h.1.2.2.2.2.2.2.2.1
theorem zS.mppl (h : zS fo N T Y I) : I 119 6 = nI N := h.1.2.2.2.1
theorem zS.mtwn (h : zS fo N T Y I) : I 119 5 = nI T := h.1.2.2.2.2.1
theorem zS.t4 (h : zS fo N T Y I) : T ≤ 4 := h.1.2.2.1
theorem zS.hom (h : zS fo N T Y I) (hp : p < N) : I (zF fo + 1) p = vH (zV I) p := (h.1.2.2.2.2.2.2.2.2 p hp).1
theorem zS.nam (h : zS fo N T Y I) (hp : p < N) : I (zF fo + 2) p = vN (zV I) p := (h.1.2.2.2.2.2.2.2.2 p hp).2.1
theorem zS.kee (h : zS fo N T Y I) (hp : p < N) : I (zF fo + 3) p = vK (zV I) p := (h.1.2.2.2.2.2.2.2.2 p hp).2.2.1
theorem zS.ask (h : zS fo N T Y I) (hp : p < N) : I (zF fo + 4) p = vA (zV I) p := (h.1.2.2.2.2.2.2.2.2 p hp).2.2.2
theorem zS.yea (h : zS fo N T Y I) : I 91 0 = I 119 15 := h.2.1.1
theorem zS.whe (h : zS fo N T Y I) (hp : p < N) : I 92 p = vW (zV I) p := (h.2.1.2.1 p hp).1
theorem zS.sin (h : zS fo N T Y I) (hp : p < N) : I 93 p = vS (zV I) p := (h.2.1.2.1 p hp).2.1
theorem zS.die (h : zS fo N T Y I) (hp : p < N) : I 94 p = vD (zV I) p := (h.2.1.2.1 p hp).2.2
theorem zS.rum (h : zS fo N T Y I) {t : Nat} (ht : t < 4) : I 95 t = I 128 t := h.2.1.2.2 t ht
end SACC
/-- the answer v, the class's reckoning cells aside nothing changed -/
def zq_fr (v : Option Value) (fo : Bool) (I : zq_I) : zq_R := fun v' n' I' P' => v' = v ∧ n' = 138 ∧ P' = zPs fo ∧ zFC fo I I'
def zq_fm (v : Option Value) (fo : Bool) (I : zq_I) : zq_R := fun v' n' I' P' => v' = v ∧ n' = 138 ∧ P' = zPs fo ∧ zFM I I'
end
section
/-! masks as numbers -/
theorem nI_or (a b : Nat) : nI a ||| nI b = nI (a ||| b) := by
  apply Int32.toBitVec_inj.mp
  simp [nI, Int32.toBitVec_or, Int32.toBitVec_ofNat, BitVec.ofNat_or]
theorem nI_and (a b : Nat) : nI a &&& nI b = nI (a &&& b) := by
  apply Int32.toBitVec_inj.mp
  simp [nI, Int32.toBitVec_and, Int32.toBitVec_ofNat, BitVec.ofNat_and]
theorem zsh_N : ∀ k, k < 16 → zsh k = nI (2 ^ k) := by decide +kernel
theorem zhas_N {a k : Nat} (ha : a < 2 ^ 31) (hk : k < 16) : zhas (nI a) k = a.testBit k := by
  have hs : ((nI k &&& 31).toBitVec.smod 32).toNat = k := (by decide +kernel : ∀ k, k < 16 → ((nI k &&& 31).toBitVec.smod 32).toNat = k) k hk
  unfold zhas
  rw [pk_shrN ha _ k hs, pk_andN (m := 1) (Nat.lt_of_le_of_lt (Nat.div_le_self _ _) (by omega)) 1 (by decide)]
  rw [Nat.testBit_eq_decide_div_mod_eq]
  have h2 : a / 2 ^ k % 2 = 0 ∨ a / 2 ^ k % 2 = 1 := by omega
  rcases h2 with h2 | h2 <;> simp [h2] <;> decide
/-- bits below n -/
def zbn (c : Nat → Bool) : Nat → Nat
  | 0 => 0
  | n + 1 => if c n = true then zbn c n ||| 2 ^ n else zbn c n
theorem zbn_lt (c : Nat → Bool) (n : Nat) : zbn c n < 2 ^ n := by
  induction n with
  | zero => show (0 : Nat) < 1; omega
  | succ n ih =>
    have h1 : 2 ^ n < 2 ^ (n + 1) := Nat.pow_lt_pow_right (by omega) (by omega)
    unfold zbn
    split
    · exact Nat.or_lt_two_pow (by omega) h1
    · omega
theorem zbn_bit (c : Nat → Bool) (n k : Nat) : (zbn c n).testBit k = (decide (k < n) && c k) := by
  induction n with
  | zero => simp [zbn]
  | succ n ih =>
    unfold zbn
    split
    · rename_i h
      rw [Nat.testBit_or, ih, Nat.testBit_two_pow]
      by_cases hk : k = n
      · subst hk; simp [h]
      · have h1 : ¬ n = k := fun e => hk e.symm
        simp [h1]
        by_cases h2 : k < n
        · simp [h2, show k < n + 1 by omega]
        · simp [h2, show ¬ k < n + 1 by omega]
    · rename_i h
      rw [ih]
      by_cases hk : k = n
      · subst hk; simp [h]
      · by_cases h2 : k < n
        · simp [h2, show k < n + 1 by omega]
        · simp [h2, show ¬ k < n + 1 by omega]
theorem zbits_N (c : Nat → Bool) : ∀ n, n ≤ 16 → zbits c n = nI (zbn c n) := by
  intro n
  induction n with
  | zero => intro _; rfl
  | succ n ih =>
    intro hn
    have h1 := ih (by omega)
    unfold zbits at h1 ⊢
    simp only [zor, zbn, h1]
    split
    · rw [zsh_N n (by omega), nI_or]
    · rfl
theorem zhas_bits {c : Nat → Bool} {n k : Nat} (hn : n ≤ 8) (hk : k < 8) : zhas (zbits c n) k = (decide (k < n) && c k) := by
  have h1 := zbn_lt c n
  have h2 : 2 ^ n ≤ 2 ^ 8 := Nat.pow_le_pow_right (by omega) hn
  rw [zbits_N c n (by omega), zhas_N (by omega) (by omega), zbn_bit]
/-- two numbers below 2 ^ n with like bits below n are one -/
theorem zbit_ext {n a b : Nat} (ha : a < 2 ^ n) (hb : b < 2 ^ n) (h : ∀ k, k < n → a.testBit k = b.testBit k) : a = b := by
  apply Nat.eq_of_testBit_eq
  intro k
  by_cases hk : k < n
  · exact h k hk
  · have h1 : 2 ^ n ≤ 2 ^ k := Nat.pow_le_pow_right (by omega) (by omega)
    rw [Nat.testBit_lt_two_pow (by omega), Nat.testBit_lt_two_pow (by omega)]
/-- a without b -/
theorem nI_not {a b : Nat} (ha : a < 2 ^ 31) : nI a &&& (nI b ^^^ -1) = nI (a &&& (a ^^^ (a &&& b))) := by
  apply Int32.toBitVec_inj.mp
  apply BitVec.eq_of_getLsbD_eq
  intro i hi
  simp [nI, Int32.toBitVec_and, Int32.toBitVec_xor, Int32.toBitVec_ofNat, Int32.toBitVec_neg, BitVec.getLsbD_ofNat, hi]
  generalize (BitVec.ofNat 32 a)[i] = x
  generalize (BitVec.ofNat 32 b)[i] = y
  cases x <;> cases y <;> rfl
end
section
/-! the parts of a set, from the least on -/
def zsub (h : Nat) : List Nat := (List.range 256).filter (fun g => g &&& h == g)
def zpl (w : Int32) : Nat → Int32 → List Int32
  | 0, _ => []
  | n + 1, p => p :: zpl w n ((p - w) &&& w)
def zpq (w : Int32) : Nat → Int32
  | 0 => 0
  | k + 1 => (zpq w k - w) &&& w
theorem zpl_at (w : Int32) : ∀ (n k j : Nat), k < n → (zpl w n (zpq w j))[k]? = some (zpq w (j + k)) := by
  intro n
  induction n with
  | zero => intro k j h; omega
  | succ n ih =>
    intro k j h
    cases k with
    | zero => simp [zpl]
    | succ k =>
      have h1 := ih k (j + 1) (by omega)
      simp only [zpl, List.getElem?_cons_succ]
      rw [show j + (k + 1) = j + 1 + k by omega]
      exact h1
set_option maxRecDepth 100000 in
theorem zsub_dec : ∀ h, h < 256 → zpl (nI h) (zsub h).length 0 = (zsub h).map nI ∧ (zsub h).length ≤ 256 ∧ (1 : Int32) <<< (zpop (nI h) &&& 31) = nI (zsub h).length := by decide +kernel
theorem zsub_at {h k g : Nat} (hh : h < 256) (hk : (zsub h)[k]? = some g) : zpq (nI h) k = nI g := by
  have hl : k < (zsub h).length := (List.getElem?_eq_some_iff.mp hk).1
  have h1 := zpl_at (nI h) (zsub h).length k 0 hl
  rw [show zpq (nI h) 0 = 0 from rfl, (zsub_dec h hh).1, List.getElem?_map, hk, Nat.zero_add] at h1
  simpa using h1.symm
theorem zsub_mem {h g : Nat} (hg : g ∈ zsub h) : g < 256 ∧ g &&& h = g := by
  have h1 := List.mem_filter.mp hg
  exact ⟨List.mem_range.mp h1.1, by simpa using h1.2⟩
set_option maxRecDepth 100000 in
theorem zsub_N0 : ∀ N, N < 9 → ∀ h, h < 2 ^ N → zsub h = (List.range (2 ^ N)).filter (fun g => g &&& h == g) := by decide +kernel
theorem zsub_N {N h : Nat} (hN : N ≤ 8) (hh : h < 2 ^ N) : zsub h = (List.range (2 ^ N)).filter (fun g => g &&& h == g) := zsub_N0 N (by omega) h hh
/-- a set's parts without i are its parts that i is not in -/
theorem zsub_less {h i : Nat} (hi : i < 8) (hh : h < 256) : zsub (h &&& (h ^^^ (h &&& 2 ^ i))) = (zsub h).filter (fun g => !g.testBit i) := by
  unfold zsub
  rw [List.filter_filter]
  apply List.filter_congr
  intro g hg
  have e : ∀ a b : Nat, (a &&& b == a) = true ↔ ∀ k, a.testBit k = true → b.testBit k = true := by
    intro a b
    simp only [beq_iff_eq]
    constructor
    · intro h1 k hk
      rw [← h1, Nat.testBit_and, Bool.and_eq_true] at hk
      exact hk.2
    · intro h1
      apply Nat.eq_of_testBit_eq
      intro k
      rw [Nat.testBit_and]
      cases hk : a.testBit k
      · rfl
      · rw [h1 k hk]; rfl
  rw [Bool.eq_iff_iff, Bool.and_eq_true, e, e]
  simp only [Bool.and_eq_true, Bool.not_eq_true', Nat.testBit_and, Nat.testBit_xor, Nat.testBit_two_pow]
  constructor
  · intro h1
    refine ⟨?_, fun k hk => (h1 k hk).1⟩
    cases hgi : g.testBit i
    · rfl
    · have h2 := h1 i hgi
      simp at h2
  · rintro ⟨h1, h2⟩ k hk
    have h3 := h2 k hk
    refine ⟨h3, ?_⟩
    have hki : ¬ i = k := fun e => by subst e; rw [h1] at hk; cases hk
    simp [h3, hki]
theorem take_s {α : Type} {l : List α} {k : Nat} {x : α} (h : l[k]? = some x) : l.take (k + 1) = l.take k ++ [x] := by
  rw [List.take_succ, h]; rfl
end
section
theorem zor_congr {f f' : Nat → Int32} {c c' : Nat → Bool} {n : Nat} (hc : ∀ i, i < n → c i = c' i) (hf : ∀ i, i < n → c i = true → f i = f' i) : zor f c n = zor f' c' n := by
  induction n with
  | zero => rfl
  | succ n ih =>
    have h1 := ih (fun i hi => hc i (by omega)) (fun i hi => hf i (by omega))
    have h2 := hc n (by omega)
    have h3 := hf n (by omega)
    simp only [zor, ← h2, ← h1]
    split
    · rename_i h; rw [h3 h]
    · rfl
theorem zsum_congr {f f' : Nat → Int32} {c c' : Nat → Bool} {n : Nat} (hc : ∀ i, i < n → c i = c' i) (hf : ∀ i, i < n → c i = true → f i = f' i) : zsum f c n = zsum f' c' n := by
  induction n with
  | zero => rfl
  | succ n ih =>
    have h1 := ih (fun i hi => hc i (by omega)) (fun i hi => hf i (by omega))
    have h2 := hc n (by omega)
    have h3 := hf n (by omega)
    simp only [zsum, ← h2, ← h1]
    split
    · rename_i h; rw [h3 h]
    · rfl
theorem zCnt_congr {l : Int32} {V : zq_V} {N : Nat} {g g' : Nat → Int32} {c c' : Nat → Bool} (hc : ∀ i, i < N → c i = c' i) (hg : ∀ i, i < N → c i = true → g i = g' i) : zCnt l V N g c = zCnt l V N g' c' := by
  unfold zCnt
  rw [zor_congr hc hg, zsum_congr hc (fun i hi h => by rw [hg i hi h])]
theorem zor_s {f : Nat → Int32} {c : Nat → Bool} {n : Nat} {b : Int32} (hb : b = zor f c n) (h : c n = true) : b ||| f n = zor f c (n + 1) := by rw [zor, if_pos h, hb]
theorem zor_n {f : Nat → Int32} {c : Nat → Bool} {n : Nat} {b : Int32} (hb : b = zor f c n) (h : c n = false) : b = zor f c (n + 1) := by rw [zor, if_neg (by rw [h]; decide), hb]
theorem zsum_s {f : Nat → Int32} {c : Nat → Bool} {n : Nat} {b : Int32} (hb : b = zsum f c n) (h : c n = true) : b + f n = zsum f c (n + 1) := by rw [zsum, if_pos h, hb]
theorem zsum_n {f : Nat → Int32} {c : Nat → Bool} {n : Nat} {b : Int32} (hb : b = zsum f c n) (h : c n = false) : b = zsum f c (n + 1) := by rw [zsum, if_neg (by rw [h]; decide), hb]
theorem zab_4 : ∀ a, a < 4 → ∀ b, b < 4 → (if 0 ≤ nI a - nI b then nI a - nI b else 0 - (nI a - nI b)) = if nI a < nI b then nI b - nI a else nI a - nI b := by decide +kernel
theorem zS.heard {fo : Bool} {N T Y p : Nat} {I : zq_I} (h : zS fo N T Y I) (hp : p < N) : I (91 + 3) p + (if 0 ≤ I (91 + 1) p - I (zF fo + 1) p then I (91 + 1) p - I (zF fo + 1) p else 0 - (I (91 + 1) p - I (zF fo + 1) p)) = vD (zV I) p + zAw (zV I) p := by
  have e1 := h.die hp
  have e2 := h.whe hp
  have e3 := h.hom hp
  obtain ⟨⟨a, ha, ea⟩, -, -, -, ⟨w, hw, ew⟩, -⟩ := h.2.2.2.2.2.1 p hp
  have h4 := h.t4
  simp only [Nat.reduceAdd, e1, e2, e3]
  unfold zAw
  rw [show vW (zV I) p = nI w from ew, show vH (zV I) p = nI a from ea, zab_4 w (by omega) a (by omega)]
set_option maxHeartbeats 4000000 in
set_option maxRecDepth 100000 in
theorem c_J6_bitCount_0f7a4 (G : zq_G) (n : Nat) (I : zq_I) (P : zq_P) (x : Int32) : zq_Met G mJ6_bitCount_0f7a4 0 0 0 [.int x] n I P (zq_pu (some (.int (zpop x))) n I P) := by
  refine zq_Met.of okJ6_bitCount_0f7a4 (Nat.le_of_ble_eq_true rfl) ?_
  refine ev_iload_n (q := 1) dJ6_bitCount_0f7a4_0 rfl rfl ?_
  refine ev_iload_n (q := 2) dJ6_bitCount_0f7a4_1 rfl rfl ?_
  refine ev_iconst (q := 3) (1 : Int32) dJ6_bitCount_0f7a4_2 rfl (by decide) ?_
  refine ev_iushr (q := 4) dJ6_bitCount_0f7a4_3 rfl ?_
  refine ev_ldcw (q := 7) dJ6_bitCount_0f7a4_4 rfl ctRJ6_265 ?_
  refine ev_iand (q := 8) dJ6_bitCount_0f7a4_7 rfl ?_
  refine ev_isub (q := 9) dJ6_bitCount_0f7a4_8 rfl ?_
  refine ev_istore_n (q := 10) dJ6_bitCount_0f7a4_9 rfl (by decide) ?_
  refine ev_iload_n (q := 11) dJ6_bitCount_0f7a4_10 rfl rfl ?_
  refine ev_ldcw (q := 14) dJ6_bitCount_0f7a4_11 rfl ctRJ6_266 ?_
  refine ev_iand (q := 15) dJ6_bitCount_0f7a4_14 rfl ?_
  refine ev_iload_n (q := 16) dJ6_bitCount_0f7a4_15 rfl rfl ?_
  refine ev_iconst (q := 17) (2 : Int32) dJ6_bitCount_0f7a4_16 rfl (by decide) ?_
  refine ev_iushr (q := 18) dJ6_bitCount_0f7a4_17 rfl ?_
  refine ev_ldcw (q := 21) dJ6_bitCount_0f7a4_18 rfl ctRJ6_266 ?_
  refine ev_iand (q := 22) dJ6_bitCount_0f7a4_21 rfl ?_
  refine ev_iadd (q := 23) dJ6_bitCount_0f7a4_22 rfl ?_
  refine ev_istore_n (q := 24) dJ6_bitCount_0f7a4_23 rfl (by decide) ?_
  refine ev_iload_n (q := 25) dJ6_bitCount_0f7a4_24 rfl rfl ?_
  refine ev_iload_n (q := 26) dJ6_bitCount_0f7a4_25 rfl rfl ?_
  refine ev_iconst (q := 27) (4 : Int32) dJ6_bitCount_0f7a4_26 rfl (by decide) ?_
  refine ev_iushr (q := 28) dJ6_bitCount_0f7a4_27 rfl ?_
  refine ev_iadd (q := 29) dJ6_bitCount_0f7a4_28 rfl ?_
  refine ev_ldcw (q := 32) dJ6_bitCount_0f7a4_29 rfl ctRJ6_267 ?_
  refine ev_iand (q := 33) dJ6_bitCount_0f7a4_32 rfl ?_
  refine ev_istore_n (q := 34) dJ6_bitCount_0f7a4_33 rfl (by decide) ?_
  refine ev_iload_n (q := 35) dJ6_bitCount_0f7a4_34 rfl rfl ?_
  refine ev_iload_n (q := 36) dJ6_bitCount_0f7a4_35 rfl rfl ?_
  refine ev_bipush (q := 38) (8 : Int32) dJ6_bitCount_0f7a4_36 rfl (by decide) ?_
  refine ev_iushr (q := 39) dJ6_bitCount_0f7a4_38 rfl ?_
  refine ev_iadd (q := 40) dJ6_bitCount_0f7a4_39 rfl ?_
  refine ev_istore_n (q := 41) dJ6_bitCount_0f7a4_40 rfl (by decide) ?_
  refine ev_iload_n (q := 42) dJ6_bitCount_0f7a4_41 rfl rfl ?_
  refine ev_iload_n (q := 43) dJ6_bitCount_0f7a4_42 rfl rfl ?_
  refine ev_bipush (q := 45) (16 : Int32) dJ6_bitCount_0f7a4_43 rfl (by decide) ?_
  refine ev_iushr (q := 46) dJ6_bitCount_0f7a4_45 rfl ?_
  refine ev_iadd (q := 47) dJ6_bitCount_0f7a4_46 rfl ?_
  refine ev_istore_n (q := 48) dJ6_bitCount_0f7a4_47 rfl (by decide) ?_
  refine ev_iload_n (q := 49) dJ6_bitCount_0f7a4_48 rfl rfl ?_
  refine ev_bipush (q := 51) (63 : Int32) dJ6_bitCount_0f7a4_49 rfl (by decide) ?_
  refine ev_iand (q := 52) dJ6_bitCount_0f7a4_51 rfl ?_
  exact ev_iret dJ6_bitCount_0f7a4_52 rfl (by first | rfl | exact zb_nar _ | assumption) (⟨rfl, rfl, rfl, rfl⟩)
set_option maxHeartbeats 4000000 in
set_option maxRecDepth 100000 in
theorem c_X7_has (G : zq_G) (n : Nat) (I : zq_I) (P : zq_P) (x : Int32) (k : Nat) : zq_Met G mX7_has 0 0 0 [.int x, .int (nI k)] n I P (zq_pu (some (.int (zb (zhas x k)))) n I P) := by
  refine zq_Met.of okX7_has (Nat.le_of_ble_eq_true rfl) ?_
  refine ev_iload_n (q := 1) dX7_has_0 rfl rfl ?_
  refine ev_iload_n (q := 2) dX7_has_1 rfl rfl ?_
  refine ev_ishr (q := 3) dX7_has_2 rfl ?_
  refine ev_iconst (q := 4) (1 : Int32) dX7_has_3 rfl (by decide) ?_
  refine ev_iand (q := 5) dX7_has_4 rfl ?_
  refine ev_if_eq (q := 8) (t := 12) dX7_has_5 rfl (by decide) (fun h5 => ?_) (fun h5 => ?_)
  · refine ev_iconst (q := 13) (0 : Int32) dX7_has_12 rfl (by decide) ?_
    exact ev_iret dX7_has_13 rfl (by first | rfl | exact zb_nar _ | assumption) (⟨by simp [zhas, zb, h5], rfl, rfl, rfl⟩)
  · refine ev_iconst (q := 9) (1 : Int32) dX7_has_8 rfl (by decide) ?_
    refine ev_goto (t := 13) dX7_has_9 (by decide) ?_
    exact ev_iret dX7_has_13 rfl (by first | rfl | exact zb_nar _ | assumption) (⟨by simp [zhas, zb, h5], rfl, rfl, rfl⟩)
set_option maxHeartbeats 4000000 in
set_option maxRecDepth 100000 in
theorem c_X7_nextPart (G : zq_G) (n : Nat) (I : zq_I) (P : zq_P) (x y : Int32) : zq_Met G mX7_nextPart 0 0 0 [.int x, .int y] n I P (zq_pu (some (.int ((x - y) &&& y))) n I P) := by
  refine zq_Met.of okX7_nextPart (Nat.le_of_ble_eq_true rfl) ?_
  refine ev_iload_n (q := 1) dX7_nextPart_0 rfl rfl ?_
  refine ev_iload_n (q := 2) dX7_nextPart_1 rfl rfl ?_
  refine ev_isub (q := 3) dX7_nextPart_2 rfl ?_
  refine ev_iload_n (q := 4) dX7_nextPart_3 rfl rfl ?_
  refine ev_iand (q := 5) dX7_nextPart_4 rfl ?_
  exact ev_iret dX7_nextPart_5 rfl (by first | rfl | exact zb_nar _ | assumption) (⟨rfl, rfl, rfl, rfl⟩)
set_option maxHeartbeats 4000000 in
set_option maxRecDepth 100000 in
theorem c_X0_hasTown (G : zq_G) (fo : Bool) (I : zq_I) {f : Nat} (hf : zq_isF f) (x : Int32) : zq_Met G mX0_hasTown 0 0 0 [.ref f, .int x] 138 I (zPs fo) (zq_pu (some (.int (zb (zin x (I f 1))))) 138 I (zPs fo)) := by
  refine zq_Met.of okX0_hasTown (Nat.le_of_ble_eq_true rfl) ?_
  refine ev_iload_n (q := 1) dX0_hasTown_0 rfl rfl ?_
  refine ev_if_lt (q := 4) (t := 16) dX0_hasTown_1 rfl (by decide) (fun h1 => ?_) (fun h1 => ?_)
  · refine ev_iconst (q := 17) (0 : Int32) dX0_hasTown_16 rfl (by decide) ?_
    exact ev_iret dX0_hasTown_17 rfl (by first | rfl | exact zb_nar _ | assumption) (⟨by simp [zin, zb, h1], rfl, rfl, rfl⟩)
  · refine ev_iload_n (q := 5) dX0_hasTown_4 rfl rfl ?_
    refine ev_aload_n (q := 6) dX0_hasTown_5 rfl rfl ?_
    refine ev_getI (q := 9) (ci := 0) (f := 1) dX0_hasTown_6 rfl (by first | rfl | assumption | exact zf_kd (by assumption) | exact zw_kd (by assumption) | exact zt_kd (by assumption)) (by first | decide | exact zf_lt (by assumption) | exact zf_lt1 (by assumption) | exact zf_lt2 (by assumption) | exact zf_lt3 (by assumption) | exact zf_lt4 (by assumption) | exact zw_lt (by assumption) | exact zw_lt1 (by assumption) | exact zw_lt2 (by assumption) | exact zw_lt3 (by assumption) | exact zw_lt4 (by assumption) | exact zt_lt (by assumption)) (by decide) (by decide) lfRX0_9 rfl ?_
    refine ev_icmp_ge (q := 12) (t := 16) dX0_hasTown_9 rfl (by decide) (fun h9 => ?_) (fun h9 => ?_)
    · refine ev_iconst (q := 17) (0 : Int32) dX0_hasTown_16 rfl (by decide) ?_
      exact ev_iret dX0_hasTown_17 rfl (by first | rfl | exact zb_nar _ | assumption) (⟨by simp [zin, zb, h1, h9], rfl, rfl, rfl⟩)
    · refine ev_iconst (q := 13) (1 : Int32) dX0_hasTown_12 rfl (by decide) ?_
      refine ev_goto (t := 17) dX0_hasTown_13 (by decide) ?_
      exact ev_iret dX0_hasTown_17 rfl (by first | rfl | exact zb_nar _ | assumption) (⟨by simp [zin, zb, h1, h9], rfl, rfl, rfl⟩)
set_option maxHeartbeats 4000000 in
set_option maxRecDepth 100000 in
theorem c_X0_hasPerson (G : zq_G) (fo : Bool) (I : zq_I) {f : Nat} (hf : zq_isF f) (x : Int32) : zq_Met G mX0_hasPerson 0 0 0 [.ref f, .int x] 138 I (zPs fo) (zq_pu (some (.int (zb (zin x (I f 2))))) 138 I (zPs fo)) := by
  refine zq_Met.of okX0_hasPerson (Nat.le_of_ble_eq_true rfl) ?_
  refine ev_iload_n (q := 1) dX0_hasPerson_0 rfl rfl ?_
  refine ev_if_lt (q := 4) (t := 16) dX0_hasPerson_1 rfl (by decide) (fun h1 => ?_) (fun h1 => ?_)
  · refine ev_iconst (q := 17) (0 : Int32) dX0_hasPerson_16 rfl (by decide) ?_
    exact ev_iret dX0_hasPerson_17 rfl (by first | rfl | exact zb_nar _ | assumption) (⟨by simp [zin, zb, h1], rfl, rfl, rfl⟩)
  · refine ev_iload_n (q := 5) dX0_hasPerson_4 rfl rfl ?_
    refine ev_aload_n (q := 6) dX0_hasPerson_5 rfl rfl ?_
    refine ev_getI (q := 9) (ci := 0) (f := 2) dX0_hasPerson_6 rfl (by first | rfl | assumption | exact zf_kd (by assumption) | exact zw_kd (by assumption) | exact zt_kd (by assumption)) (by first | decide | exact zf_lt (by assumption) | exact zf_lt1 (by assumption) | exact zf_lt2 (by assumption) | exact zf_lt3 (by assumption) | exact zf_lt4 (by assumption) | exact zw_lt (by assumption) | exact zw_lt1 (by assumption) | exact zw_lt2 (by assumption) | exact zw_lt3 (by assumption) | exact zw_lt4 (by assumption) | exact zt_lt (by assumption)) (by decide) (by decide) lfRX0_31 rfl ?_
    refine ev_icmp_ge (q := 12) (t := 16) dX0_hasPerson_9 rfl (by decide) (fun h9 => ?_) (fun h9 => ?_)
    · refine ev_iconst (q := 17) (0 : Int32) dX0_hasPerson_16 rfl (by decide) ?_
      exact ev_iret dX0_hasPerson_17 rfl (by first | rfl | exact zb_nar _ | assumption) (⟨by simp [zin, zb, h1, h9], rfl, rfl, rfl⟩)
    · refine ev_iconst (q := 13) (1 : Int32) dX0_hasPerson_12 rfl (by decide) ?_
      refine ev_goto (t := 17) dX0_hasPerson_13 (by decide) ?_
      exact ev_iret dX0_hasPerson_17 rfl (by first | rfl | exact zb_nar _ | assumption) (⟨by simp [zin, zb, h1, h9], rfl, rfl, rfl⟩)
set_option maxHeartbeats 4000000 in
set_option maxRecDepth 100000 in
theorem c_X0_ofHome (G : zq_G) (fo : Bool) (I : zq_I) {f N : Nat} (V : zq_V) (hf : zq_isF f) (hN8 : N ≤ 8) (hN : I f 2 = nI N) (hh : ∀ p, p < N → I (f + 1) p = vH V p) (x : Int32) : zq_Met G mX0_ofHome 0 0 0 [.ref f, .int x] 138 I (zPs fo) (zq_pu (some (.int (zOH V N x))) 138 I (zPs fo)) := by
  refine zq_Met.of okX0_ofHome (Nat.le_of_ble_eq_true rfl) ?_
  have lp4 : ∀ (k i : Nat) (b : Int32), N + 1 ≤ i + k → i ≤ N → b = zor (zsh) (fun i => vH V i == x) i → zq_E G mX0_ofHome 0 0 0 false 4 [some (.ref f), some (.int x), some (.int b), some (.int (nI i))] [] 138 I (zPs fo) (zq_pu (some (.int (zOH V N x))) 138 I (zPs fo)) := by
    intro k
    induction k with
    | zero => intro i b hk hi; exact absurd hk (by omega)
    | succ k ih =>
      intro i b hk hi hb
      refine ev_iload_n (q := 5) dX0_ofHome_4 rfl rfl ?_
      refine ev_aload_n (q := 6) dX0_ofHome_5 rfl rfl ?_
      refine ev_getI (q := 9) (ci := 0) (f := 2) dX0_ofHome_6 rfl (by first | rfl | assumption | exact zf_kd (by assumption) | exact zw_kd (by assumption) | exact zt_kd (by assumption)) (by first | decide | exact zf_lt (by assumption) | exact zf_lt1 (by assumption) | exact zf_lt2 (by assumption) | exact zf_lt3 (by assumption) | exact zf_lt4 (by assumption) | exact zw_lt (by assumption) | exact zw_lt1 (by assumption) | exact zw_lt2 (by assumption) | exact zw_lt3 (by assumption) | exact zw_lt4 (by assumption) | exact zt_lt (by assumption)) (by decide) (by decide) lfRX0_31 rfl ?_
      refine ev_icmp_ge (q := 12) (t := 34) dX0_ofHome_9 rfl (by decide) (fun h9 => ?_) (fun h9 => ?_)
      · obtain rfl : i = N := by rw [hN, nI_leI (by omega) (by omega)] at h9; omega
        refine ev_iload_n (q := 35) dX0_ofHome_34 rfl rfl ?_
        exact ev_iret dX0_ofHome_35 rfl (by first | rfl | exact zb_nar _ | assumption) (⟨by rw [hb]; rfl, rfl, rfl, rfl⟩)
      · have hlt_i : i < N := by rw [hN, nI_leI (by omega) (by omega)] at h9; omega
        refine ev_aload_n (q := 13) dX0_ofHome_12 rfl rfl ?_
        refine ev_getR (q := 16) (ci := 0) (f := 4) dX0_ofHome_13 rfl (by first | rfl | assumption | exact zf_kd (by assumption) | exact zw_kd (by assumption) | exact zt_kd (by assumption)) (by first | decide | exact zf_lt (by assumption) | exact zf_lt1 (by assumption) | exact zf_lt2 (by assumption) | exact zf_lt3 (by assumption) | exact zf_lt4 (by assumption) | exact zw_lt (by assumption) | exact zw_lt1 (by assumption) | exact zw_lt2 (by assumption) | exact zw_lt3 (by assumption) | exact zw_lt4 (by assumption) | exact zt_lt (by assumption)) (by decide) (by decide) lfRX0_15 rfl (by first | rfl | assumption | exact zf_p4 _ (by assumption) | exact zf_p5 _ (by assumption) | exact zf_p6 _ (by assumption) | exact zf_p7 _ (by assumption) | exact zw_p1 _ (by assumption) | exact zw_p2 _ (by assumption) | exact zw_p3 _ (by assumption) | exact zw_p4 _ (by assumption)) ?_
        refine ev_iload_n (q := 17) dX0_ofHome_16 rfl rfl ?_
        refine ev_ialdN (q := 18) dX0_ofHome_17 rfl (by first | rfl | assumption | exact zf_kd1 (by assumption) | exact zf_kd2 (by assumption) | exact zf_kd3 (by assumption) | exact zf_kd4 (by assumption) | exact zw_kd1 (by assumption) | exact zw_kd2 (by assumption) | exact zw_kd3 (by assumption) | exact zw_kd4 (by assumption)) (by first | decide | exact zf_lt (by assumption) | exact zf_lt1 (by assumption) | exact zf_lt2 (by assumption) | exact zf_lt3 (by assumption) | exact zf_lt4 (by assumption) | exact zw_lt (by assumption) | exact zw_lt1 (by assumption) | exact zw_lt2 (by assumption) | exact zw_lt3 (by assumption) | exact zw_lt4 (by assumption) | exact zt_lt (by assumption)) (by first | omega | assumption) ?_
        refine ev_iload_n (q := 19) dX0_ofHome_18 rfl rfl ?_
        refine ev_icmp_ne (q := 22) (t := 28) dX0_ofHome_19 rfl (by decide) (fun h19 => ?_) (fun h19 => ?_)
        · refine ev_iinc (q := 31) (1 : Int32) dX0_ofHome_28 rfl rfl (by decide) (by decide) ?_
          refine ev_goto (t := 4) dX0_ofHome_31 (by decide) ?_
          rw [nI_1]
          exact ih (i + 1) _ (by omega) (by omega) (by first | exact zor_s hb (by simp [← hh i hlt_i, h9, h19]) | exact zor_n hb (by simp [← hh i hlt_i, h9, h19]))
        · refine ev_iload_n (q := 23) dX0_ofHome_22 rfl rfl ?_
          refine ev_iconst (q := 24) (1 : Int32) dX0_ofHome_23 rfl (by decide) ?_
          refine ev_iload_n (q := 25) dX0_ofHome_24 rfl rfl ?_
          refine ev_ishl (q := 26) dX0_ofHome_25 rfl ?_
          refine ev_ior (q := 27) dX0_ofHome_26 rfl ?_
          refine ev_istore_n (q := 28) dX0_ofHome_27 rfl (by decide) ?_
          refine ev_iinc (q := 31) (1 : Int32) dX0_ofHome_28 rfl rfl (by decide) (by decide) ?_
          refine ev_goto (t := 4) dX0_ofHome_31 (by decide) ?_
          rw [nI_1]
          exact ih (i + 1) _ (by omega) (by omega) (by first | exact zor_s hb (by simp [← hh i hlt_i, h9, h19]) | exact zor_n hb (by simp [← hh i hlt_i, h9, h19]))
  refine ev_iconst (q := 1) (0 : Int32) dX0_ofHome_0 rfl (by decide) ?_
  refine ev_istore_n (q := 2) dX0_ofHome_1 rfl (by decide) ?_
  refine ev_iconst (q := 3) (0 : Int32) dX0_ofHome_2 rfl (by decide) ?_
  refine ev_istore_n (q := 4) dX0_ofHome_3 rfl (by decide) ?_
  exact lp4 (N + 1) 0 0 (by omega) (by omega) rfl
set_option maxHeartbeats 4000000 in
set_option maxRecDepth 100000 in
theorem c_X0_namesOf (G : zq_G) (fo : Bool) (I : zq_I) {f N : Nat} (V : zq_V) (hf : zq_isF f) (hN8 : N ≤ 8) (hN : I f 2 = nI N) (hh : ∀ p, p < N → I (f + 2) p = vN V p) (x : Int32) : zq_Met G mX0_namesOf 1 0 0 [.ref f, .int x] 138 I (zPs fo) (zq_pu (some (.int (zNm V N x))) 138 I (zPs fo)) := by
  refine zq_Met.of okX0_namesOf (Nat.le_of_ble_eq_true rfl) ?_
  have lp4 : ∀ (k i : Nat) (b : Int32), N + 1 ≤ i + k → i ≤ N → b = zor (fun i => (1 : Int32) <<< (vN V i &&& 31)) (fun i => zhas x i) i → zq_E G mX0_namesOf 1 0 0 false 4 [some (.ref f), some (.int x), some (.int b), some (.int (nI i))] [] 138 I (zPs fo) (zq_pu (some (.int (zNm V N x))) 138 I (zPs fo)) := by
    intro k
    induction k with
    | zero => intro i b hk hi; exact absurd hk (by omega)
    | succ k ih =>
      intro i b hk hi hb
      refine ev_iload_n (q := 5) dX0_namesOf_4 rfl rfl ?_
      refine ev_aload_n (q := 6) dX0_namesOf_5 rfl rfl ?_
      refine ev_getI (q := 9) (ci := 0) (f := 2) dX0_namesOf_6 rfl (by first | rfl | assumption | exact zf_kd (by assumption) | exact zw_kd (by assumption) | exact zt_kd (by assumption)) (by first | decide | exact zf_lt (by assumption) | exact zf_lt1 (by assumption) | exact zf_lt2 (by assumption) | exact zf_lt3 (by assumption) | exact zf_lt4 (by assumption) | exact zw_lt (by assumption) | exact zw_lt1 (by assumption) | exact zw_lt2 (by assumption) | exact zw_lt3 (by assumption) | exact zw_lt4 (by assumption) | exact zt_lt (by assumption)) (by decide) (by decide) lfRX0_31 rfl ?_
      refine ev_icmp_ge (q := 12) (t := 37) dX0_namesOf_9 rfl (by decide) (fun h9 => ?_) (fun h9 => ?_)
      · obtain rfl : i = N := by rw [hN, nI_leI (by omega) (by omega)] at h9; omega
        refine ev_iload_n (q := 38) dX0_namesOf_37 rfl rfl ?_
        exact ev_iret dX0_namesOf_38 rfl (by first | rfl | exact zb_nar _ | assumption) (⟨by rw [hb]; rfl, rfl, rfl, rfl⟩)
      · have hlt_i : i < N := by rw [hN, nI_leI (by omega) (by omega)] at h9; omega
        refine ev_iload_n (q := 13) dX0_namesOf_12 rfl rfl ?_
        refine ev_iload_n (q := 14) dX0_namesOf_13 rfl rfl ?_
        refine ev_pSN (q := 17) dX0_namesOf_14 rfl okX7_has lnRX0_47 smX7_has (c_X7_has G _ _ _ _ _) (by decide) rfl rfl (Nat.le_of_ble_eq_true rfl) ?_
        refine ev_if_eq (q := 20) (t := 31) dX0_namesOf_17 rfl (by decide) (fun h17 => ?_) (fun h17 => ?_)
        · refine ev_iinc (q := 34) (1 : Int32) dX0_namesOf_31 rfl rfl (by decide) (by decide) ?_
          refine ev_goto (t := 4) dX0_namesOf_34 (by decide) ?_
          rw [nI_1]
          exact ih (i + 1) _ (by omega) (by omega) (by first | exact zor_s hb (by simpa [zb_0] using h17) | exact zor_n hb (by simpa [zb_0] using h17))
        · refine ev_iload_n (q := 21) dX0_namesOf_20 rfl rfl ?_
          refine ev_iconst (q := 22) (1 : Int32) dX0_namesOf_21 rfl (by decide) ?_
          refine ev_aload_n (q := 23) dX0_namesOf_22 rfl rfl ?_
          refine ev_getR (q := 26) (ci := 0) (f := 5) dX0_namesOf_23 rfl (by first | rfl | assumption | exact zf_kd (by assumption) | exact zw_kd (by assumption) | exact zt_kd (by assumption)) (by first | decide | exact zf_lt (by assumption) | exact zf_lt1 (by assumption) | exact zf_lt2 (by assumption) | exact zf_lt3 (by assumption) | exact zf_lt4 (by assumption) | exact zw_lt (by assumption) | exact zw_lt1 (by assumption) | exact zw_lt2 (by assumption) | exact zw_lt3 (by assumption) | exact zw_lt4 (by assumption) | exact zt_lt (by assumption)) (by decide) (by decide) lfRX0_19 rfl (by first | rfl | assumption | exact zf_p4 _ (by assumption) | exact zf_p5 _ (by assumption) | exact zf_p6 _ (by assumption) | exact zf_p7 _ (by assumption) | exact zw_p1 _ (by assumption) | exact zw_p2 _ (by assumption) | exact zw_p3 _ (by assumption) | exact zw_p4 _ (by assumption)) ?_
          refine ev_iload_n (q := 27) dX0_namesOf_26 rfl rfl ?_
          refine ev_ialdN (q := 28) dX0_namesOf_27 rfl (by first | rfl | assumption | exact zf_kd1 (by assumption) | exact zf_kd2 (by assumption) | exact zf_kd3 (by assumption) | exact zf_kd4 (by assumption) | exact zw_kd1 (by assumption) | exact zw_kd2 (by assumption) | exact zw_kd3 (by assumption) | exact zw_kd4 (by assumption)) (by first | decide | exact zf_lt (by assumption) | exact zf_lt1 (by assumption) | exact zf_lt2 (by assumption) | exact zf_lt3 (by assumption) | exact zf_lt4 (by assumption) | exact zw_lt (by assumption) | exact zw_lt1 (by assumption) | exact zw_lt2 (by assumption) | exact zw_lt3 (by assumption) | exact zw_lt4 (by assumption) | exact zt_lt (by assumption)) (by first | omega | assumption) ?_
          rw [hh i hlt_i]
          refine ev_ishl (q := 29) dX0_namesOf_28 rfl ?_
          refine ev_ior (q := 30) dX0_namesOf_29 rfl ?_
          refine ev_istore_n (q := 31) dX0_namesOf_30 rfl (by decide) ?_
          refine ev_iinc (q := 34) (1 : Int32) dX0_namesOf_31 rfl rfl (by decide) (by decide) ?_
          refine ev_goto (t := 4) dX0_namesOf_34 (by decide) ?_
          rw [nI_1]
          exact ih (i + 1) _ (by omega) (by omega) (by first | exact zor_s hb (by simpa [zb_0] using h17) | exact zor_n hb (by simpa [zb_0] using h17))
  refine ev_iconst (q := 1) (0 : Int32) dX0_namesOf_0 rfl (by decide) ?_
  refine ev_istore_n (q := 2) dX0_namesOf_1 rfl (by decide) ?_
  refine ev_iconst (q := 3) (0 : Int32) dX0_namesOf_2 rfl (by decide) ?_
  refine ev_istore_n (q := 4) dX0_namesOf_3 rfl (by decide) ?_
  exact lp4 (N + 1) 0 0 (by omega) (by omega) rfl
set_option maxHeartbeats 4000000 in
set_option maxRecDepth 100000 in
theorem c_X5_clear (G : zq_G) (fo : Bool) (I : zq_I) {tl : Nat} (ht : zq_isT tl) : zq_Met G mX5_clear 0 0 0 [.ref tl] 138 I (zPs fo) (fun v n' I' P' => v = none ∧ n' = 138 ∧ I' = zu (zu I tl 0 0) tl 1 0 ∧ P' = zPs fo) := by
  refine zq_Met.of okX5_clear (Nat.le_of_ble_eq_true rfl) ?_
  refine ev_aload_n (q := 1) dX5_clear_0 rfl rfl ?_
  refine ev_iconst (q := 2) (0 : Int32) dX5_clear_1 rfl (by decide) ?_
  refine ev_putI (q := 5) (ci := 5) (f := 0) dX5_clear_2 rfl (by first | rfl | assumption | exact zf_kd (by assumption) | exact zw_kd (by assumption) | exact zt_kd (by assumption)) (by first | decide | exact zf_lt (by assumption) | exact zf_lt1 (by assumption) | exact zf_lt2 (by assumption) | exact zf_lt3 (by assumption) | exact zf_lt4 (by assumption) | exact zw_lt (by assumption) | exact zw_lt1 (by assumption) | exact zw_lt2 (by assumption) | exact zw_lt3 (by assumption) | exact zw_lt4 (by assumption) | exact zt_lt (by assumption)) (by decide) (by decide) lfRX5_9 rfl rfl rfl rfl ?_
  refine ev_aload_n (q := 6) dX5_clear_5 rfl rfl ?_
  refine ev_iconst (q := 7) (0 : Int32) dX5_clear_6 rfl (by decide) ?_
  refine ev_putI (q := 10) (ci := 5) (f := 1) dX5_clear_7 rfl (by first | rfl | assumption | exact zf_kd (by assumption) | exact zw_kd (by assumption) | exact zt_kd (by assumption)) (by first | decide | exact zf_lt (by assumption) | exact zf_lt1 (by assumption) | exact zf_lt2 (by assumption) | exact zf_lt3 (by assumption) | exact zf_lt4 (by assumption) | exact zw_lt (by assumption) | exact zw_lt1 (by assumption) | exact zw_lt2 (by assumption) | exact zw_lt3 (by assumption) | exact zw_lt4 (by assumption) | exact zt_lt (by assumption)) (by decide) (by decide) lfRX5_15 rfl rfl rfl rfl ?_
  exact ev_vret dX5_clear_10 rfl (⟨rfl, rfl, by simp [zu], rfl⟩)
set_option maxHeartbeats 4000000 in
set_option maxRecDepth 100000 in
theorem c_X5_addMissed (G : zq_G) (fo : Bool) (I : zq_I) {tl : Nat} (ht : zq_isT tl) (x : Int32) : zq_Met G mX5_addMissed 1 0 0 [.ref tl, .int x] 138 I (zPs fo) (fun v n' I' P' => v = none ∧ n' = 138 ∧ I' = zu (zu I tl 0 (I tl 0 + zpop x)) tl 1 (I tl 1 ||| x) ∧ P' = zPs fo) := by
  refine zq_Met.of okX5_addMissed (Nat.le_of_ble_eq_true rfl) ?_
  refine ev_aload_n (q := 1) dX5_addMissed_0 rfl rfl ?_
  refine ev_dup (q := 2) dX5_addMissed_1 rfl rfl ?_
  refine ev_getI (q := 5) (ci := 5) (f := 0) dX5_addMissed_2 rfl (by first | rfl | assumption | exact zf_kd (by assumption) | exact zw_kd (by assumption) | exact zt_kd (by assumption)) (by first | decide | exact zf_lt (by assumption) | exact zf_lt1 (by assumption) | exact zf_lt2 (by assumption) | exact zf_lt3 (by assumption) | exact zf_lt4 (by assumption) | exact zw_lt (by assumption) | exact zw_lt1 (by assumption) | exact zw_lt2 (by assumption) | exact zw_lt3 (by assumption) | exact zw_lt4 (by assumption) | exact zt_lt (by assumption)) (by decide) (by decide) lfRX5_9 rfl ?_
  refine ev_iload_n (q := 6) dX5_addMissed_5 rfl rfl ?_
  refine ev_pS (q := 9) dX5_addMissed_6 rfl okJ6_bitCount_0f7a4 lmRX5_18 smJ6_bitCount_0f7a4 (c_J6_bitCount_0f7a4 G _ _ _ _) (by decide) rfl rfl (Nat.le_of_ble_eq_true rfl) ?_
  refine ev_iadd (q := 10) dX5_addMissed_9 rfl ?_
  refine ev_putI (q := 13) (ci := 5) (f := 0) dX5_addMissed_10 rfl (by first | rfl | assumption | exact zf_kd (by assumption) | exact zw_kd (by assumption) | exact zt_kd (by assumption)) (by first | decide | exact zf_lt (by assumption) | exact zf_lt1 (by assumption) | exact zf_lt2 (by assumption) | exact zf_lt3 (by assumption) | exact zf_lt4 (by assumption) | exact zw_lt (by assumption) | exact zw_lt1 (by assumption) | exact zw_lt2 (by assumption) | exact zw_lt3 (by assumption) | exact zw_lt4 (by assumption) | exact zt_lt (by assumption)) (by decide) (by decide) lfRX5_9 rfl rfl rfl rfl ?_
  refine ev_aload_n (q := 14) dX5_addMissed_13 rfl rfl ?_
  refine ev_dup (q := 15) dX5_addMissed_14 rfl rfl ?_
  refine ev_getI (q := 18) (ci := 5) (f := 1) dX5_addMissed_15 rfl (by first | rfl | assumption | exact zf_kd (by assumption) | exact zw_kd (by assumption) | exact zt_kd (by assumption)) (by first | decide | exact zf_lt (by assumption) | exact zf_lt1 (by assumption) | exact zf_lt2 (by assumption) | exact zf_lt3 (by assumption) | exact zf_lt4 (by assumption) | exact zw_lt (by assumption) | exact zw_lt1 (by assumption) | exact zw_lt2 (by assumption) | exact zw_lt3 (by assumption) | exact zw_lt4 (by assumption) | exact zt_lt (by assumption)) (by decide) (by decide) lfRX5_15 rfl ?_
  refine ev_iload_n (q := 19) dX5_addMissed_18 rfl rfl ?_
  refine ev_ior (q := 20) dX5_addMissed_19 rfl ?_
  refine ev_putI (q := 23) (ci := 5) (f := 1) dX5_addMissed_20 rfl (by first | rfl | assumption | exact zf_kd (by assumption) | exact zw_kd (by assumption) | exact zt_kd (by assumption)) (by first | decide | exact zf_lt (by assumption) | exact zf_lt1 (by assumption) | exact zf_lt2 (by assumption) | exact zf_lt3 (by assumption) | exact zf_lt4 (by assumption) | exact zw_lt (by assumption) | exact zw_lt1 (by assumption) | exact zw_lt2 (by assumption) | exact zw_lt3 (by assumption) | exact zw_lt4 (by assumption) | exact zt_lt (by assumption)) (by decide) (by decide) lfRX5_15 rfl rfl rfl rfl ?_
  exact ev_vret dX5_addMissed_23 rfl (⟨rfl, rfl, by simp [zu], rfl⟩)
set_option maxHeartbeats 4000000 in
set_option maxRecDepth 100000 in
theorem c_X5_countByLaw (G : zq_G) (fo : Bool) (I : zq_I) {f N tl : Nat} (V : zq_V) (ht : zq_isT tl) (hf : zq_isF f) (hN8 : N ≤ 8) (hN : I f 2 = nI N) (hh : ∀ p, p < N → I (f + 2) p = vN V p) : zq_Met G mX5_countByLaw 2 0 0 [.ref tl, .ref f] 138 I (zPs fo) (zq_pu (some (.int (zCt (I f 0) V N (I tl 0) (I tl 1)))) 138 I (zPs fo)) := by
  refine zq_Met.of okX5_countByLaw (Nat.le_of_ble_eq_true rfl) ?_
  refine ev_aload_n (q := 1) dX5_countByLaw_0 rfl rfl ?_
  refine ev_getI (q := 4) (ci := 0) (f := 0) dX5_countByLaw_1 rfl (by first | rfl | assumption | exact zf_kd (by assumption) | exact zw_kd (by assumption) | exact zt_kd (by assumption)) (by first | decide | exact zf_lt (by assumption) | exact zf_lt1 (by assumption) | exact zf_lt2 (by assumption) | exact zf_lt3 (by assumption) | exact zf_lt4 (by assumption) | exact zw_lt (by assumption) | exact zw_lt1 (by assumption) | exact zw_lt2 (by assumption) | exact zw_lt3 (by assumption) | exact zw_lt4 (by assumption) | exact zt_lt (by assumption)) (by decide) (by decide) lfRX5_24 rfl ?_
  refine ev_if_ne (q := 7) (t := 12) dX5_countByLaw_4 rfl (by decide) (fun h4 => ?_) (fun h4 => ?_)
  · refine ev_aload_n (q := 13) dX5_countByLaw_12 rfl rfl ?_
    refine ev_getI (q := 16) (ci := 0) (f := 0) dX5_countByLaw_13 rfl (by first | rfl | assumption | exact zf_kd (by assumption) | exact zw_kd (by assumption) | exact zt_kd (by assumption)) (by first | decide | exact zf_lt (by assumption) | exact zf_lt1 (by assumption) | exact zf_lt2 (by assumption) | exact zf_lt3 (by assumption) | exact zf_lt4 (by assumption) | exact zw_lt (by assumption) | exact zw_lt1 (by assumption) | exact zw_lt2 (by assumption) | exact zw_lt3 (by assumption) | exact zw_lt4 (by assumption) | exact zt_lt (by assumption)) (by decide) (by decide) lfRX5_24 rfl ?_
    refine ev_iconst (q := 17) (1 : Int32) dX5_countByLaw_16 rfl (by decide) ?_
    refine ev_icmp_ne (q := 20) (t := 27) dX5_countByLaw_17 rfl (by decide) (fun h17 => ?_) (fun h17 => ?_)
    · refine ev_aload_n (q := 28) dX5_countByLaw_27 rfl rfl ?_
      refine ev_aload_n (q := 29) dX5_countByLaw_28 rfl rfl ?_
      refine ev_getI (q := 32) (ci := 5) (f := 1) dX5_countByLaw_29 rfl (by first | rfl | assumption | exact zf_kd (by assumption) | exact zw_kd (by assumption) | exact zt_kd (by assumption)) (by first | decide | exact zf_lt (by assumption) | exact zf_lt1 (by assumption) | exact zf_lt2 (by assumption) | exact zf_lt3 (by assumption) | exact zf_lt4 (by assumption) | exact zw_lt (by assumption) | exact zw_lt1 (by assumption) | exact zw_lt2 (by assumption) | exact zw_lt3 (by assumption) | exact zw_lt4 (by assumption) | exact zt_lt (by assumption)) (by decide) (by decide) lfRX5_15 rfl ?_
      refine ev_pV (q := 35) (ci := 0) dX5_countByLaw_32 rfl okX0_namesOf lmRX5_29 imX0_namesOf seX0_namesOf (by first | rfl | assumption | exact zf_kd (by assumption) | exact zw_kd (by assumption) | exact zt_kd (by assumption)) (by first | decide | exact zf_lt (by assumption) | exact zf_lt1 (by assumption) | exact zf_lt2 (by assumption) | exact zf_lt3 (by assumption) | exact zf_lt4 (by assumption) | exact zw_lt (by assumption) | exact zw_lt1 (by assumption) | exact zw_lt2 (by assumption) | exact zw_lt3 (by assumption) | exact zw_lt4 (by assumption) | exact zt_lt (by assumption)) (by decide) rfl (c_X0_namesOf G fo I V hf hN8 hN hh _) (by decide) rfl rfl (Nat.le_of_ble_eq_true rfl) ?_
      refine ev_pS (q := 38) dX5_countByLaw_35 rfl okJ6_bitCount_0f7a4 lmRX5_18 smJ6_bitCount_0f7a4 (c_J6_bitCount_0f7a4 G _ _ _ _) (by decide) rfl rfl (Nat.le_of_ble_eq_true rfl) ?_
      exact ev_iret dX5_countByLaw_38 rfl (by first | rfl | exact zb_nar _ | assumption) (⟨by simp [zCt, h4, h17], rfl, rfl, rfl⟩)
    · refine ev_aload_n (q := 21) dX5_countByLaw_20 rfl rfl ?_
      refine ev_getI (q := 24) (ci := 5) (f := 1) dX5_countByLaw_21 rfl (by first | rfl | assumption | exact zf_kd (by assumption) | exact zw_kd (by assumption) | exact zt_kd (by assumption)) (by first | decide | exact zf_lt (by assumption) | exact zf_lt1 (by assumption) | exact zf_lt2 (by assumption) | exact zf_lt3 (by assumption) | exact zf_lt4 (by assumption) | exact zw_lt (by assumption) | exact zw_lt1 (by assumption) | exact zw_lt2 (by assumption) | exact zw_lt3 (by assumption) | exact zw_lt4 (by assumption) | exact zt_lt (by assumption)) (by decide) (by decide) lfRX5_15 rfl ?_
      refine ev_goto (t := 35) dX5_countByLaw_24 (by decide) ?_
      refine ev_pS (q := 38) dX5_countByLaw_35 rfl okJ6_bitCount_0f7a4 lmRX5_18 smJ6_bitCount_0f7a4 (c_J6_bitCount_0f7a4 G _ _ _ _) (by decide) rfl rfl (Nat.le_of_ble_eq_true rfl) ?_
      exact ev_iret dX5_countByLaw_38 rfl (by first | rfl | exact zb_nar _ | assumption) (⟨by simp [zCt, h4, h17], rfl, rfl, rfl⟩)
  · refine ev_aload_n (q := 8) dX5_countByLaw_7 rfl rfl ?_
    refine ev_getI (q := 11) (ci := 5) (f := 0) dX5_countByLaw_8 rfl (by first | rfl | assumption | exact zf_kd (by assumption) | exact zw_kd (by assumption) | exact zt_kd (by assumption)) (by first | decide | exact zf_lt (by assumption) | exact zf_lt1 (by assumption) | exact zf_lt2 (by assumption) | exact zf_lt3 (by assumption) | exact zf_lt4 (by assumption) | exact zw_lt (by assumption) | exact zw_lt1 (by assumption) | exact zw_lt2 (by assumption) | exact zw_lt3 (by assumption) | exact zw_lt4 (by assumption) | exact zt_lt (by assumption)) (by decide) (by decide) lfRX5_9 rfl ?_
    exact ev_iret dX5_countByLaw_11 rfl (by first | rfl | exact zb_nar _ | assumption) (⟨by simp [zCt, h4], rfl, rfl, rfl⟩)
set_option maxHeartbeats 4000000 in
set_option maxRecDepth 100000 in
theorem c_X6_isAlive (G : zq_G) (fo : Bool) (I : zq_I) {w p : Nat} (hw : zq_isW w) (hp : p < 8) : zq_Met G mX6_isAlive 0 0 0 [.ref w, .int (nI p)] 138 I (zPs fo) (zq_pu (some (.int (zb (I (w + 3) p == -9)))) 138 I (zPs fo)) := by
  refine zq_Met.of okX6_isAlive (Nat.le_of_ble_eq_true rfl) ?_
  refine ev_aload_n (q := 1) dX6_isAlive_0 rfl rfl ?_
  refine ev_getR (q := 4) (ci := 6) (f := 3) dX6_isAlive_1 rfl (by first | rfl | assumption | exact zf_kd (by assumption) | exact zw_kd (by assumption) | exact zt_kd (by assumption)) (by first | decide | exact zf_lt (by assumption) | exact zf_lt1 (by assumption) | exact zf_lt2 (by assumption) | exact zf_lt3 (by assumption) | exact zf_lt4 (by assumption) | exact zw_lt (by assumption) | exact zw_lt1 (by assumption) | exact zw_lt2 (by assumption) | exact zw_lt3 (by assumption) | exact zw_lt4 (by assumption) | exact zt_lt (by assumption)) (by decide) (by decide) lfRX6_18 rfl (by first | rfl | assumption | exact zf_p4 _ (by assumption) | exact zf_p5 _ (by assumption) | exact zf_p6 _ (by assumption) | exact zf_p7 _ (by assumption) | exact zw_p1 _ (by assumption) | exact zw_p2 _ (by assumption) | exact zw_p3 _ (by assumption) | exact zw_p4 _ (by assumption)) ?_
  refine ev_iload_n (q := 5) dX6_isAlive_4 rfl rfl ?_
  refine ev_ialdN (q := 6) dX6_isAlive_5 rfl (by first | rfl | assumption | exact zf_kd1 (by assumption) | exact zf_kd2 (by assumption) | exact zf_kd3 (by assumption) | exact zf_kd4 (by assumption) | exact zw_kd1 (by assumption) | exact zw_kd2 (by assumption) | exact zw_kd3 (by assumption) | exact zw_kd4 (by assumption)) (by first | decide | exact zf_lt (by assumption) | exact zf_lt1 (by assumption) | exact zf_lt2 (by assumption) | exact zf_lt3 (by assumption) | exact zf_lt4 (by assumption) | exact zw_lt (by assumption) | exact zw_lt1 (by assumption) | exact zw_lt2 (by assumption) | exact zw_lt3 (by assumption) | exact zw_lt4 (by assumption) | exact zt_lt (by assumption)) (by first | omega | assumption) ?_
  refine ev_bipush (q := 8) ((-9) : Int32) dX6_isAlive_6 rfl (by decide) ?_
  refine ev_icmp_ne (q := 11) (t := 15) dX6_isAlive_8 rfl (by decide) (fun h8 => ?_) (fun h8 => ?_)
  · refine ev_iconst (q := 16) (0 : Int32) dX6_isAlive_15 rfl (by decide) ?_
    exact ev_iret dX6_isAlive_16 rfl (by first | rfl | exact zb_nar _ | assumption) (⟨by simp [zb, h8], rfl, rfl, rfl⟩)
  · refine ev_iconst (q := 12) (1 : Int32) dX6_isAlive_11 rfl (by decide) ?_
    refine ev_goto (t := 16) dX6_isAlive_12 (by decide) ?_
    exact ev_iret dX6_isAlive_16 rfl (by first | rfl | exact zb_nar _ | assumption) (⟨by simp [zb, h8], rfl, rfl, rfl⟩)
set_option maxHeartbeats 4000000 in
set_option maxRecDepth 100000 in
theorem c_X6_heardIn (G : zq_G) (fo : Bool) (I : zq_I) {w f p : Nat} (hw : zq_isW w) (hf : zq_isF f) (hp : p < 8) : zq_Met G mX6_heardIn 1 0 0 [.ref w, .int (nI p), .ref f] 138 I (zPs fo) (zq_pu (some (.int (I (w + 3) p + (if 0 ≤ I (w + 1) p - I (f + 1) p then I (w + 1) p - I (f + 1) p else 0 - (I (w + 1) p - I (f + 1) p))))) 138 I (zPs fo)) := by
  refine zq_Met.of okX6_heardIn (Nat.le_of_ble_eq_true rfl) ?_
  refine ev_aload_n (q := 1) dX6_heardIn_0 rfl rfl ?_
  refine ev_getR (q := 4) (ci := 6) (f := 3) dX6_heardIn_1 rfl (by first | rfl | assumption | exact zf_kd (by assumption) | exact zw_kd (by assumption) | exact zt_kd (by assumption)) (by first | decide | exact zf_lt (by assumption) | exact zf_lt1 (by assumption) | exact zf_lt2 (by assumption) | exact zf_lt3 (by assumption) | exact zf_lt4 (by assumption) | exact zw_lt (by assumption) | exact zw_lt1 (by assumption) | exact zw_lt2 (by assumption) | exact zw_lt3 (by assumption) | exact zw_lt4 (by assumption) | exact zt_lt (by assumption)) (by decide) (by decide) lfRX6_18 rfl (by first | rfl | assumption | exact zf_p4 _ (by assumption) | exact zf_p5 _ (by assumption) | exact zf_p6 _ (by assumption) | exact zf_p7 _ (by assumption) | exact zw_p1 _ (by assumption) | exact zw_p2 _ (by assumption) | exact zw_p3 _ (by assumption) | exact zw_p4 _ (by assumption)) ?_
  refine ev_iload_n (q := 5) dX6_heardIn_4 rfl rfl ?_
  refine ev_ialdN (q := 6) dX6_heardIn_5 rfl (by first | rfl | assumption | exact zf_kd1 (by assumption) | exact zf_kd2 (by assumption) | exact zf_kd3 (by assumption) | exact zf_kd4 (by assumption) | exact zw_kd1 (by assumption) | exact zw_kd2 (by assumption) | exact zw_kd3 (by assumption) | exact zw_kd4 (by assumption)) (by first | decide | exact zf_lt (by assumption) | exact zf_lt1 (by assumption) | exact zf_lt2 (by assumption) | exact zf_lt3 (by assumption) | exact zf_lt4 (by assumption) | exact zw_lt (by assumption) | exact zw_lt1 (by assumption) | exact zw_lt2 (by assumption) | exact zw_lt3 (by assumption) | exact zw_lt4 (by assumption) | exact zt_lt (by assumption)) (by first | omega | assumption) ?_
  refine ev_aload_n (q := 7) dX6_heardIn_6 rfl rfl ?_
  refine ev_getR (q := 10) (ci := 6) (f := 1) dX6_heardIn_7 rfl (by first | rfl | assumption | exact zf_kd (by assumption) | exact zw_kd (by assumption) | exact zt_kd (by assumption)) (by first | decide | exact zf_lt (by assumption) | exact zf_lt1 (by assumption) | exact zf_lt2 (by assumption) | exact zf_lt3 (by assumption) | exact zf_lt4 (by assumption) | exact zw_lt (by assumption) | exact zw_lt1 (by assumption) | exact zw_lt2 (by assumption) | exact zw_lt3 (by assumption) | exact zw_lt4 (by assumption) | exact zt_lt (by assumption)) (by decide) (by decide) lfRX6_9 rfl (by first | rfl | assumption | exact zf_p4 _ (by assumption) | exact zf_p5 _ (by assumption) | exact zf_p6 _ (by assumption) | exact zf_p7 _ (by assumption) | exact zw_p1 _ (by assumption) | exact zw_p2 _ (by assumption) | exact zw_p3 _ (by assumption) | exact zw_p4 _ (by assumption)) ?_
  refine ev_iload_n (q := 11) dX6_heardIn_10 rfl rfl ?_
  refine ev_ialdN (q := 12) dX6_heardIn_11 rfl (by first | rfl | assumption | exact zf_kd1 (by assumption) | exact zf_kd2 (by assumption) | exact zf_kd3 (by assumption) | exact zf_kd4 (by assumption) | exact zw_kd1 (by assumption) | exact zw_kd2 (by assumption) | exact zw_kd3 (by assumption) | exact zw_kd4 (by assumption)) (by first | decide | exact zf_lt (by assumption) | exact zf_lt1 (by assumption) | exact zf_lt2 (by assumption) | exact zf_lt3 (by assumption) | exact zf_lt4 (by assumption) | exact zw_lt (by assumption) | exact zw_lt1 (by assumption) | exact zw_lt2 (by assumption) | exact zw_lt3 (by assumption) | exact zw_lt4 (by assumption) | exact zt_lt (by assumption)) (by first | omega | assumption) ?_
  refine ev_aload_n (q := 13) dX6_heardIn_12 rfl rfl ?_
  refine ev_getR (q := 16) (ci := 0) (f := 4) dX6_heardIn_13 rfl (by first | rfl | assumption | exact zf_kd (by assumption) | exact zw_kd (by assumption) | exact zt_kd (by assumption)) (by first | decide | exact zf_lt (by assumption) | exact zf_lt1 (by assumption) | exact zf_lt2 (by assumption) | exact zf_lt3 (by assumption) | exact zf_lt4 (by assumption) | exact zw_lt (by assumption) | exact zw_lt1 (by assumption) | exact zw_lt2 (by assumption) | exact zw_lt3 (by assumption) | exact zw_lt4 (by assumption) | exact zt_lt (by assumption)) (by decide) (by decide) lfRX6_28 rfl (by first | rfl | assumption | exact zf_p4 _ (by assumption) | exact zf_p5 _ (by assumption) | exact zf_p6 _ (by assumption) | exact zf_p7 _ (by assumption) | exact zw_p1 _ (by assumption) | exact zw_p2 _ (by assumption) | exact zw_p3 _ (by assumption) | exact zw_p4 _ (by assumption)) ?_
  refine ev_iload_n (q := 17) dX6_heardIn_16 rfl rfl ?_
  refine ev_ialdN (q := 18) dX6_heardIn_17 rfl (by first | rfl | assumption | exact zf_kd1 (by assumption) | exact zf_kd2 (by assumption) | exact zf_kd3 (by assumption) | exact zf_kd4 (by assumption) | exact zw_kd1 (by assumption) | exact zw_kd2 (by assumption) | exact zw_kd3 (by assumption) | exact zw_kd4 (by assumption)) (by first | decide | exact zf_lt (by assumption) | exact zf_lt1 (by assumption) | exact zf_lt2 (by assumption) | exact zf_lt3 (by assumption) | exact zf_lt4 (by assumption) | exact zw_lt (by assumption) | exact zw_lt1 (by assumption) | exact zw_lt2 (by assumption) | exact zw_lt3 (by assumption) | exact zw_lt4 (by assumption) | exact zt_lt (by assumption)) (by first | omega | assumption) ?_
  refine ev_isub (q := 19) dX6_heardIn_18 rfl ?_
  refine ev_absI (q := 22) dX6_heardIn_19 rfl lmRX6_36 smabsI iniMath cdabsI (by decide) (Nat.le_of_ble_eq_true rfl) ?_
  refine ev_iadd (q := 23) dX6_heardIn_22 rfl ?_
  exact ev_iret dX6_heardIn_23 rfl (by first | rfl | exact zb_nar _ | assumption) (⟨rfl, rfl, rfl, rfl⟩)
set_option maxHeartbeats 4000000 in
set_option maxRecDepth 100000 in
theorem c_X7_isAtHome (G : zq_G) (fo : Bool) (I : zq_I) {N T Y : Nat} (hs : zS fo N T Y I) {p : Nat} (hp : p < N) : zq_Met G mX7_isAtHome 1 0 0 [.ref 0, .int (nI p)] 138 I (zPs fo) (zq_pu (some (.int (zb (zTh (zV I) p)))) 138 I (zPs fo)) := by
  refine zq_Met.of okX7_isAtHome (Nat.le_of_ble_eq_true rfl) ?_
  have hN8 := hs.n8
  have hN := hs.ppl
  have hfF := zF_is fo
  have e1 := hs.die hp
  have e2 := hs.whe hp
  have e3 := hs.hom hp
  refine ev_aload_n (q := 1) dX7_isAtHome_0 rfl rfl ?_
  refine ev_getR (q := 4) (ci := 7) (f := 5) dX7_isAtHome_1 rfl (by first | rfl | assumption | exact zf_kd (by assumption) | exact zw_kd (by assumption) | exact zt_kd (by assumption)) (by first | decide | exact zf_lt (by assumption) | exact zf_lt1 (by assumption) | exact zf_lt2 (by assumption) | exact zf_lt3 (by assumption) | exact zf_lt4 (by assumption) | exact zw_lt (by assumption) | exact zw_lt1 (by assumption) | exact zw_lt2 (by assumption) | exact zw_lt3 (by assumption) | exact zw_lt4 (by assumption) | exact zt_lt (by assumption)) (by decide) (by decide) lfRX7_47 rfl (by first | rfl | assumption | exact zf_p4 _ (by assumption) | exact zf_p5 _ (by assumption) | exact zf_p6 _ (by assumption) | exact zf_p7 _ (by assumption) | exact zw_p1 _ (by assumption) | exact zw_p2 _ (by assumption) | exact zw_p3 _ (by assumption) | exact zw_p4 _ (by assumption)) ?_
  refine ev_iload_n (q := 5) dX7_isAtHome_4 rfl rfl ?_
  refine ev_pV (q := 8) (ci := 6) dX7_isAtHome_5 rfl okX6_isAlive lmRX7_167 imX6_isAlive seX6_isAlive (by first | rfl | assumption | exact zf_kd (by assumption) | exact zw_kd (by assumption) | exact zt_kd (by assumption)) (by first | decide | exact zf_lt (by assumption) | exact zf_lt1 (by assumption) | exact zf_lt2 (by assumption) | exact zf_lt3 (by assumption) | exact zf_lt4 (by assumption) | exact zw_lt (by assumption) | exact zw_lt1 (by assumption) | exact zw_lt2 (by assumption) | exact zw_lt3 (by assumption) | exact zw_lt4 (by assumption) | exact zt_lt (by assumption)) (by decide) rfl (c_X6_isAlive G fo I zW_now (by omega)) (by decide) rfl rfl (Nat.le_of_ble_eq_true rfl) ?_
  refine ev_if_eq (q := 11) (t := 36) dX7_isAtHome_8 rfl (by decide) (fun h8 => ?_) (fun h8 => ?_)
  · simp only [zb_0, Nat.reduceAdd, e1] at h8
    refine ev_iconst (q := 37) (0 : Int32) dX7_isAtHome_36 rfl (by decide) ?_
    exact ev_iret dX7_isAtHome_37 rfl (by first | rfl | exact zb_nar _ | assumption) (⟨by simp_all [zTh, zAl, zb], rfl, rfl, rfl⟩)
  · simp only [zb_0, Nat.reduceAdd, e1] at h8
    refine ev_aload_n (q := 12) dX7_isAtHome_11 rfl rfl ?_
    refine ev_getR (q := 15) (ci := 7) (f := 5) dX7_isAtHome_12 rfl (by first | rfl | assumption | exact zf_kd (by assumption) | exact zw_kd (by assumption) | exact zt_kd (by assumption)) (by first | decide | exact zf_lt (by assumption) | exact zf_lt1 (by assumption) | exact zf_lt2 (by assumption) | exact zf_lt3 (by assumption) | exact zf_lt4 (by assumption) | exact zw_lt (by assumption) | exact zw_lt1 (by assumption) | exact zw_lt2 (by assumption) | exact zw_lt3 (by assumption) | exact zw_lt4 (by assumption) | exact zt_lt (by assumption)) (by decide) (by decide) lfRX7_47 rfl (by first | rfl | assumption | exact zf_p4 _ (by assumption) | exact zf_p5 _ (by assumption) | exact zf_p6 _ (by assumption) | exact zf_p7 _ (by assumption) | exact zw_p1 _ (by assumption) | exact zw_p2 _ (by assumption) | exact zw_p3 _ (by assumption) | exact zw_p4 _ (by assumption)) ?_
    refine ev_getR (q := 18) (ci := 6) (f := 1) dX7_isAtHome_15 rfl (by first | rfl | assumption | exact zf_kd (by assumption) | exact zw_kd (by assumption) | exact zt_kd (by assumption)) (by first | decide | exact zf_lt (by assumption) | exact zf_lt1 (by assumption) | exact zf_lt2 (by assumption) | exact zf_lt3 (by assumption) | exact zf_lt4 (by assumption) | exact zw_lt (by assumption) | exact zw_lt1 (by assumption) | exact zw_lt2 (by assumption) | exact zw_lt3 (by assumption) | exact zw_lt4 (by assumption) | exact zt_lt (by assumption)) (by decide) (by decide) lfRX7_133 rfl (by first | rfl | assumption | exact zf_p4 _ (by assumption) | exact zf_p5 _ (by assumption) | exact zf_p6 _ (by assumption) | exact zf_p7 _ (by assumption) | exact zw_p1 _ (by assumption) | exact zw_p2 _ (by assumption) | exact zw_p3 _ (by assumption) | exact zw_p4 _ (by assumption)) ?_
    refine ev_iload_n (q := 19) dX7_isAtHome_18 rfl rfl ?_
    refine ev_ialdN (q := 20) dX7_isAtHome_19 rfl (by first | rfl | assumption | exact zf_kd1 (by assumption) | exact zf_kd2 (by assumption) | exact zf_kd3 (by assumption) | exact zf_kd4 (by assumption) | exact zw_kd1 (by assumption) | exact zw_kd2 (by assumption) | exact zw_kd3 (by assumption) | exact zw_kd4 (by assumption)) (by first | decide | exact zf_lt (by assumption) | exact zf_lt1 (by assumption) | exact zf_lt2 (by assumption) | exact zf_lt3 (by assumption) | exact zf_lt4 (by assumption) | exact zw_lt (by assumption) | exact zw_lt1 (by assumption) | exact zw_lt2 (by assumption) | exact zw_lt3 (by assumption) | exact zw_lt4 (by assumption) | exact zt_lt (by assumption)) (by first | omega | assumption) ?_
    refine ev_aload_n (q := 21) dX7_isAtHome_20 rfl rfl ?_
    refine ev_getR (q := 24) (ci := 7) (f := 9) dX7_isAtHome_21 rfl (by first | rfl | assumption | exact zf_kd (by assumption) | exact zw_kd (by assumption) | exact zt_kd (by assumption)) (by first | decide | exact zf_lt (by assumption) | exact zf_lt1 (by assumption) | exact zf_lt2 (by assumption) | exact zf_lt3 (by assumption) | exact zf_lt4 (by assumption) | exact zw_lt (by assumption) | exact zw_lt1 (by assumption) | exact zw_lt2 (by assumption) | exact zw_lt3 (by assumption) | exact zw_lt4 (by assumption) | exact zt_lt (by assumption)) (by decide) (by decide) lfRX7_66 rfl (by first | rfl | assumption | exact zf_p4 _ (by assumption) | exact zf_p5 _ (by assumption) | exact zf_p6 _ (by assumption) | exact zf_p7 _ (by assumption) | exact zw_p1 _ (by assumption) | exact zw_p2 _ (by assumption) | exact zw_p3 _ (by assumption) | exact zw_p4 _ (by assumption)) ?_
    refine ev_getR (q := 27) (ci := 0) (f := 4) dX7_isAtHome_24 rfl (by first | rfl | assumption | exact zf_kd (by assumption) | exact zw_kd (by assumption) | exact zt_kd (by assumption)) (by first | decide | exact zf_lt (by assumption) | exact zf_lt1 (by assumption) | exact zf_lt2 (by assumption) | exact zf_lt3 (by assumption) | exact zf_lt4 (by assumption) | exact zw_lt (by assumption) | exact zw_lt1 (by assumption) | exact zw_lt2 (by assumption) | exact zw_lt3 (by assumption) | exact zw_lt4 (by assumption) | exact zt_lt (by assumption)) (by decide) (by decide) lfRX7_124 rfl (by first | rfl | assumption | exact zf_p4 _ (by assumption) | exact zf_p5 _ (by assumption) | exact zf_p6 _ (by assumption) | exact zf_p7 _ (by assumption) | exact zw_p1 _ (by assumption) | exact zw_p2 _ (by assumption) | exact zw_p3 _ (by assumption) | exact zw_p4 _ (by assumption)) ?_
    refine ev_iload_n (q := 28) dX7_isAtHome_27 rfl rfl ?_
    refine ev_ialdN (q := 29) dX7_isAtHome_28 rfl (by first | rfl | assumption | exact zf_kd1 (by assumption) | exact zf_kd2 (by assumption) | exact zf_kd3 (by assumption) | exact zf_kd4 (by assumption) | exact zw_kd1 (by assumption) | exact zw_kd2 (by assumption) | exact zw_kd3 (by assumption) | exact zw_kd4 (by assumption)) (by first | decide | exact zf_lt (by assumption) | exact zf_lt1 (by assumption) | exact zf_lt2 (by assumption) | exact zf_lt3 (by assumption) | exact zf_lt4 (by assumption) | exact zw_lt (by assumption) | exact zw_lt1 (by assumption) | exact zw_lt2 (by assumption) | exact zw_lt3 (by assumption) | exact zw_lt4 (by assumption) | exact zt_lt (by assumption)) (by first | omega | assumption) ?_
    refine ev_icmp_ne (q := 32) (t := 36) dX7_isAtHome_29 rfl (by decide) (fun h29 => ?_) (fun h29 => ?_)
    · simp only [e2, e3] at h29
      refine ev_iconst (q := 37) (0 : Int32) dX7_isAtHome_36 rfl (by decide) ?_
      exact ev_iret dX7_isAtHome_37 rfl (by first | rfl | exact zb_nar _ | assumption) (⟨by simp_all [zTh, zAl, zb], rfl, rfl, rfl⟩)
    · simp only [e2, e3] at h29
      refine ev_iconst (q := 33) (1 : Int32) dX7_isAtHome_32 rfl (by decide) ?_
      refine ev_goto (t := 37) dX7_isAtHome_33 (by decide) ?_
      exact ev_iret dX7_isAtHome_37 rfl (by first | rfl | exact zb_nar _ | assumption) (⟨by simp_all [zTh, zAl, zb], rfl, rfl, rfl⟩)
set_option maxHeartbeats 4000000 in
set_option maxRecDepth 100000 in
theorem c_X7_isMissing (G : zq_G) (fo : Bool) (I : zq_I) {N T Y : Nat} (hs : zS fo N T Y I) {p : Nat} (hp : p < N) (y : Int32) : zq_Met G mX7_isMissing 2 0 0 [.ref 0, .int (nI p), .int y] 138 I (zPs fo) (zq_pu (some (.int (zb (zMi (zV I) p y)))) 138 I (zPs fo)) := by
  refine zq_Met.of okX7_isMissing (Nat.le_of_ble_eq_true rfl) ?_
  have hN8 := hs.n8
  have hN := hs.ppl
  have hfF := zF_is fo
  have e1 := hs.die hp
  have e2 := hs.whe hp
  have e3 := hs.hom hp
  refine ev_aload_n (q := 1) dX7_isMissing_0 rfl rfl ?_
  refine ev_getR (q := 4) (ci := 7) (f := 5) dX7_isMissing_1 rfl (by first | rfl | assumption | exact zf_kd (by assumption) | exact zw_kd (by assumption) | exact zt_kd (by assumption)) (by first | decide | exact zf_lt (by assumption) | exact zf_lt1 (by assumption) | exact zf_lt2 (by assumption) | exact zf_lt3 (by assumption) | exact zf_lt4 (by assumption) | exact zw_lt (by assumption) | exact zw_lt1 (by assumption) | exact zw_lt2 (by assumption) | exact zw_lt3 (by assumption) | exact zw_lt4 (by assumption) | exact zt_lt (by assumption)) (by decide) (by decide) lfRX7_47 rfl (by first | rfl | assumption | exact zf_p4 _ (by assumption) | exact zf_p5 _ (by assumption) | exact zf_p6 _ (by assumption) | exact zf_p7 _ (by assumption) | exact zw_p1 _ (by assumption) | exact zw_p2 _ (by assumption) | exact zw_p3 _ (by assumption) | exact zw_p4 _ (by assumption)) ?_
  refine ev_iload_n (q := 5) dX7_isMissing_4 rfl rfl ?_
  refine ev_pV (q := 8) (ci := 6) dX7_isMissing_5 rfl okX6_isAlive lmRX7_167 imX6_isAlive seX6_isAlive (by first | rfl | assumption | exact zf_kd (by assumption) | exact zw_kd (by assumption) | exact zt_kd (by assumption)) (by first | decide | exact zf_lt (by assumption) | exact zf_lt1 (by assumption) | exact zf_lt2 (by assumption) | exact zf_lt3 (by assumption) | exact zf_lt4 (by assumption) | exact zw_lt (by assumption) | exact zw_lt1 (by assumption) | exact zw_lt2 (by assumption) | exact zw_lt3 (by assumption) | exact zw_lt4 (by assumption) | exact zt_lt (by assumption)) (by decide) rfl (c_X6_isAlive G fo I zW_now (by omega)) (by decide) rfl rfl (Nat.le_of_ble_eq_true rfl) ?_
  refine ev_if_eq (q := 11) (t := 38) dX7_isMissing_8 rfl (by decide) (fun h8 => ?_) (fun h8 => ?_)
  · simp only [zb_0, Nat.reduceAdd, e1] at h8
    refine ev_iload_n (q := 39) dX7_isMissing_38 rfl rfl ?_
    refine ev_aload_n (q := 40) dX7_isMissing_39 rfl rfl ?_
    refine ev_getR (q := 43) (ci := 7) (f := 5) dX7_isMissing_40 rfl (by first | rfl | assumption | exact zf_kd (by assumption) | exact zw_kd (by assumption) | exact zt_kd (by assumption)) (by first | decide | exact zf_lt (by assumption) | exact zf_lt1 (by assumption) | exact zf_lt2 (by assumption) | exact zf_lt3 (by assumption) | exact zf_lt4 (by assumption) | exact zw_lt (by assumption) | exact zw_lt1 (by assumption) | exact zw_lt2 (by assumption) | exact zw_lt3 (by assumption) | exact zw_lt4 (by assumption) | exact zt_lt (by assumption)) (by decide) (by decide) lfRX7_47 rfl (by first | rfl | assumption | exact zf_p4 _ (by assumption) | exact zf_p5 _ (by assumption) | exact zf_p6 _ (by assumption) | exact zf_p7 _ (by assumption) | exact zw_p1 _ (by assumption) | exact zw_p2 _ (by assumption) | exact zw_p3 _ (by assumption) | exact zw_p4 _ (by assumption)) ?_
    refine ev_iload_n (q := 44) dX7_isMissing_43 rfl rfl ?_
    refine ev_aload_n (q := 45) dX7_isMissing_44 rfl rfl ?_
    refine ev_getR (q := 48) (ci := 7) (f := 9) dX7_isMissing_45 rfl (by first | rfl | assumption | exact zf_kd (by assumption) | exact zw_kd (by assumption) | exact zt_kd (by assumption)) (by first | decide | exact zf_lt (by assumption) | exact zf_lt1 (by assumption) | exact zf_lt2 (by assumption) | exact zf_lt3 (by assumption) | exact zf_lt4 (by assumption) | exact zw_lt (by assumption) | exact zw_lt1 (by assumption) | exact zw_lt2 (by assumption) | exact zw_lt3 (by assumption) | exact zw_lt4 (by assumption) | exact zt_lt (by assumption)) (by decide) (by decide) lfRX7_66 rfl (by first | rfl | assumption | exact zf_p4 _ (by assumption) | exact zf_p5 _ (by assumption) | exact zf_p6 _ (by assumption) | exact zf_p7 _ (by assumption) | exact zw_p1 _ (by assumption) | exact zw_p2 _ (by assumption) | exact zw_p3 _ (by assumption) | exact zw_p4 _ (by assumption)) ?_
    refine ev_pV (q := 51) (ci := 6) dX7_isMissing_48 rfl okX6_heardIn lmRX7_174 imX6_heardIn seX6_heardIn (by first | rfl | assumption | exact zf_kd (by assumption) | exact zw_kd (by assumption) | exact zt_kd (by assumption)) (by first | decide | exact zf_lt (by assumption) | exact zf_lt1 (by assumption) | exact zf_lt2 (by assumption) | exact zf_lt3 (by assumption) | exact zf_lt4 (by assumption) | exact zw_lt (by assumption) | exact zw_lt1 (by assumption) | exact zw_lt2 (by assumption) | exact zw_lt3 (by assumption) | exact zw_lt4 (by assumption) | exact zt_lt (by assumption)) (by decide) rfl (c_X6_heardIn G fo I zW_now hfF (by omega)) (by decide) rfl rfl (Nat.le_of_ble_eq_true rfl) ?_
    rw [hs.heard hp]
    refine ev_icmp_ge (q := 54) (t := 58) dX7_isMissing_51 rfl (by decide) (fun h51 => ?_) (fun h51 => ?_)
    · refine ev_iconst (q := 59) (0 : Int32) dX7_isMissing_58 rfl (by decide) ?_
      exact ev_iret dX7_isMissing_59 rfl (by first | rfl | exact zb_nar _ | assumption) (⟨by simp_all [zMi, zAl, zb], rfl, rfl, rfl⟩)
    · refine ev_iconst (q := 55) (1 : Int32) dX7_isMissing_54 rfl (by decide) ?_
      refine ev_goto (t := 59) dX7_isMissing_55 (by decide) ?_
      exact ev_iret dX7_isMissing_59 rfl (by first | rfl | exact zb_nar _ | assumption) (⟨by simp_all [zMi, zAl, zb], rfl, rfl, rfl⟩)
  · simp only [zb_0, Nat.reduceAdd, e1] at h8
    refine ev_aload_n (q := 12) dX7_isMissing_11 rfl rfl ?_
    refine ev_getR (q := 15) (ci := 7) (f := 5) dX7_isMissing_12 rfl (by first | rfl | assumption | exact zf_kd (by assumption) | exact zw_kd (by assumption) | exact zt_kd (by assumption)) (by first | decide | exact zf_lt (by assumption) | exact zf_lt1 (by assumption) | exact zf_lt2 (by assumption) | exact zf_lt3 (by assumption) | exact zf_lt4 (by assumption) | exact zw_lt (by assumption) | exact zw_lt1 (by assumption) | exact zw_lt2 (by assumption) | exact zw_lt3 (by assumption) | exact zw_lt4 (by assumption) | exact zt_lt (by assumption)) (by decide) (by decide) lfRX7_47 rfl (by first | rfl | assumption | exact zf_p4 _ (by assumption) | exact zf_p5 _ (by assumption) | exact zf_p6 _ (by assumption) | exact zf_p7 _ (by assumption) | exact zw_p1 _ (by assumption) | exact zw_p2 _ (by assumption) | exact zw_p3 _ (by assumption) | exact zw_p4 _ (by assumption)) ?_
    refine ev_getR (q := 18) (ci := 6) (f := 1) dX7_isMissing_15 rfl (by first | rfl | assumption | exact zf_kd (by assumption) | exact zw_kd (by assumption) | exact zt_kd (by assumption)) (by first | decide | exact zf_lt (by assumption) | exact zf_lt1 (by assumption) | exact zf_lt2 (by assumption) | exact zf_lt3 (by assumption) | exact zf_lt4 (by assumption) | exact zw_lt (by assumption) | exact zw_lt1 (by assumption) | exact zw_lt2 (by assumption) | exact zw_lt3 (by assumption) | exact zw_lt4 (by assumption) | exact zt_lt (by assumption)) (by decide) (by decide) lfRX7_133 rfl (by first | rfl | assumption | exact zf_p4 _ (by assumption) | exact zf_p5 _ (by assumption) | exact zf_p6 _ (by assumption) | exact zf_p7 _ (by assumption) | exact zw_p1 _ (by assumption) | exact zw_p2 _ (by assumption) | exact zw_p3 _ (by assumption) | exact zw_p4 _ (by assumption)) ?_
    refine ev_iload_n (q := 19) dX7_isMissing_18 rfl rfl ?_
    refine ev_ialdN (q := 20) dX7_isMissing_19 rfl (by first | rfl | assumption | exact zf_kd1 (by assumption) | exact zf_kd2 (by assumption) | exact zf_kd3 (by assumption) | exact zf_kd4 (by assumption) | exact zw_kd1 (by assumption) | exact zw_kd2 (by assumption) | exact zw_kd3 (by assumption) | exact zw_kd4 (by assumption)) (by first | decide | exact zf_lt (by assumption) | exact zf_lt1 (by assumption) | exact zf_lt2 (by assumption) | exact zf_lt3 (by assumption) | exact zf_lt4 (by assumption) | exact zw_lt (by assumption) | exact zw_lt1 (by assumption) | exact zw_lt2 (by assumption) | exact zw_lt3 (by assumption) | exact zw_lt4 (by assumption) | exact zt_lt (by assumption)) (by first | omega | assumption) ?_
    refine ev_aload_n (q := 21) dX7_isMissing_20 rfl rfl ?_
    refine ev_getR (q := 24) (ci := 7) (f := 9) dX7_isMissing_21 rfl (by first | rfl | assumption | exact zf_kd (by assumption) | exact zw_kd (by assumption) | exact zt_kd (by assumption)) (by first | decide | exact zf_lt (by assumption) | exact zf_lt1 (by assumption) | exact zf_lt2 (by assumption) | exact zf_lt3 (by assumption) | exact zf_lt4 (by assumption) | exact zw_lt (by assumption) | exact zw_lt1 (by assumption) | exact zw_lt2 (by assumption) | exact zw_lt3 (by assumption) | exact zw_lt4 (by assumption) | exact zt_lt (by assumption)) (by decide) (by decide) lfRX7_66 rfl (by first | rfl | assumption | exact zf_p4 _ (by assumption) | exact zf_p5 _ (by assumption) | exact zf_p6 _ (by assumption) | exact zf_p7 _ (by assumption) | exact zw_p1 _ (by assumption) | exact zw_p2 _ (by assumption) | exact zw_p3 _ (by assumption) | exact zw_p4 _ (by assumption)) ?_
    refine ev_getR (q := 27) (ci := 0) (f := 4) dX7_isMissing_24 rfl (by first | rfl | assumption | exact zf_kd (by assumption) | exact zw_kd (by assumption) | exact zt_kd (by assumption)) (by first | decide | exact zf_lt (by assumption) | exact zf_lt1 (by assumption) | exact zf_lt2 (by assumption) | exact zf_lt3 (by assumption) | exact zf_lt4 (by assumption) | exact zw_lt (by assumption) | exact zw_lt1 (by assumption) | exact zw_lt2 (by assumption) | exact zw_lt3 (by assumption) | exact zw_lt4 (by assumption) | exact zt_lt (by assumption)) (by decide) (by decide) lfRX7_124 rfl (by first | rfl | assumption | exact zf_p4 _ (by assumption) | exact zf_p5 _ (by assumption) | exact zf_p6 _ (by assumption) | exact zf_p7 _ (by assumption) | exact zw_p1 _ (by assumption) | exact zw_p2 _ (by assumption) | exact zw_p3 _ (by assumption) | exact zw_p4 _ (by assumption)) ?_
    refine ev_iload_n (q := 28) dX7_isMissing_27 rfl rfl ?_
    refine ev_ialdN (q := 29) dX7_isMissing_28 rfl (by first | rfl | assumption | exact zf_kd1 (by assumption) | exact zf_kd2 (by assumption) | exact zf_kd3 (by assumption) | exact zf_kd4 (by assumption) | exact zw_kd1 (by assumption) | exact zw_kd2 (by assumption) | exact zw_kd3 (by assumption) | exact zw_kd4 (by assumption)) (by first | decide | exact zf_lt (by assumption) | exact zf_lt1 (by assumption) | exact zf_lt2 (by assumption) | exact zf_lt3 (by assumption) | exact zf_lt4 (by assumption) | exact zw_lt (by assumption) | exact zw_lt1 (by assumption) | exact zw_lt2 (by assumption) | exact zw_lt3 (by assumption) | exact zw_lt4 (by assumption) | exact zt_lt (by assumption)) (by first | omega | assumption) ?_
    refine ev_icmp_eq (q := 32) (t := 36) dX7_isMissing_29 rfl (by decide) (fun h29 => ?_) (fun h29 => ?_)
    · simp only [e2, e3] at h29
      refine ev_iconst (q := 37) (0 : Int32) dX7_isMissing_36 rfl (by decide) ?_
      exact ev_iret dX7_isMissing_37 rfl (by first | rfl | exact zb_nar _ | assumption) (⟨by simp_all [zMi, zAl, zb], rfl, rfl, rfl⟩)
    · simp only [e2, e3] at h29
      refine ev_iconst (q := 33) (1 : Int32) dX7_isMissing_32 rfl (by decide) ?_
      refine ev_goto (t := 37) dX7_isMissing_33 (by decide) ?_
      exact ev_iret dX7_isMissing_37 rfl (by first | rfl | exact zb_nar _ | assumption) (⟨by simp_all [zMi, zAl, zb], rfl, rfl, rfl⟩)
end
section
theorem zA_8 : ∀ a, a < 256 → ∀ j, j < 8 → nI a &&& zsh j = if zhas (nI a) j = true then zsh j else 0 := by decide +kernel
theorem i32_and_or (a b c : Int32) : a &&& (b ||| c) = (a &&& b) ||| (a &&& c) := by
  apply Int32.toBitVec_inj.mp
  simp [Int32.toBitVec_and, Int32.toBitVec_or, BitVec.and_or_distrib_left]
theorem i32_and_0 (a : Int32) : a &&& 0 = 0 := by
  apply Int32.toBitVec_inj.mp
  simp
theorem i32_or_0 (a : Int32) : a ||| 0 = a := by
  apply Int32.toBitVec_inj.mp
  simp
theorem zor_none {f : Nat → Int32} {c : Nat → Bool} {n : Nat} (h : ∀ i, i < n → c i = false) : zor f c n = 0 := by
  induction n with
  | zero => rfl
  | succ n ih => rw [zor, if_neg (by rw [h n (by omega)]; decide), ih (fun i hi => h i (by omega))]
theorem zand_bits {a : Nat} (ha : a < 256) (c : Nat → Bool) : ∀ n, n ≤ 8 → nI a &&& zbits c n = zbits (fun j => zhas (nI a) j && c j) n := by
  intro n
  induction n with
  | zero => intro _; exact i32_and_0 _
  | succ n ih =>
    intro hn
    have h1 := ih (by omega)
    unfold zbits at h1 ⊢
    simp only [zor]
    by_cases hc : c n = true
    · by_cases hh : zhas (nI a) n = true
      · simp only [hc, hh, Bool.and_self, if_true, i32_and_or, h1, zA_8 a ha n (by omega)]
      · simp only [hc, hh, Bool.and_true, if_true, i32_and_or, h1, zA_8 a ha n (by omega), i32_or_0]
        simp
    · have hc' : c n = false := by simpa using hc
      simpa [hc'] using h1
theorem zS.askR {fo : Bool} {N T Y p : Nat} {I : zq_I} (h : zS fo N T Y I) (hp : p < N) : ∃ a, a < 256 ∧ vA (zV I) p = nI a := by
  obtain ⟨-, -, -, ⟨a, ha, -, ea⟩, -⟩ := h.2.2.2.2.2.1 p hp
  have h8 := h.n8
  have h2 : 2 ^ N ≤ 2 ^ 8 := Nat.pow_le_pow_right (by omega) h8
  exact ⟨a, by omega, ea⟩
theorem zMs_eq {fo : Bool} {N T Y i : Nat} {I : zq_I} (h : zS fo N T Y I) (hi : i < N) (y : Int32) : (if zTh (zV I) i = true then vA (zV I) i &&& zRb (zV I) N i y else 0) = zMs (zV I) N i y := by
  obtain ⟨a, ha, ea⟩ := h.askR hi
  unfold zMs
  split
  · rename_i ht
    unfold zRb
    rw [ea, zand_bits ha _ N h.n8]
    refine zor_congr (fun j hj => ?_) (fun _ _ _ => rfl)
    rw [ht]
    have : (vH (zV I) j == vH (zV I) i) = (vH (zV I) i == vH (zV I) j) := by rw [Bool.eq_iff_iff]; simp; exact eq_comm
    rw [this]
    simp [Bool.and_assoc]
  · rename_i ht
    exact (zor_none (fun j hj => by simp [ht])).symm
def zany (c : Nat → Bool) : Nat → Bool
  | 0 => false
  | n + 1 => zany c n || c n
set_option maxHeartbeats 4000000 in
set_option maxRecDepth 100000 in
theorem c_X7_aliveBits (G : zq_G) (fo : Bool) (I : zq_I) {N T Y : Nat} (hs : zS fo N T Y I)  : zq_Met G mX7_aliveBits 1 0 0 [.ref 0] 138 I (zPs fo) (zq_pu (some (.int (zbits (fun i => zAl (zV I) i) N))) 138 I (zPs fo)) := by
  refine zq_Met.of okX7_aliveBits (Nat.le_of_ble_eq_true rfl) ?_
  have hN8 := hs.n8
  have hN := hs.ppl
  have hfF := zF_is fo
  have lp4 : ∀ (k i : Nat) (b : Int32), N + 1 ≤ i + k → i ≤ N → b = zor (zsh) (fun i => zAl (zV I) i) i → zq_E G mX7_aliveBits 1 0 0 false 4 [some (.ref 0), some (.int (b)), some (.int (nI i))] [] 138 I (zPs fo) (zq_pu (some (.int (zbits (fun i => zAl (zV I) i) N))) 138 I (zPs fo)) := by
    intro k
    induction k with
    | zero => intro i b hk hi; exact absurd hk (by omega)
    | succ k ih =>
      intro i b hk hi hb
      refine ev_iload_n (q := 5) dX7_aliveBits_4 rfl rfl ?_
      refine ev_aload_n (q := 6) dX7_aliveBits_5 rfl rfl ?_
      refine ev_getR (q := 9) (ci := 7) (f := 9) dX7_aliveBits_6 rfl (by first | rfl | assumption | exact zf_kd (by assumption) | exact zw_kd (by assumption) | exact zt_kd (by assumption)) (by first | decide | exact zf_lt (by assumption) | exact zf_lt1 (by assumption) | exact zf_lt2 (by assumption) | exact zf_lt3 (by assumption) | exact zf_lt4 (by assumption) | exact zw_lt (by assumption) | exact zw_lt1 (by assumption) | exact zw_lt2 (by assumption) | exact zw_lt3 (by assumption) | exact zw_lt4 (by assumption) | exact zt_lt (by assumption)) (by decide) (by decide) lfRX7_66 rfl (by first | rfl | assumption | exact zf_p4 _ (by assumption) | exact zf_p5 _ (by assumption) | exact zf_p6 _ (by assumption) | exact zf_p7 _ (by assumption) | exact zw_p1 _ (by assumption) | exact zw_p2 _ (by assumption) | exact zw_p3 _ (by assumption) | exact zw_p4 _ (by assumption)) ?_
      refine ev_getI (q := 12) (ci := 0) (f := 2) dX7_aliveBits_9 rfl (by first | rfl | assumption | exact zf_kd (by assumption) | exact zw_kd (by assumption) | exact zt_kd (by assumption)) (by first | decide | exact zf_lt (by assumption) | exact zf_lt1 (by assumption) | exact zf_lt2 (by assumption) | exact zf_lt3 (by assumption) | exact zf_lt4 (by assumption) | exact zw_lt (by assumption) | exact zw_lt1 (by assumption) | exact zw_lt2 (by assumption) | exact zw_lt3 (by assumption) | exact zw_lt4 (by assumption) | exact zt_lt (by assumption)) (by decide) (by decide) lfRX7_93 rfl ?_
      refine ev_icmp_ge (q := 15) (t := 38) dX7_aliveBits_12 rfl (by decide) (fun h12 => ?_) (fun h12 => ?_)
      · obtain rfl : i = N := by rw [hN, nI_leI (by omega) (by omega)] at h12; omega
        refine ev_iload_n (q := 39) dX7_aliveBits_38 rfl rfl ?_
        exact ev_iret dX7_aliveBits_39 rfl (by first | rfl | exact zb_nar _ | assumption) (⟨by subst hb; rfl, rfl, rfl, rfl⟩)
      · have hlt_i : i < N := by rw [hN, nI_leI (by omega) (by omega)] at h12; omega
        refine ev_aload_n (q := 16) dX7_aliveBits_15 rfl rfl ?_
        refine ev_getR (q := 19) (ci := 7) (f := 5) dX7_aliveBits_16 rfl (by first | rfl | assumption | exact zf_kd (by assumption) | exact zw_kd (by assumption) | exact zt_kd (by assumption)) (by first | decide | exact zf_lt (by assumption) | exact zf_lt1 (by assumption) | exact zf_lt2 (by assumption) | exact zf_lt3 (by assumption) | exact zf_lt4 (by assumption) | exact zw_lt (by assumption) | exact zw_lt1 (by assumption) | exact zw_lt2 (by assumption) | exact zw_lt3 (by assumption) | exact zw_lt4 (by assumption) | exact zt_lt (by assumption)) (by decide) (by decide) lfRX7_47 rfl (by first | rfl | assumption | exact zf_p4 _ (by assumption) | exact zf_p5 _ (by assumption) | exact zf_p6 _ (by assumption) | exact zf_p7 _ (by assumption) | exact zw_p1 _ (by assumption) | exact zw_p2 _ (by assumption) | exact zw_p3 _ (by assumption) | exact zw_p4 _ (by assumption)) ?_
        refine ev_iload_n (q := 20) dX7_aliveBits_19 rfl rfl ?_
        refine ev_pV (q := 23) (ci := 6) dX7_aliveBits_20 rfl okX6_isAlive lmRX7_167 imX6_isAlive seX6_isAlive (by first | rfl | assumption | exact zf_kd (by assumption) | exact zw_kd (by assumption) | exact zt_kd (by assumption)) (by first | decide | exact zf_lt (by assumption) | exact zf_lt1 (by assumption) | exact zf_lt2 (by assumption) | exact zf_lt3 (by assumption) | exact zf_lt4 (by assumption) | exact zw_lt (by assumption) | exact zw_lt1 (by assumption) | exact zw_lt2 (by assumption) | exact zw_lt3 (by assumption) | exact zw_lt4 (by assumption) | exact zt_lt (by assumption)) (by decide) rfl (c_X6_isAlive G fo I zW_now (by omega)) (by decide) rfl rfl (Nat.le_of_ble_eq_true rfl) ?_
        refine ev_if_eq (q := 26) (t := 32) dX7_aliveBits_23 rfl (by decide) (fun h23 => ?_) (fun h23 => ?_)
        · simp only [zb_0, Nat.reduceAdd] at h23
          refine ev_iinc (q := 35) (1 : Int32) dX7_aliveBits_32 rfl rfl (by decide) (by decide) ?_
          refine ev_goto (t := 4) dX7_aliveBits_35 (by decide) ?_
          rw [nI_1]
          exact ih (i + 1) _ (by omega) (by omega) (by first | exact zor_s hb (by simp [zAl, ← hs.die hlt_i, h12, h23]) | exact zor_n hb (by simp [zAl, ← hs.die hlt_i, h12, h23]))
        · simp only [zb_0, Nat.reduceAdd] at h23
          refine ev_iload_n (q := 27) dX7_aliveBits_26 rfl rfl ?_
          refine ev_iconst (q := 28) (1 : Int32) dX7_aliveBits_27 rfl (by decide) ?_
          refine ev_iload_n (q := 29) dX7_aliveBits_28 rfl rfl ?_
          refine ev_ishl (q := 30) dX7_aliveBits_29 rfl ?_
          refine ev_ior (q := 31) dX7_aliveBits_30 rfl ?_
          refine ev_istore_n (q := 32) dX7_aliveBits_31 rfl (by decide) ?_
          refine ev_iinc (q := 35) (1 : Int32) dX7_aliveBits_32 rfl rfl (by decide) (by decide) ?_
          refine ev_goto (t := 4) dX7_aliveBits_35 (by decide) ?_
          rw [nI_1]
          exact ih (i + 1) _ (by omega) (by omega) (by first | exact zor_s hb (by simp [zAl, ← hs.die hlt_i, h12, h23]) | exact zor_n hb (by simp [zAl, ← hs.die hlt_i, h12, h23]))
  refine ev_iconst (q := 1) (0 : Int32) dX7_aliveBits_0 rfl (by decide) ?_
  refine ev_istore_n (q := 2) dX7_aliveBits_1 rfl (by decide) ?_
  refine ev_iconst (q := 3) (0 : Int32) dX7_aliveBits_2 rfl (by decide) ?_
  refine ev_istore_n (q := 4) dX7_aliveBits_3 rfl (by decide) ?_
  exact lp4 (N + 1) 0 0 (by omega) (by omega) rfl
set_option maxHeartbeats 4000000 in
set_option maxRecDepth 100000 in
theorem c_X7_trulyIn (G : zq_G) (fo : Bool) (I : zq_I) {N T Y : Nat} (hs : zS fo N T Y I) (x : Int32) : zq_Met G mX7_trulyIn 1 0 0 [.ref 0, .int x] 138 I (zPs fo) (zq_pu (some (.int (zsum (fun _ => 1) (fun i => zAl (zV I) i && (vW (zV I) i == x)) N))) 138 I (zPs fo)) := by
  refine zq_Met.of okX7_trulyIn (Nat.le_of_ble_eq_true rfl) ?_
  have hN8 := hs.n8
  have hN := hs.ppl
  have hfF := zF_is fo
  have lp4 : ∀ (k i : Nat) (b : Int32), N + 1 ≤ i + k → i ≤ N → b = zsum (fun _ => 1) (fun i => zAl (zV I) i && (vW (zV I) i == x)) i → zq_E G mX7_trulyIn 1 0 0 false 4 [some (.ref 0), some (.int x), some (.int b), some (.int (nI i))] [] 138 I (zPs fo) (zq_pu (some (.int (zsum (fun _ => 1) (fun i => zAl (zV I) i && (vW (zV I) i == x)) N))) 138 I (zPs fo)) := by
    intro k
    induction k with
    | zero => intro i b hk hi; exact absurd hk (by omega)
    | succ k ih =>
      intro i b hk hi hb
      refine ev_iload_n (q := 5) dX7_trulyIn_4 rfl rfl ?_
      refine ev_aload_n (q := 6) dX7_trulyIn_5 rfl rfl ?_
      refine ev_getR (q := 9) (ci := 7) (f := 9) dX7_trulyIn_6 rfl (by first | rfl | assumption | exact zf_kd (by assumption) | exact zw_kd (by assumption) | exact zt_kd (by assumption)) (by first | decide | exact zf_lt (by assumption) | exact zf_lt1 (by assumption) | exact zf_lt2 (by assumption) | exact zf_lt3 (by assumption) | exact zf_lt4 (by assumption) | exact zw_lt (by assumption) | exact zw_lt1 (by assumption) | exact zw_lt2 (by assumption) | exact zw_lt3 (by assumption) | exact zw_lt4 (by assumption) | exact zt_lt (by assumption)) (by decide) (by decide) lfRX7_66 rfl (by first | rfl | assumption | exact zf_p4 _ (by assumption) | exact zf_p5 _ (by assumption) | exact zf_p6 _ (by assumption) | exact zf_p7 _ (by assumption) | exact zw_p1 _ (by assumption) | exact zw_p2 _ (by assumption) | exact zw_p3 _ (by assumption) | exact zw_p4 _ (by assumption)) ?_
      refine ev_getI (q := 12) (ci := 0) (f := 2) dX7_trulyIn_9 rfl (by first | rfl | assumption | exact zf_kd (by assumption) | exact zw_kd (by assumption) | exact zt_kd (by assumption)) (by first | decide | exact zf_lt (by assumption) | exact zf_lt1 (by assumption) | exact zf_lt2 (by assumption) | exact zf_lt3 (by assumption) | exact zf_lt4 (by assumption) | exact zw_lt (by assumption) | exact zw_lt1 (by assumption) | exact zw_lt2 (by assumption) | exact zw_lt3 (by assumption) | exact zw_lt4 (by assumption) | exact zt_lt (by assumption)) (by decide) (by decide) lfRX7_93 rfl ?_
      refine ev_icmp_ge (q := 15) (t := 48) dX7_trulyIn_12 rfl (by decide) (fun h12 => ?_) (fun h12 => ?_)
      · obtain rfl : i = N := by rw [hN, nI_leI (by omega) (by omega)] at h12; omega
        refine ev_iload_n (q := 49) dX7_trulyIn_48 rfl rfl ?_
        exact ev_iret dX7_trulyIn_49 rfl (by first | rfl | exact zb_nar _ | assumption) (⟨by subst hb; rfl, rfl, rfl, rfl⟩)
      · have hlt_i : i < N := by rw [hN, nI_leI (by omega) (by omega)] at h12; omega
        refine ev_aload_n (q := 16) dX7_trulyIn_15 rfl rfl ?_
        refine ev_getR (q := 19) (ci := 7) (f := 5) dX7_trulyIn_16 rfl (by first | rfl | assumption | exact zf_kd (by assumption) | exact zw_kd (by assumption) | exact zt_kd (by assumption)) (by first | decide | exact zf_lt (by assumption) | exact zf_lt1 (by assumption) | exact zf_lt2 (by assumption) | exact zf_lt3 (by assumption) | exact zf_lt4 (by assumption) | exact zw_lt (by assumption) | exact zw_lt1 (by assumption) | exact zw_lt2 (by assumption) | exact zw_lt3 (by assumption) | exact zw_lt4 (by assumption) | exact zt_lt (by assumption)) (by decide) (by decide) lfRX7_47 rfl (by first | rfl | assumption | exact zf_p4 _ (by assumption) | exact zf_p5 _ (by assumption) | exact zf_p6 _ (by assumption) | exact zf_p7 _ (by assumption) | exact zw_p1 _ (by assumption) | exact zw_p2 _ (by assumption) | exact zw_p3 _ (by assumption) | exact zw_p4 _ (by assumption)) ?_
        refine ev_iload_n (q := 20) dX7_trulyIn_19 rfl rfl ?_
        refine ev_pV (q := 23) (ci := 6) dX7_trulyIn_20 rfl okX6_isAlive lmRX7_167 imX6_isAlive seX6_isAlive (by first | rfl | assumption | exact zf_kd (by assumption) | exact zw_kd (by assumption) | exact zt_kd (by assumption)) (by first | decide | exact zf_lt (by assumption) | exact zf_lt1 (by assumption) | exact zf_lt2 (by assumption) | exact zf_lt3 (by assumption) | exact zf_lt4 (by assumption) | exact zw_lt (by assumption) | exact zw_lt1 (by assumption) | exact zw_lt2 (by assumption) | exact zw_lt3 (by assumption) | exact zw_lt4 (by assumption) | exact zt_lt (by assumption)) (by decide) rfl (c_X6_isAlive G fo I zW_now (by omega)) (by decide) rfl rfl (Nat.le_of_ble_eq_true rfl) ?_
        refine ev_if_eq (q := 26) (t := 42) dX7_trulyIn_23 rfl (by decide) (fun h23 => ?_) (fun h23 => ?_)
        · simp only [zb_0, Nat.reduceAdd] at h23
          refine ev_iinc (q := 45) (1 : Int32) dX7_trulyIn_42 rfl rfl (by decide) (by decide) ?_
          refine ev_goto (t := 4) dX7_trulyIn_45 (by decide) ?_
          rw [nI_1]
          exact ih (i + 1) _ (by omega) (by omega) (by first | exact zsum_s (f := fun _ => 1) hb (by simp [zAl, ← hs.die hlt_i, ← hs.whe hlt_i, h12, h23]) | exact zsum_n hb (by simp [zAl, ← hs.die hlt_i, ← hs.whe hlt_i, h12, h23]))
        · simp only [zb_0, Nat.reduceAdd] at h23
          refine ev_aload_n (q := 27) dX7_trulyIn_26 rfl rfl ?_
          refine ev_getR (q := 30) (ci := 7) (f := 5) dX7_trulyIn_27 rfl (by first | rfl | assumption | exact zf_kd (by assumption) | exact zw_kd (by assumption) | exact zt_kd (by assumption)) (by first | decide | exact zf_lt (by assumption) | exact zf_lt1 (by assumption) | exact zf_lt2 (by assumption) | exact zf_lt3 (by assumption) | exact zf_lt4 (by assumption) | exact zw_lt (by assumption) | exact zw_lt1 (by assumption) | exact zw_lt2 (by assumption) | exact zw_lt3 (by assumption) | exact zw_lt4 (by assumption) | exact zt_lt (by assumption)) (by decide) (by decide) lfRX7_47 rfl (by first | rfl | assumption | exact zf_p4 _ (by assumption) | exact zf_p5 _ (by assumption) | exact zf_p6 _ (by assumption) | exact zf_p7 _ (by assumption) | exact zw_p1 _ (by assumption) | exact zw_p2 _ (by assumption) | exact zw_p3 _ (by assumption) | exact zw_p4 _ (by assumption)) ?_
          refine ev_getR (q := 33) (ci := 6) (f := 1) dX7_trulyIn_30 rfl (by first | rfl | assumption | exact zf_kd (by assumption) | exact zw_kd (by assumption) | exact zt_kd (by assumption)) (by first | decide | exact zf_lt (by assumption) | exact zf_lt1 (by assumption) | exact zf_lt2 (by assumption) | exact zf_lt3 (by assumption) | exact zf_lt4 (by assumption) | exact zw_lt (by assumption) | exact zw_lt1 (by assumption) | exact zw_lt2 (by assumption) | exact zw_lt3 (by assumption) | exact zw_lt4 (by assumption) | exact zt_lt (by assumption)) (by decide) (by decide) lfRX7_133 rfl (by first | rfl | assumption | exact zf_p4 _ (by assumption) | exact zf_p5 _ (by assumption) | exact zf_p6 _ (by assumption) | exact zf_p7 _ (by assumption) | exact zw_p1 _ (by assumption) | exact zw_p2 _ (by assumption) | exact zw_p3 _ (by assumption) | exact zw_p4 _ (by assumption)) ?_
          refine ev_iload_n (q := 34) dX7_trulyIn_33 rfl rfl ?_
          refine ev_ialdN (q := 35) dX7_trulyIn_34 rfl (by first | rfl | assumption | exact zf_kd1 (by assumption) | exact zf_kd2 (by assumption) | exact zf_kd3 (by assumption) | exact zf_kd4 (by assumption) | exact zw_kd1 (by assumption) | exact zw_kd2 (by assumption) | exact zw_kd3 (by assumption) | exact zw_kd4 (by assumption)) (by first | decide | exact zf_lt (by assumption) | exact zf_lt1 (by assumption) | exact zf_lt2 (by assumption) | exact zf_lt3 (by assumption) | exact zf_lt4 (by assumption) | exact zw_lt (by assumption) | exact zw_lt1 (by assumption) | exact zw_lt2 (by assumption) | exact zw_lt3 (by assumption) | exact zw_lt4 (by assumption) | exact zt_lt (by assumption)) (by first | omega | assumption) ?_
          refine ev_iload_n (q := 36) dX7_trulyIn_35 rfl rfl ?_
          refine ev_icmp_ne (q := 39) (t := 42) dX7_trulyIn_36 rfl (by decide) (fun h36 => ?_) (fun h36 => ?_)
          · refine ev_iinc (q := 45) (1 : Int32) dX7_trulyIn_42 rfl rfl (by decide) (by decide) ?_
            refine ev_goto (t := 4) dX7_trulyIn_45 (by decide) ?_
            rw [nI_1]
            exact ih (i + 1) _ (by omega) (by omega) (by first | exact zsum_s (f := fun _ => 1) hb (by simp [zAl, ← hs.die hlt_i, ← hs.whe hlt_i, h12, h23, h36]) | exact zsum_n hb (by simp [zAl, ← hs.die hlt_i, ← hs.whe hlt_i, h12, h23, h36]))
          · refine ev_iinc (q := 42) (1 : Int32) dX7_trulyIn_39 rfl rfl (by decide) (by decide) ?_
            refine ev_iinc (q := 45) (1 : Int32) dX7_trulyIn_42 rfl rfl (by decide) (by decide) ?_
            refine ev_goto (t := 4) dX7_trulyIn_45 (by decide) ?_
            rw [nI_1]
            exact ih (i + 1) _ (by omega) (by omega) (by first | exact zsum_s (f := fun _ => 1) hb (by simp [zAl, ← hs.die hlt_i, ← hs.whe hlt_i, h12, h23, h36]) | exact zsum_n hb (by simp [zAl, ← hs.die hlt_i, ← hs.whe hlt_i, h12, h23, h36]))
  refine ev_iconst (q := 1) (0 : Int32) dX7_trulyIn_0 rfl (by decide) ?_
  refine ev_istore_n (q := 2) dX7_trulyIn_1 rfl (by decide) ?_
  refine ev_iconst (q := 3) (0 : Int32) dX7_trulyIn_2 rfl (by decide) ?_
  refine ev_istore_n (q := 4) dX7_trulyIn_3 rfl (by decide) ?_
  exact lp4 (N + 1) 0 0 (by omega) (by omega) rfl
set_option maxHeartbeats 4000000 in
set_option maxRecDepth 100000 in
theorem c_X7_atHomeIn (G : zq_G) (fo : Bool) (I : zq_I) {N T Y : Nat} (hs : zS fo N T Y I) (x : Int32) : zq_Met G mX7_atHomeIn 2 0 0 [.ref 0, .int x] 138 I (zPs fo) (zq_pu (some (.int (zbits (fun i => (vH (zV I) i == x) && zTh (zV I) i) N))) 138 I (zPs fo)) := by
  refine zq_Met.of okX7_atHomeIn (Nat.le_of_ble_eq_true rfl) ?_
  have hN8 := hs.n8
  have hN := hs.ppl
  have hfF := zF_is fo
  have lp4 : ∀ (k i : Nat) (b : Int32), N + 1 ≤ i + k → i ≤ N → b = zor (zsh) (fun i => (vH (zV I) i == x) && zTh (zV I) i) i → zq_E G mX7_atHomeIn 2 0 0 false 4 [some (.ref 0), some (.int x), some (.int b), some (.int (nI i))] [] 138 I (zPs fo) (zq_pu (some (.int (zbits (fun i => (vH (zV I) i == x) && zTh (zV I) i) N))) 138 I (zPs fo)) := by
    intro k
    induction k with
    | zero => intro i b hk hi; exact absurd hk (by omega)
    | succ k ih =>
      intro i b hk hi hb
      refine ev_iload_n (q := 5) dX7_atHomeIn_4 rfl rfl ?_
      refine ev_aload_n (q := 6) dX7_atHomeIn_5 rfl rfl ?_
      refine ev_getR (q := 9) (ci := 7) (f := 9) dX7_atHomeIn_6 rfl (by first | rfl | assumption | exact zf_kd (by assumption) | exact zw_kd (by assumption) | exact zt_kd (by assumption)) (by first | decide | exact zf_lt (by assumption) | exact zf_lt1 (by assumption) | exact zf_lt2 (by assumption) | exact zf_lt3 (by assumption) | exact zf_lt4 (by assumption) | exact zw_lt (by assumption) | exact zw_lt1 (by assumption) | exact zw_lt2 (by assumption) | exact zw_lt3 (by assumption) | exact zw_lt4 (by assumption) | exact zt_lt (by assumption)) (by decide) (by decide) lfRX7_66 rfl (by first | rfl | assumption | exact zf_p4 _ (by assumption) | exact zf_p5 _ (by assumption) | exact zf_p6 _ (by assumption) | exact zf_p7 _ (by assumption) | exact zw_p1 _ (by assumption) | exact zw_p2 _ (by assumption) | exact zw_p3 _ (by assumption) | exact zw_p4 _ (by assumption)) ?_
      refine ev_getI (q := 12) (ci := 0) (f := 2) dX7_atHomeIn_9 rfl (by first | rfl | assumption | exact zf_kd (by assumption) | exact zw_kd (by assumption) | exact zt_kd (by assumption)) (by first | decide | exact zf_lt (by assumption) | exact zf_lt1 (by assumption) | exact zf_lt2 (by assumption) | exact zf_lt3 (by assumption) | exact zf_lt4 (by assumption) | exact zw_lt (by assumption) | exact zw_lt1 (by assumption) | exact zw_lt2 (by assumption) | exact zw_lt3 (by assumption) | exact zw_lt4 (by assumption) | exact zt_lt (by assumption)) (by decide) (by decide) lfRX7_93 rfl ?_
      refine ev_icmp_ge (q := 15) (t := 48) dX7_atHomeIn_12 rfl (by decide) (fun h12 => ?_) (fun h12 => ?_)
      · obtain rfl : i = N := by rw [hN, nI_leI (by omega) (by omega)] at h12; omega
        refine ev_iload_n (q := 49) dX7_atHomeIn_48 rfl rfl ?_
        exact ev_iret dX7_atHomeIn_49 rfl (by first | rfl | exact zb_nar _ | assumption) (⟨by subst hb; rfl, rfl, rfl, rfl⟩)
      · have hlt_i : i < N := by rw [hN, nI_leI (by omega) (by omega)] at h12; omega
        refine ev_aload_n (q := 16) dX7_atHomeIn_15 rfl rfl ?_
        refine ev_getR (q := 19) (ci := 7) (f := 9) dX7_atHomeIn_16 rfl (by first | rfl | assumption | exact zf_kd (by assumption) | exact zw_kd (by assumption) | exact zt_kd (by assumption)) (by first | decide | exact zf_lt (by assumption) | exact zf_lt1 (by assumption) | exact zf_lt2 (by assumption) | exact zf_lt3 (by assumption) | exact zf_lt4 (by assumption) | exact zw_lt (by assumption) | exact zw_lt1 (by assumption) | exact zw_lt2 (by assumption) | exact zw_lt3 (by assumption) | exact zw_lt4 (by assumption) | exact zt_lt (by assumption)) (by decide) (by decide) lfRX7_66 rfl (by first | rfl | assumption | exact zf_p4 _ (by assumption) | exact zf_p5 _ (by assumption) | exact zf_p6 _ (by assumption) | exact zf_p7 _ (by assumption) | exact zw_p1 _ (by assumption) | exact zw_p2 _ (by assumption) | exact zw_p3 _ (by assumption) | exact zw_p4 _ (by assumption)) ?_
        refine ev_getR (q := 22) (ci := 0) (f := 4) dX7_atHomeIn_19 rfl (by first | rfl | assumption | exact zf_kd (by assumption) | exact zw_kd (by assumption) | exact zt_kd (by assumption)) (by first | decide | exact zf_lt (by assumption) | exact zf_lt1 (by assumption) | exact zf_lt2 (by assumption) | exact zf_lt3 (by assumption) | exact zf_lt4 (by assumption) | exact zw_lt (by assumption) | exact zw_lt1 (by assumption) | exact zw_lt2 (by assumption) | exact zw_lt3 (by assumption) | exact zw_lt4 (by assumption) | exact zt_lt (by assumption)) (by decide) (by decide) lfRX7_124 rfl (by first | rfl | assumption | exact zf_p4 _ (by assumption) | exact zf_p5 _ (by assumption) | exact zf_p6 _ (by assumption) | exact zf_p7 _ (by assumption) | exact zw_p1 _ (by assumption) | exact zw_p2 _ (by assumption) | exact zw_p3 _ (by assumption) | exact zw_p4 _ (by assumption)) ?_
        refine ev_iload_n (q := 23) dX7_atHomeIn_22 rfl rfl ?_
        refine ev_ialdN (q := 24) dX7_atHomeIn_23 rfl (by first | rfl | assumption | exact zf_kd1 (by assumption) | exact zf_kd2 (by assumption) | exact zf_kd3 (by assumption) | exact zf_kd4 (by assumption) | exact zw_kd1 (by assumption) | exact zw_kd2 (by assumption) | exact zw_kd3 (by assumption) | exact zw_kd4 (by assumption)) (by first | decide | exact zf_lt (by assumption) | exact zf_lt1 (by assumption) | exact zf_lt2 (by assumption) | exact zf_lt3 (by assumption) | exact zf_lt4 (by assumption) | exact zw_lt (by assumption) | exact zw_lt1 (by assumption) | exact zw_lt2 (by assumption) | exact zw_lt3 (by assumption) | exact zw_lt4 (by assumption) | exact zt_lt (by assumption)) (by first | omega | assumption) ?_
        refine ev_iload_n (q := 25) dX7_atHomeIn_24 rfl rfl ?_
        refine ev_icmp_ne (q := 28) (t := 42) dX7_atHomeIn_25 rfl (by decide) (fun h25 => ?_) (fun h25 => ?_)
        · refine ev_iinc (q := 45) (1 : Int32) dX7_atHomeIn_42 rfl rfl (by decide) (by decide) ?_
          refine ev_goto (t := 4) dX7_atHomeIn_45 (by decide) ?_
          rw [nI_1]
          exact ih (i + 1) _ (by omega) (by omega) (by first | exact zor_s hb (by simp [← hs.hom hlt_i, h12, h25]) | exact zor_n hb (by simp [← hs.hom hlt_i, h12, h25]))
        · refine ev_aload_n (q := 29) dX7_atHomeIn_28 rfl rfl ?_
          refine ev_iload_n (q := 30) dX7_atHomeIn_29 rfl rfl ?_
          refine ev_pV (q := 33) (ci := 7) dX7_atHomeIn_30 rfl okX7_isAtHome lmRX7_253 imX7_isAtHome seX7_isAtHome (by first | rfl | assumption | exact zf_kd (by assumption) | exact zw_kd (by assumption) | exact zt_kd (by assumption)) (by first | decide | exact zf_lt (by assumption) | exact zf_lt1 (by assumption) | exact zf_lt2 (by assumption) | exact zf_lt3 (by assumption) | exact zf_lt4 (by assumption) | exact zw_lt (by assumption) | exact zw_lt1 (by assumption) | exact zw_lt2 (by assumption) | exact zw_lt3 (by assumption) | exact zw_lt4 (by assumption) | exact zt_lt (by assumption)) (by decide) rfl (c_X7_isAtHome G fo I hs hlt_i) (by decide) rfl rfl (Nat.le_of_ble_eq_true rfl) ?_
          refine ev_if_eq (q := 36) (t := 42) dX7_atHomeIn_33 rfl (by decide) (fun h33 => ?_) (fun h33 => ?_)
          · simp only [zb_0, Nat.reduceAdd] at h33
            refine ev_iinc (q := 45) (1 : Int32) dX7_atHomeIn_42 rfl rfl (by decide) (by decide) ?_
            refine ev_goto (t := 4) dX7_atHomeIn_45 (by decide) ?_
            rw [nI_1]
            exact ih (i + 1) _ (by omega) (by omega) (by first | exact zor_s hb (by simp [← hs.hom hlt_i, h12, h25, h33]) | exact zor_n hb (by simp [← hs.hom hlt_i, h12, h25, h33]))
          · simp only [zb_0, Nat.reduceAdd] at h33
            refine ev_iload_n (q := 37) dX7_atHomeIn_36 rfl rfl ?_
            refine ev_iconst (q := 38) (1 : Int32) dX7_atHomeIn_37 rfl (by decide) ?_
            refine ev_iload_n (q := 39) dX7_atHomeIn_38 rfl rfl ?_
            refine ev_ishl (q := 40) dX7_atHomeIn_39 rfl ?_
            refine ev_ior (q := 41) dX7_atHomeIn_40 rfl ?_
            refine ev_istore_n (q := 42) dX7_atHomeIn_41 rfl (by decide) ?_
            refine ev_iinc (q := 45) (1 : Int32) dX7_atHomeIn_42 rfl rfl (by decide) (by decide) ?_
            refine ev_goto (t := 4) dX7_atHomeIn_45 (by decide) ?_
            rw [nI_1]
            exact ih (i + 1) _ (by omega) (by omega) (by first | exact zor_s hb (by simp [← hs.hom hlt_i, h12, h25, h33]) | exact zor_n hb (by simp [← hs.hom hlt_i, h12, h25, h33]))
  refine ev_iconst (q := 1) (0 : Int32) dX7_atHomeIn_0 rfl (by decide) ?_
  refine ev_istore_n (q := 2) dX7_atHomeIn_1 rfl (by decide) ?_
  refine ev_iconst (q := 3) (0 : Int32) dX7_atHomeIn_2 rfl (by decide) ?_
  refine ev_istore_n (q := 4) dX7_atHomeIn_3 rfl (by decide) ?_
  exact lp4 (N + 1) 0 0 (by omega) (by omega) rfl
set_option maxHeartbeats 4000000 in
set_option maxRecDepth 100000 in
theorem c_X7_missingOf (G : zq_G) (fo : Bool) (I : zq_I) {N T Y : Nat} (hs : zS fo N T Y I) (x : Int32) : zq_Met G mX7_missingOf 3 0 0 [.ref 0, .int x] 138 I (zPs fo) (zq_pu (some (.int (zbits (fun i => (vH (zV I) i == x) && zMi (zV I) i (I 119 15)) N))) 138 I (zPs fo)) := by
  refine zq_Met.of okX7_missingOf (Nat.le_of_ble_eq_true rfl) ?_
  have hN8 := hs.n8
  have hN := hs.ppl
  have hfF := zF_is fo
  have lp4 : ∀ (k i : Nat) (b : Int32), N + 1 ≤ i + k → i ≤ N → b = zor (zsh) (fun i => (vH (zV I) i == x) && zMi (zV I) i (I 119 15)) i → zq_E G mX7_missingOf 3 0 0 false 4 [some (.ref 0), some (.int x), some (.int b), some (.int (nI i))] [] 138 I (zPs fo) (zq_pu (some (.int (zbits (fun i => (vH (zV I) i == x) && zMi (zV I) i (I 119 15)) N))) 138 I (zPs fo)) := by
    intro k
    induction k with
    | zero => intro i b hk hi; exact absurd hk (by omega)
    | succ k ih =>
      intro i b hk hi hb
      refine ev_iload_n (q := 5) dX7_missingOf_4 rfl rfl ?_
      refine ev_aload_n (q := 6) dX7_missingOf_5 rfl rfl ?_
      refine ev_getR (q := 9) (ci := 7) (f := 9) dX7_missingOf_6 rfl (by first | rfl | assumption | exact zf_kd (by assumption) | exact zw_kd (by assumption) | exact zt_kd (by assumption)) (by first | decide | exact zf_lt (by assumption) | exact zf_lt1 (by assumption) | exact zf_lt2 (by assumption) | exact zf_lt3 (by assumption) | exact zf_lt4 (by assumption) | exact zw_lt (by assumption) | exact zw_lt1 (by assumption) | exact zw_lt2 (by assumption) | exact zw_lt3 (by assumption) | exact zw_lt4 (by assumption) | exact zt_lt (by assumption)) (by decide) (by decide) lfRX7_66 rfl (by first | rfl | assumption | exact zf_p4 _ (by assumption) | exact zf_p5 _ (by assumption) | exact zf_p6 _ (by assumption) | exact zf_p7 _ (by assumption) | exact zw_p1 _ (by assumption) | exact zw_p2 _ (by assumption) | exact zw_p3 _ (by assumption) | exact zw_p4 _ (by assumption)) ?_
      refine ev_getI (q := 12) (ci := 0) (f := 2) dX7_missingOf_9 rfl (by first | rfl | assumption | exact zf_kd (by assumption) | exact zw_kd (by assumption) | exact zt_kd (by assumption)) (by first | decide | exact zf_lt (by assumption) | exact zf_lt1 (by assumption) | exact zf_lt2 (by assumption) | exact zf_lt3 (by assumption) | exact zf_lt4 (by assumption) | exact zw_lt (by assumption) | exact zw_lt1 (by assumption) | exact zw_lt2 (by assumption) | exact zw_lt3 (by assumption) | exact zw_lt4 (by assumption) | exact zt_lt (by assumption)) (by decide) (by decide) lfRX7_93 rfl ?_
      refine ev_icmp_ge (q := 15) (t := 55) dX7_missingOf_12 rfl (by decide) (fun h12 => ?_) (fun h12 => ?_)
      · obtain rfl : i = N := by rw [hN, nI_leI (by omega) (by omega)] at h12; omega
        refine ev_iload_n (q := 56) dX7_missingOf_55 rfl rfl ?_
        exact ev_iret dX7_missingOf_56 rfl (by first | rfl | exact zb_nar _ | assumption) (⟨by subst hb; rfl, rfl, rfl, rfl⟩)
      · have hlt_i : i < N := by rw [hN, nI_leI (by omega) (by omega)] at h12; omega
        refine ev_aload_n (q := 16) dX7_missingOf_15 rfl rfl ?_
        refine ev_getR (q := 19) (ci := 7) (f := 9) dX7_missingOf_16 rfl (by first | rfl | assumption | exact zf_kd (by assumption) | exact zw_kd (by assumption) | exact zt_kd (by assumption)) (by first | decide | exact zf_lt (by assumption) | exact zf_lt1 (by assumption) | exact zf_lt2 (by assumption) | exact zf_lt3 (by assumption) | exact zf_lt4 (by assumption) | exact zw_lt (by assumption) | exact zw_lt1 (by assumption) | exact zw_lt2 (by assumption) | exact zw_lt3 (by assumption) | exact zw_lt4 (by assumption) | exact zt_lt (by assumption)) (by decide) (by decide) lfRX7_66 rfl (by first | rfl | assumption | exact zf_p4 _ (by assumption) | exact zf_p5 _ (by assumption) | exact zf_p6 _ (by assumption) | exact zf_p7 _ (by assumption) | exact zw_p1 _ (by assumption) | exact zw_p2 _ (by assumption) | exact zw_p3 _ (by assumption) | exact zw_p4 _ (by assumption)) ?_
        refine ev_getR (q := 22) (ci := 0) (f := 4) dX7_missingOf_19 rfl (by first | rfl | assumption | exact zf_kd (by assumption) | exact zw_kd (by assumption) | exact zt_kd (by assumption)) (by first | decide | exact zf_lt (by assumption) | exact zf_lt1 (by assumption) | exact zf_lt2 (by assumption) | exact zf_lt3 (by assumption) | exact zf_lt4 (by assumption) | exact zw_lt (by assumption) | exact zw_lt1 (by assumption) | exact zw_lt2 (by assumption) | exact zw_lt3 (by assumption) | exact zw_lt4 (by assumption) | exact zt_lt (by assumption)) (by decide) (by decide) lfRX7_124 rfl (by first | rfl | assumption | exact zf_p4 _ (by assumption) | exact zf_p5 _ (by assumption) | exact zf_p6 _ (by assumption) | exact zf_p7 _ (by assumption) | exact zw_p1 _ (by assumption) | exact zw_p2 _ (by assumption) | exact zw_p3 _ (by assumption) | exact zw_p4 _ (by assumption)) ?_
        refine ev_iload_n (q := 23) dX7_missingOf_22 rfl rfl ?_
        refine ev_ialdN (q := 24) dX7_missingOf_23 rfl (by first | rfl | assumption | exact zf_kd1 (by assumption) | exact zf_kd2 (by assumption) | exact zf_kd3 (by assumption) | exact zf_kd4 (by assumption) | exact zw_kd1 (by assumption) | exact zw_kd2 (by assumption) | exact zw_kd3 (by assumption) | exact zw_kd4 (by assumption)) (by first | decide | exact zf_lt (by assumption) | exact zf_lt1 (by assumption) | exact zf_lt2 (by assumption) | exact zf_lt3 (by assumption) | exact zf_lt4 (by assumption) | exact zw_lt (by assumption) | exact zw_lt1 (by assumption) | exact zw_lt2 (by assumption) | exact zw_lt3 (by assumption) | exact zw_lt4 (by assumption) | exact zt_lt (by assumption)) (by first | omega | assumption) ?_
        refine ev_iload_n (q := 25) dX7_missingOf_24 rfl rfl ?_
        refine ev_icmp_ne (q := 28) (t := 49) dX7_missingOf_25 rfl (by decide) (fun h25 => ?_) (fun h25 => ?_)
        · refine ev_iinc (q := 52) (1 : Int32) dX7_missingOf_49 rfl rfl (by decide) (by decide) ?_
          refine ev_goto (t := 4) dX7_missingOf_52 (by decide) ?_
          rw [nI_1]
          exact ih (i + 1) _ (by omega) (by omega) (by first | exact zor_s hb (by simp [← hs.hom hlt_i, h12, h25]) | exact zor_n hb (by simp [← hs.hom hlt_i, h12, h25]))
        · refine ev_aload_n (q := 29) dX7_missingOf_28 rfl rfl ?_
          refine ev_iload_n (q := 30) dX7_missingOf_29 rfl rfl ?_
          refine ev_aload_n (q := 31) dX7_missingOf_30 rfl rfl ?_
          refine ev_getR (q := 34) (ci := 7) (f := 5) dX7_missingOf_31 rfl (by first | rfl | assumption | exact zf_kd (by assumption) | exact zw_kd (by assumption) | exact zt_kd (by assumption)) (by first | decide | exact zf_lt (by assumption) | exact zf_lt1 (by assumption) | exact zf_lt2 (by assumption) | exact zf_lt3 (by assumption) | exact zf_lt4 (by assumption) | exact zw_lt (by assumption) | exact zw_lt1 (by assumption) | exact zw_lt2 (by assumption) | exact zw_lt3 (by assumption) | exact zw_lt4 (by assumption) | exact zt_lt (by assumption)) (by decide) (by decide) lfRX7_47 rfl (by first | rfl | assumption | exact zf_p4 _ (by assumption) | exact zf_p5 _ (by assumption) | exact zf_p6 _ (by assumption) | exact zf_p7 _ (by assumption) | exact zw_p1 _ (by assumption) | exact zw_p2 _ (by assumption) | exact zw_p3 _ (by assumption) | exact zw_p4 _ (by assumption)) ?_
          refine ev_getI (q := 37) (ci := 6) (f := 0) dX7_missingOf_34 rfl (by first | rfl | assumption | exact zf_kd (by assumption) | exact zw_kd (by assumption) | exact zt_kd (by assumption)) (by first | decide | exact zf_lt (by assumption) | exact zf_lt1 (by assumption) | exact zf_lt2 (by assumption) | exact zf_lt3 (by assumption) | exact zf_lt4 (by assumption) | exact zw_lt (by assumption) | exact zw_lt1 (by assumption) | exact zw_lt2 (by assumption) | exact zw_lt3 (by assumption) | exact zw_lt4 (by assumption) | exact zt_lt (by assumption)) (by decide) (by decide) lfRX7_103 rfl ?_
          rw [hs.yea]
          refine ev_pV (q := 40) (ci := 7) dX7_missingOf_37 rfl okX7_isMissing lmRX7_256 imX7_isMissing seX7_isMissing (by first | rfl | assumption | exact zf_kd (by assumption) | exact zw_kd (by assumption) | exact zt_kd (by assumption)) (by first | decide | exact zf_lt (by assumption) | exact zf_lt1 (by assumption) | exact zf_lt2 (by assumption) | exact zf_lt3 (by assumption) | exact zf_lt4 (by assumption) | exact zw_lt (by assumption) | exact zw_lt1 (by assumption) | exact zw_lt2 (by assumption) | exact zw_lt3 (by assumption) | exact zw_lt4 (by assumption) | exact zt_lt (by assumption)) (by decide) rfl (c_X7_isMissing G fo I hs hlt_i _) (by decide) rfl rfl (Nat.le_of_ble_eq_true rfl) ?_
          refine ev_if_eq (q := 43) (t := 49) dX7_missingOf_40 rfl (by decide) (fun h40 => ?_) (fun h40 => ?_)
          · simp only [zb_0, Nat.reduceAdd] at h40
            refine ev_iinc (q := 52) (1 : Int32) dX7_missingOf_49 rfl rfl (by decide) (by decide) ?_
            refine ev_goto (t := 4) dX7_missingOf_52 (by decide) ?_
            rw [nI_1]
            exact ih (i + 1) _ (by omega) (by omega) (by first | exact zor_s hb (by simp [← hs.hom hlt_i, h12, h25, h40]) | exact zor_n hb (by simp [← hs.hom hlt_i, h12, h25, h40]))
          · simp only [zb_0, Nat.reduceAdd] at h40
            refine ev_iload_n (q := 44) dX7_missingOf_43 rfl rfl ?_
            refine ev_iconst (q := 45) (1 : Int32) dX7_missingOf_44 rfl (by decide) ?_
            refine ev_iload_n (q := 46) dX7_missingOf_45 rfl rfl ?_
            refine ev_ishl (q := 47) dX7_missingOf_46 rfl ?_
            refine ev_ior (q := 48) dX7_missingOf_47 rfl ?_
            refine ev_istore_n (q := 49) dX7_missingOf_48 rfl (by decide) ?_
            refine ev_iinc (q := 52) (1 : Int32) dX7_missingOf_49 rfl rfl (by decide) (by decide) ?_
            refine ev_goto (t := 4) dX7_missingOf_52 (by decide) ?_
            rw [nI_1]
            exact ih (i + 1) _ (by omega) (by omega) (by first | exact zor_s hb (by simp [← hs.hom hlt_i, h12, h25, h40]) | exact zor_n hb (by simp [← hs.hom hlt_i, h12, h25, h40]))
  refine ev_iconst (q := 1) (0 : Int32) dX7_missingOf_0 rfl (by decide) ?_
  refine ev_istore_n (q := 2) dX7_missingOf_1 rfl (by decide) ?_
  refine ev_iconst (q := 3) (0 : Int32) dX7_missingOf_2 rfl (by decide) ?_
  refine ev_istore_n (q := 4) dX7_missingOf_3 rfl (by decide) ?_
  exact lp4 (N + 1) 0 0 (by omega) (by omega) rfl
set_option maxHeartbeats 4000000 in
set_option maxRecDepth 100000 in
theorem c_X7_rememberedBy (G : zq_G) (fo : Bool) (I : zq_I) {N T Y : Nat} (hs : zS fo N T Y I) {p : Nat} (hp : p < N) (y : Int32) : zq_Met G mX7_rememberedBy 3 0 0 [.ref 0, .int (nI p), .int y] 138 I (zPs fo) (zq_pu (some (.int (zRb (zV I) N p y))) 138 I (zPs fo)) := by
  refine zq_Met.of okX7_rememberedBy (Nat.le_of_ble_eq_true rfl) ?_
  have hN8 := hs.n8
  have hN := hs.ppl
  have hfF := zF_is fo
  have lp5 : ∀ (k i : Nat) (b : Int32), N + 1 ≤ i + k → i ≤ N → b = zor (zsh) (fun j => (vH (zV I) j == vH (zV I) p) && zMi (zV I) j y && zRe (zV I) p j y) i → zq_E G mX7_rememberedBy 3 0 0 false 5 [some (.ref 0), some (.int (nI p)), some (.int y), some (.int b), some (.int (nI i))] [] 138 I (zPs fo) (zq_pu (some (.int (zRb (zV I) N p y))) 138 I (zPs fo)) := by
    intro k
    induction k with
    | zero => intro i b hk hi; exact absurd hk (by omega)
    | succ k ih =>
      intro i b hk hi hb
      refine ev_iload (q := 7) dX7_rememberedBy_5 rfl rfl ?_
      refine ev_aload_n (q := 8) dX7_rememberedBy_7 rfl rfl ?_
      refine ev_getR (q := 11) (ci := 7) (f := 9) dX7_rememberedBy_8 rfl (by first | rfl | assumption | exact zf_kd (by assumption) | exact zw_kd (by assumption) | exact zt_kd (by assumption)) (by first | decide | exact zf_lt (by assumption) | exact zf_lt1 (by assumption) | exact zf_lt2 (by assumption) | exact zf_lt3 (by assumption) | exact zf_lt4 (by assumption) | exact zw_lt (by assumption) | exact zw_lt1 (by assumption) | exact zw_lt2 (by assumption) | exact zw_lt3 (by assumption) | exact zw_lt4 (by assumption) | exact zt_lt (by assumption)) (by decide) (by decide) lfRX7_66 rfl (by first | rfl | assumption | exact zf_p4 _ (by assumption) | exact zf_p5 _ (by assumption) | exact zf_p6 _ (by assumption) | exact zf_p7 _ (by assumption) | exact zw_p1 _ (by assumption) | exact zw_p2 _ (by assumption) | exact zw_p3 _ (by assumption) | exact zw_p4 _ (by assumption)) ?_
      refine ev_getI (q := 14) (ci := 0) (f := 2) dX7_rememberedBy_11 rfl (by first | rfl | assumption | exact zf_kd (by assumption) | exact zw_kd (by assumption) | exact zt_kd (by assumption)) (by first | decide | exact zf_lt (by assumption) | exact zf_lt1 (by assumption) | exact zf_lt2 (by assumption) | exact zf_lt3 (by assumption) | exact zf_lt4 (by assumption) | exact zw_lt (by assumption) | exact zw_lt1 (by assumption) | exact zw_lt2 (by assumption) | exact zw_lt3 (by assumption) | exact zw_lt4 (by assumption) | exact zt_lt (by assumption)) (by decide) (by decide) lfRX7_93 rfl ?_
      refine ev_icmp_ge (q := 17) (t := 86) dX7_rememberedBy_14 rfl (by decide) (fun h14 => ?_) (fun h14 => ?_)
      · obtain rfl : i = N := by rw [hN, nI_leI (by omega) (by omega)] at h14; omega
        refine ev_iload_n (q := 87) dX7_rememberedBy_86 rfl rfl ?_
        exact ev_iret dX7_rememberedBy_87 rfl (by first | rfl | exact zb_nar _ | assumption) (⟨by subst hb; rfl, rfl, rfl, rfl⟩)
      · have hlt_i : i < N := by rw [hN, nI_leI (by omega) (by omega)] at h14; omega
        refine ev_aload_n (q := 18) dX7_rememberedBy_17 rfl rfl ?_
        refine ev_getR (q := 21) (ci := 7) (f := 9) dX7_rememberedBy_18 rfl (by first | rfl | assumption | exact zf_kd (by assumption) | exact zw_kd (by assumption) | exact zt_kd (by assumption)) (by first | decide | exact zf_lt (by assumption) | exact zf_lt1 (by assumption) | exact zf_lt2 (by assumption) | exact zf_lt3 (by assumption) | exact zf_lt4 (by assumption) | exact zw_lt (by assumption) | exact zw_lt1 (by assumption) | exact zw_lt2 (by assumption) | exact zw_lt3 (by assumption) | exact zw_lt4 (by assumption) | exact zt_lt (by assumption)) (by decide) (by decide) lfRX7_66 rfl (by first | rfl | assumption | exact zf_p4 _ (by assumption) | exact zf_p5 _ (by assumption) | exact zf_p6 _ (by assumption) | exact zf_p7 _ (by assumption) | exact zw_p1 _ (by assumption) | exact zw_p2 _ (by assumption) | exact zw_p3 _ (by assumption) | exact zw_p4 _ (by assumption)) ?_
        refine ev_getR (q := 24) (ci := 0) (f := 4) dX7_rememberedBy_21 rfl (by first | rfl | assumption | exact zf_kd (by assumption) | exact zw_kd (by assumption) | exact zt_kd (by assumption)) (by first | decide | exact zf_lt (by assumption) | exact zf_lt1 (by assumption) | exact zf_lt2 (by assumption) | exact zf_lt3 (by assumption) | exact zf_lt4 (by assumption) | exact zw_lt (by assumption) | exact zw_lt1 (by assumption) | exact zw_lt2 (by assumption) | exact zw_lt3 (by assumption) | exact zw_lt4 (by assumption) | exact zt_lt (by assumption)) (by decide) (by decide) lfRX7_124 rfl (by first | rfl | assumption | exact zf_p4 _ (by assumption) | exact zf_p5 _ (by assumption) | exact zf_p6 _ (by assumption) | exact zf_p7 _ (by assumption) | exact zw_p1 _ (by assumption) | exact zw_p2 _ (by assumption) | exact zw_p3 _ (by assumption) | exact zw_p4 _ (by assumption)) ?_
        refine ev_iload (q := 26) dX7_rememberedBy_24 rfl rfl ?_
        refine ev_ialdN (q := 27) dX7_rememberedBy_26 rfl (by first | rfl | assumption | exact zf_kd1 (by assumption) | exact zf_kd2 (by assumption) | exact zf_kd3 (by assumption) | exact zf_kd4 (by assumption) | exact zw_kd1 (by assumption) | exact zw_kd2 (by assumption) | exact zw_kd3 (by assumption) | exact zw_kd4 (by assumption)) (by first | decide | exact zf_lt (by assumption) | exact zf_lt1 (by assumption) | exact zf_lt2 (by assumption) | exact zf_lt3 (by assumption) | exact zf_lt4 (by assumption) | exact zw_lt (by assumption) | exact zw_lt1 (by assumption) | exact zw_lt2 (by assumption) | exact zw_lt3 (by assumption) | exact zw_lt4 (by assumption) | exact zt_lt (by assumption)) (by first | omega | assumption) ?_
        refine ev_aload_n (q := 28) dX7_rememberedBy_27 rfl rfl ?_
        refine ev_getR (q := 31) (ci := 7) (f := 9) dX7_rememberedBy_28 rfl (by first | rfl | assumption | exact zf_kd (by assumption) | exact zw_kd (by assumption) | exact zt_kd (by assumption)) (by first | decide | exact zf_lt (by assumption) | exact zf_lt1 (by assumption) | exact zf_lt2 (by assumption) | exact zf_lt3 (by assumption) | exact zf_lt4 (by assumption) | exact zw_lt (by assumption) | exact zw_lt1 (by assumption) | exact zw_lt2 (by assumption) | exact zw_lt3 (by assumption) | exact zw_lt4 (by assumption) | exact zt_lt (by assumption)) (by decide) (by decide) lfRX7_66 rfl (by first | rfl | assumption | exact zf_p4 _ (by assumption) | exact zf_p5 _ (by assumption) | exact zf_p6 _ (by assumption) | exact zf_p7 _ (by assumption) | exact zw_p1 _ (by assumption) | exact zw_p2 _ (by assumption) | exact zw_p3 _ (by assumption) | exact zw_p4 _ (by assumption)) ?_
        refine ev_getR (q := 34) (ci := 0) (f := 4) dX7_rememberedBy_31 rfl (by first | rfl | assumption | exact zf_kd (by assumption) | exact zw_kd (by assumption) | exact zt_kd (by assumption)) (by first | decide | exact zf_lt (by assumption) | exact zf_lt1 (by assumption) | exact zf_lt2 (by assumption) | exact zf_lt3 (by assumption) | exact zf_lt4 (by assumption) | exact zw_lt (by assumption) | exact zw_lt1 (by assumption) | exact zw_lt2 (by assumption) | exact zw_lt3 (by assumption) | exact zw_lt4 (by assumption) | exact zt_lt (by assumption)) (by decide) (by decide) lfRX7_124 rfl (by first | rfl | assumption | exact zf_p4 _ (by assumption) | exact zf_p5 _ (by assumption) | exact zf_p6 _ (by assumption) | exact zf_p7 _ (by assumption) | exact zw_p1 _ (by assumption) | exact zw_p2 _ (by assumption) | exact zw_p3 _ (by assumption) | exact zw_p4 _ (by assumption)) ?_
        refine ev_iload_n (q := 35) dX7_rememberedBy_34 rfl rfl ?_
        refine ev_ialdN (q := 36) dX7_rememberedBy_35 rfl (by first | rfl | assumption | exact zf_kd1 (by assumption) | exact zf_kd2 (by assumption) | exact zf_kd3 (by assumption) | exact zf_kd4 (by assumption) | exact zw_kd1 (by assumption) | exact zw_kd2 (by assumption) | exact zw_kd3 (by assumption) | exact zw_kd4 (by assumption)) (by first | decide | exact zf_lt (by assumption) | exact zf_lt1 (by assumption) | exact zf_lt2 (by assumption) | exact zf_lt3 (by assumption) | exact zf_lt4 (by assumption) | exact zw_lt (by assumption) | exact zw_lt1 (by assumption) | exact zw_lt2 (by assumption) | exact zw_lt3 (by assumption) | exact zw_lt4 (by assumption) | exact zt_lt (by assumption)) (by first | omega | assumption) ?_
        refine ev_icmp_ne (q := 39) (t := 80) dX7_rememberedBy_36 rfl (by decide) (fun h36 => ?_) (fun h36 => ?_)
        · simp only [hs.hom hlt_i, hs.hom hp] at h36
          refine ev_iinc (q := 83) (1 : Int32) dX7_rememberedBy_80 rfl rfl (by decide) (by decide) ?_
          refine ev_goto (t := 5) dX7_rememberedBy_83 (by decide) ?_
          rw [nI_1]
          exact ih (i + 1) _ (by omega) (by omega) (by first | exact zor_s hb (by simp [zRe, h14, h36]) | exact zor_n hb (by simp [zRe, h14, h36]))
        · simp only [hs.hom hlt_i, hs.hom hp] at h36
          refine ev_aload_n (q := 40) dX7_rememberedBy_39 rfl rfl ?_
          refine ev_iload (q := 42) dX7_rememberedBy_40 rfl rfl ?_
          refine ev_iload_n (q := 43) dX7_rememberedBy_42 rfl rfl ?_
          refine ev_pV (q := 46) (ci := 7) dX7_rememberedBy_43 rfl okX7_isMissing lmRX7_256 imX7_isMissing seX7_isMissing (by first | rfl | assumption | exact zf_kd (by assumption) | exact zw_kd (by assumption) | exact zt_kd (by assumption)) (by first | decide | exact zf_lt (by assumption) | exact zf_lt1 (by assumption) | exact zf_lt2 (by assumption) | exact zf_lt3 (by assumption) | exact zf_lt4 (by assumption) | exact zw_lt (by assumption) | exact zw_lt1 (by assumption) | exact zw_lt2 (by assumption) | exact zw_lt3 (by assumption) | exact zw_lt4 (by assumption) | exact zt_lt (by assumption)) (by decide) rfl (c_X7_isMissing G fo I hs hlt_i _) (by decide) rfl rfl (Nat.le_of_ble_eq_true rfl) ?_
          refine ev_if_eq (q := 49) (t := 80) dX7_rememberedBy_46 rfl (by decide) (fun h46 => ?_) (fun h46 => ?_)
          · simp only [zb_0, Nat.reduceAdd] at h46
            refine ev_iinc (q := 83) (1 : Int32) dX7_rememberedBy_80 rfl rfl (by decide) (by decide) ?_
            refine ev_goto (t := 5) dX7_rememberedBy_83 (by decide) ?_
            rw [nI_1]
            exact ih (i + 1) _ (by omega) (by omega) (by first | exact zor_s hb (by simp [zRe, h14, h36, h46]) | exact zor_n hb (by simp [zRe, h14, h36, h46]))
          · simp only [zb_0, Nat.reduceAdd] at h46
            refine ev_iload_n (q := 50) dX7_rememberedBy_49 rfl rfl ?_
            refine ev_aload_n (q := 51) dX7_rememberedBy_50 rfl rfl ?_
            refine ev_getR (q := 54) (ci := 7) (f := 5) dX7_rememberedBy_51 rfl (by first | rfl | assumption | exact zf_kd (by assumption) | exact zw_kd (by assumption) | exact zt_kd (by assumption)) (by first | decide | exact zf_lt (by assumption) | exact zf_lt1 (by assumption) | exact zf_lt2 (by assumption) | exact zf_lt3 (by assumption) | exact zf_lt4 (by assumption) | exact zw_lt (by assumption) | exact zw_lt1 (by assumption) | exact zw_lt2 (by assumption) | exact zw_lt3 (by assumption) | exact zw_lt4 (by assumption) | exact zt_lt (by assumption)) (by decide) (by decide) lfRX7_47 rfl (by first | rfl | assumption | exact zf_p4 _ (by assumption) | exact zf_p5 _ (by assumption) | exact zf_p6 _ (by assumption) | exact zf_p7 _ (by assumption) | exact zw_p1 _ (by assumption) | exact zw_p2 _ (by assumption) | exact zw_p3 _ (by assumption) | exact zw_p4 _ (by assumption)) ?_
            refine ev_getR (q := 57) (ci := 6) (f := 2) dX7_rememberedBy_54 rfl (by first | rfl | assumption | exact zf_kd (by assumption) | exact zw_kd (by assumption) | exact zt_kd (by assumption)) (by first | decide | exact zf_lt (by assumption) | exact zf_lt1 (by assumption) | exact zf_lt2 (by assumption) | exact zf_lt3 (by assumption) | exact zf_lt4 (by assumption) | exact zw_lt (by assumption) | exact zw_lt1 (by assumption) | exact zw_lt2 (by assumption) | exact zw_lt3 (by assumption) | exact zw_lt4 (by assumption) | exact zt_lt (by assumption)) (by decide) (by decide) lfRX7_136 rfl (by first | rfl | assumption | exact zf_p4 _ (by assumption) | exact zf_p5 _ (by assumption) | exact zf_p6 _ (by assumption) | exact zf_p7 _ (by assumption) | exact zw_p1 _ (by assumption) | exact zw_p2 _ (by assumption) | exact zw_p3 _ (by assumption) | exact zw_p4 _ (by assumption)) ?_
            refine ev_iload (q := 59) dX7_rememberedBy_57 rfl rfl ?_
            refine ev_ialdN (q := 60) dX7_rememberedBy_59 rfl (by first | rfl | assumption | exact zf_kd1 (by assumption) | exact zf_kd2 (by assumption) | exact zf_kd3 (by assumption) | exact zf_kd4 (by assumption) | exact zw_kd1 (by assumption) | exact zw_kd2 (by assumption) | exact zw_kd3 (by assumption) | exact zw_kd4 (by assumption)) (by first | decide | exact zf_lt (by assumption) | exact zf_lt1 (by assumption) | exact zf_lt2 (by assumption) | exact zf_lt3 (by assumption) | exact zf_lt4 (by assumption) | exact zw_lt (by assumption) | exact zw_lt1 (by assumption) | exact zw_lt2 (by assumption) | exact zw_lt3 (by assumption) | exact zw_lt4 (by assumption) | exact zt_lt (by assumption)) (by first | omega | assumption) ?_
            refine ev_isub (q := 61) dX7_rememberedBy_60 rfl ?_
            refine ev_aload_n (q := 62) dX7_rememberedBy_61 rfl rfl ?_
            refine ev_getR (q := 65) (ci := 7) (f := 9) dX7_rememberedBy_62 rfl (by first | rfl | assumption | exact zf_kd (by assumption) | exact zw_kd (by assumption) | exact zt_kd (by assumption)) (by first | decide | exact zf_lt (by assumption) | exact zf_lt1 (by assumption) | exact zf_lt2 (by assumption) | exact zf_lt3 (by assumption) | exact zf_lt4 (by assumption) | exact zw_lt (by assumption) | exact zw_lt1 (by assumption) | exact zw_lt2 (by assumption) | exact zw_lt3 (by assumption) | exact zw_lt4 (by assumption) | exact zt_lt (by assumption)) (by decide) (by decide) lfRX7_66 rfl (by first | rfl | assumption | exact zf_p4 _ (by assumption) | exact zf_p5 _ (by assumption) | exact zf_p6 _ (by assumption) | exact zf_p7 _ (by assumption) | exact zw_p1 _ (by assumption) | exact zw_p2 _ (by assumption) | exact zw_p3 _ (by assumption) | exact zw_p4 _ (by assumption)) ?_
            refine ev_getR (q := 68) (ci := 0) (f := 6) dX7_rememberedBy_65 rfl (by first | rfl | assumption | exact zf_kd (by assumption) | exact zw_kd (by assumption) | exact zt_kd (by assumption)) (by first | decide | exact zf_lt (by assumption) | exact zf_lt1 (by assumption) | exact zf_lt2 (by assumption) | exact zf_lt3 (by assumption) | exact zf_lt4 (by assumption) | exact zw_lt (by assumption) | exact zw_lt1 (by assumption) | exact zw_lt2 (by assumption) | exact zw_lt3 (by assumption) | exact zw_lt4 (by assumption) | exact zt_lt (by assumption)) (by decide) (by decide) lfRX7_130 rfl (by first | rfl | assumption | exact zf_p4 _ (by assumption) | exact zf_p5 _ (by assumption) | exact zf_p6 _ (by assumption) | exact zf_p7 _ (by assumption) | exact zw_p1 _ (by assumption) | exact zw_p2 _ (by assumption) | exact zw_p3 _ (by assumption) | exact zw_p4 _ (by assumption)) ?_
            refine ev_iload_n (q := 69) dX7_rememberedBy_68 rfl rfl ?_
            refine ev_ialdN (q := 70) dX7_rememberedBy_69 rfl (by first | rfl | assumption | exact zf_kd1 (by assumption) | exact zf_kd2 (by assumption) | exact zf_kd3 (by assumption) | exact zf_kd4 (by assumption) | exact zw_kd1 (by assumption) | exact zw_kd2 (by assumption) | exact zw_kd3 (by assumption) | exact zw_kd4 (by assumption)) (by first | decide | exact zf_lt (by assumption) | exact zf_lt1 (by assumption) | exact zf_lt2 (by assumption) | exact zf_lt3 (by assumption) | exact zf_lt4 (by assumption) | exact zw_lt (by assumption) | exact zw_lt1 (by assumption) | exact zw_lt2 (by assumption) | exact zw_lt3 (by assumption) | exact zw_lt4 (by assumption) | exact zt_lt (by assumption)) (by first | omega | assumption) ?_
            refine ev_icmp_gt (q := 73) (t := 80) dX7_rememberedBy_70 rfl (by decide) (fun h70 => ?_) (fun h70 => ?_)
            · simp only [hs.sin hlt_i, hs.kee hp, ← Int32.not_le] at h70
              refine ev_iinc (q := 83) (1 : Int32) dX7_rememberedBy_80 rfl rfl (by decide) (by decide) ?_
              refine ev_goto (t := 5) dX7_rememberedBy_83 (by decide) ?_
              rw [nI_1]
              exact ih (i + 1) _ (by omega) (by omega) (by first | exact zor_s hb (by simp [zRe, h14, h36, h46, h70]) | exact zor_n hb (by simp [zRe, h14, h36, h46, h70]))
            · simp only [hs.sin hlt_i, hs.kee hp, Int32.not_lt] at h70
              refine ev_iload_n (q := 74) dX7_rememberedBy_73 rfl rfl ?_
              refine ev_iconst (q := 75) (1 : Int32) dX7_rememberedBy_74 rfl (by decide) ?_
              refine ev_iload (q := 77) dX7_rememberedBy_75 rfl rfl ?_
              refine ev_ishl (q := 78) dX7_rememberedBy_77 rfl ?_
              refine ev_ior (q := 79) dX7_rememberedBy_78 rfl ?_
              refine ev_istore_n (q := 80) dX7_rememberedBy_79 rfl (by decide) ?_
              refine ev_iinc (q := 83) (1 : Int32) dX7_rememberedBy_80 rfl rfl (by decide) (by decide) ?_
              refine ev_goto (t := 5) dX7_rememberedBy_83 (by decide) ?_
              rw [nI_1]
              exact ih (i + 1) _ (by omega) (by omega) (by first | exact zor_s hb (by simp [zRe, h14, h36, h46, h70]) | exact zor_n hb (by simp [zRe, h14, h36, h46, h70]))
  refine ev_iconst (q := 1) (0 : Int32) dX7_rememberedBy_0 rfl (by decide) ?_
  refine ev_istore_n (q := 2) dX7_rememberedBy_1 rfl (by decide) ?_
  refine ev_iconst (q := 3) (0 : Int32) dX7_rememberedBy_2 rfl (by decide) ?_
  refine ev_istore (q := 5) dX7_rememberedBy_3 rfl (by decide) ?_
  exact lp5 (N + 1) 0 0 (by omega) (by omega) rfl
set_option maxHeartbeats 4000000 in
set_option maxRecDepth 100000 in
theorem c_X7_missedBy (G : zq_G) (fo : Bool) (I : zq_I) {N T Y : Nat} (hs : zS fo N T Y I) {p : Nat} (hp : p < N) (y : Int32) : zq_Met G mX7_missedBy 4 0 0 [.ref 0, .int (nI p), .int y] 138 I (zPs fo) (zq_pu (some (.int (zMs (zV I) N p y))) 138 I (zPs fo)) := by
  refine zq_Met.of okX7_missedBy (Nat.le_of_ble_eq_true rfl) ?_
  have hN8 := hs.n8
  have hN := hs.ppl
  have hfF := zF_is fo
  refine ev_aload_n (q := 1) dX7_missedBy_0 rfl rfl ?_
  refine ev_iload_n (q := 2) dX7_missedBy_1 rfl rfl ?_
  refine ev_pV (q := 5) (ci := 7) dX7_missedBy_2 rfl okX7_isAtHome lmRX7_253 imX7_isAtHome seX7_isAtHome (by first | rfl | assumption | exact zf_kd (by assumption) | exact zw_kd (by assumption) | exact zt_kd (by assumption)) (by first | decide | exact zf_lt (by assumption) | exact zf_lt1 (by assumption) | exact zf_lt2 (by assumption) | exact zf_lt3 (by assumption) | exact zf_lt4 (by assumption) | exact zw_lt (by assumption) | exact zw_lt1 (by assumption) | exact zw_lt2 (by assumption) | exact zw_lt3 (by assumption) | exact zw_lt4 (by assumption) | exact zt_lt (by assumption)) (by decide) rfl (c_X7_isAtHome G fo I hs hp) (by decide) rfl rfl (Nat.le_of_ble_eq_true rfl) ?_
  refine ev_if_eq (q := 8) (t := 27) dX7_missedBy_5 rfl (by decide) (fun h5 => ?_) (fun h5 => ?_)
  · simp only [zb_0, Nat.reduceAdd] at h5
    refine ev_iconst (q := 28) (0 : Int32) dX7_missedBy_27 rfl (by decide) ?_
    exact ev_iret dX7_missedBy_28 rfl (by first | rfl | exact zb_nar _ | assumption) (⟨by rw [← zMs_eq hs hp y]; simp [h5], rfl, rfl, rfl⟩)
  · simp only [zb_0, Nat.reduceAdd] at h5
    refine ev_aload_n (q := 9) dX7_missedBy_8 rfl rfl ?_
    refine ev_getR (q := 12) (ci := 7) (f := 9) dX7_missedBy_9 rfl (by first | rfl | assumption | exact zf_kd (by assumption) | exact zw_kd (by assumption) | exact zt_kd (by assumption)) (by first | decide | exact zf_lt (by assumption) | exact zf_lt1 (by assumption) | exact zf_lt2 (by assumption) | exact zf_lt3 (by assumption) | exact zf_lt4 (by assumption) | exact zw_lt (by assumption) | exact zw_lt1 (by assumption) | exact zw_lt2 (by assumption) | exact zw_lt3 (by assumption) | exact zw_lt4 (by assumption) | exact zt_lt (by assumption)) (by decide) (by decide) lfRX7_66 rfl (by first | rfl | assumption | exact zf_p4 _ (by assumption) | exact zf_p5 _ (by assumption) | exact zf_p6 _ (by assumption) | exact zf_p7 _ (by assumption) | exact zw_p1 _ (by assumption) | exact zw_p2 _ (by assumption) | exact zw_p3 _ (by assumption) | exact zw_p4 _ (by assumption)) ?_
    refine ev_getR (q := 15) (ci := 0) (f := 7) dX7_missedBy_12 rfl (by first | rfl | assumption | exact zf_kd (by assumption) | exact zw_kd (by assumption) | exact zt_kd (by assumption)) (by first | decide | exact zf_lt (by assumption) | exact zf_lt1 (by assumption) | exact zf_lt2 (by assumption) | exact zf_lt3 (by assumption) | exact zf_lt4 (by assumption) | exact zw_lt (by assumption) | exact zw_lt1 (by assumption) | exact zw_lt2 (by assumption) | exact zw_lt3 (by assumption) | exact zw_lt4 (by assumption) | exact zt_lt (by assumption)) (by decide) (by decide) lfRX7_142 rfl (by first | rfl | assumption | exact zf_p4 _ (by assumption) | exact zf_p5 _ (by assumption) | exact zf_p6 _ (by assumption) | exact zf_p7 _ (by assumption) | exact zw_p1 _ (by assumption) | exact zw_p2 _ (by assumption) | exact zw_p3 _ (by assumption) | exact zw_p4 _ (by assumption)) ?_
    refine ev_iload_n (q := 16) dX7_missedBy_15 rfl rfl ?_
    refine ev_ialdN (q := 17) dX7_missedBy_16 rfl (by first | rfl | assumption | exact zf_kd1 (by assumption) | exact zf_kd2 (by assumption) | exact zf_kd3 (by assumption) | exact zf_kd4 (by assumption) | exact zw_kd1 (by assumption) | exact zw_kd2 (by assumption) | exact zw_kd3 (by assumption) | exact zw_kd4 (by assumption)) (by first | decide | exact zf_lt (by assumption) | exact zf_lt1 (by assumption) | exact zf_lt2 (by assumption) | exact zf_lt3 (by assumption) | exact zf_lt4 (by assumption) | exact zw_lt (by assumption) | exact zw_lt1 (by assumption) | exact zw_lt2 (by assumption) | exact zw_lt3 (by assumption) | exact zw_lt4 (by assumption) | exact zt_lt (by assumption)) (by first | omega | assumption) ?_
    refine ev_aload_n (q := 18) dX7_missedBy_17 rfl rfl ?_
    refine ev_iload_n (q := 19) dX7_missedBy_18 rfl rfl ?_
    refine ev_iload_n (q := 20) dX7_missedBy_19 rfl rfl ?_
    refine ev_pV (q := 23) (ci := 7) dX7_missedBy_20 rfl okX7_rememberedBy lmRX7_259 imX7_rememberedBy seX7_rememberedBy (by first | rfl | assumption | exact zf_kd (by assumption) | exact zw_kd (by assumption) | exact zt_kd (by assumption)) (by first | decide | exact zf_lt (by assumption) | exact zf_lt1 (by assumption) | exact zf_lt2 (by assumption) | exact zf_lt3 (by assumption) | exact zf_lt4 (by assumption) | exact zw_lt (by assumption) | exact zw_lt1 (by assumption) | exact zw_lt2 (by assumption) | exact zw_lt3 (by assumption) | exact zw_lt4 (by assumption) | exact zt_lt (by assumption)) (by decide) rfl (c_X7_rememberedBy G fo I hs hp _) (by decide) rfl rfl (Nat.le_of_ble_eq_true rfl) ?_
    rw [hs.ask hp]
    refine ev_iand (q := 24) dX7_missedBy_23 rfl ?_
    refine ev_goto (t := 28) dX7_missedBy_24 (by decide) ?_
    exact ev_iret dX7_missedBy_28 rfl (by first | rfl | exact zb_nar _ | assumption) (⟨by rw [← zMs_eq hs hp y]; simp [h5], rfl, rfl, rfl⟩)
theorem zany_t (c : Nat → Bool) {i n : Nat} (hi : i < n) (h : c i = true) : zany c n = true := by
  induction n with
  | zero => omega
  | succ n ih =>
    unfold zany
    by_cases hin : i = n
    · subst hin; rw [h, Bool.or_true]
    · rw [ih (by omega), Bool.true_or]
set_option maxHeartbeats 4000000 in
set_option maxRecDepth 100000 in
theorem c_X7_isMissed (G : zq_G) (fo : Bool) (I : zq_I) {N T Y : Nat} (hs : zS fo N T Y I) {p : Nat} (y : Int32) : zq_Met G mX7_isMissed 5 0 0 [.ref 0, .int (nI p), .int y] 138 I (zPs fo) (zq_pu (some (.int (zb (zany (fun i => zhas (zMs (zV I) N i y) p) N)))) 138 I (zPs fo)) := by
  refine zq_Met.of okX7_isMissed (Nat.le_of_ble_eq_true rfl) ?_
  have hN8 := hs.n8
  have hN := hs.ppl
  have hfF := zF_is fo
  have lp2 : ∀ (k i : Nat), N + 1 ≤ i + k → i ≤ N → zany (fun i => zhas (zMs (zV I) N i y) p) i = false → zq_E G mX7_isMissed 5 0 0 false 2 [some (.ref 0), some (.int (nI p)), some (.int y), some (.int (nI i))] [] 138 I (zPs fo) (zq_pu (some (.int (zb (zany (fun i => zhas (zMs (zV I) N i y) p) N)))) 138 I (zPs fo)) := by
    intro k
    induction k with
    | zero => intro i  hk hi; exact absurd hk (by omega)
    | succ k ih =>
      intro i  hk hi hz
      refine ev_iload_n (q := 3) dX7_isMissed_2 rfl rfl ?_
      refine ev_aload_n (q := 4) dX7_isMissed_3 rfl rfl ?_
      refine ev_getR (q := 7) (ci := 7) (f := 9) dX7_isMissed_4 rfl (by first | rfl | assumption | exact zf_kd (by assumption) | exact zw_kd (by assumption) | exact zt_kd (by assumption)) (by first | decide | exact zf_lt (by assumption) | exact zf_lt1 (by assumption) | exact zf_lt2 (by assumption) | exact zf_lt3 (by assumption) | exact zf_lt4 (by assumption) | exact zw_lt (by assumption) | exact zw_lt1 (by assumption) | exact zw_lt2 (by assumption) | exact zw_lt3 (by assumption) | exact zw_lt4 (by assumption) | exact zt_lt (by assumption)) (by decide) (by decide) lfRX7_66 rfl (by first | rfl | assumption | exact zf_p4 _ (by assumption) | exact zf_p5 _ (by assumption) | exact zf_p6 _ (by assumption) | exact zf_p7 _ (by assumption) | exact zw_p1 _ (by assumption) | exact zw_p2 _ (by assumption) | exact zw_p3 _ (by assumption) | exact zw_p4 _ (by assumption)) ?_
      refine ev_getI (q := 10) (ci := 0) (f := 2) dX7_isMissed_7 rfl (by first | rfl | assumption | exact zf_kd (by assumption) | exact zw_kd (by assumption) | exact zt_kd (by assumption)) (by first | decide | exact zf_lt (by assumption) | exact zf_lt1 (by assumption) | exact zf_lt2 (by assumption) | exact zf_lt3 (by assumption) | exact zf_lt4 (by assumption) | exact zw_lt (by assumption) | exact zw_lt1 (by assumption) | exact zw_lt2 (by assumption) | exact zw_lt3 (by assumption) | exact zw_lt4 (by assumption) | exact zt_lt (by assumption)) (by decide) (by decide) lfRX7_93 rfl ?_
      refine ev_icmp_ge (q := 13) (t := 34) dX7_isMissed_10 rfl (by decide) (fun h10 => ?_) (fun h10 => ?_)
      · obtain rfl : i = N := by rw [hN, nI_leI (by omega) (by omega)] at h10; omega
        refine ev_iconst (q := 35) (0 : Int32) dX7_isMissed_34 rfl (by decide) ?_
        exact ev_iret dX7_isMissed_35 rfl (by first | rfl | exact zb_nar _ | assumption) (⟨by rw [hz]; rfl, rfl, rfl, rfl⟩)
      · have hlt_i : i < N := by rw [hN, nI_leI (by omega) (by omega)] at h10; omega
        refine ev_aload_n (q := 14) dX7_isMissed_13 rfl rfl ?_
        refine ev_iload_n (q := 15) dX7_isMissed_14 rfl rfl ?_
        refine ev_iload_n (q := 16) dX7_isMissed_15 rfl rfl ?_
        refine ev_pV (q := 19) (ci := 7) dX7_isMissed_16 rfl okX7_missedBy lmRX7_145 imX7_missedBy seX7_missedBy (by first | rfl | assumption | exact zf_kd (by assumption) | exact zw_kd (by assumption) | exact zt_kd (by assumption)) (by first | decide | exact zf_lt (by assumption) | exact zf_lt1 (by assumption) | exact zf_lt2 (by assumption) | exact zf_lt3 (by assumption) | exact zf_lt4 (by assumption) | exact zw_lt (by assumption) | exact zw_lt1 (by assumption) | exact zw_lt2 (by assumption) | exact zw_lt3 (by assumption) | exact zw_lt4 (by assumption) | exact zt_lt (by assumption)) (by decide) rfl (c_X7_missedBy G fo I hs hlt_i _) (by decide) rfl rfl (Nat.le_of_ble_eq_true rfl) ?_
        refine ev_iload_n (q := 20) dX7_isMissed_19 rfl rfl ?_
        refine ev_pS (q := 23) dX7_isMissed_20 rfl okX7_has lmRX7_220 smX7_has (c_X7_has G _ _ _ _ _) (by decide) rfl rfl (Nat.le_of_ble_eq_true rfl) ?_
        refine ev_if_eq (q := 26) (t := 28) dX7_isMissed_23 rfl (by decide) (fun h23 => ?_) (fun h23 => ?_)
        · simp only [zb_0, Nat.reduceAdd] at h23
          refine ev_iinc (q := 31) (1 : Int32) dX7_isMissed_28 rfl rfl (by decide) (by decide) ?_
          refine ev_goto (t := 2) dX7_isMissed_31 (by decide) ?_
          rw [nI_1]
          exact ih (i + 1) (by omega) (by omega) (by rw [zany, hz, h23]; rfl)
        · simp only [zb_0, Nat.reduceAdd] at h23
          refine ev_iconst (q := 27) (1 : Int32) dX7_isMissed_26 rfl (by decide) ?_
          exact ev_iret dX7_isMissed_27 rfl (by first | rfl | exact zb_nar _ | assumption) (⟨by rw [zany_t _ hlt_i (by simpa using h23)]; rfl, rfl, rfl, rfl⟩)
  refine ev_iconst (q := 1) (0 : Int32) dX7_isMissed_0 rfl (by decide) ?_
  refine ev_istore_n (q := 2) dX7_isMissed_1 rfl (by decide) ?_
  exact lp2 (N + 1) 0 (by omega) (by omega) rfl
set_option maxHeartbeats 4000000 in
set_option maxRecDepth 100000 in
theorem c_X7_missedOf (G : zq_G) (fo : Bool) (I : zq_I) {N T Y : Nat} (hs : zS fo N T Y I) (x : Int32) : zq_Met G mX7_missedOf 5 0 0 [.ref 0, .int x] 138 I (zPs fo) (zq_pu (some (.int (zor (fun i => zMs (zV I) N i (I 119 15)) (fun _ => true) N &&& x))) 138 I (zPs fo)) := by
  refine zq_Met.of okX7_missedOf (Nat.le_of_ble_eq_true rfl) ?_
  have hN8 := hs.n8
  have hN := hs.ppl
  have hfF := zF_is fo
  have lp4 : ∀ (k i : Nat) (b : Int32), N + 1 ≤ i + k → i ≤ N → b = zor (fun i => zMs (zV I) N i (I 119 15)) (fun _ => true) i → zq_E G mX7_missedOf 5 0 0 false 4 [some (.ref 0), some (.int x), some (.int b), some (.int (nI i))] [] 138 I (zPs fo) (zq_pu (some (.int (zor (fun i => zMs (zV I) N i (I 119 15)) (fun _ => true) N &&& x))) 138 I (zPs fo)) := by
    intro k
    induction k with
    | zero => intro i b hk hi; exact absurd hk (by omega)
    | succ k ih =>
      intro i b hk hi hb
      refine ev_iload_n (q := 5) dX7_missedOf_4 rfl rfl ?_
      refine ev_aload_n (q := 6) dX7_missedOf_5 rfl rfl ?_
      refine ev_getR (q := 9) (ci := 7) (f := 9) dX7_missedOf_6 rfl (by first | rfl | assumption | exact zf_kd (by assumption) | exact zw_kd (by assumption) | exact zt_kd (by assumption)) (by first | decide | exact zf_lt (by assumption) | exact zf_lt1 (by assumption) | exact zf_lt2 (by assumption) | exact zf_lt3 (by assumption) | exact zf_lt4 (by assumption) | exact zw_lt (by assumption) | exact zw_lt1 (by assumption) | exact zw_lt2 (by assumption) | exact zw_lt3 (by assumption) | exact zw_lt4 (by assumption) | exact zt_lt (by assumption)) (by decide) (by decide) lfRX7_66 rfl (by first | rfl | assumption | exact zf_p4 _ (by assumption) | exact zf_p5 _ (by assumption) | exact zf_p6 _ (by assumption) | exact zf_p7 _ (by assumption) | exact zw_p1 _ (by assumption) | exact zw_p2 _ (by assumption) | exact zw_p3 _ (by assumption) | exact zw_p4 _ (by assumption)) ?_
      refine ev_getI (q := 12) (ci := 0) (f := 2) dX7_missedOf_9 rfl (by first | rfl | assumption | exact zf_kd (by assumption) | exact zw_kd (by assumption) | exact zt_kd (by assumption)) (by first | decide | exact zf_lt (by assumption) | exact zf_lt1 (by assumption) | exact zf_lt2 (by assumption) | exact zf_lt3 (by assumption) | exact zf_lt4 (by assumption) | exact zw_lt (by assumption) | exact zw_lt1 (by assumption) | exact zw_lt2 (by assumption) | exact zw_lt3 (by assumption) | exact zw_lt4 (by assumption) | exact zt_lt (by assumption)) (by decide) (by decide) lfRX7_93 rfl ?_
      refine ev_icmp_ge (q := 15) (t := 36) dX7_missedOf_12 rfl (by decide) (fun h12 => ?_) (fun h12 => ?_)
      · obtain rfl : i = N := by rw [hN, nI_leI (by omega) (by omega)] at h12; omega
        refine ev_iload_n (q := 37) dX7_missedOf_36 rfl rfl ?_
        refine ev_iload_n (q := 38) dX7_missedOf_37 rfl rfl ?_
        refine ev_iand (q := 39) dX7_missedOf_38 rfl ?_
        exact ev_iret dX7_missedOf_39 rfl (by first | rfl | exact zb_nar _ | assumption) (⟨by subst hb; rfl, rfl, rfl, rfl⟩)
      · have hlt_i : i < N := by rw [hN, nI_leI (by omega) (by omega)] at h12; omega
        refine ev_iload_n (q := 16) dX7_missedOf_15 rfl rfl ?_
        refine ev_aload_n (q := 17) dX7_missedOf_16 rfl rfl ?_
        refine ev_iload_n (q := 18) dX7_missedOf_17 rfl rfl ?_
        refine ev_aload_n (q := 19) dX7_missedOf_18 rfl rfl ?_
        refine ev_getR (q := 22) (ci := 7) (f := 5) dX7_missedOf_19 rfl (by first | rfl | assumption | exact zf_kd (by assumption) | exact zw_kd (by assumption) | exact zt_kd (by assumption)) (by first | decide | exact zf_lt (by assumption) | exact zf_lt1 (by assumption) | exact zf_lt2 (by assumption) | exact zf_lt3 (by assumption) | exact zf_lt4 (by assumption) | exact zw_lt (by assumption) | exact zw_lt1 (by assumption) | exact zw_lt2 (by assumption) | exact zw_lt3 (by assumption) | exact zw_lt4 (by assumption) | exact zt_lt (by assumption)) (by decide) (by decide) lfRX7_47 rfl (by first | rfl | assumption | exact zf_p4 _ (by assumption) | exact zf_p5 _ (by assumption) | exact zf_p6 _ (by assumption) | exact zf_p7 _ (by assumption) | exact zw_p1 _ (by assumption) | exact zw_p2 _ (by assumption) | exact zw_p3 _ (by assumption) | exact zw_p4 _ (by assumption)) ?_
        refine ev_getI (q := 25) (ci := 6) (f := 0) dX7_missedOf_22 rfl (by first | rfl | assumption | exact zf_kd (by assumption) | exact zw_kd (by assumption) | exact zt_kd (by assumption)) (by first | decide | exact zf_lt (by assumption) | exact zf_lt1 (by assumption) | exact zf_lt2 (by assumption) | exact zf_lt3 (by assumption) | exact zf_lt4 (by assumption) | exact zw_lt (by assumption) | exact zw_lt1 (by assumption) | exact zw_lt2 (by assumption) | exact zw_lt3 (by assumption) | exact zw_lt4 (by assumption) | exact zt_lt (by assumption)) (by decide) (by decide) lfRX7_103 rfl ?_
        rw [hs.yea]
        refine ev_pV (q := 28) (ci := 7) dX7_missedOf_25 rfl okX7_missedBy lmRX7_145 imX7_missedBy seX7_missedBy (by first | rfl | assumption | exact zf_kd (by assumption) | exact zw_kd (by assumption) | exact zt_kd (by assumption)) (by first | decide | exact zf_lt (by assumption) | exact zf_lt1 (by assumption) | exact zf_lt2 (by assumption) | exact zf_lt3 (by assumption) | exact zf_lt4 (by assumption) | exact zw_lt (by assumption) | exact zw_lt1 (by assumption) | exact zw_lt2 (by assumption) | exact zw_lt3 (by assumption) | exact zw_lt4 (by assumption) | exact zt_lt (by assumption)) (by decide) rfl (c_X7_missedBy G fo I hs hlt_i _) (by decide) rfl rfl (Nat.le_of_ble_eq_true rfl) ?_
        refine ev_ior (q := 29) dX7_missedOf_28 rfl ?_
        refine ev_istore_n (q := 30) dX7_missedOf_29 rfl (by decide) ?_
        refine ev_iinc (q := 33) (1 : Int32) dX7_missedOf_30 rfl rfl (by decide) (by decide) ?_
        refine ev_goto (t := 4) dX7_missedOf_33 (by decide) ?_
        rw [nI_1]
        exact ih (i + 1) _ (by omega) (by omega) (by exact zor_s hb rfl)
  refine ev_iconst (q := 1) (0 : Int32) dX7_missedOf_0 rfl (by decide) ?_
  refine ev_istore_n (q := 2) dX7_missedOf_1 rfl (by decide) ?_
  refine ev_iconst (q := 3) (0 : Int32) dX7_missedOf_2 rfl (by decide) ?_
  refine ev_istore_n (q := 4) dX7_missedOf_3 rfl (by decide) ?_
  exact lp4 (N + 1) 0 0 (by omega) (by omega) rfl
set_option maxHeartbeats 4000000 in
set_option maxRecDepth 100000 in
theorem c_X7_everybody (G : zq_G) (fo : Bool) (I : zq_I) {N T Y : Nat} (hs : zS fo N T Y I)  : zq_Met G mX7_everybody 0 0 0 [.ref 0] 138 I (zPs fo) (zq_pu (some (.int (((1 : Int32) <<< (nI N &&& 31)) - 1))) 138 I (zPs fo)) := by
  refine zq_Met.of okX7_everybody (Nat.le_of_ble_eq_true rfl) ?_
  have hN8 := hs.n8
  have hN := hs.ppl
  have hfF := zF_is fo
  refine ev_iconst (q := 1) (1 : Int32) dX7_everybody_0 rfl (by decide) ?_
  refine ev_aload_n (q := 2) dX7_everybody_1 rfl rfl ?_
  refine ev_getR (q := 5) (ci := 7) (f := 9) dX7_everybody_2 rfl (by first | rfl | assumption | exact zf_kd (by assumption) | exact zw_kd (by assumption) | exact zt_kd (by assumption)) (by first | decide | exact zf_lt (by assumption) | exact zf_lt1 (by assumption) | exact zf_lt2 (by assumption) | exact zf_lt3 (by assumption) | exact zf_lt4 (by assumption) | exact zw_lt (by assumption) | exact zw_lt1 (by assumption) | exact zw_lt2 (by assumption) | exact zw_lt3 (by assumption) | exact zw_lt4 (by assumption) | exact zt_lt (by assumption)) (by decide) (by decide) lfRX7_66 rfl (by first | rfl | assumption | exact zf_p4 _ (by assumption) | exact zf_p5 _ (by assumption) | exact zf_p6 _ (by assumption) | exact zf_p7 _ (by assumption) | exact zw_p1 _ (by assumption) | exact zw_p2 _ (by assumption) | exact zw_p3 _ (by assumption) | exact zw_p4 _ (by assumption)) ?_
  refine ev_getI (q := 8) (ci := 0) (f := 2) dX7_everybody_5 rfl (by first | rfl | assumption | exact zf_kd (by assumption) | exact zw_kd (by assumption) | exact zt_kd (by assumption)) (by first | decide | exact zf_lt (by assumption) | exact zf_lt1 (by assumption) | exact zf_lt2 (by assumption) | exact zf_lt3 (by assumption) | exact zf_lt4 (by assumption) | exact zw_lt (by assumption) | exact zw_lt1 (by assumption) | exact zw_lt2 (by assumption) | exact zw_lt3 (by assumption) | exact zw_lt4 (by assumption) | exact zt_lt (by assumption)) (by decide) (by decide) lfRX7_93 rfl ?_
  rw [hN]
  refine ev_ishl (q := 9) dX7_everybody_8 rfl ?_
  refine ev_iconst (q := 10) (1 : Int32) dX7_everybody_9 rfl (by decide) ?_
  refine ev_isub (q := 11) dX7_everybody_10 rfl ?_
  exact ev_iret dX7_everybody_11 rfl (by first | rfl | exact zb_nar _ | assumption) (⟨rfl, rfl, rfl, rfl⟩)
end
section
def zq_f4 (v : Option Value) (fo : Bool) (I : zq_I) : zq_R := fun v' n' I' P' => v' = v ∧ n' = 138 ∧ P' = zPs fo ∧ ∀ c, c ≠ 4 → I' c = I c
theorem zFne {fo : Bool} {c : Nat} (h : c < 109) (k : Nat) : zF fo + k ≠ c := by cases fo <;> simp only [zF] <;> simp <;> omega
theorem zFne0 {fo : Bool} {c : Nat} (h : c < 109) : zF fo ≠ c := zFne h 0
theorem z4_FC {fo : Bool} {I I' : zq_I} (h : ∀ c, c ≠ 4 → I' c = I c) : zFC fo I I' := fun c hc => h c (fun e => by subst e; simp [zsc] at hc)
theorem z108_FC {fo : Bool} {I I' : zq_I} (h : ∀ c, c ≠ 108 → I' c = I c) : zFC fo I I' := fun c hc => h c (fun e => by subst e; simp [zsc] at hc)
theorem zhas_OH {V : zq_V} {N i : Nat} {t : Int32} (hN : N ≤ 8) (hi : i < N) : zhas (zOH V N t) i = (vH V i == t) := by
  unfold zOH
  rw [zhas_bits hN (by omega)]
  simp [hi]
set_option maxHeartbeats 4000000 in
set_option maxRecDepth 100000 in
theorem c_X7_countMissedBy (G : zq_G) (fo : Bool) (I : zq_I) {N T Y : Nat} (hs : zS fo N T Y I) (x : Int32) : zq_Met G mX7_countMissedBy 3 0 0 [.ref 0, .int x] 138 I (zPs fo) (zq_f4 (some (.int (zCnt (I 119 4) (zV I) N (fun i => I 108 i) (fun i => zhas x i)))) fo I) := by
  refine zq_Met.of okX7_countMissedBy (Nat.le_of_ble_eq_true rfl) ?_
  have hN8 := hs.n8
  have hN := hs.ppl
  have hfF := zF_is fo
  have lp9 : ∀ (k i : Nat) (I1 : zq_I), N + 1 ≤ i + k → i ≤ N → (∀ c, c ≠ 4 → I1 c = I c) → I1 4 0 = zsum (fun i => zpop ((fun i => I 108 i) i)) (fun i => zhas x i) i → I1 4 1 = zor (fun i => I 108 i) (fun i => zhas x i) i → zq_E G mX7_countMissedBy 3 0 0 false 9 [some (.ref 0), some (.int x), some (.int (nI i))] [] 138 I1 (zPs fo) (zq_f4 (some (.int (zCnt (I 119 4) (zV I) N (fun i => I 108 i) (fun i => zhas x i)))) fo I) := by
    intro k
    induction k with
    | zero => intro i I1 hk hi; exact absurd hk (by omega)
    | succ k ih =>
      intro i I1 hk hi hf h0 h1
      have hN1 : I1 (zF fo) 2 = nI N := by rw [hf _ (zFne0 (by decide))]; exact hN
      have hnm1 : ∀ p, p < N → I1 (zF fo + 2) p = vN (zV I) p := fun p hp => by rw [hf _ (zFne (by decide) 2)]; exact hs.nam hp
      have hFC : zFC fo I I1 := z4_FC hf
      have hs1 := hFC.S hs
      have hV := hFC.V
      refine ev_iload_n (q := 10) dX7_countMissedBy_9 rfl rfl ?_
      refine ev_aload_n (q := 11) dX7_countMissedBy_10 rfl rfl ?_
      refine ev_getR (q := 14) (ci := 7) (f := 9) dX7_countMissedBy_11 rfl (by first | rfl | assumption | exact zf_kd (by assumption) | exact zw_kd (by assumption) | exact zt_kd (by assumption)) (by first | decide | exact zf_lt (by assumption) | exact zf_lt1 (by assumption) | exact zf_lt2 (by assumption) | exact zf_lt3 (by assumption) | exact zf_lt4 (by assumption) | exact zw_lt (by assumption) | exact zw_lt1 (by assumption) | exact zw_lt2 (by assumption) | exact zw_lt3 (by assumption) | exact zw_lt4 (by assumption) | exact zt_lt (by assumption)) (by decide) (by decide) lfRX7_66 rfl (by first | rfl | assumption | exact zf_p4 _ (by assumption) | exact zf_p5 _ (by assumption) | exact zf_p6 _ (by assumption) | exact zf_p7 _ (by assumption) | exact zw_p1 _ (by assumption) | exact zw_p2 _ (by assumption) | exact zw_p3 _ (by assumption) | exact zw_p4 _ (by assumption)) ?_
      refine ev_getI (q := 17) (ci := 0) (f := 2) dX7_countMissedBy_14 rfl (by first | rfl | assumption | exact zf_kd (by assumption) | exact zw_kd (by assumption) | exact zt_kd (by assumption)) (by first | decide | exact zf_lt (by assumption) | exact zf_lt1 (by assumption) | exact zf_lt2 (by assumption) | exact zf_lt3 (by assumption) | exact zf_lt4 (by assumption) | exact zw_lt (by assumption) | exact zw_lt1 (by assumption) | exact zw_lt2 (by assumption) | exact zw_lt3 (by assumption) | exact zw_lt4 (by assumption) | exact zt_lt (by assumption)) (by decide) (by decide) lfRX7_93 rfl ?_
      refine ev_icmp_ge (q := 20) (t := 47) dX7_countMissedBy_17 rfl (by decide) (fun h17 => ?_) (fun h17 => ?_)
      · obtain rfl : i = N := by rw [hN1, nI_leI (by omega) (by omega)] at h17; omega
        refine ev_aload_n (q := 48) dX7_countMissedBy_47 rfl rfl ?_
        refine ev_getR (q := 51) (ci := 7) (f := 2) dX7_countMissedBy_48 rfl (by first | rfl | assumption | exact zf_kd (by assumption) | exact zw_kd (by assumption) | exact zt_kd (by assumption)) (by first | decide | exact zf_lt (by assumption) | exact zf_lt1 (by assumption) | exact zf_lt2 (by assumption) | exact zf_lt3 (by assumption) | exact zf_lt4 (by assumption) | exact zw_lt (by assumption) | exact zw_lt1 (by assumption) | exact zw_lt2 (by assumption) | exact zw_lt3 (by assumption) | exact zw_lt4 (by assumption) | exact zt_lt (by assumption)) (by decide) (by decide) lfRX7_26 rfl (by first | rfl | assumption | exact zf_p4 _ (by assumption) | exact zf_p5 _ (by assumption) | exact zf_p6 _ (by assumption) | exact zf_p7 _ (by assumption) | exact zw_p1 _ (by assumption) | exact zw_p2 _ (by assumption) | exact zw_p3 _ (by assumption) | exact zw_p4 _ (by assumption)) ?_
        refine ev_aload_n (q := 52) dX7_countMissedBy_51 rfl rfl ?_
        refine ev_getR (q := 55) (ci := 7) (f := 9) dX7_countMissedBy_52 rfl (by first | rfl | assumption | exact zf_kd (by assumption) | exact zw_kd (by assumption) | exact zt_kd (by assumption)) (by first | decide | exact zf_lt (by assumption) | exact zf_lt1 (by assumption) | exact zf_lt2 (by assumption) | exact zf_lt3 (by assumption) | exact zf_lt4 (by assumption) | exact zw_lt (by assumption) | exact zw_lt1 (by assumption) | exact zw_lt2 (by assumption) | exact zw_lt3 (by assumption) | exact zw_lt4 (by assumption) | exact zt_lt (by assumption)) (by decide) (by decide) lfRX7_66 rfl (by first | rfl | assumption | exact zf_p4 _ (by assumption) | exact zf_p5 _ (by assumption) | exact zf_p6 _ (by assumption) | exact zf_p7 _ (by assumption) | exact zw_p1 _ (by assumption) | exact zw_p2 _ (by assumption) | exact zw_p3 _ (by assumption) | exact zw_p4 _ (by assumption)) ?_
        refine ev_pV (q := 58) (ci := 5) dX7_countMissedBy_55 rfl okX5_countByLaw lmRX7_273 imX5_countByLaw seX5_countByLaw (by first | rfl | assumption | exact zf_kd (by assumption) | exact zw_kd (by assumption) | exact zt_kd (by assumption)) (by first | decide | exact zf_lt (by assumption) | exact zf_lt1 (by assumption) | exact zf_lt2 (by assumption) | exact zf_lt3 (by assumption) | exact zf_lt4 (by assumption) | exact zw_lt (by assumption) | exact zw_lt1 (by assumption) | exact zw_lt2 (by assumption) | exact zw_lt3 (by assumption) | exact zw_lt4 (by assumption) | exact zt_lt (by assumption)) (by decide) rfl (c_X5_countByLaw G fo I1 (zV I) (Or.inl rfl) hfF hN8 hN1 hnm1) (by decide) rfl rfl (Nat.le_of_ble_eq_true rfl) ?_
        exact ev_iret dX7_countMissedBy_58 rfl (by first | rfl | exact zb_nar _ | assumption) (⟨by rw [hf _ (zFne0 (by decide)), hs.law, h0, h1]; rfl, rfl, rfl, hf⟩)
      · have hlt_i : i < N := by rw [hN1, nI_leI (by omega) (by omega)] at h17; omega
        refine ev_iload_n (q := 21) dX7_countMissedBy_20 rfl rfl ?_
        refine ev_iload_n (q := 22) dX7_countMissedBy_21 rfl rfl ?_
        refine ev_pS (q := 25) dX7_countMissedBy_22 rfl okX7_has lmRX7_220 smX7_has (c_X7_has G _ _ _ _ _) (by decide) rfl rfl (Nat.le_of_ble_eq_true rfl) ?_
        refine ev_if_eq (q := 28) (t := 41) dX7_countMissedBy_25 rfl (by decide) (fun h25 => ?_) (fun h25 => ?_)
        · refine ev_iinc (q := 44) (1 : Int32) dX7_countMissedBy_41 rfl rfl (by decide) (by decide) ?_
          refine ev_goto (t := 9) dX7_countMissedBy_44 (by decide) ?_
          rw [nI_1]
          first | exact ih (i + 1) _ (by omega) (by omega) (fun c hc => by rw [zu_other hc, zu_other hc]; exact hf c hc) (by rw [← zsum_s h0 (by simpa [zb_0] using h25)]; simp [zu]) (by rw [← zor_s h1 (by simpa [zb_0] using h25)]; simp [zu]) | exact ih (i + 1) _ (by omega) (by omega) hf (zsum_n h0 (by simpa [zb_0] using h25)) (zor_n h1 (by simpa [zb_0] using h25))
        · refine ev_aload_n (q := 29) dX7_countMissedBy_28 rfl rfl ?_
          refine ev_getR (q := 32) (ci := 7) (f := 2) dX7_countMissedBy_29 rfl (by first | rfl | assumption | exact zf_kd (by assumption) | exact zw_kd (by assumption) | exact zt_kd (by assumption)) (by first | decide | exact zf_lt (by assumption) | exact zf_lt1 (by assumption) | exact zf_lt2 (by assumption) | exact zf_lt3 (by assumption) | exact zf_lt4 (by assumption) | exact zw_lt (by assumption) | exact zw_lt1 (by assumption) | exact zw_lt2 (by assumption) | exact zw_lt3 (by assumption) | exact zw_lt4 (by assumption) | exact zt_lt (by assumption)) (by decide) (by decide) lfRX7_26 rfl (by first | rfl | assumption | exact zf_p4 _ (by assumption) | exact zf_p5 _ (by assumption) | exact zf_p6 _ (by assumption) | exact zf_p7 _ (by assumption) | exact zw_p1 _ (by assumption) | exact zw_p2 _ (by assumption) | exact zw_p3 _ (by assumption) | exact zw_p4 _ (by assumption)) ?_
          refine ev_aload_n (q := 33) dX7_countMissedBy_32 rfl rfl ?_
          refine ev_getR (q := 36) (ci := 7) (f := 8) dX7_countMissedBy_33 rfl (by first | rfl | assumption | exact zf_kd (by assumption) | exact zw_kd (by assumption) | exact zt_kd (by assumption)) (by first | decide | exact zf_lt (by assumption) | exact zf_lt1 (by assumption) | exact zf_lt2 (by assumption) | exact zf_lt3 (by assumption) | exact zf_lt4 (by assumption) | exact zw_lt (by assumption) | exact zw_lt1 (by assumption) | exact zw_lt2 (by assumption) | exact zw_lt3 (by assumption) | exact zw_lt4 (by assumption) | exact zt_lt (by assumption)) (by decide) (by decide) lfRX7_59 rfl (by first | rfl | assumption | exact zf_p4 _ (by assumption) | exact zf_p5 _ (by assumption) | exact zf_p6 _ (by assumption) | exact zf_p7 _ (by assumption) | exact zw_p1 _ (by assumption) | exact zw_p2 _ (by assumption) | exact zw_p3 _ (by assumption) | exact zw_p4 _ (by assumption)) ?_
          refine ev_iload_n (q := 37) dX7_countMissedBy_36 rfl rfl ?_
          refine ev_ialdN (q := 38) dX7_countMissedBy_37 rfl (by first | rfl | assumption | exact zf_kd1 (by assumption) | exact zf_kd2 (by assumption) | exact zf_kd3 (by assumption) | exact zf_kd4 (by assumption) | exact zw_kd1 (by assumption) | exact zw_kd2 (by assumption) | exact zw_kd3 (by assumption) | exact zw_kd4 (by assumption)) (by first | decide | exact zf_lt (by assumption) | exact zf_lt1 (by assumption) | exact zf_lt2 (by assumption) | exact zf_lt3 (by assumption) | exact zf_lt4 (by assumption) | exact zw_lt (by assumption) | exact zw_lt1 (by assumption) | exact zw_lt2 (by assumption) | exact zw_lt3 (by assumption) | exact zw_lt4 (by assumption) | exact zt_lt (by assumption)) (by first | omega | assumption) ?_
          rw [hf 108 (by decide)]
          refine ev_cV (q := 41) (ci := 5) dX7_countMissedBy_38 rfl okX5_addMissed lmRX7_269 imX5_addMissed seX5_addMissed (by first | rfl | assumption | exact zf_kd (by assumption) | exact zw_kd (by assumption) | exact zt_kd (by assumption)) (by first | decide | exact zf_lt (by assumption) | exact zf_lt1 (by assumption) | exact zf_lt2 (by assumption) | exact zf_lt3 (by assumption) | exact zf_lt4 (by assumption) | exact zw_lt (by assumption) | exact zw_lt1 (by assumption) | exact zw_lt2 (by assumption) | exact zw_lt3 (by assumption) | exact zw_lt4 (by assumption) | exact zt_lt (by assumption)) (by decide) rfl (c_X5_addMissed G fo _ (Or.inl rfl) _) (by decide) rfl rfl (Nat.le_of_ble_eq_true rfl) (fun v38 n38 I38 P38 hR38 => ?_)
          obtain ⟨rfl, rfl, rfl, rfl⟩ := hR38
          refine ev_iinc (q := 44) (1 : Int32) dX7_countMissedBy_41 rfl rfl (by decide) (by decide) ?_
          refine ev_goto (t := 9) dX7_countMissedBy_44 (by decide) ?_
          rw [nI_1]
          first | exact ih (i + 1) _ (by omega) (by omega) (fun c hc => by rw [zu_other hc, zu_other hc]; exact hf c hc) (by rw [← zsum_s h0 (by simpa [zb_0] using h25)]; simp [zu]) (by rw [← zor_s h1 (by simpa [zb_0] using h25)]; simp [zu]) | exact ih (i + 1) _ (by omega) (by omega) hf (zsum_n h0 (by simpa [zb_0] using h25)) (zor_n h1 (by simpa [zb_0] using h25))
  refine ev_aload_n (q := 1) dX7_countMissedBy_0 rfl rfl ?_
  refine ev_getR (q := 4) (ci := 7) (f := 2) dX7_countMissedBy_1 rfl (by first | rfl | assumption | exact zf_kd (by assumption) | exact zw_kd (by assumption) | exact zt_kd (by assumption)) (by first | decide | exact zf_lt (by assumption) | exact zf_lt1 (by assumption) | exact zf_lt2 (by assumption) | exact zf_lt3 (by assumption) | exact zf_lt4 (by assumption) | exact zw_lt (by assumption) | exact zw_lt1 (by assumption) | exact zw_lt2 (by assumption) | exact zw_lt3 (by assumption) | exact zw_lt4 (by assumption) | exact zt_lt (by assumption)) (by decide) (by decide) lfRX7_26 rfl (by first | rfl | assumption | exact zf_p4 _ (by assumption) | exact zf_p5 _ (by assumption) | exact zf_p6 _ (by assumption) | exact zf_p7 _ (by assumption) | exact zw_p1 _ (by assumption) | exact zw_p2 _ (by assumption) | exact zw_p3 _ (by assumption) | exact zw_p4 _ (by assumption)) ?_
  refine ev_cV (q := 7) (ci := 5) dX7_countMissedBy_4 rfl okX5_clear lmRX7_268 imX5_clear seX5_clear (by first | rfl | assumption | exact zf_kd (by assumption) | exact zw_kd (by assumption) | exact zt_kd (by assumption)) (by first | decide | exact zf_lt (by assumption) | exact zf_lt1 (by assumption) | exact zf_lt2 (by assumption) | exact zf_lt3 (by assumption) | exact zf_lt4 (by assumption) | exact zw_lt (by assumption) | exact zw_lt1 (by assumption) | exact zw_lt2 (by assumption) | exact zw_lt3 (by assumption) | exact zw_lt4 (by assumption) | exact zt_lt (by assumption)) (by decide) rfl (c_X5_clear G fo _ (Or.inl rfl)) (by decide) rfl rfl (Nat.le_of_ble_eq_true rfl) (fun v4 n4 I4 P4 hR4 => ?_)
  obtain ⟨rfl, rfl, rfl, rfl⟩ := hR4
  refine ev_iconst (q := 8) (0 : Int32) dX7_countMissedBy_7 rfl (by decide) ?_
  refine ev_istore_n (q := 9) dX7_countMissedBy_8 rfl (by decide) ?_
  exact lp9 (N + 1) 0 _ (by omega) (by omega) (fun c hc => by rw [zu_other hc, zu_other hc]) (by simp [zu, zsum]) (by simp [zu, zor])
set_option maxHeartbeats 4000000 in
set_option maxRecDepth 100000 in
theorem c_X7_countIfAway (G : zq_G) (fo : Bool) (I : zq_I) {N T Y : Nat} (hs : zS fo N T Y I) (x y : Int32) : zq_Met G mX7_countIfAway 3 0 0 [.ref 0, .int x, .int y] 138 I (zPs fo) (zq_f4 (some (.int (zCnt (I 119 4) (zV I) N (fun i => vA (zV I) i &&& y) (fun i => zhas (x &&& (y ^^^ (-1))) i)))) fo I) := by
  refine zq_Met.of okX7_countIfAway (Nat.le_of_ble_eq_true rfl) ?_
  have hN8 := hs.n8
  have hN := hs.ppl
  have hfF := zF_is fo
  have lp9 : ∀ (k i : Nat) (I1 : zq_I), N + 1 ≤ i + k → i ≤ N → (∀ c, c ≠ 4 → I1 c = I c) → I1 4 0 = zsum (fun i => zpop ((fun i => vA (zV I) i &&& y) i)) (fun i => zhas (x &&& (y ^^^ (-1))) i) i → I1 4 1 = zor (fun i => vA (zV I) i &&& y) (fun i => zhas (x &&& (y ^^^ (-1))) i) i → zq_E G mX7_countIfAway 3 0 0 false 9 [some (.ref 0), some (.int x), some (.int y), some (.int (nI i))] [] 138 I1 (zPs fo) (zq_f4 (some (.int (zCnt (I 119 4) (zV I) N (fun i => vA (zV I) i &&& y) (fun i => zhas (x &&& (y ^^^ (-1))) i)))) fo I) := by
    intro k
    induction k with
    | zero => intro i I1 hk hi; exact absurd hk (by omega)
    | succ k ih =>
      intro i I1 hk hi hf h0 h1
      have hN1 : I1 (zF fo) 2 = nI N := by rw [hf _ (zFne0 (by decide))]; exact hN
      have hnm1 : ∀ p, p < N → I1 (zF fo + 2) p = vN (zV I) p := fun p hp => by rw [hf _ (zFne (by decide) 2)]; exact hs.nam hp
      have hFC : zFC fo I I1 := z4_FC hf
      have hs1 := hFC.S hs
      have hV := hFC.V
      refine ev_iload_n (q := 10) dX7_countIfAway_9 rfl rfl ?_
      refine ev_aload_n (q := 11) dX7_countIfAway_10 rfl rfl ?_
      refine ev_getR (q := 14) (ci := 7) (f := 9) dX7_countIfAway_11 rfl (by first | rfl | assumption | exact zf_kd (by assumption) | exact zw_kd (by assumption) | exact zt_kd (by assumption)) (by first | decide | exact zf_lt (by assumption) | exact zf_lt1 (by assumption) | exact zf_lt2 (by assumption) | exact zf_lt3 (by assumption) | exact zf_lt4 (by assumption) | exact zw_lt (by assumption) | exact zw_lt1 (by assumption) | exact zw_lt2 (by assumption) | exact zw_lt3 (by assumption) | exact zw_lt4 (by assumption) | exact zt_lt (by assumption)) (by decide) (by decide) lfRX7_66 rfl (by first | rfl | assumption | exact zf_p4 _ (by assumption) | exact zf_p5 _ (by assumption) | exact zf_p6 _ (by assumption) | exact zf_p7 _ (by assumption) | exact zw_p1 _ (by assumption) | exact zw_p2 _ (by assumption) | exact zw_p3 _ (by assumption) | exact zw_p4 _ (by assumption)) ?_
      refine ev_getI (q := 17) (ci := 0) (f := 2) dX7_countIfAway_14 rfl (by first | rfl | assumption | exact zf_kd (by assumption) | exact zw_kd (by assumption) | exact zt_kd (by assumption)) (by first | decide | exact zf_lt (by assumption) | exact zf_lt1 (by assumption) | exact zf_lt2 (by assumption) | exact zf_lt3 (by assumption) | exact zf_lt4 (by assumption) | exact zw_lt (by assumption) | exact zw_lt1 (by assumption) | exact zw_lt2 (by assumption) | exact zw_lt3 (by assumption) | exact zw_lt4 (by assumption) | exact zt_lt (by assumption)) (by decide) (by decide) lfRX7_93 rfl ?_
      refine ev_icmp_ge (q := 20) (t := 56) dX7_countIfAway_17 rfl (by decide) (fun h17 => ?_) (fun h17 => ?_)
      · obtain rfl : i = N := by rw [hN1, nI_leI (by omega) (by omega)] at h17; omega
        refine ev_aload_n (q := 57) dX7_countIfAway_56 rfl rfl ?_
        refine ev_getR (q := 60) (ci := 7) (f := 2) dX7_countIfAway_57 rfl (by first | rfl | assumption | exact zf_kd (by assumption) | exact zw_kd (by assumption) | exact zt_kd (by assumption)) (by first | decide | exact zf_lt (by assumption) | exact zf_lt1 (by assumption) | exact zf_lt2 (by assumption) | exact zf_lt3 (by assumption) | exact zf_lt4 (by assumption) | exact zw_lt (by assumption) | exact zw_lt1 (by assumption) | exact zw_lt2 (by assumption) | exact zw_lt3 (by assumption) | exact zw_lt4 (by assumption) | exact zt_lt (by assumption)) (by decide) (by decide) lfRX7_26 rfl (by first | rfl | assumption | exact zf_p4 _ (by assumption) | exact zf_p5 _ (by assumption) | exact zf_p6 _ (by assumption) | exact zf_p7 _ (by assumption) | exact zw_p1 _ (by assumption) | exact zw_p2 _ (by assumption) | exact zw_p3 _ (by assumption) | exact zw_p4 _ (by assumption)) ?_
        refine ev_aload_n (q := 61) dX7_countIfAway_60 rfl rfl ?_
        refine ev_getR (q := 64) (ci := 7) (f := 9) dX7_countIfAway_61 rfl (by first | rfl | assumption | exact zf_kd (by assumption) | exact zw_kd (by assumption) | exact zt_kd (by assumption)) (by first | decide | exact zf_lt (by assumption) | exact zf_lt1 (by assumption) | exact zf_lt2 (by assumption) | exact zf_lt3 (by assumption) | exact zf_lt4 (by assumption) | exact zw_lt (by assumption) | exact zw_lt1 (by assumption) | exact zw_lt2 (by assumption) | exact zw_lt3 (by assumption) | exact zw_lt4 (by assumption) | exact zt_lt (by assumption)) (by decide) (by decide) lfRX7_66 rfl (by first | rfl | assumption | exact zf_p4 _ (by assumption) | exact zf_p5 _ (by assumption) | exact zf_p6 _ (by assumption) | exact zf_p7 _ (by assumption) | exact zw_p1 _ (by assumption) | exact zw_p2 _ (by assumption) | exact zw_p3 _ (by assumption) | exact zw_p4 _ (by assumption)) ?_
        refine ev_pV (q := 67) (ci := 5) dX7_countIfAway_64 rfl okX5_countByLaw lmRX7_273 imX5_countByLaw seX5_countByLaw (by first | rfl | assumption | exact zf_kd (by assumption) | exact zw_kd (by assumption) | exact zt_kd (by assumption)) (by first | decide | exact zf_lt (by assumption) | exact zf_lt1 (by assumption) | exact zf_lt2 (by assumption) | exact zf_lt3 (by assumption) | exact zf_lt4 (by assumption) | exact zw_lt (by assumption) | exact zw_lt1 (by assumption) | exact zw_lt2 (by assumption) | exact zw_lt3 (by assumption) | exact zw_lt4 (by assumption) | exact zt_lt (by assumption)) (by decide) rfl (c_X5_countByLaw G fo I1 (zV I) (Or.inl rfl) hfF hN8 hN1 hnm1) (by decide) rfl rfl (Nat.le_of_ble_eq_true rfl) ?_
        exact ev_iret dX7_countIfAway_67 rfl (by first | rfl | exact zb_nar _ | assumption) (⟨by rw [hf _ (zFne0 (by decide)), hs.law, h0, h1]; rfl, rfl, rfl, hf⟩)
      · have hlt_i : i < N := by rw [hN1, nI_leI (by omega) (by omega)] at h17; omega
        refine ev_iload_n (q := 21) dX7_countIfAway_20 rfl rfl ?_
        refine ev_iload_n (q := 22) dX7_countIfAway_21 rfl rfl ?_
        refine ev_iconst (q := 23) ((-1) : Int32) dX7_countIfAway_22 rfl (by decide) ?_
        refine ev_ixor (q := 24) dX7_countIfAway_23 rfl ?_
        refine ev_iand (q := 25) dX7_countIfAway_24 rfl ?_
        refine ev_iload_n (q := 26) dX7_countIfAway_25 rfl rfl ?_
        refine ev_pS (q := 29) dX7_countIfAway_26 rfl okX7_has lmRX7_220 smX7_has (c_X7_has G _ _ _ _ _) (by decide) rfl rfl (Nat.le_of_ble_eq_true rfl) ?_
        refine ev_if_eq (q := 32) (t := 50) dX7_countIfAway_29 rfl (by decide) (fun h29 => ?_) (fun h29 => ?_)
        · refine ev_iinc (q := 53) (1 : Int32) dX7_countIfAway_50 rfl rfl (by decide) (by decide) ?_
          refine ev_goto (t := 9) dX7_countIfAway_53 (by decide) ?_
          rw [nI_1]
          first | exact ih (i + 1) _ (by omega) (by omega) (fun c hc => by rw [zu_other hc, zu_other hc]; exact hf c hc) (by rw [← zsum_s h0 (by simpa [zb_0] using h29)]; simp [zu]) (by rw [← zor_s h1 (by simpa [zb_0] using h29)]; simp [zu]) | exact ih (i + 1) _ (by omega) (by omega) hf (zsum_n h0 (by simpa [zb_0] using h29)) (zor_n h1 (by simpa [zb_0] using h29))
        · refine ev_aload_n (q := 33) dX7_countIfAway_32 rfl rfl ?_
          refine ev_getR (q := 36) (ci := 7) (f := 2) dX7_countIfAway_33 rfl (by first | rfl | assumption | exact zf_kd (by assumption) | exact zw_kd (by assumption) | exact zt_kd (by assumption)) (by first | decide | exact zf_lt (by assumption) | exact zf_lt1 (by assumption) | exact zf_lt2 (by assumption) | exact zf_lt3 (by assumption) | exact zf_lt4 (by assumption) | exact zw_lt (by assumption) | exact zw_lt1 (by assumption) | exact zw_lt2 (by assumption) | exact zw_lt3 (by assumption) | exact zw_lt4 (by assumption) | exact zt_lt (by assumption)) (by decide) (by decide) lfRX7_26 rfl (by first | rfl | assumption | exact zf_p4 _ (by assumption) | exact zf_p5 _ (by assumption) | exact zf_p6 _ (by assumption) | exact zf_p7 _ (by assumption) | exact zw_p1 _ (by assumption) | exact zw_p2 _ (by assumption) | exact zw_p3 _ (by assumption) | exact zw_p4 _ (by assumption)) ?_
          refine ev_aload_n (q := 37) dX7_countIfAway_36 rfl rfl ?_
          refine ev_getR (q := 40) (ci := 7) (f := 9) dX7_countIfAway_37 rfl (by first | rfl | assumption | exact zf_kd (by assumption) | exact zw_kd (by assumption) | exact zt_kd (by assumption)) (by first | decide | exact zf_lt (by assumption) | exact zf_lt1 (by assumption) | exact zf_lt2 (by assumption) | exact zf_lt3 (by assumption) | exact zf_lt4 (by assumption) | exact zw_lt (by assumption) | exact zw_lt1 (by assumption) | exact zw_lt2 (by assumption) | exact zw_lt3 (by assumption) | exact zw_lt4 (by assumption) | exact zt_lt (by assumption)) (by decide) (by decide) lfRX7_66 rfl (by first | rfl | assumption | exact zf_p4 _ (by assumption) | exact zf_p5 _ (by assumption) | exact zf_p6 _ (by assumption) | exact zf_p7 _ (by assumption) | exact zw_p1 _ (by assumption) | exact zw_p2 _ (by assumption) | exact zw_p3 _ (by assumption) | exact zw_p4 _ (by assumption)) ?_
          refine ev_getR (q := 43) (ci := 0) (f := 7) dX7_countIfAway_40 rfl (by first | rfl | assumption | exact zf_kd (by assumption) | exact zw_kd (by assumption) | exact zt_kd (by assumption)) (by first | decide | exact zf_lt (by assumption) | exact zf_lt1 (by assumption) | exact zf_lt2 (by assumption) | exact zf_lt3 (by assumption) | exact zf_lt4 (by assumption) | exact zw_lt (by assumption) | exact zw_lt1 (by assumption) | exact zw_lt2 (by assumption) | exact zw_lt3 (by assumption) | exact zw_lt4 (by assumption) | exact zt_lt (by assumption)) (by decide) (by decide) lfRX7_142 rfl (by first | rfl | assumption | exact zf_p4 _ (by assumption) | exact zf_p5 _ (by assumption) | exact zf_p6 _ (by assumption) | exact zf_p7 _ (by assumption) | exact zw_p1 _ (by assumption) | exact zw_p2 _ (by assumption) | exact zw_p3 _ (by assumption) | exact zw_p4 _ (by assumption)) ?_
          refine ev_iload_n (q := 44) dX7_countIfAway_43 rfl rfl ?_
          refine ev_ialdN (q := 45) dX7_countIfAway_44 rfl (by first | rfl | assumption | exact zf_kd1 (by assumption) | exact zf_kd2 (by assumption) | exact zf_kd3 (by assumption) | exact zf_kd4 (by assumption) | exact zw_kd1 (by assumption) | exact zw_kd2 (by assumption) | exact zw_kd3 (by assumption) | exact zw_kd4 (by assumption)) (by first | decide | exact zf_lt (by assumption) | exact zf_lt1 (by assumption) | exact zf_lt2 (by assumption) | exact zf_lt3 (by assumption) | exact zf_lt4 (by assumption) | exact zw_lt (by assumption) | exact zw_lt1 (by assumption) | exact zw_lt2 (by assumption) | exact zw_lt3 (by assumption) | exact zw_lt4 (by assumption) | exact zt_lt (by assumption)) (by first | omega | assumption) ?_
          rw [hf _ (zFne (by decide) 4), hs.ask hlt_i]
          refine ev_iload_n (q := 46) dX7_countIfAway_45 rfl rfl ?_
          refine ev_iand (q := 47) dX7_countIfAway_46 rfl ?_
          refine ev_cV (q := 50) (ci := 5) dX7_countIfAway_47 rfl okX5_addMissed lmRX7_269 imX5_addMissed seX5_addMissed (by first | rfl | assumption | exact zf_kd (by assumption) | exact zw_kd (by assumption) | exact zt_kd (by assumption)) (by first | decide | exact zf_lt (by assumption) | exact zf_lt1 (by assumption) | exact zf_lt2 (by assumption) | exact zf_lt3 (by assumption) | exact zf_lt4 (by assumption) | exact zw_lt (by assumption) | exact zw_lt1 (by assumption) | exact zw_lt2 (by assumption) | exact zw_lt3 (by assumption) | exact zw_lt4 (by assumption) | exact zt_lt (by assumption)) (by decide) rfl (c_X5_addMissed G fo _ (Or.inl rfl) _) (by decide) rfl rfl (Nat.le_of_ble_eq_true rfl) (fun v47 n47 I47 P47 hR47 => ?_)
          obtain ⟨rfl, rfl, rfl, rfl⟩ := hR47
          refine ev_iinc (q := 53) (1 : Int32) dX7_countIfAway_50 rfl rfl (by decide) (by decide) ?_
          refine ev_goto (t := 9) dX7_countIfAway_53 (by decide) ?_
          rw [nI_1]
          first | exact ih (i + 1) _ (by omega) (by omega) (fun c hc => by rw [zu_other hc, zu_other hc]; exact hf c hc) (by rw [← zsum_s h0 (by simpa [zb_0] using h29)]; simp [zu]) (by rw [← zor_s h1 (by simpa [zb_0] using h29)]; simp [zu]) | exact ih (i + 1) _ (by omega) (by omega) hf (zsum_n h0 (by simpa [zb_0] using h29)) (zor_n h1 (by simpa [zb_0] using h29))
  refine ev_aload_n (q := 1) dX7_countIfAway_0 rfl rfl ?_
  refine ev_getR (q := 4) (ci := 7) (f := 2) dX7_countIfAway_1 rfl (by first | rfl | assumption | exact zf_kd (by assumption) | exact zw_kd (by assumption) | exact zt_kd (by assumption)) (by first | decide | exact zf_lt (by assumption) | exact zf_lt1 (by assumption) | exact zf_lt2 (by assumption) | exact zf_lt3 (by assumption) | exact zf_lt4 (by assumption) | exact zw_lt (by assumption) | exact zw_lt1 (by assumption) | exact zw_lt2 (by assumption) | exact zw_lt3 (by assumption) | exact zw_lt4 (by assumption) | exact zt_lt (by assumption)) (by decide) (by decide) lfRX7_26 rfl (by first | rfl | assumption | exact zf_p4 _ (by assumption) | exact zf_p5 _ (by assumption) | exact zf_p6 _ (by assumption) | exact zf_p7 _ (by assumption) | exact zw_p1 _ (by assumption) | exact zw_p2 _ (by assumption) | exact zw_p3 _ (by assumption) | exact zw_p4 _ (by assumption)) ?_
  refine ev_cV (q := 7) (ci := 5) dX7_countIfAway_4 rfl okX5_clear lmRX7_268 imX5_clear seX5_clear (by first | rfl | assumption | exact zf_kd (by assumption) | exact zw_kd (by assumption) | exact zt_kd (by assumption)) (by first | decide | exact zf_lt (by assumption) | exact zf_lt1 (by assumption) | exact zf_lt2 (by assumption) | exact zf_lt3 (by assumption) | exact zf_lt4 (by assumption) | exact zw_lt (by assumption) | exact zw_lt1 (by assumption) | exact zw_lt2 (by assumption) | exact zw_lt3 (by assumption) | exact zw_lt4 (by assumption) | exact zt_lt (by assumption)) (by decide) rfl (c_X5_clear G fo _ (Or.inl rfl)) (by decide) rfl rfl (Nat.le_of_ble_eq_true rfl) (fun v4 n4 I4 P4 hR4 => ?_)
  obtain ⟨rfl, rfl, rfl, rfl⟩ := hR4
  refine ev_iconst (q := 8) (0 : Int32) dX7_countIfAway_7 rfl (by decide) ?_
  refine ev_istore_n (q := 9) dX7_countIfAway_8 rfl (by decide) ?_
  exact lp9 (N + 1) 0 _ (by omega) (by omega) (fun c hc => by rw [zu_other hc, zu_other hc]) (by simp [zu, zsum]) (by simp [zu, zor])
set_option maxHeartbeats 4000000 in
set_option maxRecDepth 100000 in
theorem c_X7_mostCountByLies (G : zq_G) (fo : Bool) (I : zq_I) {N T Y : Nat} (hs : zS fo N T Y I) {t : Nat} (ht : t < 4) : zq_Met G mX7_mostCountByLies 4 0 0 [.ref 0, .int (nI t)] 138 I (zPs fo) (zq_f4 (some (.int (zCnt (I 119 4) (zV I) N (fun i => zRb (zV I) N i (I 119 15)) (fun i => (vH (zV I) i == nI t) && zTh (zV I) i) + I 128 t))) fo I) := by
  refine zq_Met.of okX7_mostCountByLies (Nat.le_of_ble_eq_true rfl) ?_
  have hN8 := hs.n8
  have hN := hs.ppl
  have hfF := zF_is fo
  have lp9 : ∀ (k i : Nat) (I1 : zq_I), N + 1 ≤ i + k → i ≤ N → (∀ c, c ≠ 4 → I1 c = I c) → I1 4 0 = zsum (fun i => zpop ((fun i => zRb (zV I) N i (I 119 15)) i)) (fun i => (vH (zV I) i == nI t) && zTh (zV I) i) i → I1 4 1 = zor (fun i => zRb (zV I) N i (I 119 15)) (fun i => (vH (zV I) i == nI t) && zTh (zV I) i) i → zq_E G mX7_mostCountByLies 4 0 0 false 9 [some (.ref 0), some (.int (nI t)), some (.int (nI i))] [] 138 I1 (zPs fo) (zq_f4 (some (.int (zCnt (I 119 4) (zV I) N (fun i => zRb (zV I) N i (I 119 15)) (fun i => (vH (zV I) i == nI t) && zTh (zV I) i) + I 128 t))) fo I) := by
    intro k
    induction k with
    | zero => intro i I1 hk hi; exact absurd hk (by omega)
    | succ k ih =>
      intro i I1 hk hi hf h0 h1
      have hN1 : I1 (zF fo) 2 = nI N := by rw [hf _ (zFne0 (by decide))]; exact hN
      have hnm1 : ∀ p, p < N → I1 (zF fo + 2) p = vN (zV I) p := fun p hp => by rw [hf _ (zFne (by decide) 2)]; exact hs.nam hp
      have hFC : zFC fo I I1 := z4_FC hf
      have hs1 := hFC.S hs
      have hV := hFC.V
      refine ev_iload_n (q := 10) dX7_mostCountByLies_9 rfl rfl ?_
      refine ev_aload_n (q := 11) dX7_mostCountByLies_10 rfl rfl ?_
      refine ev_getR (q := 14) (ci := 7) (f := 9) dX7_mostCountByLies_11 rfl (by first | rfl | assumption | exact zf_kd (by assumption) | exact zw_kd (by assumption) | exact zt_kd (by assumption)) (by first | decide | exact zf_lt (by assumption) | exact zf_lt1 (by assumption) | exact zf_lt2 (by assumption) | exact zf_lt3 (by assumption) | exact zf_lt4 (by assumption) | exact zw_lt (by assumption) | exact zw_lt1 (by assumption) | exact zw_lt2 (by assumption) | exact zw_lt3 (by assumption) | exact zw_lt4 (by assumption) | exact zt_lt (by assumption)) (by decide) (by decide) lfRX7_66 rfl (by first | rfl | assumption | exact zf_p4 _ (by assumption) | exact zf_p5 _ (by assumption) | exact zf_p6 _ (by assumption) | exact zf_p7 _ (by assumption) | exact zw_p1 _ (by assumption) | exact zw_p2 _ (by assumption) | exact zw_p3 _ (by assumption) | exact zw_p4 _ (by assumption)) ?_
      refine ev_getI (q := 17) (ci := 0) (f := 2) dX7_mostCountByLies_14 rfl (by first | rfl | assumption | exact zf_kd (by assumption) | exact zw_kd (by assumption) | exact zt_kd (by assumption)) (by first | decide | exact zf_lt (by assumption) | exact zf_lt1 (by assumption) | exact zf_lt2 (by assumption) | exact zf_lt3 (by assumption) | exact zf_lt4 (by assumption) | exact zw_lt (by assumption) | exact zw_lt1 (by assumption) | exact zw_lt2 (by assumption) | exact zw_lt3 (by assumption) | exact zw_lt4 (by assumption) | exact zt_lt (by assumption)) (by decide) (by decide) lfRX7_93 rfl ?_
      refine ev_icmp_ge (q := 20) (t := 66) dX7_mostCountByLies_17 rfl (by decide) (fun h17 => ?_) (fun h17 => ?_)
      · obtain rfl : i = N := by rw [hN1, nI_leI (by omega) (by omega)] at h17; omega
        refine ev_aload_n (q := 67) dX7_mostCountByLies_66 rfl rfl ?_
        refine ev_getR (q := 70) (ci := 7) (f := 2) dX7_mostCountByLies_67 rfl (by first | rfl | assumption | exact zf_kd (by assumption) | exact zw_kd (by assumption) | exact zt_kd (by assumption)) (by first | decide | exact zf_lt (by assumption) | exact zf_lt1 (by assumption) | exact zf_lt2 (by assumption) | exact zf_lt3 (by assumption) | exact zf_lt4 (by assumption) | exact zw_lt (by assumption) | exact zw_lt1 (by assumption) | exact zw_lt2 (by assumption) | exact zw_lt3 (by assumption) | exact zw_lt4 (by assumption) | exact zt_lt (by assumption)) (by decide) (by decide) lfRX7_26 rfl (by first | rfl | assumption | exact zf_p4 _ (by assumption) | exact zf_p5 _ (by assumption) | exact zf_p6 _ (by assumption) | exact zf_p7 _ (by assumption) | exact zw_p1 _ (by assumption) | exact zw_p2 _ (by assumption) | exact zw_p3 _ (by assumption) | exact zw_p4 _ (by assumption)) ?_
        refine ev_aload_n (q := 71) dX7_mostCountByLies_70 rfl rfl ?_
        refine ev_getR (q := 74) (ci := 7) (f := 9) dX7_mostCountByLies_71 rfl (by first | rfl | assumption | exact zf_kd (by assumption) | exact zw_kd (by assumption) | exact zt_kd (by assumption)) (by first | decide | exact zf_lt (by assumption) | exact zf_lt1 (by assumption) | exact zf_lt2 (by assumption) | exact zf_lt3 (by assumption) | exact zf_lt4 (by assumption) | exact zw_lt (by assumption) | exact zw_lt1 (by assumption) | exact zw_lt2 (by assumption) | exact zw_lt3 (by assumption) | exact zw_lt4 (by assumption) | exact zt_lt (by assumption)) (by decide) (by decide) lfRX7_66 rfl (by first | rfl | assumption | exact zf_p4 _ (by assumption) | exact zf_p5 _ (by assumption) | exact zf_p6 _ (by assumption) | exact zf_p7 _ (by assumption) | exact zw_p1 _ (by assumption) | exact zw_p2 _ (by assumption) | exact zw_p3 _ (by assumption) | exact zw_p4 _ (by assumption)) ?_
        refine ev_pV (q := 77) (ci := 5) dX7_mostCountByLies_74 rfl okX5_countByLaw lmRX7_273 imX5_countByLaw seX5_countByLaw (by first | rfl | assumption | exact zf_kd (by assumption) | exact zw_kd (by assumption) | exact zt_kd (by assumption)) (by first | decide | exact zf_lt (by assumption) | exact zf_lt1 (by assumption) | exact zf_lt2 (by assumption) | exact zf_lt3 (by assumption) | exact zf_lt4 (by assumption) | exact zw_lt (by assumption) | exact zw_lt1 (by assumption) | exact zw_lt2 (by assumption) | exact zw_lt3 (by assumption) | exact zw_lt4 (by assumption) | exact zt_lt (by assumption)) (by decide) rfl (c_X5_countByLaw G fo I1 (zV I) (Or.inl rfl) hfF hN8 hN1 hnm1) (by decide) rfl rfl (Nat.le_of_ble_eq_true rfl) ?_
        refine ev_aload_n (q := 78) dX7_mostCountByLies_77 rfl rfl ?_
        refine ev_getR (q := 81) (ci := 7) (f := 5) dX7_mostCountByLies_78 rfl (by first | rfl | assumption | exact zf_kd (by assumption) | exact zw_kd (by assumption) | exact zt_kd (by assumption)) (by first | decide | exact zf_lt (by assumption) | exact zf_lt1 (by assumption) | exact zf_lt2 (by assumption) | exact zf_lt3 (by assumption) | exact zf_lt4 (by assumption) | exact zw_lt (by assumption) | exact zw_lt1 (by assumption) | exact zw_lt2 (by assumption) | exact zw_lt3 (by assumption) | exact zw_lt4 (by assumption) | exact zt_lt (by assumption)) (by decide) (by decide) lfRX7_47 rfl (by first | rfl | assumption | exact zf_p4 _ (by assumption) | exact zf_p5 _ (by assumption) | exact zf_p6 _ (by assumption) | exact zf_p7 _ (by assumption) | exact zw_p1 _ (by assumption) | exact zw_p2 _ (by assumption) | exact zw_p3 _ (by assumption) | exact zw_p4 _ (by assumption)) ?_
        refine ev_getR (q := 84) (ci := 6) (f := 4) dX7_mostCountByLies_81 rfl (by first | rfl | assumption | exact zf_kd (by assumption) | exact zw_kd (by assumption) | exact zt_kd (by assumption)) (by first | decide | exact zf_lt (by assumption) | exact zf_lt1 (by assumption) | exact zf_lt2 (by assumption) | exact zf_lt3 (by assumption) | exact zf_lt4 (by assumption) | exact zw_lt (by assumption) | exact zw_lt1 (by assumption) | exact zw_lt2 (by assumption) | exact zw_lt3 (by assumption) | exact zw_lt4 (by assumption) | exact zt_lt (by assumption)) (by decide) (by decide) lfRX7_158 rfl (by first | rfl | assumption | exact zf_p4 _ (by assumption) | exact zf_p5 _ (by assumption) | exact zf_p6 _ (by assumption) | exact zf_p7 _ (by assumption) | exact zw_p1 _ (by assumption) | exact zw_p2 _ (by assumption) | exact zw_p3 _ (by assumption) | exact zw_p4 _ (by assumption)) ?_
        refine ev_iload_n (q := 85) dX7_mostCountByLies_84 rfl rfl ?_
        refine ev_ialdN (q := 86) dX7_mostCountByLies_85 rfl (by first | rfl | assumption | exact zf_kd1 (by assumption) | exact zf_kd2 (by assumption) | exact zf_kd3 (by assumption) | exact zf_kd4 (by assumption) | exact zw_kd1 (by assumption) | exact zw_kd2 (by assumption) | exact zw_kd3 (by assumption) | exact zw_kd4 (by assumption)) (by first | decide | exact zf_lt (by assumption) | exact zf_lt1 (by assumption) | exact zf_lt2 (by assumption) | exact zf_lt3 (by assumption) | exact zf_lt4 (by assumption) | exact zw_lt (by assumption) | exact zw_lt1 (by assumption) | exact zw_lt2 (by assumption) | exact zw_lt3 (by assumption) | exact zw_lt4 (by assumption) | exact zt_lt (by assumption)) (by first | omega | assumption) ?_
        refine ev_iadd (q := 87) dX7_mostCountByLies_86 rfl ?_
        exact ev_iret dX7_mostCountByLies_87 rfl (by first | rfl | exact zb_nar _ | assumption) (⟨by rw [hf _ (zFne0 (by decide)), hs.law, h0, h1, hf 95 (by decide), hs.rum ht]; rfl, rfl, rfl, hf⟩)
      · have hlt_i : i < N := by rw [hN1, nI_leI (by omega) (by omega)] at h17; omega
        refine ev_aload_n (q := 21) dX7_mostCountByLies_20 rfl rfl ?_
        refine ev_getR (q := 24) (ci := 7) (f := 9) dX7_mostCountByLies_21 rfl (by first | rfl | assumption | exact zf_kd (by assumption) | exact zw_kd (by assumption) | exact zt_kd (by assumption)) (by first | decide | exact zf_lt (by assumption) | exact zf_lt1 (by assumption) | exact zf_lt2 (by assumption) | exact zf_lt3 (by assumption) | exact zf_lt4 (by assumption) | exact zw_lt (by assumption) | exact zw_lt1 (by assumption) | exact zw_lt2 (by assumption) | exact zw_lt3 (by assumption) | exact zw_lt4 (by assumption) | exact zt_lt (by assumption)) (by decide) (by decide) lfRX7_66 rfl (by first | rfl | assumption | exact zf_p4 _ (by assumption) | exact zf_p5 _ (by assumption) | exact zf_p6 _ (by assumption) | exact zf_p7 _ (by assumption) | exact zw_p1 _ (by assumption) | exact zw_p2 _ (by assumption) | exact zw_p3 _ (by assumption) | exact zw_p4 _ (by assumption)) ?_
        refine ev_getR (q := 27) (ci := 0) (f := 4) dX7_mostCountByLies_24 rfl (by first | rfl | assumption | exact zf_kd (by assumption) | exact zw_kd (by assumption) | exact zt_kd (by assumption)) (by first | decide | exact zf_lt (by assumption) | exact zf_lt1 (by assumption) | exact zf_lt2 (by assumption) | exact zf_lt3 (by assumption) | exact zf_lt4 (by assumption) | exact zw_lt (by assumption) | exact zw_lt1 (by assumption) | exact zw_lt2 (by assumption) | exact zw_lt3 (by assumption) | exact zw_lt4 (by assumption) | exact zt_lt (by assumption)) (by decide) (by decide) lfRX7_124 rfl (by first | rfl | assumption | exact zf_p4 _ (by assumption) | exact zf_p5 _ (by assumption) | exact zf_p6 _ (by assumption) | exact zf_p7 _ (by assumption) | exact zw_p1 _ (by assumption) | exact zw_p2 _ (by assumption) | exact zw_p3 _ (by assumption) | exact zw_p4 _ (by assumption)) ?_
        refine ev_iload_n (q := 28) dX7_mostCountByLies_27 rfl rfl ?_
        refine ev_ialdN (q := 29) dX7_mostCountByLies_28 rfl (by first | rfl | assumption | exact zf_kd1 (by assumption) | exact zf_kd2 (by assumption) | exact zf_kd3 (by assumption) | exact zf_kd4 (by assumption) | exact zw_kd1 (by assumption) | exact zw_kd2 (by assumption) | exact zw_kd3 (by assumption) | exact zw_kd4 (by assumption)) (by first | decide | exact zf_lt (by assumption) | exact zf_lt1 (by assumption) | exact zf_lt2 (by assumption) | exact zf_lt3 (by assumption) | exact zf_lt4 (by assumption) | exact zw_lt (by assumption) | exact zw_lt1 (by assumption) | exact zw_lt2 (by assumption) | exact zw_lt3 (by assumption) | exact zw_lt4 (by assumption) | exact zt_lt (by assumption)) (by first | omega | assumption) ?_
        refine ev_iload_n (q := 30) dX7_mostCountByLies_29 rfl rfl ?_
        refine ev_icmp_ne (q := 33) (t := 60) dX7_mostCountByLies_30 rfl (by decide) (fun h30 => ?_) (fun h30 => ?_)
        · rw [hf _ (zFne (by decide) 1), hs.hom hlt_i] at h30
          refine ev_iinc (q := 63) (1 : Int32) dX7_mostCountByLies_60 rfl rfl (by decide) (by decide) ?_
          refine ev_goto (t := 9) dX7_mostCountByLies_63 (by decide) ?_
          rw [nI_1]
          first | exact ih (i + 1) _ (by omega) (by omega) (fun c hc => by rw [zu_other hc, zu_other hc]; exact hf c hc) (by rw [← zsum_s h0 (by simp [*])]; simp [zu]) (by rw [← zor_s h1 (by simp [*])]; simp [zu]) | exact ih (i + 1) _ (by omega) (by omega) hf (zsum_n h0 (by simp [*])) (zor_n h1 (by simp [*]))
        · rw [hf _ (zFne (by decide) 1), hs.hom hlt_i] at h30
          refine ev_aload_n (q := 34) dX7_mostCountByLies_33 rfl rfl ?_
          refine ev_iload_n (q := 35) dX7_mostCountByLies_34 rfl rfl ?_
          refine ev_pV (q := 38) (ci := 7) dX7_mostCountByLies_35 rfl okX7_isAtHome lmRX7_253 imX7_isAtHome seX7_isAtHome (by first | rfl | assumption | exact zf_kd (by assumption) | exact zw_kd (by assumption) | exact zt_kd (by assumption)) (by first | decide | exact zf_lt (by assumption) | exact zf_lt1 (by assumption) | exact zf_lt2 (by assumption) | exact zf_lt3 (by assumption) | exact zf_lt4 (by assumption) | exact zw_lt (by assumption) | exact zw_lt1 (by assumption) | exact zw_lt2 (by assumption) | exact zw_lt3 (by assumption) | exact zw_lt4 (by assumption) | exact zt_lt (by assumption)) (by decide) rfl (c_X7_isAtHome G fo I1 hs1 hlt_i) (by decide) rfl rfl (Nat.le_of_ble_eq_true rfl) ?_
          refine ev_if_eq (q := 41) (t := 60) dX7_mostCountByLies_38 rfl (by decide) (fun h38 => ?_) (fun h38 => ?_)
          · simp only [zb_0, hV] at h38
            refine ev_iinc (q := 63) (1 : Int32) dX7_mostCountByLies_60 rfl rfl (by decide) (by decide) ?_
            refine ev_goto (t := 9) dX7_mostCountByLies_63 (by decide) ?_
            rw [nI_1]
            first | exact ih (i + 1) _ (by omega) (by omega) (fun c hc => by rw [zu_other hc, zu_other hc]; exact hf c hc) (by rw [← zsum_s h0 (by simp [*])]; simp [zu]) (by rw [← zor_s h1 (by simp [*])]; simp [zu]) | exact ih (i + 1) _ (by omega) (by omega) hf (zsum_n h0 (by simp [*])) (zor_n h1 (by simp [*]))
          · simp only [zb_0, hV] at h38
            refine ev_aload_n (q := 42) dX7_mostCountByLies_41 rfl rfl ?_
            refine ev_getR (q := 45) (ci := 7) (f := 2) dX7_mostCountByLies_42 rfl (by first | rfl | assumption | exact zf_kd (by assumption) | exact zw_kd (by assumption) | exact zt_kd (by assumption)) (by first | decide | exact zf_lt (by assumption) | exact zf_lt1 (by assumption) | exact zf_lt2 (by assumption) | exact zf_lt3 (by assumption) | exact zf_lt4 (by assumption) | exact zw_lt (by assumption) | exact zw_lt1 (by assumption) | exact zw_lt2 (by assumption) | exact zw_lt3 (by assumption) | exact zw_lt4 (by assumption) | exact zt_lt (by assumption)) (by decide) (by decide) lfRX7_26 rfl (by first | rfl | assumption | exact zf_p4 _ (by assumption) | exact zf_p5 _ (by assumption) | exact zf_p6 _ (by assumption) | exact zf_p7 _ (by assumption) | exact zw_p1 _ (by assumption) | exact zw_p2 _ (by assumption) | exact zw_p3 _ (by assumption) | exact zw_p4 _ (by assumption)) ?_
            refine ev_aload_n (q := 46) dX7_mostCountByLies_45 rfl rfl ?_
            refine ev_iload_n (q := 47) dX7_mostCountByLies_46 rfl rfl ?_
            refine ev_aload_n (q := 48) dX7_mostCountByLies_47 rfl rfl ?_
            refine ev_getR (q := 51) (ci := 7) (f := 5) dX7_mostCountByLies_48 rfl (by first | rfl | assumption | exact zf_kd (by assumption) | exact zw_kd (by assumption) | exact zt_kd (by assumption)) (by first | decide | exact zf_lt (by assumption) | exact zf_lt1 (by assumption) | exact zf_lt2 (by assumption) | exact zf_lt3 (by assumption) | exact zf_lt4 (by assumption) | exact zw_lt (by assumption) | exact zw_lt1 (by assumption) | exact zw_lt2 (by assumption) | exact zw_lt3 (by assumption) | exact zw_lt4 (by assumption) | exact zt_lt (by assumption)) (by decide) (by decide) lfRX7_47 rfl (by first | rfl | assumption | exact zf_p4 _ (by assumption) | exact zf_p5 _ (by assumption) | exact zf_p6 _ (by assumption) | exact zf_p7 _ (by assumption) | exact zw_p1 _ (by assumption) | exact zw_p2 _ (by assumption) | exact zw_p3 _ (by assumption) | exact zw_p4 _ (by assumption)) ?_
            refine ev_getI (q := 54) (ci := 6) (f := 0) dX7_mostCountByLies_51 rfl (by first | rfl | assumption | exact zf_kd (by assumption) | exact zw_kd (by assumption) | exact zt_kd (by assumption)) (by first | decide | exact zf_lt (by assumption) | exact zf_lt1 (by assumption) | exact zf_lt2 (by assumption) | exact zf_lt3 (by assumption) | exact zf_lt4 (by assumption) | exact zw_lt (by assumption) | exact zw_lt1 (by assumption) | exact zw_lt2 (by assumption) | exact zw_lt3 (by assumption) | exact zw_lt4 (by assumption) | exact zt_lt (by assumption)) (by decide) (by decide) lfRX7_103 rfl ?_
            refine ev_pV (q := 57) (ci := 7) dX7_mostCountByLies_54 rfl okX7_rememberedBy lmRX7_259 imX7_rememberedBy seX7_rememberedBy (by first | rfl | assumption | exact zf_kd (by assumption) | exact zw_kd (by assumption) | exact zt_kd (by assumption)) (by first | decide | exact zf_lt (by assumption) | exact zf_lt1 (by assumption) | exact zf_lt2 (by assumption) | exact zf_lt3 (by assumption) | exact zf_lt4 (by assumption) | exact zw_lt (by assumption) | exact zw_lt1 (by assumption) | exact zw_lt2 (by assumption) | exact zw_lt3 (by assumption) | exact zw_lt4 (by assumption) | exact zt_lt (by assumption)) (by decide) rfl (c_X7_rememberedBy G fo I1 hs1 hlt_i _) (by decide) rfl rfl (Nat.le_of_ble_eq_true rfl) ?_
            rw [hV, hf 91 (by decide), hs.yea]
            refine ev_cV (q := 60) (ci := 5) dX7_mostCountByLies_57 rfl okX5_addMissed lmRX7_269 imX5_addMissed seX5_addMissed (by first | rfl | assumption | exact zf_kd (by assumption) | exact zw_kd (by assumption) | exact zt_kd (by assumption)) (by first | decide | exact zf_lt (by assumption) | exact zf_lt1 (by assumption) | exact zf_lt2 (by assumption) | exact zf_lt3 (by assumption) | exact zf_lt4 (by assumption) | exact zw_lt (by assumption) | exact zw_lt1 (by assumption) | exact zw_lt2 (by assumption) | exact zw_lt3 (by assumption) | exact zw_lt4 (by assumption) | exact zt_lt (by assumption)) (by decide) rfl (c_X5_addMissed G fo _ (Or.inl rfl) _) (by decide) rfl rfl (Nat.le_of_ble_eq_true rfl) (fun v57 n57 I57 P57 hR57 => ?_)
            obtain ⟨rfl, rfl, rfl, rfl⟩ := hR57
            refine ev_iinc (q := 63) (1 : Int32) dX7_mostCountByLies_60 rfl rfl (by decide) (by decide) ?_
            refine ev_goto (t := 9) dX7_mostCountByLies_63 (by decide) ?_
            rw [nI_1]
            first | exact ih (i + 1) _ (by omega) (by omega) (fun c hc => by rw [zu_other hc, zu_other hc]; exact hf c hc) (by rw [← zsum_s h0 (by simp [*])]; simp [zu]) (by rw [← zor_s h1 (by simp [*])]; simp [zu]) | exact ih (i + 1) _ (by omega) (by omega) hf (zsum_n h0 (by simp [*])) (zor_n h1 (by simp [*]))
  refine ev_aload_n (q := 1) dX7_mostCountByLies_0 rfl rfl ?_
  refine ev_getR (q := 4) (ci := 7) (f := 2) dX7_mostCountByLies_1 rfl (by first | rfl | assumption | exact zf_kd (by assumption) | exact zw_kd (by assumption) | exact zt_kd (by assumption)) (by first | decide | exact zf_lt (by assumption) | exact zf_lt1 (by assumption) | exact zf_lt2 (by assumption) | exact zf_lt3 (by assumption) | exact zf_lt4 (by assumption) | exact zw_lt (by assumption) | exact zw_lt1 (by assumption) | exact zw_lt2 (by assumption) | exact zw_lt3 (by assumption) | exact zw_lt4 (by assumption) | exact zt_lt (by assumption)) (by decide) (by decide) lfRX7_26 rfl (by first | rfl | assumption | exact zf_p4 _ (by assumption) | exact zf_p5 _ (by assumption) | exact zf_p6 _ (by assumption) | exact zf_p7 _ (by assumption) | exact zw_p1 _ (by assumption) | exact zw_p2 _ (by assumption) | exact zw_p3 _ (by assumption) | exact zw_p4 _ (by assumption)) ?_
  refine ev_cV (q := 7) (ci := 5) dX7_mostCountByLies_4 rfl okX5_clear lmRX7_268 imX5_clear seX5_clear (by first | rfl | assumption | exact zf_kd (by assumption) | exact zw_kd (by assumption) | exact zt_kd (by assumption)) (by first | decide | exact zf_lt (by assumption) | exact zf_lt1 (by assumption) | exact zf_lt2 (by assumption) | exact zf_lt3 (by assumption) | exact zf_lt4 (by assumption) | exact zw_lt (by assumption) | exact zw_lt1 (by assumption) | exact zw_lt2 (by assumption) | exact zw_lt3 (by assumption) | exact zw_lt4 (by assumption) | exact zt_lt (by assumption)) (by decide) rfl (c_X5_clear G fo _ (Or.inl rfl)) (by decide) rfl rfl (Nat.le_of_ble_eq_true rfl) (fun v4 n4 I4 P4 hR4 => ?_)
  obtain ⟨rfl, rfl, rfl, rfl⟩ := hR4
  refine ev_iconst (q := 8) (0 : Int32) dX7_mostCountByLies_7 rfl (by decide) ?_
  refine ev_istore_n (q := 9) dX7_mostCountByLies_8 rfl (by decide) ?_
  exact lp9 (N + 1) 0 _ (by omega) (by omega) (fun c hc => by rw [zu_other hc, zu_other hc]) (by simp [zu, zsum]) (by simp [zu, zor])
set_option maxHeartbeats 4000000 in
set_option maxRecDepth 100000 in
theorem c_X7_fillMisses (G : zq_G) (fo : Bool) (I : zq_I) {N T Y : Nat} (hs : zS fo N T Y I)  : zq_Met G mX7_fillMisses 5 0 0 [.ref 0] 138 I (zPs fo) (fun v n' I' P' => v = none ∧ n' = 138 ∧ P' = zPs fo ∧ (∀ c, c ≠ 108 → I' c = I c) ∧ ∀ j, j < N → I' 108 j = zMs (zV I) N j (I 119 15)) := by
  refine zq_Met.of okX7_fillMisses (Nat.le_of_ble_eq_true rfl) ?_
  have hN8 := hs.n8
  have hN := hs.ppl
  have hfF := zF_is fo
  have lp2 : ∀ (k i : Nat) (I1 : zq_I), N + 1 ≤ i + k → i ≤ N → (∀ c, c ≠ 108 → I1 c = I c) → (∀ j, j < i → I1 108 j = zMs (zV I) N j (I 119 15)) → zq_E G mX7_fillMisses 5 0 0 false 2 [some (.ref 0), some (.int (nI i))] [] 138 I1 (zPs fo) (fun v n' I' P' => v = none ∧ n' = 138 ∧ P' = zPs fo ∧ (∀ c, c ≠ 108 → I' c = I c) ∧ ∀ j, j < N → I' 108 j = zMs (zV I) N j (I 119 15)) := by
    intro k
    induction k with
    | zero => intro i I1 hk hi; exact absurd hk (by omega)
    | succ k ih =>
      intro i I1 hk hi hf h0
      have hN1 : I1 (zF fo) 2 = nI N := by rw [hf _ (zFne0 (by decide))]; exact hN
      have hFC : zFC fo I I1 := z108_FC hf
      have hs1 := hFC.S hs
      have hV := hFC.V
      refine ev_iload_n (q := 3) dX7_fillMisses_2 rfl rfl ?_
      refine ev_aload_n (q := 4) dX7_fillMisses_3 rfl rfl ?_
      refine ev_getR (q := 7) (ci := 7) (f := 9) dX7_fillMisses_4 rfl (by first | rfl | assumption | exact zf_kd (by assumption) | exact zw_kd (by assumption) | exact zt_kd (by assumption)) (by first | decide | exact zf_lt (by assumption) | exact zf_lt1 (by assumption) | exact zf_lt2 (by assumption) | exact zf_lt3 (by assumption) | exact zf_lt4 (by assumption) | exact zw_lt (by assumption) | exact zw_lt1 (by assumption) | exact zw_lt2 (by assumption) | exact zw_lt3 (by assumption) | exact zw_lt4 (by assumption) | exact zt_lt (by assumption)) (by decide) (by decide) lfRX7_66 rfl (by first | rfl | assumption | exact zf_p4 _ (by assumption) | exact zf_p5 _ (by assumption) | exact zf_p6 _ (by assumption) | exact zf_p7 _ (by assumption) | exact zw_p1 _ (by assumption) | exact zw_p2 _ (by assumption) | exact zw_p3 _ (by assumption) | exact zw_p4 _ (by assumption)) ?_
      refine ev_getI (q := 10) (ci := 0) (f := 2) dX7_fillMisses_7 rfl (by first | rfl | assumption | exact zf_kd (by assumption) | exact zw_kd (by assumption) | exact zt_kd (by assumption)) (by first | decide | exact zf_lt (by assumption) | exact zf_lt1 (by assumption) | exact zf_lt2 (by assumption) | exact zf_lt3 (by assumption) | exact zf_lt4 (by assumption) | exact zw_lt (by assumption) | exact zw_lt1 (by assumption) | exact zw_lt2 (by assumption) | exact zw_lt3 (by assumption) | exact zw_lt4 (by assumption) | exact zt_lt (by assumption)) (by decide) (by decide) lfRX7_93 rfl ?_
      refine ev_icmp_ge (q := 13) (t := 37) dX7_fillMisses_10 rfl (by decide) (fun h10 => ?_) (fun h10 => ?_)
      · obtain rfl : i = N := by rw [hN1, nI_leI (by omega) (by omega)] at h10; omega
        exact ev_vret dX7_fillMisses_37 rfl (⟨rfl, rfl, rfl, hf, h0⟩)
      · have hlt_i : i < N := by rw [hN1, nI_leI (by omega) (by omega)] at h10; omega
        refine ev_aload_n (q := 14) dX7_fillMisses_13 rfl rfl ?_
        refine ev_getR (q := 17) (ci := 7) (f := 8) dX7_fillMisses_14 rfl (by first | rfl | assumption | exact zf_kd (by assumption) | exact zw_kd (by assumption) | exact zt_kd (by assumption)) (by first | decide | exact zf_lt (by assumption) | exact zf_lt1 (by assumption) | exact zf_lt2 (by assumption) | exact zf_lt3 (by assumption) | exact zf_lt4 (by assumption) | exact zw_lt (by assumption) | exact zw_lt1 (by assumption) | exact zw_lt2 (by assumption) | exact zw_lt3 (by assumption) | exact zw_lt4 (by assumption) | exact zt_lt (by assumption)) (by decide) (by decide) lfRX7_59 rfl (by first | rfl | assumption | exact zf_p4 _ (by assumption) | exact zf_p5 _ (by assumption) | exact zf_p6 _ (by assumption) | exact zf_p7 _ (by assumption) | exact zw_p1 _ (by assumption) | exact zw_p2 _ (by assumption) | exact zw_p3 _ (by assumption) | exact zw_p4 _ (by assumption)) ?_
        refine ev_iload_n (q := 18) dX7_fillMisses_17 rfl rfl ?_
        refine ev_aload_n (q := 19) dX7_fillMisses_18 rfl rfl ?_
        refine ev_iload_n (q := 20) dX7_fillMisses_19 rfl rfl ?_
        refine ev_aload_n (q := 21) dX7_fillMisses_20 rfl rfl ?_
        refine ev_getR (q := 24) (ci := 7) (f := 5) dX7_fillMisses_21 rfl (by first | rfl | assumption | exact zf_kd (by assumption) | exact zw_kd (by assumption) | exact zt_kd (by assumption)) (by first | decide | exact zf_lt (by assumption) | exact zf_lt1 (by assumption) | exact zf_lt2 (by assumption) | exact zf_lt3 (by assumption) | exact zf_lt4 (by assumption) | exact zw_lt (by assumption) | exact zw_lt1 (by assumption) | exact zw_lt2 (by assumption) | exact zw_lt3 (by assumption) | exact zw_lt4 (by assumption) | exact zt_lt (by assumption)) (by decide) (by decide) lfRX7_47 rfl (by first | rfl | assumption | exact zf_p4 _ (by assumption) | exact zf_p5 _ (by assumption) | exact zf_p6 _ (by assumption) | exact zf_p7 _ (by assumption) | exact zw_p1 _ (by assumption) | exact zw_p2 _ (by assumption) | exact zw_p3 _ (by assumption) | exact zw_p4 _ (by assumption)) ?_
        refine ev_getI (q := 27) (ci := 6) (f := 0) dX7_fillMisses_24 rfl (by first | rfl | assumption | exact zf_kd (by assumption) | exact zw_kd (by assumption) | exact zt_kd (by assumption)) (by first | decide | exact zf_lt (by assumption) | exact zf_lt1 (by assumption) | exact zf_lt2 (by assumption) | exact zf_lt3 (by assumption) | exact zf_lt4 (by assumption) | exact zw_lt (by assumption) | exact zw_lt1 (by assumption) | exact zw_lt2 (by assumption) | exact zw_lt3 (by assumption) | exact zw_lt4 (by assumption) | exact zt_lt (by assumption)) (by decide) (by decide) lfRX7_103 rfl ?_
        refine ev_pV (q := 30) (ci := 7) dX7_fillMisses_27 rfl okX7_missedBy lmRX7_145 imX7_missedBy seX7_missedBy (by first | rfl | assumption | exact zf_kd (by assumption) | exact zw_kd (by assumption) | exact zt_kd (by assumption)) (by first | decide | exact zf_lt (by assumption) | exact zf_lt1 (by assumption) | exact zf_lt2 (by assumption) | exact zf_lt3 (by assumption) | exact zf_lt4 (by assumption) | exact zw_lt (by assumption) | exact zw_lt1 (by assumption) | exact zw_lt2 (by assumption) | exact zw_lt3 (by assumption) | exact zw_lt4 (by assumption) | exact zt_lt (by assumption)) (by decide) rfl (c_X7_missedBy G fo I1 hs1 hlt_i _) (by decide) rfl rfl (Nat.le_of_ble_eq_true rfl) ?_
        rw [hV, hf 91 (by decide), hs.yea]
        refine ev_iastN (q := 31) dX7_fillMisses_30 rfl (by first | rfl | assumption | exact zf_kd1 (by assumption) | exact zf_kd2 (by assumption) | exact zf_kd3 (by assumption) | exact zf_kd4 (by assumption) | exact zw_kd1 (by assumption) | exact zw_kd2 (by assumption) | exact zw_kd3 (by assumption) | exact zw_kd4 (by assumption)) (by first | decide | exact zf_lt (by assumption) | exact zf_lt1 (by assumption) | exact zf_lt2 (by assumption) | exact zf_lt3 (by assumption) | exact zf_lt4 (by assumption) | exact zw_lt (by assumption) | exact zw_lt1 (by assumption) | exact zw_lt2 (by assumption) | exact zw_lt3 (by assumption) | exact zw_lt4 (by assumption) | exact zt_lt (by assumption)) (by first | omega | assumption) ?_
        refine ev_iinc (q := 34) (1 : Int32) dX7_fillMisses_31 rfl rfl (by decide) (by decide) ?_
        refine ev_goto (t := 2) dX7_fillMisses_34 (by decide) ?_
        rw [nI_1]
        exact ih (i + 1) _ (by omega) (by omega) (fun c hc => by rw [zu_other hc]; exact hf c hc) (fun j hj => by
          by_cases hji : j = i
          · subst hji; simp [zu]
          · simp [zu, hji]; exact h0 j (by omega))
  refine ev_iconst (q := 1) (0 : Int32) dX7_fillMisses_0 rfl (by decide) ?_
  refine ev_istore_n (q := 2) dX7_fillMisses_1 rfl (by decide) ?_
  exact lp2 (N + 1) 0 _ (by omega) (by omega) (fun _ _ => rfl) (fun j hj => absurd hj (by omega))
def zCO (l : Int32) (V : zq_V) (N : Nat) (t y : Int32) : Int32 := zCnt l V N (fun i => zMs V N i y) (fun i => vH V i == t)
set_option maxHeartbeats 4000000 in
set_option maxRecDepth 100000 in
theorem c_X7_countOf (G : zq_G) (fo : Bool) (I : zq_I) {N T Y : Nat} (hs : zS fo N T Y I) {t : Nat} (ht : t < 4) : zq_Met G mX7_countOf 6 0 0 [.ref 0, .int (nI t)] 138 I (zPs fo) (zq_fr (some (.int (zCO (I 119 4) (zV I) N (nI t) (I 119 15) + I 128 t))) fo I) := by
  refine zq_Met.of okX7_countOf (Nat.le_of_ble_eq_true rfl) ?_
  have hN8 := hs.n8
  have hN := hs.ppl
  have hfF := zF_is fo
  refine ev_aload_n (q := 1) dX7_countOf_0 rfl rfl ?_
  refine ev_getR (q := 4) (ci := 7) (f := 9) dX7_countOf_1 rfl (by first | rfl | assumption | exact zf_kd (by assumption) | exact zw_kd (by assumption) | exact zt_kd (by assumption)) (by first | decide | exact zf_lt (by assumption) | exact zf_lt1 (by assumption) | exact zf_lt2 (by assumption) | exact zf_lt3 (by assumption) | exact zf_lt4 (by assumption) | exact zw_lt (by assumption) | exact zw_lt1 (by assumption) | exact zw_lt2 (by assumption) | exact zw_lt3 (by assumption) | exact zw_lt4 (by assumption) | exact zt_lt (by assumption)) (by decide) (by decide) lfRX7_66 rfl (by first | rfl | assumption | exact zf_p4 _ (by assumption) | exact zf_p5 _ (by assumption) | exact zf_p6 _ (by assumption) | exact zf_p7 _ (by assumption) | exact zw_p1 _ (by assumption) | exact zw_p2 _ (by assumption) | exact zw_p3 _ (by assumption) | exact zw_p4 _ (by assumption)) ?_
  refine ev_iload_n (q := 5) dX7_countOf_4 rfl rfl ?_
  refine ev_pV (q := 8) (ci := 0) dX7_countOf_5 rfl okX0_ofHome lmRX7_161 imX0_ofHome seX0_ofHome (by first | rfl | assumption | exact zf_kd (by assumption) | exact zw_kd (by assumption) | exact zt_kd (by assumption)) (by first | decide | exact zf_lt (by assumption) | exact zf_lt1 (by assumption) | exact zf_lt2 (by assumption) | exact zf_lt3 (by assumption) | exact zf_lt4 (by assumption) | exact zw_lt (by assumption) | exact zw_lt1 (by assumption) | exact zw_lt2 (by assumption) | exact zw_lt3 (by assumption) | exact zw_lt4 (by assumption) | exact zt_lt (by assumption)) (by decide) rfl (c_X0_ofHome G fo I (zV I) hfF hN8 hN (fun p hp => hs.hom hp) _) (by decide) rfl rfl (Nat.le_of_ble_eq_true rfl) ?_
  refine ev_istore_n (q := 9) dX7_countOf_8 rfl (by decide) ?_
  refine ev_aload_n (q := 10) dX7_countOf_9 rfl rfl ?_
  refine ev_cV (q := 13) (ci := 7) dX7_countOf_10 rfl okX7_fillMisses lmRX7_262 imX7_fillMisses seX7_fillMisses (by first | rfl | assumption | exact zf_kd (by assumption) | exact zw_kd (by assumption) | exact zt_kd (by assumption)) (by first | decide | exact zf_lt (by assumption) | exact zf_lt1 (by assumption) | exact zf_lt2 (by assumption) | exact zf_lt3 (by assumption) | exact zf_lt4 (by assumption) | exact zw_lt (by assumption) | exact zw_lt1 (by assumption) | exact zw_lt2 (by assumption) | exact zw_lt3 (by assumption) | exact zw_lt4 (by assumption) | exact zt_lt (by assumption)) (by decide) rfl (c_X7_fillMisses G fo I hs) (by decide) rfl rfl (Nat.le_of_ble_eq_true rfl) (fun v10 n10 I10 P10 hR10 => ?_)
  obtain ⟨rfl, rfl, rfl, hf, h0⟩ := hR10
  have hFC : zFC fo I I10 := z108_FC hf
  have hs1 := hFC.S hs
  have hV := hFC.V
  refine ev_aload_n (q := 14) dX7_countOf_13 rfl rfl ?_
  refine ev_iload_n (q := 15) dX7_countOf_14 rfl rfl ?_
  refine ev_cV (q := 18) (ci := 7) dX7_countOf_15 rfl okX7_countMissedBy lmRX7_265 imX7_countMissedBy seX7_countMissedBy (by first | rfl | assumption | exact zf_kd (by assumption) | exact zw_kd (by assumption) | exact zt_kd (by assumption)) (by first | decide | exact zf_lt (by assumption) | exact zf_lt1 (by assumption) | exact zf_lt2 (by assumption) | exact zf_lt3 (by assumption) | exact zf_lt4 (by assumption) | exact zw_lt (by assumption) | exact zw_lt1 (by assumption) | exact zw_lt2 (by assumption) | exact zw_lt3 (by assumption) | exact zw_lt4 (by assumption) | exact zt_lt (by assumption)) (by decide) rfl (c_X7_countMissedBy G fo I10 hs1 _) (by decide) rfl rfl (Nat.le_of_ble_eq_true rfl) (fun v15 n15 I15 P15 hR15 => ?_)
  obtain ⟨rfl, rfl, rfl, hf2⟩ := hR15
  refine ev_aload_n (q := 19) dX7_countOf_18 rfl rfl ?_
  refine ev_getR (q := 22) (ci := 7) (f := 5) dX7_countOf_19 rfl (by first | rfl | assumption | exact zf_kd (by assumption) | exact zw_kd (by assumption) | exact zt_kd (by assumption)) (by first | decide | exact zf_lt (by assumption) | exact zf_lt1 (by assumption) | exact zf_lt2 (by assumption) | exact zf_lt3 (by assumption) | exact zf_lt4 (by assumption) | exact zw_lt (by assumption) | exact zw_lt1 (by assumption) | exact zw_lt2 (by assumption) | exact zw_lt3 (by assumption) | exact zw_lt4 (by assumption) | exact zt_lt (by assumption)) (by decide) (by decide) lfRX7_47 rfl (by first | rfl | assumption | exact zf_p4 _ (by assumption) | exact zf_p5 _ (by assumption) | exact zf_p6 _ (by assumption) | exact zf_p7 _ (by assumption) | exact zw_p1 _ (by assumption) | exact zw_p2 _ (by assumption) | exact zw_p3 _ (by assumption) | exact zw_p4 _ (by assumption)) ?_
  refine ev_getR (q := 25) (ci := 6) (f := 4) dX7_countOf_22 rfl (by first | rfl | assumption | exact zf_kd (by assumption) | exact zw_kd (by assumption) | exact zt_kd (by assumption)) (by first | decide | exact zf_lt (by assumption) | exact zf_lt1 (by assumption) | exact zf_lt2 (by assumption) | exact zf_lt3 (by assumption) | exact zf_lt4 (by assumption) | exact zw_lt (by assumption) | exact zw_lt1 (by assumption) | exact zw_lt2 (by assumption) | exact zw_lt3 (by assumption) | exact zw_lt4 (by assumption) | exact zt_lt (by assumption)) (by decide) (by decide) lfRX7_158 rfl (by first | rfl | assumption | exact zf_p4 _ (by assumption) | exact zf_p5 _ (by assumption) | exact zf_p6 _ (by assumption) | exact zf_p7 _ (by assumption) | exact zw_p1 _ (by assumption) | exact zw_p2 _ (by assumption) | exact zw_p3 _ (by assumption) | exact zw_p4 _ (by assumption)) ?_
  refine ev_iload_n (q := 26) dX7_countOf_25 rfl rfl ?_
  refine ev_ialdN (q := 27) dX7_countOf_26 rfl (by first | rfl | assumption | exact zf_kd1 (by assumption) | exact zf_kd2 (by assumption) | exact zf_kd3 (by assumption) | exact zf_kd4 (by assumption) | exact zw_kd1 (by assumption) | exact zw_kd2 (by assumption) | exact zw_kd3 (by assumption) | exact zw_kd4 (by assumption)) (by first | decide | exact zf_lt (by assumption) | exact zf_lt1 (by assumption) | exact zf_lt2 (by assumption) | exact zf_lt3 (by assumption) | exact zf_lt4 (by assumption) | exact zw_lt (by assumption) | exact zw_lt1 (by assumption) | exact zw_lt2 (by assumption) | exact zw_lt3 (by assumption) | exact zw_lt4 (by assumption) | exact zt_lt (by assumption)) (by first | omega | assumption) ?_
  rw [hf2 95 (by decide), hf 95 (by decide), hs.rum ht]
  refine ev_iadd (q := 28) dX7_countOf_27 rfl ?_
  exact ev_iret dX7_countOf_28 rfl (by first | rfl | exact zb_nar _ | assumption) (⟨by rw [hV, hf 119 (by decide), zCnt_congr (fun i hi => zhas_OH hN8 hi) (fun i hi _ => h0 i hi)]; rfl, rfl, rfl, hFC.tr (z4_FC hf2)⟩)
end
